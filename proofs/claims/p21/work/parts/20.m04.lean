section
def q_ChipMapModel_readAll_38  : Nat → Mm → Rs
  | 0, _ => none
  | n' + 1, M => if (M.1 0 2) ≤ (M.1 0 3) then (cal (q_ChipMapModel_fieldsRight M) fun M1 r2 => if r2 = 0 then (some (M1, 0)) else (cal (q_ChipMapModel_registersRight M1) fun M3 r4 => if r4 = 0 then (some (M3, 0)) else (cal (q_ChipMapModel_rulesRight M3) fun M5 r6 => if r6 = 0 then (some (M5, 0)) else (some (M5, 1))))) else (cal (q_ChipMapModel_readRule M) fun M1 r2 => if r2 = 0 then (some (M1, 0)) else (q_ChipMapModel_readAll_38 n' M1))
def q_ChipMapModel_readAll_20  : Nat → Mm → Rs
  | 0, _ => none
  | n' + 1, M => cal (q_ChipMapModel_readRegister M) fun M1 r2 => if r2 = 0 then (some (M1, 0)) else (cal (q_ChipMapModel_here M1) fun M3 r4 => if r4 = 64 then (q_ChipMapModel_readAll_20 n' M3) else (q_ChipMapModel_readAll_38 4000 M3))
def q_ChipMapModel_readAll  (M : Mm)  : Rs := lt' (stI M 0 (upd (M.1 0) 3 0)) fun M1 => lt' (stI M1 0 (upd (M1.1 0) 6 0)) fun M2 => lt' (stI M2 0 (upd (M2.1 0) 12 0)) fun M3 => lt' (stI M3 0 (upd (M3.1 0) 20 0)) fun M4 => q_ChipMapModel_readAll_20 4000 M4
set_option maxHeartbeats 4000000 in
set_option maxRecDepth 20000 in
theorem b_ChipMapModel_readAll_38 {p : Program} {l : Launch} {e : Env} {s s0 : State} {m : MethodId} {args : Array Value} {below : List Frame} {meth : Method} {c : Code} {D : va_G} {cI cZ cC cJ cA : ClassId} {P : Nat → Nat} {M' : Mm} {r' : Int32}  (hx : p.tables.exec = Jvm.exec) (hb : c.code = cX1_readAll) (hml : c.maxLocals = 1) (hr : meth.sig.returnType = (some .boolean)) (hlk : meth.locks = false) (hgt : ∀ w ∈ GT, w.before args s = true) (hown : s.vm.findClass RX1 = some m.cls) (hK : va_K D vwCl [(cI, .int), (cZ, .boolean), (cC, .char), (cJ, .long), (cA, .array .int)] s) (hO : Old s0 s) (hAO : ∀ q, (aP P 51) q → s0.heap.size ≤ q)  : ∀ (n' : Nat) (M : Mm)  (H : Heap) (locs : List Loc) (ls : Array Slot), lv_has ls 1 [(0, .ref (P 0))] → va_P D vwCl ((wY cI cZ cC cJ cA P) M) H → va_D (aP P 51) ((wY cI cZ cC cJ cA P) M) → va_S (aP P 51) s.heap H locs → q_ChipMapModel_readAll_38 n' M = some (M', r') → W p l e ({ frames := 4, cells := 0, slots := 0, locals := 89 }) s m args below meth c H locs 0 0 (MQ below (gQi D (aP P 51) ((wY cI cZ cC cJ cA P) M') r') args s 0 0 (aP P 51)) (F0 m 38 ls []) := by
  intro n'
  induction n' with
  | zero => exact fun _ _ _ _ _ _ _ _ h => (rs_n h).elim
  | succ n' ih =>
    intro M H locs ls hl hP hD hS h
    rw [q_ChipMapModel_readAll_38] at h
    refine lv_aload_n hx hb dX1_readAll_38 rfl (lv_at hl 0 rfl) ?_
    refine va_get (D := D) (ci := 1) (v := .int (M.1 0 3)) (C := RX1) (T := TX1) (N := 76) hx hb hgt iwX1 hown hK hP 0 gY_0 rfl 3 (Nat.le_of_ble_eq_true rfl) (hgt _ wd_4_204) (fun _ h9 => h9) rfl dX1_readAll_39 ?_
    refine lv_aload_n hx hb dX1_readAll_42 rfl (lv_at hl 0 rfl) ?_
    refine va_get (D := D) (ci := 1) (v := .int (M.1 0 2)) (C := RX1) (T := TX1) (N := 76) hx hb hgt iwX1 hown hK hP 0 gY_0 rfl 2 (Nat.le_of_ble_eq_true rfl) (hgt _ wd_4_203) (fun _ h9 => h9) rfl dX1_readAll_43 ?_
    refine lv_icmp_ge hx hb dX1_readAll_46 (tgt := 58) rfl (fun hc => ?_) (fun hc => ?_)
    · have h := br_T hc h
      refine lv_aload_n hx hb dX1_readAll_58 rfl (lv_at hl 0 rfl) ?_
      obtain ⟨M1, r2, hq, h⟩ := cal_o h
      refine cx_i (va_runV (As := []) (rest := []) ⟨hx, hb, hml, hown, hgt⟩ (z_ChipMapModel_fieldsRight l D cI cZ cC cJ cA P s0 hAO M M1 r2 hq) (cwV 0 hgt (gV wd_6_9 wd_6_11 sl__ChipMapModel____ChipMapModel___fieldsRight_____Z_____ChipMapModel___fieldsRight_____Z__ wd_0_15 wd_6_12) rfl rfl rfl (by decide +kernel) ⟨Nat.le_of_ble_eq_true rfl, Nat.le_of_ble_eq_true rfl⟩) (prV hP hK hD hO hAO hS (va_recv hK hP (ci := 1) (q0 := 0) rfl gY_0)) rfl rfl hl.1 rfl (lv_room (Nat.le_of_ble_eq_true rfl)) dX1_readAll_59 ⟨Nat.le_of_ble_eq_true rfl, Nat.le_of_ble_eq_true rfl⟩) hS (fun H locs hP hD hS => ?_)
      refine lv_if_eq hx hb dX1_readAll_62 (tgt := 83) rfl (fun hc => ?_) (fun hc => ?_)
      · have h := br_T hc h
        refine lv_iconst (v := 0) hx hb dX1_readAll_83 (by decide) ?_
        exact rt_z (w := (wY cI cZ cC cJ cA P)) hx hb hr hlk rfl hP hD hS h dX1_readAll_84
      · have h := br_F hc h
        refine lv_aload_n hx hb dX1_readAll_65 rfl (lv_at hl 0 rfl) ?_
        obtain ⟨M3, r4, hq, h⟩ := cal_o h
        refine cx_i (va_runV (As := []) (rest := []) ⟨hx, hb, hml, hown, hgt⟩ (z_ChipMapModel_registersRight l D cI cZ cC cJ cA P s0 hAO M1 M3 r4 hq) (cwV 0 hgt (gV wd_6_21 wd_6_23 sl__ChipMapModel____ChipMapModel___registersRight_____Z_____ChipMapModel___registersRight_____Z__ wd_0_15 wd_6_24) rfl rfl rfl (by decide +kernel) ⟨Nat.le_of_ble_eq_true rfl, Nat.le_of_ble_eq_true rfl⟩) (prV hP hK hD hO hAO hS (va_recv hK hP (ci := 1) (q0 := 0) rfl gY_0)) rfl rfl hl.1 rfl (lv_room (Nat.le_of_ble_eq_true rfl)) dX1_readAll_66 ⟨Nat.le_of_ble_eq_true rfl, Nat.le_of_ble_eq_true rfl⟩) hS (fun H locs hP hD hS => ?_)
        refine lv_if_eq hx hb dX1_readAll_69 (tgt := 83) rfl (fun hc => ?_) (fun hc => ?_)
        · have h := br_T hc h
          refine lv_iconst (v := 0) hx hb dX1_readAll_83 (by decide) ?_
          exact rt_z (w := (wY cI cZ cC cJ cA P)) hx hb hr hlk rfl hP hD hS h dX1_readAll_84
        · have h := br_F hc h
          refine lv_aload_n hx hb dX1_readAll_72 rfl (lv_at hl 0 rfl) ?_
          obtain ⟨M5, r6, hq, h⟩ := cal_o h
          refine cx_i (va_runV (As := []) (rest := []) ⟨hx, hb, hml, hown, hgt⟩ (z_ChipMapModel_rulesRight l D cI cZ cC cJ cA P s0 hAO M3 M5 r6 hq) (cwV 0 hgt (gV wd_6_25 wd_6_27 sl__ChipMapModel____ChipMapModel___rulesRight_____Z_____ChipMapModel___rulesRight_____Z__ wd_0_15 wd_6_28) rfl rfl rfl (by decide +kernel) ⟨Nat.le_of_ble_eq_true rfl, Nat.le_of_ble_eq_true rfl⟩) (prV hP hK hD hO hAO hS (va_recv hK hP (ci := 1) (q0 := 0) rfl gY_0)) rfl rfl hl.1 rfl (lv_room (Nat.le_of_ble_eq_true rfl)) dX1_readAll_73 ⟨Nat.le_of_ble_eq_true rfl, Nat.le_of_ble_eq_true rfl⟩) hS (fun H locs hP hD hS => ?_)
          refine lv_if_eq hx hb dX1_readAll_76 (tgt := 83) rfl (fun hc => ?_) (fun hc => ?_)
          · have h := br_T hc h
            refine lv_iconst (v := 0) hx hb dX1_readAll_83 (by decide) ?_
            exact rt_z (w := (wY cI cZ cC cJ cA P)) hx hb hr hlk rfl hP hD hS h dX1_readAll_84
          · have h := br_F hc h
            refine lv_iconst (v := 1) hx hb dX1_readAll_79 (by decide) ?_
            refine lv_goto hx hb dX1_readAll_80 (tgt := 84) rfl ?_
            exact rt_z (w := (wY cI cZ cC cJ cA P)) hx hb hr hlk rfl hP hD hS h dX1_readAll_84
    · have h := br_F hc h
      refine lv_aload_n hx hb dX1_readAll_49 rfl (lv_at hl 0 rfl) ?_
      obtain ⟨M1, r2, hq, h⟩ := cal_o h
      refine cx_i (va_runV (As := []) (rest := []) ⟨hx, hb, hml, hown, hgt⟩ (z_ChipMapModel_readRule l D cI cZ cC cJ cA P s0 hAO M M1 r2 hq) (cwV 0 hgt (gV wd_6_5 wd_6_7 sl__ChipMapModel____ChipMapModel___readRule_____Z_____ChipMapModel___readRule_____Z__ wd_0_15 wd_6_8) rfl rfl rfl (by decide +kernel) ⟨Nat.le_of_ble_eq_true rfl, Nat.le_of_ble_eq_true rfl⟩) (prV hP hK hD hO hAO hS (va_recv hK hP (ci := 1) (q0 := 0) rfl gY_0)) rfl rfl hl.1 rfl (lv_room (Nat.le_of_ble_eq_true rfl)) dX1_readAll_50 ⟨Nat.le_of_ble_eq_true rfl, Nat.le_of_ble_eq_true rfl⟩) hS (fun H locs hP hD hS => ?_)
      refine lv_if_ne hx hb dX1_readAll_53 (tgt := 38) rfl (fun hc => ?_) (fun hc => ?_)
      · have h := br_F hc h
        have hl := lv_sub hl [0] (l' := [(0, .ref (P 0))]) rfl
        exact ih M1 H locs ls hl hP hD hS h
      · have h := br_T hc h
        refine lv_iconst (v := 0) hx hb dX1_readAll_56 (by decide) ?_
        exact rt_z (w := (wY cI cZ cC cJ cA P)) hx hb hr hlk rfl hP hD hS h dX1_readAll_57
set_option maxHeartbeats 4000000 in
set_option maxRecDepth 20000 in
theorem b_ChipMapModel_readAll_20 {p : Program} {l : Launch} {e : Env} {s s0 : State} {m : MethodId} {args : Array Value} {below : List Frame} {meth : Method} {c : Code} {D : va_G} {cI cZ cC cJ cA : ClassId} {P : Nat → Nat} {M' : Mm} {r' : Int32}  (hx : p.tables.exec = Jvm.exec) (hb : c.code = cX1_readAll) (hml : c.maxLocals = 1) (hr : meth.sig.returnType = (some .boolean)) (hlk : meth.locks = false) (hgt : ∀ w ∈ GT, w.before args s = true) (hown : s.vm.findClass RX1 = some m.cls) (hK : va_K D vwCl [(cI, .int), (cZ, .boolean), (cC, .char), (cJ, .long), (cA, .array .int)] s) (hO : Old s0 s) (hAO : ∀ q, (aP P 51) q → s0.heap.size ≤ q)  : ∀ (n' : Nat) (M : Mm)  (H : Heap) (locs : List Loc) (ls : Array Slot), lv_has ls 1 [(0, .ref (P 0))] → va_P D vwCl ((wY cI cZ cC cJ cA P) M) H → va_D (aP P 51) ((wY cI cZ cC cJ cA P) M) → va_S (aP P 51) s.heap H locs → q_ChipMapModel_readAll_20 n' M = some (M', r') → W p l e ({ frames := 4, cells := 0, slots := 0, locals := 89 }) s m args below meth c H locs 0 0 (MQ below (gQi D (aP P 51) ((wY cI cZ cC cJ cA P) M') r') args s 0 0 (aP P 51)) (F0 m 20 ls []) := by
  intro n'
  induction n' with
  | zero => exact fun _ _ _ _ _ _ _ _ h => (rs_n h).elim
  | succ n' ih =>
    intro M H locs ls hl hP hD hS h
    rw [q_ChipMapModel_readAll_20] at h
    refine lv_aload_n hx hb dX1_readAll_20 rfl (lv_at hl 0 rfl) ?_
    obtain ⟨M1, r2, hq, h⟩ := cal_o h
    refine cx_i (va_runV (As := []) (rest := []) ⟨hx, hb, hml, hown, hgt⟩ (z_ChipMapModel_readRegister l D cI cZ cC cJ cA P s0 hAO M M1 r2 hq) (cwV 0 hgt (gV wd_5_204 wd_5_206 sl__ChipMapModel____ChipMapModel___readRegister_____Z_____ChipMapModel___readRegister_____Z__ wd_0_15 wd_5_207) rfl rfl rfl (by decide +kernel) ⟨Nat.le_of_ble_eq_true rfl, Nat.le_of_ble_eq_true rfl⟩) (prV hP hK hD hO hAO hS (va_recv hK hP (ci := 1) (q0 := 0) rfl gY_0)) rfl rfl hl.1 rfl (lv_room (Nat.le_of_ble_eq_true rfl)) dX1_readAll_21 ⟨Nat.le_of_ble_eq_true rfl, Nat.le_of_ble_eq_true rfl⟩) hS (fun H locs hP hD hS => ?_)
    refine lv_if_ne hx hb dX1_readAll_24 (tgt := 29) rfl (fun hc => ?_) (fun hc => ?_)
    · have h := br_F hc h
      refine lv_aload_n hx hb dX1_readAll_29 rfl (lv_at hl 0 rfl) ?_
      obtain ⟨M3, r4, hq, h⟩ := cal_o h
      refine cx_i (va_runV (As := []) (rest := []) ⟨hx, hb, hml, hown, hgt⟩ (z_ChipMapModel_here l D cI cZ cC cJ cA P s0 hAO M1 M3 r4 hq) (cwV 0 hgt (gV wd_5_216 wd_5_218 sl__ChipMapModel____ChipMapModel___here_____I_____ChipMapModel___here_____I__ wd_0_15 wd_5_219) rfl rfl rfl (by decide +kernel) ⟨Nat.le_of_ble_eq_true rfl, Nat.le_of_ble_eq_true rfl⟩) (prV hP hK hD hO hAO hS (va_recv hK hP (ci := 1) (q0 := 0) rfl gY_0)) rfl rfl hl.1 rfl (lv_room (Nat.le_of_ble_eq_true rfl)) dX1_readAll_30 ⟨Nat.le_of_ble_eq_true rfl, Nat.le_of_ble_eq_true rfl⟩) hS (fun H locs hP hD hS => ?_)
      refine lv_bipush (v := 64) hx hb dX1_readAll_33 (by decide) ?_
      refine lv_icmp_eq hx hb dX1_readAll_35 (tgt := 20) rfl (fun hc => ?_) (fun hc => ?_)
      · have h := br_T hc h
        have hl := lv_sub hl [0] (l' := [(0, .ref (P 0))]) rfl
        exact ih M3 H locs ls hl hP hD hS h
      · have h := br_F hc h
        have hl := lv_sub hl [0] (l' := [(0, .ref (P 0))]) rfl
        exact b_ChipMapModel_readAll_38 hx hb hml hr hlk hgt hown hK hO hAO 4000 M3 H _ ls hl hP hD hS h
    · have h := br_T hc h
      refine lv_iconst (v := 0) hx hb dX1_readAll_27 (by decide) ?_
      exact rt_z (w := (wY cI cZ cC cJ cA P)) hx hb hr hlk rfl hP hD hS h dX1_readAll_28
set_option maxHeartbeats 4000000 in
set_option maxRecDepth 20000 in
theorem b_ChipMapModel_readAll_0 {p : Program} {l : Launch} {e : Env} {s s0 : State} {m : MethodId} {args : Array Value} {below : List Frame} {meth : Method} {c : Code} {D : va_G} {cI cZ cC cJ cA : ClassId} {P : Nat → Nat} {M' : Mm} {r' : Int32}  (hx : p.tables.exec = Jvm.exec) (hb : c.code = cX1_readAll) (hml : c.maxLocals = 1) (hr : meth.sig.returnType = (some .boolean)) (hlk : meth.locks = false) (hgt : ∀ w ∈ GT, w.before args s = true) (hown : s.vm.findClass RX1 = some m.cls) (hK : va_K D vwCl [(cI, .int), (cZ, .boolean), (cC, .char), (cJ, .long), (cA, .array .int)] s) (hO : Old s0 s) (hAO : ∀ q, (aP P 51) q → s0.heap.size ≤ q)  : ∀ (M : Mm)  (H : Heap) (locs : List Loc) (ls : Array Slot), lv_has ls 1 [(0, .ref (P 0))] → va_P D vwCl ((wY cI cZ cC cJ cA P) M) H → va_D (aP P 51) ((wY cI cZ cC cJ cA P) M) → va_S (aP P 51) s.heap H locs → q_ChipMapModel_readAll M = some (M', r') → W p l e ({ frames := 4, cells := 0, slots := 0, locals := 89 }) s m args below meth c H locs 0 0 (MQ below (gQi D (aP P 51) ((wY cI cZ cC cJ cA P) M') r') args s 0 0 (aP P 51)) (F0 m 0 ls []) := by
  intro M H locs ls hl hP hD hS h
  unfold q_ChipMapModel_readAll at h
  refine lv_aload_n hx hb dX1_readAll_0 rfl (lv_at hl 0 rfl) ?_
  refine lv_iconst (v := 0) hx hb dX1_readAll_1 (by decide) ?_
  refine pm_put (w := (wY cI cZ cC cJ cA P)) (D := D) (ci := 1) (x := 0) (ty := .int) (C := RX1) (T := TX1) (N := 76) hx hb hgt iwX1 tyX1 tyX1_ok nmX1 hown hK hP hD hS 0 gY_0 rfl 3 (Nat.le_of_ble_eq_true rfl) (hgt _ wd_4_204) (fun _ h9 => h9) rfl (by decide +kernel) rfl rfl (Nat.le_of_ble_eq_true rfl) (sY_0_3 _) dX1_readAll_2 (fun M1 eM1 H locs hP hD hS => ?_)
  have h := lt_o eM1 h
  refine lv_aload_n hx hb dX1_readAll_5 rfl (lv_at hl 0 rfl) ?_
  refine lv_iconst (v := 0) hx hb dX1_readAll_6 (by decide) ?_
  refine pm_put (w := (wY cI cZ cC cJ cA P)) (D := D) (ci := 1) (x := 0) (ty := .int) (C := RX1) (T := TX1) (N := 76) hx hb hgt iwX1 tyX1 tyX1_ok nmX1 hown hK hP hD hS 0 gY_0 rfl 6 (Nat.le_of_ble_eq_true rfl) (hgt _ wd_4_207) (fun _ h9 => h9) rfl (by decide +kernel) rfl rfl (Nat.le_of_ble_eq_true rfl) (sY_0_6 _) dX1_readAll_7 (fun M2 eM2 H locs hP hD hS => ?_)
  have h := lt_o eM2 h
  refine lv_aload_n hx hb dX1_readAll_10 rfl (lv_at hl 0 rfl) ?_
  refine lv_iconst (v := 0) hx hb dX1_readAll_11 (by decide) ?_
  refine pm_put (w := (wY cI cZ cC cJ cA P)) (D := D) (ci := 1) (x := 0) (ty := .int) (C := RX1) (T := TX1) (N := 76) hx hb hgt iwX1 tyX1 tyX1_ok nmX1 hown hK hP hD hS 0 gY_0 rfl 12 (Nat.le_of_ble_eq_true rfl) (hgt _ wd_4_213) (fun _ h9 => h9) rfl (by decide +kernel) rfl rfl (Nat.le_of_ble_eq_true rfl) (sY_0_12 _) dX1_readAll_12 (fun M3 eM3 H locs hP hD hS => ?_)
  have h := lt_o eM3 h
  refine lv_aload_n hx hb dX1_readAll_15 rfl (lv_at hl 0 rfl) ?_
  refine lv_iconst (v := 0) hx hb dX1_readAll_16 (by decide) ?_
  refine pm_put (w := (wY cI cZ cC cJ cA P)) (D := D) (ci := 1) (x := 0) (ty := .int) (C := RX1) (T := TX1) (N := 76) hx hb hgt iwX1 tyX1 tyX1_ok nmX1 hown hK hP hD hS 0 gY_0 rfl 20 (Nat.le_of_ble_eq_true rfl) (hgt _ wd_4_221) (fun _ h9 => h9) rfl (by decide +kernel) rfl rfl (Nat.le_of_ble_eq_true rfl) (sY_0_20 _) dX1_readAll_17 (fun M4 eM4 H locs hP hD hS => ?_)
  have h := lt_o eM4 h
  have hl := lv_sub hl [0] (l' := [(0, .ref (P 0))]) rfl
  exact b_ChipMapModel_readAll_20 hx hb hml hr hlk hgt hown hK hO hAO 4000 M4 H _ ls hl hP hD hS h
set_option maxHeartbeats 4000000 in
set_option maxRecDepth 20000 in
theorem z_ChipMapModel_readAll (l : Launch) (D : va_G) (cI cZ cC cJ cA : ClassId) (P : Nat → Nat) (s0 : State) (hAO : ∀ q, (aP P 51) q → s0.heap.size ≤ q) (M : Mm)  (M' : Mm) (r' : Int32) (h : q_ChipMapModel_readAll M = some (M', r')) : Met l yX1_readAll wsX1_readAll ({ frames := 4, cells := 0, slots := 0, locals := 89 }) (va_Pc [.ref (P 0)] (gPre s0 D [(cI, .int), (cZ, .boolean), (cC, .char), (cJ, .long), (cA, .array .int)] (aP P 51) ((wY cI cZ cC cJ cA P) M))) (gQi D (aP P 51) ((wY cI cZ cC cJ cA P) M') r') 0 0 (aP P 51) := by
  refine Met.ofW (cc := cX1_readAll) (maxL := 1) (ret := (some .boolean)) (by decide) rfl ?_
  intro p e s m args below meth c s₁ B hml hv
  obtain ⟨rfl, hP, hK, hD, hO⟩ := hv
  have hx := B.exec
  have hb := B.bytes
  have hr := B.returns
  have hlk := B.notSynchronized
  have hgt := fun w (h : w ∈ GT) => atoms_spec (ws := wsX1_readAll) B.pre w (List.mem_cons_of_mem _ h)
  have hown : s.vm.findClass RX1 = some m.cls := findClass_of_methodNamed B.named
  have hS : va_S (aP P 51) s.heap s.heap [] := va_S.rf
  have hl := lv_entry ([.ref (P 0)]) (n := 1) (Nat.le_of_ble_eq_true rfl)
  rw [lg_entry_eq]
  generalize (lg_sl ([.ref (P 0)]) ++ List.replicate (1 - (lg_sl ([.ref (P 0)])).length) Slot.unset).toArray = ls at hl ⊢
  have hl : lv_has ls 1 [(0, .ref (P 0))] := hl
  exact b_ChipMapModel_readAll_0 hx hb hml hr hlk hgt hown hK hO hAO M s.heap [] ls hl hP hD hS h
def q_ChipMapModel_resetDevice_55  : Nat → Mm → Int32 → Rs
  | 0, _, _ => none
  | n' + 1, M, v1 => if 12 ≤ v1 then (some (M, 0)) else (ix v1 36 <| lt' (stI M 36 (upd (M.1 36) (v1 : Int32).toNatClampNeg (vp_nar .boolean 0))) fun M1 => q_ChipMapModel_resetDevice_55 n' M1 (v1 + 1))
def q_ChipMapModel_resetDevice_32 (kf2 : Mm → Int32 → Rs) (M : Mm) (v1 : Int32) (t0 : Int32) (t1 : Int32) : Rs := ix t1 78 <| lt' (stI M 33 (upd (M.1 33) (t1 : Int32).toNatClampNeg t0)) fun M1 => ix v1 78 <| lt' (stI M1 34 (upd (M1.1 34) (v1 : Int32).toNatClampNeg 2)) fun M2 => ix v1 78 <| lt' (stI M2 35 (upd (M2.1 35) (v1 : Int32).toNatClampNeg 0)) fun M3 => kf2 M3 (v1 + 1)
def q_ChipMapModel_resetDevice_2  : Nat → Mm → Int32 → Rs
  | 0, _, _ => none
  | n' + 1, M, v1 => if 26 ≤ v1 then (q_ChipMapModel_resetDevice_55 4000 M 0) else (ix v1 26 <| if (M.1 23 (v1 : Int32).toNatClampNeg) = 0 then (q_ChipMapModel_resetDevice_32 (q_ChipMapModel_resetDevice_2 n') M v1 0 v1) else (ix v1 26 <| q_ChipMapModel_resetDevice_32 (q_ChipMapModel_resetDevice_2 n') M v1 (M.1 28 (v1 : Int32).toNatClampNeg) v1))
def q_ChipMapModel_resetDevice  (M : Mm)  : Rs := q_ChipMapModel_resetDevice_2 4000 M 0
set_option maxHeartbeats 4000000 in
set_option maxRecDepth 20000 in
theorem b_ChipMapModel_resetDevice_55 {p : Program} {l : Launch} {e : Env} {s s0 : State} {m : MethodId} {args : Array Value} {below : List Frame} {meth : Method} {c : Code} {D : va_G} {cI cZ cC cJ cA : ClassId} {P : Nat → Nat} {M' : Mm} {r' : Int32}  (hx : p.tables.exec = Jvm.exec) (hb : c.code = cX1_resetDevice) (hml : c.maxLocals = 2) (hr : meth.sig.returnType = none) (hlk : meth.locks = false) (hgt : ∀ w ∈ GT, w.before args s = true) (hown : s.vm.findClass RX1 = some m.cls) (hK : va_K D vwCl [(cI, .int), (cZ, .boolean), (cC, .char), (cJ, .long), (cA, .array .int)] s) (hO : Old s0 s) (hAO : ∀ q, (aP P 51) q → s0.heap.size ≤ q)  : ∀ (n' : Nat) (M : Mm) (v1 : Int32) (H : Heap) (locs : List Loc) (ls : Array Slot), lv_has ls 2 [(0, .ref (P 0)), (1, .int v1)] → va_P D vwCl ((wY cI cZ cC cJ cA P) M) H → va_D (aP P 51) ((wY cI cZ cC cJ cA P) M) → va_S (aP P 51) s.heap H locs → q_ChipMapModel_resetDevice_55 n' M v1 = some (M', r') → W p l e ({ frames := 0, cells := 0, slots := 0, locals := 0 }) s m args below meth c H locs 0 0 (MQ below (gQv D (aP P 51) ((wY cI cZ cC cJ cA P) M')) args s 0 0 (aP P 51)) (F0 m 55 ls []) := by
  intro n'
  induction n' with
  | zero => exact fun _ _ _ _ _ _ _ _ _ h => (rs_n h).elim
  | succ n' ih =>
    intro M v1 H locs ls hl hP hD hS h
    rw [q_ChipMapModel_resetDevice_55] at h
    refine lv_iload_n hx hb dX1_resetDevice_55 rfl (lv_at hl 1 rfl) ?_
    refine lv_bipush (v := 12) hx hb dX1_resetDevice_56 (by decide) ?_
    refine lv_icmp_ge hx hb dX1_resetDevice_58 (tgt := 74) rfl (fun hc => ?_) (fun hc => ?_)
    · have h := br_T hc h
      exact rt_v (w := (wY cI cZ cC cJ cA P)) (r := r') hx hb hr hlk hP hD hS h dX1_resetDevice_74
    · have h := br_F hc h
      refine lv_aload_n hx hb dX1_resetDevice_61 rfl (lv_at hl 0 rfl) ?_
      refine va_get (D := D) (ci := 1) (v := .ref (P 36)) (C := RX1) (T := TX1) (N := 76) hx hb hgt iwX1 hown hK hP 0 gY_0 rfl 46 (Nat.le_of_ble_eq_true rfl) (hgt _ wd_5_7) (fun _ h9 => h9) rfl dX1_resetDevice_62 ?_
      refine lv_iload_n hx hb dX1_resetDevice_65 rfl (lv_at hl 1 rfl) ?_
      refine lv_iconst (v := 0) hx hb dX1_resetDevice_66 (by decide) ?_
      refine pm_zast (w := (wY cI cZ cC cJ cA P)) hx hb hK hP hD hS 36 1 gY_36 rfl sY_36 (ix_l h) dX1_resetDevice_67 (fun M1 eM1 H locs hP hD hS => ?_)
      have h := ix_r h
      have h := lt_o eM1 h
      refine lv_iinc (v := (v1 + 1)) hx hb dX1_resetDevice_68 hl (k := 1) rfl rfl (Nat.le_of_ble_eq_true rfl) (lv' := [(1, .int (v1 + 1)), (0, .ref (P 0))]) rfl (fun ls hl => ?_)
      refine lv_goto hx hb dX1_resetDevice_71 (tgt := 55) rfl ?_
      have hl := lv_sub hl [1, 0] (l' := [(0, .ref (P 0)), (1, .int (v1 + 1))]) rfl
      exact ih M1 (v1 + 1) H locs ls hl hP hD hS h
set_option maxHeartbeats 4000000 in
set_option maxRecDepth 20000 in
theorem b_ChipMapModel_resetDevice_32 {p : Program} {l : Launch} {e : Env} {s s0 : State} {m : MethodId} {args : Array Value} {below : List Frame} {meth : Method} {c : Code} {D : va_G} {cI cZ cC cJ cA : ClassId} {P : Nat → Nat} {M' : Mm} {r' : Int32} {kf2 : Mm → Int32 → Rs} (hx : p.tables.exec = Jvm.exec) (hb : c.code = cX1_resetDevice) (hml : c.maxLocals = 2) (hr : meth.sig.returnType = none) (hlk : meth.locks = false) (hgt : ∀ w ∈ GT, w.before args s = true) (hown : s.vm.findClass RX1 = some m.cls) (hK : va_K D vwCl [(cI, .int), (cZ, .boolean), (cC, .char), (cJ, .long), (cA, .array .int)] s) (hO : Old s0 s) (hAO : ∀ q, (aP P 51) q → s0.heap.size ≤ q) (kk2 : ∀ (M : Mm) (v1 : Int32) (H : Heap) (locs : List Loc) (ls : Array Slot), lv_has ls 2 [(0, .ref (P 0)), (1, .int v1)] → va_P D vwCl ((wY cI cZ cC cJ cA P) M) H → va_D (aP P 51) ((wY cI cZ cC cJ cA P) M) → va_S (aP P 51) s.heap H locs → kf2 M v1 = some (M', r') → W p l e ({ frames := 0, cells := 0, slots := 0, locals := 0 }) s m args below meth c H locs 0 0 (MQ below (gQv D (aP P 51) ((wY cI cZ cC cJ cA P) M')) args s 0 0 (aP P 51)) (F0 m 2 ls [])) : ∀ (M : Mm) (v1 : Int32) (t0 : Int32) (t1 : Int32) (H : Heap) (locs : List Loc) (ls : Array Slot), lv_has ls 2 [(0, .ref (P 0)), (1, .int v1)] → va_P D vwCl ((wY cI cZ cC cJ cA P) M) H → va_D (aP P 51) ((wY cI cZ cC cJ cA P) M) → va_S (aP P 51) s.heap H locs → q_ChipMapModel_resetDevice_32 kf2 M v1 t0 t1 = some (M', r') → W p l e ({ frames := 0, cells := 0, slots := 0, locals := 0 }) s m args below meth c H locs 0 0 (MQ below (gQv D (aP P 51) ((wY cI cZ cC cJ cA P) M')) args s 0 0 (aP P 51)) (F0 m 32 ls [.int t0, .int t1, .ref (P 33)]) := by
  intro M v1 t0 t1 H locs ls hl hP hD hS h
  unfold q_ChipMapModel_resetDevice_32 at h
  refine pm_iast (w := (wY cI cZ cC cJ cA P)) hx hb hK hP hD hS 33 0 gY_33 rfl sY_33 (ix_l h) dX1_resetDevice_32 (fun M1 eM1 H locs hP hD hS => ?_)
  have h := ix_r h
  have h := lt_o eM1 h
  refine lv_aload_n hx hb dX1_resetDevice_33 rfl (lv_at hl 0 rfl) ?_
  refine va_get (D := D) (ci := 1) (v := .ref (P 34)) (C := RX1) (T := TX1) (N := 76) hx hb hgt iwX1 hown hK hP 0 gY_0 rfl 44 (Nat.le_of_ble_eq_true rfl) (hgt _ wd_5_5) (fun _ h9 => h9) rfl dX1_resetDevice_34 ?_
  refine lv_iload_n hx hb dX1_resetDevice_37 rfl (lv_at hl 1 rfl) ?_
  refine lv_iconst (v := 2) hx hb dX1_resetDevice_38 (by decide) ?_
  refine pm_iast (w := (wY cI cZ cC cJ cA P)) hx hb hK hP hD hS 34 0 gY_34 rfl sY_34 (ix_l h) dX1_resetDevice_39 (fun M2 eM2 H locs hP hD hS => ?_)
  have h := ix_r h
  have h := lt_o eM2 h
  refine lv_aload_n hx hb dX1_resetDevice_40 rfl (lv_at hl 0 rfl) ?_
  refine va_get (D := D) (ci := 1) (v := .ref (P 35)) (C := RX1) (T := TX1) (N := 76) hx hb hgt iwX1 hown hK hP 0 gY_0 rfl 45 (Nat.le_of_ble_eq_true rfl) (hgt _ wd_5_6) (fun _ h9 => h9) rfl dX1_resetDevice_41 ?_
  refine lv_iload_n hx hb dX1_resetDevice_44 rfl (lv_at hl 1 rfl) ?_
  refine lv_iconst (v := 0) hx hb dX1_resetDevice_45 (by decide) ?_
  refine pm_iast (w := (wY cI cZ cC cJ cA P)) hx hb hK hP hD hS 35 0 gY_35 rfl sY_35 (ix_l h) dX1_resetDevice_46 (fun M3 eM3 H locs hP hD hS => ?_)
  have h := ix_r h
  have h := lt_o eM3 h
  refine lv_iinc (v := (v1 + 1)) hx hb dX1_resetDevice_47 hl (k := 1) rfl rfl (Nat.le_of_ble_eq_true rfl) (lv' := [(1, .int (v1 + 1)), (0, .ref (P 0))]) rfl (fun ls hl => ?_)
  refine lv_goto hx hb dX1_resetDevice_50 (tgt := 2) rfl ?_
  have hl := lv_sub hl [1, 0] (l' := [(0, .ref (P 0)), (1, .int (v1 + 1))]) rfl
  exact kk2 M3 (v1 + 1) H locs ls hl hP hD hS h
set_option maxHeartbeats 4000000 in
set_option maxRecDepth 20000 in
theorem b_ChipMapModel_resetDevice_2 {p : Program} {l : Launch} {e : Env} {s s0 : State} {m : MethodId} {args : Array Value} {below : List Frame} {meth : Method} {c : Code} {D : va_G} {cI cZ cC cJ cA : ClassId} {P : Nat → Nat} {M' : Mm} {r' : Int32}  (hx : p.tables.exec = Jvm.exec) (hb : c.code = cX1_resetDevice) (hml : c.maxLocals = 2) (hr : meth.sig.returnType = none) (hlk : meth.locks = false) (hgt : ∀ w ∈ GT, w.before args s = true) (hown : s.vm.findClass RX1 = some m.cls) (hK : va_K D vwCl [(cI, .int), (cZ, .boolean), (cC, .char), (cJ, .long), (cA, .array .int)] s) (hO : Old s0 s) (hAO : ∀ q, (aP P 51) q → s0.heap.size ≤ q)  : ∀ (n' : Nat) (M : Mm) (v1 : Int32) (H : Heap) (locs : List Loc) (ls : Array Slot), lv_has ls 2 [(0, .ref (P 0)), (1, .int v1)] → va_P D vwCl ((wY cI cZ cC cJ cA P) M) H → va_D (aP P 51) ((wY cI cZ cC cJ cA P) M) → va_S (aP P 51) s.heap H locs → q_ChipMapModel_resetDevice_2 n' M v1 = some (M', r') → W p l e ({ frames := 0, cells := 0, slots := 0, locals := 0 }) s m args below meth c H locs 0 0 (MQ below (gQv D (aP P 51) ((wY cI cZ cC cJ cA P) M')) args s 0 0 (aP P 51)) (F0 m 2 ls []) := by
  intro n'
  induction n' with
  | zero => exact fun _ _ _ _ _ _ _ _ _ h => (rs_n h).elim
  | succ n' ih =>
    intro M v1 H locs ls hl hP hD hS h
    rw [q_ChipMapModel_resetDevice_2] at h
    refine lv_iload_n hx hb dX1_resetDevice_2 rfl (lv_at hl 1 rfl) ?_
    refine lv_bipush (v := 26) hx hb dX1_resetDevice_3 (by decide) ?_
    refine lv_icmp_ge hx hb dX1_resetDevice_5 (tgt := 53) rfl (fun hc => ?_) (fun hc => ?_)
    · have h := br_T hc h
      refine lv_iconst (v := 0) hx hb dX1_resetDevice_53 (by decide) ?_
      refine lv_istore_n hx hb dX1_resetDevice_54 rfl hl (Nat.le_of_ble_eq_true rfl) (lv' := [(1, .int 0), (0, .ref (P 0))]) rfl (fun ls hl => ?_)
      have hl := lv_sub hl [1, 0] (l' := [(0, .ref (P 0)), (1, .int 0)]) rfl
      exact b_ChipMapModel_resetDevice_55 hx hb hml hr hlk hgt hown hK hO hAO 4000 M 0 H _ ls hl hP hD hS h
    · have h := br_F hc h
      refine lv_aload_n hx hb dX1_resetDevice_8 rfl (lv_at hl 0 rfl) ?_
      refine va_get (D := D) (ci := 1) (v := .ref (P 33)) (C := RX1) (T := TX1) (N := 76) hx hb hgt iwX1 hown hK hP 0 gY_0 rfl 43 (Nat.le_of_ble_eq_true rfl) (hgt _ wd_5_4) (fun _ h9 => h9) rfl dX1_resetDevice_9 ?_
      refine lv_iload_n hx hb dX1_resetDevice_12 rfl (lv_at hl 1 rfl) ?_
      refine lv_aload_n hx hb dX1_resetDevice_13 rfl (lv_at hl 0 rfl) ?_
      refine va_get (D := D) (ci := 1) (v := .ref (P 23)) (C := RX1) (T := TX1) (N := 76) hx hb hgt iwX1 hown hK hP 0 gY_0 rfl 32 (Nat.le_of_ble_eq_true rfl) (hgt _ wd_4_233) (fun _ h9 => h9) rfl dX1_resetDevice_14 ?_
      refine lv_iload_n hx hb dX1_resetDevice_17 rfl (lv_at hl 1 rfl) ?_
      refine va_zald hx hb hK hP 23 1 gY_23 rfl (ix_l h) dX1_resetDevice_18 ?_
      have h := ix_r h
      refine lv_if_eq hx hb dX1_resetDevice_19 (tgt := 31) rfl (fun hc => ?_) (fun hc => ?_)
      · have h := br_T hc h
        refine lv_iconst (v := 0) hx hb dX1_resetDevice_31 (by decide) ?_
        have hl := lv_sub hl [0, 1] (l' := [(0, .ref (P 0)), (1, .int v1)]) rfl
        exact b_ChipMapModel_resetDevice_32 hx hb hml hr hlk hgt hown hK hO hAO ih M v1 0 v1 H _ ls hl hP hD hS h
      · have h := br_F hc h
        refine lv_aload_n hx hb dX1_resetDevice_22 rfl (lv_at hl 0 rfl) ?_
        refine va_get (D := D) (ci := 1) (v := .ref (P 28)) (C := RX1) (T := TX1) (N := 76) hx hb hgt iwX1 hown hK hP 0 gY_0 rfl 37 (Nat.le_of_ble_eq_true rfl) (hgt _ wd_4_238) (fun _ h9 => h9) rfl dX1_resetDevice_23 ?_
        refine lv_iload_n hx hb dX1_resetDevice_26 rfl (lv_at hl 1 rfl) ?_
        refine va_iald hx hb hK hP 28 0 gY_28 rfl (ix_l h) dX1_resetDevice_27 ?_
        have h := ix_r h
        refine lv_goto hx hb dX1_resetDevice_28 (tgt := 32) rfl ?_
        have hl := lv_sub hl [0, 1] (l' := [(0, .ref (P 0)), (1, .int v1)]) rfl
        exact b_ChipMapModel_resetDevice_32 hx hb hml hr hlk hgt hown hK hO hAO ih M v1 (M.1 28 (v1 : Int32).toNatClampNeg) v1 H _ ls hl hP hD hS h
set_option maxHeartbeats 4000000 in
set_option maxRecDepth 20000 in
theorem b_ChipMapModel_resetDevice_0 {p : Program} {l : Launch} {e : Env} {s s0 : State} {m : MethodId} {args : Array Value} {below : List Frame} {meth : Method} {c : Code} {D : va_G} {cI cZ cC cJ cA : ClassId} {P : Nat → Nat} {M' : Mm} {r' : Int32}  (hx : p.tables.exec = Jvm.exec) (hb : c.code = cX1_resetDevice) (hml : c.maxLocals = 2) (hr : meth.sig.returnType = none) (hlk : meth.locks = false) (hgt : ∀ w ∈ GT, w.before args s = true) (hown : s.vm.findClass RX1 = some m.cls) (hK : va_K D vwCl [(cI, .int), (cZ, .boolean), (cC, .char), (cJ, .long), (cA, .array .int)] s) (hO : Old s0 s) (hAO : ∀ q, (aP P 51) q → s0.heap.size ≤ q)  : ∀ (M : Mm)  (H : Heap) (locs : List Loc) (ls : Array Slot), lv_has ls 2 [(0, .ref (P 0))] → va_P D vwCl ((wY cI cZ cC cJ cA P) M) H → va_D (aP P 51) ((wY cI cZ cC cJ cA P) M) → va_S (aP P 51) s.heap H locs → q_ChipMapModel_resetDevice M = some (M', r') → W p l e ({ frames := 0, cells := 0, slots := 0, locals := 0 }) s m args below meth c H locs 0 0 (MQ below (gQv D (aP P 51) ((wY cI cZ cC cJ cA P) M')) args s 0 0 (aP P 51)) (F0 m 0 ls []) := by
  intro M H locs ls hl hP hD hS h
  unfold q_ChipMapModel_resetDevice at h
  refine lv_iconst (v := 0) hx hb dX1_resetDevice_0 (by decide) ?_
  refine lv_istore_n hx hb dX1_resetDevice_1 rfl hl (Nat.le_of_ble_eq_true rfl) (lv' := [(1, .int 0), (0, .ref (P 0))]) rfl (fun ls hl => ?_)
  have hl := lv_sub hl [1, 0] (l' := [(0, .ref (P 0)), (1, .int 0)]) rfl
  exact b_ChipMapModel_resetDevice_2 hx hb hml hr hlk hgt hown hK hO hAO 4000 M 0 H _ ls hl hP hD hS h
set_option maxHeartbeats 4000000 in
set_option maxRecDepth 20000 in
theorem z_ChipMapModel_resetDevice (l : Launch) (D : va_G) (cI cZ cC cJ cA : ClassId) (P : Nat → Nat) (s0 : State) (hAO : ∀ q, (aP P 51) q → s0.heap.size ≤ q) (M : Mm)  (M' : Mm) (r' : Int32) (h : q_ChipMapModel_resetDevice M = some (M', r')) : Met l yX1_resetDevice wsX1_resetDevice ({ frames := 0, cells := 0, slots := 0, locals := 0 }) (va_Pc [.ref (P 0)] (gPre s0 D [(cI, .int), (cZ, .boolean), (cC, .char), (cJ, .long), (cA, .array .int)] (aP P 51) ((wY cI cZ cC cJ cA P) M))) (gQv D (aP P 51) ((wY cI cZ cC cJ cA P) M')) 0 0 (aP P 51) := by
  refine Met.ofW (cc := cX1_resetDevice) (maxL := 2) (ret := none) (by decide) rfl ?_
  intro p e s m args below meth c s₁ B hml hv
  obtain ⟨rfl, hP, hK, hD, hO⟩ := hv
  have hx := B.exec
  have hb := B.bytes
  have hr := B.returns
  have hlk := B.notSynchronized
  have hgt := fun w (h : w ∈ GT) => atoms_spec (ws := wsX1_resetDevice) B.pre w (List.mem_cons_of_mem _ h)
  have hown : s.vm.findClass RX1 = some m.cls := findClass_of_methodNamed B.named
  have hS : va_S (aP P 51) s.heap s.heap [] := va_S.rf
  have hl := lv_entry ([.ref (P 0)]) (n := 2) (Nat.le_of_ble_eq_true rfl)
  rw [lg_entry_eq]
  generalize (lg_sl ([.ref (P 0)]) ++ List.replicate (2 - (lg_sl ([.ref (P 0)])).length) Slot.unset).toArray = ls at hl ⊢
  have hl : lv_has ls 2 [(0, .ref (P 0))] := hl
  exact b_ChipMapModel_resetDevice_0 hx hb hml hr hlk hgt hown hK hO hAO M s.heap [] ls hl hP hD hS h
def q_ChipMapModel_resetAll  (M : Mm)  : Rs := cal (q_ChipMapModel_resetDevice M) fun M1 r2 => lt' (stI M1 0 (upd (M1.1 0) 47 0)) fun M3 => lt' (stI M3 0 (upd (M3.1 0) 48 0)) fun M4 => lt' (stI M4 0 (upd (M4.1 0) 52 0)) fun M5 => some (M5, 0)
set_option maxHeartbeats 4000000 in
set_option maxRecDepth 20000 in
theorem b_ChipMapModel_resetAll_0 {p : Program} {l : Launch} {e : Env} {s s0 : State} {m : MethodId} {args : Array Value} {below : List Frame} {meth : Method} {c : Code} {D : va_G} {cI cZ cC cJ cA : ClassId} {P : Nat → Nat} {M' : Mm} {r' : Int32}  (hx : p.tables.exec = Jvm.exec) (hb : c.code = cX1_resetAll) (hml : c.maxLocals = 1) (hr : meth.sig.returnType = none) (hlk : meth.locks = false) (hgt : ∀ w ∈ GT, w.before args s = true) (hown : s.vm.findClass RX1 = some m.cls) (hK : va_K D vwCl [(cI, .int), (cZ, .boolean), (cC, .char), (cJ, .long), (cA, .array .int)] s) (hO : Old s0 s) (hAO : ∀ q, (aP P 51) q → s0.heap.size ≤ q)  : ∀ (M : Mm)  (H : Heap) (locs : List Loc) (ls : Array Slot), lv_has ls 1 [(0, .ref (P 0))] → va_P D vwCl ((wY cI cZ cC cJ cA P) M) H → va_D (aP P 51) ((wY cI cZ cC cJ cA P) M) → va_S (aP P 51) s.heap H locs → q_ChipMapModel_resetAll M = some (M', r') → W p l e ({ frames := 1, cells := 0, slots := 0, locals := 21 }) s m args below meth c H locs 0 0 (MQ below (gQv D (aP P 51) ((wY cI cZ cC cJ cA P) M')) args s 0 0 (aP P 51)) (F0 m 0 ls []) := by
  intro M H locs ls hl hP hD hS h
  unfold q_ChipMapModel_resetAll at h
  refine lv_aload_n hx hb dX1_resetAll_0 rfl (lv_at hl 0 rfl) ?_
  obtain ⟨M1, r2, hq, h⟩ := cal_o h
  refine cx_v (va_runV (As := []) (rest := []) ⟨hx, hb, hml, hown, hgt⟩ (z_ChipMapModel_resetDevice l D cI cZ cC cJ cA P s0 hAO M M1 r2 hq) (cwV 0 hgt (gV wd_6_41 wd_6_43 sl__ChipMapModel____ChipMapModel___resetDevice_____V_____ChipMapModel___resetDevice_____V__ wd_0_15 wd_6_44) rfl rfl rfl (by decide +kernel) ⟨Nat.le_of_ble_eq_true rfl, Nat.le_of_ble_eq_true rfl⟩) (prV hP hK hD hO hAO hS (va_recv hK hP (ci := 1) (q0 := 0) rfl gY_0)) rfl rfl hl.1 rfl (lv_room (Nat.le_of_ble_eq_true rfl)) dX1_resetAll_1 ⟨Nat.le_of_ble_eq_true rfl, Nat.le_of_ble_eq_true rfl⟩) hS (fun H locs hP hD hS => ?_)
  refine lv_aload_n hx hb dX1_resetAll_4 rfl (lv_at hl 0 rfl) ?_
  refine lv_iconst (v := 0) hx hb dX1_resetAll_5 (by decide) ?_
  refine pm_put (w := (wY cI cZ cC cJ cA P)) (D := D) (ci := 1) (x := 0) (ty := .int) (C := RX1) (T := TX1) (N := 76) hx hb hgt iwX1 tyX1 tyX1_ok nmX1 hown hK hP hD hS 0 gY_0 rfl 47 (Nat.le_of_ble_eq_true rfl) (hgt _ wd_5_8) (fun _ h9 => h9) rfl (by decide +kernel) rfl rfl (Nat.le_of_ble_eq_true rfl) (sY_0_47 _) dX1_resetAll_6 (fun M3 eM3 H locs hP hD hS => ?_)
  have h := lt_o eM3 h
  refine lv_aload_n hx hb dX1_resetAll_9 rfl (lv_at hl 0 rfl) ?_
  refine lv_iconst (v := 0) hx hb dX1_resetAll_10 (by decide) ?_
  refine pm_put (w := (wY cI cZ cC cJ cA P)) (D := D) (ci := 1) (x := 0) (ty := .int) (C := RX1) (T := TX1) (N := 76) hx hb hgt iwX1 tyX1 tyX1_ok nmX1 hown hK hP hD hS 0 gY_0 rfl 48 (Nat.le_of_ble_eq_true rfl) (hgt _ wd_5_9) (fun _ h9 => h9) rfl (by decide +kernel) rfl rfl (Nat.le_of_ble_eq_true rfl) (sY_0_48 _) dX1_resetAll_11 (fun M4 eM4 H locs hP hD hS => ?_)
  have h := lt_o eM4 h
  refine lv_aload_n hx hb dX1_resetAll_14 rfl (lv_at hl 0 rfl) ?_
  refine lv_iconst (v := 0) hx hb dX1_resetAll_15 (by decide) ?_
  refine pm_put (w := (wY cI cZ cC cJ cA P)) (D := D) (ci := 1) (x := 0) (ty := .int) (C := RX1) (T := TX1) (N := 76) hx hb hgt iwX1 tyX1 tyX1_ok nmX1 hown hK hP hD hS 0 gY_0 rfl 52 (Nat.le_of_ble_eq_true rfl) (hgt _ wd_5_13) (fun _ h9 => h9) rfl (by decide +kernel) rfl rfl (Nat.le_of_ble_eq_true rfl) (sY_0_52 _) dX1_resetAll_16 (fun M5 eM5 H locs hP hD hS => ?_)
  have h := lt_o eM5 h
  exact rt_v (w := (wY cI cZ cC cJ cA P)) (r := r') hx hb hr hlk hP hD hS h dX1_resetAll_19
set_option maxHeartbeats 4000000 in
set_option maxRecDepth 20000 in
theorem z_ChipMapModel_resetAll (l : Launch) (D : va_G) (cI cZ cC cJ cA : ClassId) (P : Nat → Nat) (s0 : State) (hAO : ∀ q, (aP P 51) q → s0.heap.size ≤ q) (M : Mm)  (M' : Mm) (r' : Int32) (h : q_ChipMapModel_resetAll M = some (M', r')) : Met l yX1_resetAll wsX1_resetAll ({ frames := 1, cells := 0, slots := 0, locals := 21 }) (va_Pc [.ref (P 0)] (gPre s0 D [(cI, .int), (cZ, .boolean), (cC, .char), (cJ, .long), (cA, .array .int)] (aP P 51) ((wY cI cZ cC cJ cA P) M))) (gQv D (aP P 51) ((wY cI cZ cC cJ cA P) M')) 0 0 (aP P 51) := by
  refine Met.ofW (cc := cX1_resetAll) (maxL := 1) (ret := none) (by decide) rfl ?_
  intro p e s m args below meth c s₁ B hml hv
  obtain ⟨rfl, hP, hK, hD, hO⟩ := hv
  have hx := B.exec
  have hb := B.bytes
  have hr := B.returns
  have hlk := B.notSynchronized
  have hgt := fun w (h : w ∈ GT) => atoms_spec (ws := wsX1_resetAll) B.pre w (List.mem_cons_of_mem _ h)
  have hown : s.vm.findClass RX1 = some m.cls := findClass_of_methodNamed B.named
  have hS : va_S (aP P 51) s.heap s.heap [] := va_S.rf
  have hl := lv_entry ([.ref (P 0)]) (n := 1) (Nat.le_of_ble_eq_true rfl)
  rw [lg_entry_eq]
  generalize (lg_sl ([.ref (P 0)]) ++ List.replicate (1 - (lg_sl ([.ref (P 0)])).length) Slot.unset).toArray = ls at hl ⊢
  have hl : lv_has ls 1 [(0, .ref (P 0))] := hl
  exact b_ChipMapModel_resetAll_0 hx hb hml hr hlk hgt hown hK hO hAO M s.heap [] ls hl hP hD hS h
def q_ChipMapModel_compile_230  : Nat → Mm → Int32 → Rs
  | 0, _, _ => none
  | n' + 1, M, v2 => if (M.1 0 38) ≤ v2 then (lt' (stI M 0 (upd (M.1 0) 59 0)) fun M1 => lt' (stI M1 0 (upd (M1.1 0) 67 0)) fun M2 => lt' (stI M2 0 (upd (M2.1 0) 68 0)) fun M3 => cal (q_ChipMapModel_resetAll M3) fun M4 r5 => some (M4, (M4.1 0 28))) else (ix v2 13 <| ix v2 12 <| lt' (stI M 29 (upd (M.1 29) (v2 : Int32).toNatClampNeg (M.1 14 (v2 : Int32).toNatClampNeg))) fun M1 => ix v2 13 <| ix v2 12 <| lt' (stI M1 30 (upd (M1.1 30) (v2 : Int32).toNatClampNeg (M1.1 15 (v2 : Int32).toNatClampNeg))) fun M2 => ix v2 13 <| ix v2 12 <| lt' (stI M2 31 (upd (M2.1 31) (v2 : Int32).toNatClampNeg (M2.1 16 (v2 : Int32).toNatClampNeg))) fun M3 => ix v2 13 <| ix v2 12 <| lt' (stI M3 32 (upd (M3.1 32) (v2 : Int32).toNatClampNeg (M3.1 17 (v2 : Int32).toNatClampNeg))) fun M4 => q_ChipMapModel_compile_230 n' M4 (v2 + 1))
def q_ChipMapModel_compile_123  : Nat → Mm → Int32 → Rs
  | 0, _, _ => none
  | n' + 1, M, v2 => if (M.1 0 12) ≤ v2 then (lt' (stI M 0 (upd (M.1 0) 38 (M.1 0 20))) fun M1 => q_ChipMapModel_compile_230 4000 M1 0) else (ix v2 140 <| lt' (M.1 7 (v2 : Int32).toNatClampNeg) fun x1 => ix x1 26 <| lt' (stI M 23 (upd (M.1 23) (x1 : Int32).toNatClampNeg (vp_nar .boolean 1))) fun M2 => ix v2 140 <| ix x1 26 <| lt' (stI M2 24 (upd (M2.1 24) (x1 : Int32).toNatClampNeg (M2.1 8 (v2 : Int32).toNatClampNeg))) fun M3 => ix v2 140 <| ix x1 26 <| lt' (stI M3 25 (upd (M3.1 25) (x1 : Int32).toNatClampNeg (M3.1 12 (v2 : Int32).toNatClampNeg))) fun M4 => ix v2 140 <| ix x1 26 <| lt' (stI M4 26 (upd (M4.1 26) (x1 : Int32).toNatClampNeg (M4.1 10 (v2 : Int32).toNatClampNeg))) fun M5 => ix v2 140 <| ix v2 140 <| ix x1 26 <| lt' (stI M5 27 (upd (M5.1 27) (x1 : Int32).toNatClampNeg (((M5.1 9 (v2 : Int32).toNatClampNeg) - (M5.1 10 (v2 : Int32).toNatClampNeg)) + 1))) fun M6 => ix v2 140 <| ix x1 26 <| lt' (stI M6 28 (upd (M6.1 28) (x1 : Int32).toNatClampNeg (M6.1 11 (v2 : Int32).toNatClampNeg))) fun M7 => q_ChipMapModel_compile_123 n' M7 (v2 + 1))
def q_ChipMapModel_compile_102  : Nat → Mm → Int32 → Rs
  | 0, _, _ => none
  | n' + 1, M, v2 => if 26 ≤ v2 then (q_ChipMapModel_compile_123 4000 M 0) else (ix v2 26 <| lt' (stI M 23 (upd (M.1 23) (v2 : Int32).toNatClampNeg (vp_nar .boolean 0))) fun M1 => q_ChipMapModel_compile_102 n' M1 (v2 + 1))
def q_ChipMapModel_compile_50  : Nat → Mm → Int32 → Rs
  | 0, _, _ => none
  | n' + 1, M, v2 => if (M.1 0 28) ≤ v2 then (q_ChipMapModel_compile_102 4000 M 0) else (ix v2 17 <| ix v2 16 <| lt' (stI M 20 (upd (M.1 20) (v2 : Int32).toNatClampNeg (M.1 2 (v2 : Int32).toNatClampNeg))) fun M1 => ix v2 17 <| ix v2 16 <| lt' (stI M1 21 (upd (M1.1 21) (v2 : Int32).toNatClampNeg (M1.1 3 (v2 : Int32).toNatClampNeg))) fun M2 => ix v2 17 <| ix v2 16 <| lt' (stI M2 22 (upd (M2.1 22) (v2 : Int32).toNatClampNeg (M2.1 4 (v2 : Int32).toNatClampNeg))) fun M3 => q_ChipMapModel_compile_50 n' M3 (v2 + 1))
def q_ChipMapModel_compile  (M : Mm)  : Rs := lt' (stI M 0 (upd (M.1 0) 4 0)) fun M1 => lt' (stI M1 0 (upd (M1.1 0) 5 0)) fun M2 => cal (q_ChipMapModel_readAll M2) fun M3 r4 => lt' (stI M3 0 (upd (M3.1 0) 2 0)) fun M5 => if r4 = 0 then (cal (q_ChipMapModel_raise M5 1) fun M6 r7 => some (M6, r7)) else (lt' (stI M5 0 (upd (M5.1 0) 0 0)) fun M6 => lt' (stI M6 0 (upd (M6.1 0) 27 1)) fun M7 => lt' (stI M7 0 (upd (M7.1 0) 28 (M7.1 0 6))) fun M8 => q_ChipMapModel_compile_50 4000 M8 0)
set_option maxHeartbeats 4000000 in
set_option maxRecDepth 20000 in
theorem b_ChipMapModel_compile_230 {p : Program} {l : Launch} {e : Env} {s s0 : State} {m : MethodId} {args : Array Value} {below : List Frame} {meth : Method} {c : Code} {D : va_G} {cI cZ cC cJ cA : ClassId} {P : Nat → Nat} {M' : Mm} {r' : Int32}  (hx : p.tables.exec = Jvm.exec) (hb : c.code = cX1_compile) (hml : c.maxLocals = 4) (hr : meth.sig.returnType = (some .int)) (hlk : meth.locks = false) (hgt : ∀ w ∈ GT, w.before args s = true) (hown : s.vm.findClass RX1 = some m.cls) (hK : va_K D vwCl [(cI, .int), (cZ, .boolean), (cC, .char), (cJ, .long), (cA, .array .int)] s) (hO : Old s0 s) (hAO : ∀ q, (aP P 51) q → s0.heap.size ≤ q)  : ∀ (n' : Nat) (M : Mm) (v2 : Int32) (H : Heap) (locs : List Loc) (ls : Array Slot), lv_has ls 4 [(0, .ref (P 0)), (2, .int v2)] → va_P D vwCl ((wY cI cZ cC cJ cA P) M) H → va_D (aP P 51) ((wY cI cZ cC cJ cA P) M) → va_S (aP P 51) s.heap H locs → q_ChipMapModel_compile_230 n' M v2 = some (M', r') → W p l e ({ frames := 5, cells := 0, slots := 0, locals := 109 }) s m args below meth c H locs 0 0 (MQ below (gQi D (aP P 51) ((wY cI cZ cC cJ cA P) M') r') args s 0 0 (aP P 51)) (F0 m 230 ls []) := by
  intro n'
  induction n' with
  | zero => exact fun _ _ _ _ _ _ _ _ _ h => (rs_n h).elim
  | succ n' ih =>
    intro M v2 H locs ls hl hP hD hS h
    rw [q_ChipMapModel_compile_230] at h
    refine lv_iload_n hx hb dX1_compile_230 rfl (lv_at hl 1 rfl) ?_
    refine lv_aload_n hx hb dX1_compile_231 rfl (lv_at hl 0 rfl) ?_
    refine va_get (D := D) (ci := 1) (v := .int (M.1 0 38)) (C := RX1) (T := TX1) (N := 76) hx hb hgt iwX1 hown hK hP 0 gY_0 rfl 38 (Nat.le_of_ble_eq_true rfl) (hgt _ wd_4_239) (fun _ h9 => h9) rfl dX1_compile_232 ?_
    refine lv_icmp_ge hx hb dX1_compile_235 (tgt := 292) rfl (fun hc => ?_) (fun hc => ?_)
    · have h := br_T hc h
      refine lv_aload_n hx hb dX1_compile_292 rfl (lv_at hl 0 rfl) ?_
      refine lv_iconst (v := 0) hx hb dX1_compile_293 (by decide) ?_
      refine pm_put (w := (wY cI cZ cC cJ cA P)) (D := D) (ci := 1) (x := 0) (ty := .int) (C := RX1) (T := TX1) (N := 76) hx hb hgt iwX1 tyX1 tyX1_ok nmX1 hown hK hP hD hS 0 gY_0 rfl 59 (Nat.le_of_ble_eq_true rfl) (hgt _ wd_5_20) (fun _ h9 => h9) rfl (by decide +kernel) rfl rfl (Nat.le_of_ble_eq_true rfl) (sY_0_59 _) dX1_compile_294 (fun M1 eM1 H locs hP hD hS => ?_)
      have h := lt_o eM1 h
      refine lv_aload_n hx hb dX1_compile_297 rfl (lv_at hl 0 rfl) ?_
      refine lv_iconst (v := 0) hx hb dX1_compile_298 (by decide) ?_
      refine pm_put (w := (wY cI cZ cC cJ cA P)) (D := D) (ci := 1) (x := 0) (ty := .int) (C := RX1) (T := TX1) (N := 76) hx hb hgt iwX1 tyX1 tyX1_ok nmX1 hown hK hP hD hS 0 gY_0 rfl 67 (Nat.le_of_ble_eq_true rfl) (hgt _ wd_5_28) (fun _ h9 => h9) rfl (by decide +kernel) rfl rfl (Nat.le_of_ble_eq_true rfl) (sY_0_67 _) dX1_compile_299 (fun M2 eM2 H locs hP hD hS => ?_)
      have h := lt_o eM2 h
      refine lv_aload_n hx hb dX1_compile_302 rfl (lv_at hl 0 rfl) ?_
      refine lv_iconst (v := 0) hx hb dX1_compile_303 (by decide) ?_
      refine pm_put (w := (wY cI cZ cC cJ cA P)) (D := D) (ci := 1) (x := 0) (ty := .int) (C := RX1) (T := TX1) (N := 76) hx hb hgt iwX1 tyX1 tyX1_ok nmX1 hown hK hP hD hS 0 gY_0 rfl 68 (Nat.le_of_ble_eq_true rfl) (hgt _ wd_5_29) (fun _ h9 => h9) rfl (by decide +kernel) rfl rfl (Nat.le_of_ble_eq_true rfl) (sY_0_68 _) dX1_compile_304 (fun M3 eM3 H locs hP hD hS => ?_)
      have h := lt_o eM3 h
      refine lv_aload_n hx hb dX1_compile_307 rfl (lv_at hl 0 rfl) ?_
      obtain ⟨M4, r5, hq, h⟩ := cal_o h
      refine cx_v (va_runV (As := []) (rest := []) ⟨hx, hb, hml, hown, hgt⟩ (z_ChipMapModel_resetAll l D cI cZ cC cJ cA P s0 hAO M3 M4 r5 hq) (cwV 0 hgt (gV wd_6_37 wd_6_39 sl__ChipMapModel____ChipMapModel___resetAll_____V_____ChipMapModel___resetAll_____V__ wd_0_15 wd_6_40) rfl rfl rfl (by decide +kernel) ⟨Nat.le_of_ble_eq_true rfl, Nat.le_of_ble_eq_true rfl⟩) (prV hP hK hD hO hAO hS (va_recv hK hP (ci := 1) (q0 := 0) rfl gY_0)) rfl rfl hl.1 rfl (lv_room (Nat.le_of_ble_eq_true rfl)) dX1_compile_308 ⟨Nat.le_of_ble_eq_true rfl, Nat.le_of_ble_eq_true rfl⟩) hS (fun H locs hP hD hS => ?_)
      refine lv_aload_n hx hb dX1_compile_311 rfl (lv_at hl 0 rfl) ?_
      refine va_get (D := D) (ci := 1) (v := .int (M4.1 0 28)) (C := RX1) (T := TX1) (N := 76) hx hb hgt iwX1 hown hK hP 0 gY_0 rfl 28 (Nat.le_of_ble_eq_true rfl) (hgt _ wd_4_229) (fun _ h9 => h9) rfl dX1_compile_312 ?_
      exact rt_i (w := (wY cI cZ cC cJ cA P)) hx hb hr hlk hP hD hS h dX1_compile_315
    · have h := br_F hc h
      refine lv_aload_n hx hb dX1_compile_238 rfl (lv_at hl 0 rfl) ?_
      refine va_get (D := D) (ci := 1) (v := .ref (P 29)) (C := RX1) (T := TX1) (N := 76) hx hb hgt iwX1 hown hK hP 0 gY_0 rfl 39 (Nat.le_of_ble_eq_true rfl) (hgt _ wd_5_0) (fun _ h9 => h9) rfl dX1_compile_239 ?_
      refine lv_iload_n hx hb dX1_compile_242 rfl (lv_at hl 1 rfl) ?_
      refine lv_aload_n hx hb dX1_compile_243 rfl (lv_at hl 0 rfl) ?_
      refine va_get (D := D) (ci := 1) (v := .ref (P 14)) (C := RX1) (T := TX1) (N := 76) hx hb hgt iwX1 hown hK hP 0 gY_0 rfl 21 (Nat.le_of_ble_eq_true rfl) (hgt _ wd_4_222) (fun _ h9 => h9) rfl dX1_compile_244 ?_
      refine lv_iload_n hx hb dX1_compile_247 rfl (lv_at hl 1 rfl) ?_
      refine va_iald hx hb hK hP 14 0 gY_14 rfl (ix_l h) dX1_compile_248 ?_
      have h := ix_r h
      refine pm_iast (w := (wY cI cZ cC cJ cA P)) hx hb hK hP hD hS 29 0 gY_29 rfl sY_29 (ix_l h) dX1_compile_249 (fun M1 eM1 H locs hP hD hS => ?_)
      have h := ix_r h
      have h := lt_o eM1 h
      refine lv_aload_n hx hb dX1_compile_250 rfl (lv_at hl 0 rfl) ?_
      refine va_get (D := D) (ci := 1) (v := .ref (P 30)) (C := RX1) (T := TX1) (N := 76) hx hb hgt iwX1 hown hK hP 0 gY_0 rfl 40 (Nat.le_of_ble_eq_true rfl) (hgt _ wd_5_1) (fun _ h9 => h9) rfl dX1_compile_251 ?_
      refine lv_iload_n hx hb dX1_compile_254 rfl (lv_at hl 1 rfl) ?_
      refine lv_aload_n hx hb dX1_compile_255 rfl (lv_at hl 0 rfl) ?_
      refine va_get (D := D) (ci := 1) (v := .ref (P 15)) (C := RX1) (T := TX1) (N := 76) hx hb hgt iwX1 hown hK hP 0 gY_0 rfl 22 (Nat.le_of_ble_eq_true rfl) (hgt _ wd_4_223) (fun _ h9 => h9) rfl dX1_compile_256 ?_
      refine lv_iload_n hx hb dX1_compile_259 rfl (lv_at hl 1 rfl) ?_
      refine va_iald hx hb hK hP 15 0 gY_15 rfl (ix_l h) dX1_compile_260 ?_
      have h := ix_r h
      refine pm_iast (w := (wY cI cZ cC cJ cA P)) hx hb hK hP hD hS 30 0 gY_30 rfl sY_30 (ix_l h) dX1_compile_261 (fun M2 eM2 H locs hP hD hS => ?_)
      have h := ix_r h
      have h := lt_o eM2 h
      refine lv_aload_n hx hb dX1_compile_262 rfl (lv_at hl 0 rfl) ?_
      refine va_get (D := D) (ci := 1) (v := .ref (P 31)) (C := RX1) (T := TX1) (N := 76) hx hb hgt iwX1 hown hK hP 0 gY_0 rfl 41 (Nat.le_of_ble_eq_true rfl) (hgt _ wd_5_2) (fun _ h9 => h9) rfl dX1_compile_263 ?_
      refine lv_iload_n hx hb dX1_compile_266 rfl (lv_at hl 1 rfl) ?_
      refine lv_aload_n hx hb dX1_compile_267 rfl (lv_at hl 0 rfl) ?_
      refine va_get (D := D) (ci := 1) (v := .ref (P 16)) (C := RX1) (T := TX1) (N := 76) hx hb hgt iwX1 hown hK hP 0 gY_0 rfl 23 (Nat.le_of_ble_eq_true rfl) (hgt _ wd_4_224) (fun _ h9 => h9) rfl dX1_compile_268 ?_
      refine lv_iload_n hx hb dX1_compile_271 rfl (lv_at hl 1 rfl) ?_
      refine va_iald hx hb hK hP 16 0 gY_16 rfl (ix_l h) dX1_compile_272 ?_
      have h := ix_r h
      refine pm_iast (w := (wY cI cZ cC cJ cA P)) hx hb hK hP hD hS 31 0 gY_31 rfl sY_31 (ix_l h) dX1_compile_273 (fun M3 eM3 H locs hP hD hS => ?_)
      have h := ix_r h
      have h := lt_o eM3 h
      refine lv_aload_n hx hb dX1_compile_274 rfl (lv_at hl 0 rfl) ?_
      refine va_get (D := D) (ci := 1) (v := .ref (P 32)) (C := RX1) (T := TX1) (N := 76) hx hb hgt iwX1 hown hK hP 0 gY_0 rfl 42 (Nat.le_of_ble_eq_true rfl) (hgt _ wd_5_3) (fun _ h9 => h9) rfl dX1_compile_275 ?_
      refine lv_iload_n hx hb dX1_compile_278 rfl (lv_at hl 1 rfl) ?_
      refine lv_aload_n hx hb dX1_compile_279 rfl (lv_at hl 0 rfl) ?_
      refine va_get (D := D) (ci := 1) (v := .ref (P 17)) (C := RX1) (T := TX1) (N := 76) hx hb hgt iwX1 hown hK hP 0 gY_0 rfl 24 (Nat.le_of_ble_eq_true rfl) (hgt _ wd_4_225) (fun _ h9 => h9) rfl dX1_compile_280 ?_
      refine lv_iload_n hx hb dX1_compile_283 rfl (lv_at hl 1 rfl) ?_
      refine va_iald hx hb hK hP 17 0 gY_17 rfl (ix_l h) dX1_compile_284 ?_
      have h := ix_r h
      refine pm_iast (w := (wY cI cZ cC cJ cA P)) hx hb hK hP hD hS 32 0 gY_32 rfl sY_32 (ix_l h) dX1_compile_285 (fun M4 eM4 H locs hP hD hS => ?_)
      have h := ix_r h
      have h := lt_o eM4 h
      refine lv_iinc (v := (v2 + 1)) hx hb dX1_compile_286 hl (k := 1) rfl rfl (Nat.le_of_ble_eq_true rfl) (lv' := [(2, .int (v2 + 1)), (0, .ref (P 0))]) rfl (fun ls hl => ?_)
      refine lv_goto hx hb dX1_compile_289 (tgt := 230) rfl ?_
      have hl := lv_sub hl [1, 0] (l' := [(0, .ref (P 0)), (2, .int (v2 + 1))]) rfl
      exact ih M4 (v2 + 1) H locs ls hl hP hD hS h
set_option maxHeartbeats 4000000 in
set_option maxRecDepth 20000 in
theorem b_ChipMapModel_compile_123 {p : Program} {l : Launch} {e : Env} {s s0 : State} {m : MethodId} {args : Array Value} {below : List Frame} {meth : Method} {c : Code} {D : va_G} {cI cZ cC cJ cA : ClassId} {P : Nat → Nat} {M' : Mm} {r' : Int32}  (hx : p.tables.exec = Jvm.exec) (hb : c.code = cX1_compile) (hml : c.maxLocals = 4) (hr : meth.sig.returnType = (some .int)) (hlk : meth.locks = false) (hgt : ∀ w ∈ GT, w.before args s = true) (hown : s.vm.findClass RX1 = some m.cls) (hK : va_K D vwCl [(cI, .int), (cZ, .boolean), (cC, .char), (cJ, .long), (cA, .array .int)] s) (hO : Old s0 s) (hAO : ∀ q, (aP P 51) q → s0.heap.size ≤ q)  : ∀ (n' : Nat) (M : Mm) (v2 : Int32) (H : Heap) (locs : List Loc) (ls : Array Slot), lv_has ls 4 [(0, .ref (P 0)), (2, .int v2)] → va_P D vwCl ((wY cI cZ cC cJ cA P) M) H → va_D (aP P 51) ((wY cI cZ cC cJ cA P) M) → va_S (aP P 51) s.heap H locs → q_ChipMapModel_compile_123 n' M v2 = some (M', r') → W p l e ({ frames := 5, cells := 0, slots := 0, locals := 109 }) s m args below meth c H locs 0 0 (MQ below (gQi D (aP P 51) ((wY cI cZ cC cJ cA P) M') r') args s 0 0 (aP P 51)) (F0 m 123 ls []) := by
  intro n'
  induction n' with
  | zero => exact fun _ _ _ _ _ _ _ _ _ h => (rs_n h).elim
  | succ n' ih =>
    intro M v2 H locs ls hl hP hD hS h
    rw [q_ChipMapModel_compile_123] at h
    refine lv_iload_n hx hb dX1_compile_123 rfl (lv_at hl 1 rfl) ?_
    refine lv_aload_n hx hb dX1_compile_124 rfl (lv_at hl 0 rfl) ?_
    refine va_get (D := D) (ci := 1) (v := .int (M.1 0 12)) (C := RX1) (T := TX1) (N := 76) hx hb hgt iwX1 hown hK hP 0 gY_0 rfl 12 (Nat.le_of_ble_eq_true rfl) (hgt _ wd_4_213) (fun _ h9 => h9) rfl dX1_compile_125 ?_
    refine lv_icmp_ge hx hb dX1_compile_128 (tgt := 220) rfl (fun hc => ?_) (fun hc => ?_)
    · have h := br_T hc h
      refine lv_aload_n hx hb dX1_compile_220 rfl (lv_at hl 0 rfl) ?_
      refine lv_aload_n hx hb dX1_compile_221 rfl (lv_at hl 0 rfl) ?_
      refine va_get (D := D) (ci := 1) (v := .int (M.1 0 20)) (C := RX1) (T := TX1) (N := 76) hx hb hgt iwX1 hown hK hP 0 gY_0 rfl 20 (Nat.le_of_ble_eq_true rfl) (hgt _ wd_4_221) (fun _ h9 => h9) rfl dX1_compile_222 ?_
      refine pm_put (w := (wY cI cZ cC cJ cA P)) (D := D) (ci := 1) (x := (M.1 0 20)) (ty := .int) (C := RX1) (T := TX1) (N := 76) hx hb hgt iwX1 tyX1 tyX1_ok nmX1 hown hK hP hD hS 0 gY_0 rfl 38 (Nat.le_of_ble_eq_true rfl) (hgt _ wd_4_239) (fun _ h9 => h9) rfl (by decide +kernel) rfl rfl (Nat.le_of_ble_eq_true rfl) (sY_0_38 _) dX1_compile_225 (fun M1 eM1 H locs hP hD hS => ?_)
      have h := lt_o eM1 h
      refine lv_iconst (v := 0) hx hb dX1_compile_228 (by decide) ?_
      refine lv_istore_n hx hb dX1_compile_229 rfl hl (Nat.le_of_ble_eq_true rfl) (lv' := [(2, .int 0), (0, .ref (P 0))]) rfl (fun ls hl => ?_)
      have hl := lv_sub hl [1, 0] (l' := [(0, .ref (P 0)), (2, .int 0)]) rfl
      exact b_ChipMapModel_compile_230 hx hb hml hr hlk hgt hown hK hO hAO 4000 M1 0 H _ ls hl hP hD hS h
    · have h := br_F hc h
      refine lv_aload_n hx hb dX1_compile_131 rfl (lv_at hl 0 rfl) ?_
      refine va_get (D := D) (ci := 1) (v := .ref (P 7)) (C := RX1) (T := TX1) (N := 76) hx hb hgt iwX1 hown hK hP 0 gY_0 rfl 13 (Nat.le_of_ble_eq_true rfl) (hgt _ wd_4_214) (fun _ h9 => h9) rfl dX1_compile_132 ?_
      refine lv_iload_n hx hb dX1_compile_135 rfl (lv_at hl 1 rfl) ?_
      refine va_iald hx hb hK hP 7 0 gY_7 rfl (ix_l h) dX1_compile_136 ?_
      have h := ix_r h
      refine lv_topi (fun x1 ex1 => ?_)
      have h := lt_o ex1 h
      refine lv_istore_n hx hb dX1_compile_137 rfl hl (Nat.le_of_ble_eq_true rfl) (lv' := [(3, .int x1), (0, .ref (P 0)), (2, .int v2)]) rfl (fun ls hl => ?_)
      refine lv_aload_n hx hb dX1_compile_138 rfl (lv_at hl 1 rfl) ?_
      refine va_get (D := D) (ci := 1) (v := .ref (P 23)) (C := RX1) (T := TX1) (N := 76) hx hb hgt iwX1 hown hK hP 0 gY_0 rfl 32 (Nat.le_of_ble_eq_true rfl) (hgt _ wd_4_233) (fun _ h9 => h9) rfl dX1_compile_139 ?_
      refine lv_iload_n hx hb dX1_compile_142 rfl (lv_at hl 0 rfl) ?_
      refine lv_iconst (v := 1) hx hb dX1_compile_143 (by decide) ?_
      refine pm_zast (w := (wY cI cZ cC cJ cA P)) hx hb hK hP hD hS 23 1 gY_23 rfl sY_23 (ix_l h) dX1_compile_144 (fun M2 eM2 H locs hP hD hS => ?_)
      have h := ix_r h
      have h := lt_o eM2 h
      refine lv_aload_n hx hb dX1_compile_145 rfl (lv_at hl 1 rfl) ?_
      refine va_get (D := D) (ci := 1) (v := .ref (P 24)) (C := RX1) (T := TX1) (N := 76) hx hb hgt iwX1 hown hK hP 0 gY_0 rfl 33 (Nat.le_of_ble_eq_true rfl) (hgt _ wd_4_234) (fun _ h9 => h9) rfl dX1_compile_146 ?_
      refine lv_iload_n hx hb dX1_compile_149 rfl (lv_at hl 0 rfl) ?_
      refine lv_aload_n hx hb dX1_compile_150 rfl (lv_at hl 1 rfl) ?_
      refine va_get (D := D) (ci := 1) (v := .ref (P 8)) (C := RX1) (T := TX1) (N := 76) hx hb hgt iwX1 hown hK hP 0 gY_0 rfl 14 (Nat.le_of_ble_eq_true rfl) (hgt _ wd_4_215) (fun _ h9 => h9) rfl dX1_compile_151 ?_
      refine lv_iload_n hx hb dX1_compile_154 rfl (lv_at hl 2 rfl) ?_
      refine va_iald hx hb hK hP 8 0 gY_8 rfl (ix_l h) dX1_compile_155 ?_
      have h := ix_r h
      refine pm_iast (w := (wY cI cZ cC cJ cA P)) hx hb hK hP hD hS 24 0 gY_24 rfl sY_24 (ix_l h) dX1_compile_156 (fun M3 eM3 H locs hP hD hS => ?_)
      have h := ix_r h
      have h := lt_o eM3 h
      refine lv_aload_n hx hb dX1_compile_157 rfl (lv_at hl 1 rfl) ?_
      refine va_get (D := D) (ci := 1) (v := .ref (P 25)) (C := RX1) (T := TX1) (N := 76) hx hb hgt iwX1 hown hK hP 0 gY_0 rfl 34 (Nat.le_of_ble_eq_true rfl) (hgt _ wd_4_235) (fun _ h9 => h9) rfl dX1_compile_158 ?_
      refine lv_iload_n hx hb dX1_compile_161 rfl (lv_at hl 0 rfl) ?_
      refine lv_aload_n hx hb dX1_compile_162 rfl (lv_at hl 1 rfl) ?_
      refine va_get (D := D) (ci := 1) (v := .ref (P 12)) (C := RX1) (T := TX1) (N := 76) hx hb hgt iwX1 hown hK hP 0 gY_0 rfl 18 (Nat.le_of_ble_eq_true rfl) (hgt _ wd_4_219) (fun _ h9 => h9) rfl dX1_compile_163 ?_
      refine lv_iload_n hx hb dX1_compile_166 rfl (lv_at hl 2 rfl) ?_
      refine va_iald hx hb hK hP 12 0 gY_12 rfl (ix_l h) dX1_compile_167 ?_
      have h := ix_r h
      refine pm_iast (w := (wY cI cZ cC cJ cA P)) hx hb hK hP hD hS 25 0 gY_25 rfl sY_25 (ix_l h) dX1_compile_168 (fun M4 eM4 H locs hP hD hS => ?_)
      have h := ix_r h
      have h := lt_o eM4 h
      refine lv_aload_n hx hb dX1_compile_169 rfl (lv_at hl 1 rfl) ?_
      refine va_get (D := D) (ci := 1) (v := .ref (P 26)) (C := RX1) (T := TX1) (N := 76) hx hb hgt iwX1 hown hK hP 0 gY_0 rfl 35 (Nat.le_of_ble_eq_true rfl) (hgt _ wd_4_236) (fun _ h9 => h9) rfl dX1_compile_170 ?_
      refine lv_iload_n hx hb dX1_compile_173 rfl (lv_at hl 0 rfl) ?_
      refine lv_aload_n hx hb dX1_compile_174 rfl (lv_at hl 1 rfl) ?_
      refine va_get (D := D) (ci := 1) (v := .ref (P 10)) (C := RX1) (T := TX1) (N := 76) hx hb hgt iwX1 hown hK hP 0 gY_0 rfl 16 (Nat.le_of_ble_eq_true rfl) (hgt _ wd_4_217) (fun _ h9 => h9) rfl dX1_compile_175 ?_
      refine lv_iload_n hx hb dX1_compile_178 rfl (lv_at hl 2 rfl) ?_
      refine va_iald hx hb hK hP 10 0 gY_10 rfl (ix_l h) dX1_compile_179 ?_
      have h := ix_r h
      refine pm_iast (w := (wY cI cZ cC cJ cA P)) hx hb hK hP hD hS 26 0 gY_26 rfl sY_26 (ix_l h) dX1_compile_180 (fun M5 eM5 H locs hP hD hS => ?_)
      have h := ix_r h
      have h := lt_o eM5 h
      refine lv_aload_n hx hb dX1_compile_181 rfl (lv_at hl 1 rfl) ?_
      refine va_get (D := D) (ci := 1) (v := .ref (P 27)) (C := RX1) (T := TX1) (N := 76) hx hb hgt iwX1 hown hK hP 0 gY_0 rfl 36 (Nat.le_of_ble_eq_true rfl) (hgt _ wd_4_237) (fun _ h9 => h9) rfl dX1_compile_182 ?_
      refine lv_iload_n hx hb dX1_compile_185 rfl (lv_at hl 0 rfl) ?_
      refine lv_aload_n hx hb dX1_compile_186 rfl (lv_at hl 1 rfl) ?_
      refine va_get (D := D) (ci := 1) (v := .ref (P 9)) (C := RX1) (T := TX1) (N := 76) hx hb hgt iwX1 hown hK hP 0 gY_0 rfl 15 (Nat.le_of_ble_eq_true rfl) (hgt _ wd_4_216) (fun _ h9 => h9) rfl dX1_compile_187 ?_
      refine lv_iload_n hx hb dX1_compile_190 rfl (lv_at hl 2 rfl) ?_
      refine va_iald hx hb hK hP 9 0 gY_9 rfl (ix_l h) dX1_compile_191 ?_
      have h := ix_r h
      refine lv_aload_n hx hb dX1_compile_192 rfl (lv_at hl 1 rfl) ?_
      refine va_get (D := D) (ci := 1) (v := .ref (P 10)) (C := RX1) (T := TX1) (N := 76) hx hb hgt iwX1 hown hK hP 0 gY_0 rfl 16 (Nat.le_of_ble_eq_true rfl) (hgt _ wd_4_217) (fun _ h9 => h9) rfl dX1_compile_193 ?_
      refine lv_iload_n hx hb dX1_compile_196 rfl (lv_at hl 2 rfl) ?_
      refine va_iald hx hb hK hP 10 0 gY_10 rfl (ix_l h) dX1_compile_197 ?_
      have h := ix_r h
      refine lv_isub hx hb dX1_compile_198 ?_
      refine lv_iconst (v := 1) hx hb dX1_compile_199 (by decide) ?_
      refine lv_iadd hx hb dX1_compile_200 ?_
      refine pm_iast (w := (wY cI cZ cC cJ cA P)) hx hb hK hP hD hS 27 0 gY_27 rfl sY_27 (ix_l h) dX1_compile_201 (fun M6 eM6 H locs hP hD hS => ?_)
      have h := ix_r h
      have h := lt_o eM6 h
      refine lv_aload_n hx hb dX1_compile_202 rfl (lv_at hl 1 rfl) ?_
      refine va_get (D := D) (ci := 1) (v := .ref (P 28)) (C := RX1) (T := TX1) (N := 76) hx hb hgt iwX1 hown hK hP 0 gY_0 rfl 37 (Nat.le_of_ble_eq_true rfl) (hgt _ wd_4_238) (fun _ h9 => h9) rfl dX1_compile_203 ?_
      refine lv_iload_n hx hb dX1_compile_206 rfl (lv_at hl 0 rfl) ?_
      refine lv_aload_n hx hb dX1_compile_207 rfl (lv_at hl 1 rfl) ?_
      refine va_get (D := D) (ci := 1) (v := .ref (P 11)) (C := RX1) (T := TX1) (N := 76) hx hb hgt iwX1 hown hK hP 0 gY_0 rfl 17 (Nat.le_of_ble_eq_true rfl) (hgt _ wd_4_218) (fun _ h9 => h9) rfl dX1_compile_208 ?_
      refine lv_iload_n hx hb dX1_compile_211 rfl (lv_at hl 2 rfl) ?_
      refine va_iald hx hb hK hP 11 0 gY_11 rfl (ix_l h) dX1_compile_212 ?_
      have h := ix_r h
      refine pm_iast (w := (wY cI cZ cC cJ cA P)) hx hb hK hP hD hS 28 0 gY_28 rfl sY_28 (ix_l h) dX1_compile_213 (fun M7 eM7 H locs hP hD hS => ?_)
      have h := ix_r h
      have h := lt_o eM7 h
      refine lv_iinc (v := (v2 + 1)) hx hb dX1_compile_214 hl (k := 2) rfl rfl (Nat.le_of_ble_eq_true rfl) (lv' := [(2, .int (v2 + 1)), (3, .int x1), (0, .ref (P 0))]) rfl (fun ls hl => ?_)
      refine lv_goto hx hb dX1_compile_217 (tgt := 123) rfl ?_
      have hl := lv_sub hl [2, 0] (l' := [(0, .ref (P 0)), (2, .int (v2 + 1))]) rfl
      exact ih M7 (v2 + 1) H locs ls hl hP hD hS h
set_option maxHeartbeats 4000000 in
set_option maxRecDepth 20000 in
theorem b_ChipMapModel_compile_102 {p : Program} {l : Launch} {e : Env} {s s0 : State} {m : MethodId} {args : Array Value} {below : List Frame} {meth : Method} {c : Code} {D : va_G} {cI cZ cC cJ cA : ClassId} {P : Nat → Nat} {M' : Mm} {r' : Int32}  (hx : p.tables.exec = Jvm.exec) (hb : c.code = cX1_compile) (hml : c.maxLocals = 4) (hr : meth.sig.returnType = (some .int)) (hlk : meth.locks = false) (hgt : ∀ w ∈ GT, w.before args s = true) (hown : s.vm.findClass RX1 = some m.cls) (hK : va_K D vwCl [(cI, .int), (cZ, .boolean), (cC, .char), (cJ, .long), (cA, .array .int)] s) (hO : Old s0 s) (hAO : ∀ q, (aP P 51) q → s0.heap.size ≤ q)  : ∀ (n' : Nat) (M : Mm) (v2 : Int32) (H : Heap) (locs : List Loc) (ls : Array Slot), lv_has ls 4 [(0, .ref (P 0)), (2, .int v2)] → va_P D vwCl ((wY cI cZ cC cJ cA P) M) H → va_D (aP P 51) ((wY cI cZ cC cJ cA P) M) → va_S (aP P 51) s.heap H locs → q_ChipMapModel_compile_102 n' M v2 = some (M', r') → W p l e ({ frames := 5, cells := 0, slots := 0, locals := 109 }) s m args below meth c H locs 0 0 (MQ below (gQi D (aP P 51) ((wY cI cZ cC cJ cA P) M') r') args s 0 0 (aP P 51)) (F0 m 102 ls []) := by
  intro n'
  induction n' with
  | zero => exact fun _ _ _ _ _ _ _ _ _ h => (rs_n h).elim
  | succ n' ih =>
    intro M v2 H locs ls hl hP hD hS h
    rw [q_ChipMapModel_compile_102] at h
    refine lv_iload_n hx hb dX1_compile_102 rfl (lv_at hl 1 rfl) ?_
    refine lv_bipush (v := 26) hx hb dX1_compile_103 (by decide) ?_
    refine lv_icmp_ge hx hb dX1_compile_105 (tgt := 121) rfl (fun hc => ?_) (fun hc => ?_)
    · have h := br_T hc h
      refine lv_iconst (v := 0) hx hb dX1_compile_121 (by decide) ?_
      refine lv_istore_n hx hb dX1_compile_122 rfl hl (Nat.le_of_ble_eq_true rfl) (lv' := [(2, .int 0), (0, .ref (P 0))]) rfl (fun ls hl => ?_)
      have hl := lv_sub hl [1, 0] (l' := [(0, .ref (P 0)), (2, .int 0)]) rfl
      exact b_ChipMapModel_compile_123 hx hb hml hr hlk hgt hown hK hO hAO 4000 M 0 H _ ls hl hP hD hS h
    · have h := br_F hc h
      refine lv_aload_n hx hb dX1_compile_108 rfl (lv_at hl 0 rfl) ?_
      refine va_get (D := D) (ci := 1) (v := .ref (P 23)) (C := RX1) (T := TX1) (N := 76) hx hb hgt iwX1 hown hK hP 0 gY_0 rfl 32 (Nat.le_of_ble_eq_true rfl) (hgt _ wd_4_233) (fun _ h9 => h9) rfl dX1_compile_109 ?_
      refine lv_iload_n hx hb dX1_compile_112 rfl (lv_at hl 1 rfl) ?_
      refine lv_iconst (v := 0) hx hb dX1_compile_113 (by decide) ?_
      refine pm_zast (w := (wY cI cZ cC cJ cA P)) hx hb hK hP hD hS 23 1 gY_23 rfl sY_23 (ix_l h) dX1_compile_114 (fun M1 eM1 H locs hP hD hS => ?_)
      have h := ix_r h
      have h := lt_o eM1 h
      refine lv_iinc (v := (v2 + 1)) hx hb dX1_compile_115 hl (k := 1) rfl rfl (Nat.le_of_ble_eq_true rfl) (lv' := [(2, .int (v2 + 1)), (0, .ref (P 0))]) rfl (fun ls hl => ?_)
      refine lv_goto hx hb dX1_compile_118 (tgt := 102) rfl ?_
      have hl := lv_sub hl [1, 0] (l' := [(0, .ref (P 0)), (2, .int (v2 + 1))]) rfl
      exact ih M1 (v2 + 1) H locs ls hl hP hD hS h
set_option maxHeartbeats 4000000 in
set_option maxRecDepth 20000 in
theorem b_ChipMapModel_compile_50 {p : Program} {l : Launch} {e : Env} {s s0 : State} {m : MethodId} {args : Array Value} {below : List Frame} {meth : Method} {c : Code} {D : va_G} {cI cZ cC cJ cA : ClassId} {P : Nat → Nat} {M' : Mm} {r' : Int32}  (hx : p.tables.exec = Jvm.exec) (hb : c.code = cX1_compile) (hml : c.maxLocals = 4) (hr : meth.sig.returnType = (some .int)) (hlk : meth.locks = false) (hgt : ∀ w ∈ GT, w.before args s = true) (hown : s.vm.findClass RX1 = some m.cls) (hK : va_K D vwCl [(cI, .int), (cZ, .boolean), (cC, .char), (cJ, .long), (cA, .array .int)] s) (hO : Old s0 s) (hAO : ∀ q, (aP P 51) q → s0.heap.size ≤ q)  : ∀ (n' : Nat) (M : Mm) (v2 : Int32) (H : Heap) (locs : List Loc) (ls : Array Slot), lv_has ls 4 [(0, .ref (P 0)), (2, .int v2)] → va_P D vwCl ((wY cI cZ cC cJ cA P) M) H → va_D (aP P 51) ((wY cI cZ cC cJ cA P) M) → va_S (aP P 51) s.heap H locs → q_ChipMapModel_compile_50 n' M v2 = some (M', r') → W p l e ({ frames := 5, cells := 0, slots := 0, locals := 109 }) s m args below meth c H locs 0 0 (MQ below (gQi D (aP P 51) ((wY cI cZ cC cJ cA P) M') r') args s 0 0 (aP P 51)) (F0 m 50 ls []) := by
  intro n'
  induction n' with
  | zero => exact fun _ _ _ _ _ _ _ _ _ h => (rs_n h).elim
  | succ n' ih =>
    intro M v2 H locs ls hl hP hD hS h
    rw [q_ChipMapModel_compile_50] at h
    refine lv_iload_n hx hb dX1_compile_50 rfl (lv_at hl 1 rfl) ?_
    refine lv_aload_n hx hb dX1_compile_51 rfl (lv_at hl 0 rfl) ?_
    refine va_get (D := D) (ci := 1) (v := .int (M.1 0 28)) (C := RX1) (T := TX1) (N := 76) hx hb hgt iwX1 hown hK hP 0 gY_0 rfl 28 (Nat.le_of_ble_eq_true rfl) (hgt _ wd_4_229) (fun _ h9 => h9) rfl dX1_compile_52 ?_
    refine lv_icmp_ge hx hb dX1_compile_55 (tgt := 100) rfl (fun hc => ?_) (fun hc => ?_)
    · have h := br_T hc h
      refine lv_iconst (v := 0) hx hb dX1_compile_100 (by decide) ?_
      refine lv_istore_n hx hb dX1_compile_101 rfl hl (Nat.le_of_ble_eq_true rfl) (lv' := [(2, .int 0), (0, .ref (P 0))]) rfl (fun ls hl => ?_)
      have hl := lv_sub hl [1, 0] (l' := [(0, .ref (P 0)), (2, .int 0)]) rfl
      exact b_ChipMapModel_compile_102 hx hb hml hr hlk hgt hown hK hO hAO 4000 M 0 H _ ls hl hP hD hS h
    · have h := br_F hc h
      refine lv_aload_n hx hb dX1_compile_58 rfl (lv_at hl 0 rfl) ?_
      refine va_get (D := D) (ci := 1) (v := .ref (P 20)) (C := RX1) (T := TX1) (N := 76) hx hb hgt iwX1 hown hK hP 0 gY_0 rfl 29 (Nat.le_of_ble_eq_true rfl) (hgt _ wd_4_230) (fun _ h9 => h9) rfl dX1_compile_59 ?_
      refine lv_iload_n hx hb dX1_compile_62 rfl (lv_at hl 1 rfl) ?_
      refine lv_aload_n hx hb dX1_compile_63 rfl (lv_at hl 0 rfl) ?_
      refine va_get (D := D) (ci := 1) (v := .ref (P 2)) (C := RX1) (T := TX1) (N := 76) hx hb hgt iwX1 hown hK hP 0 gY_0 rfl 7 (Nat.le_of_ble_eq_true rfl) (hgt _ wd_4_208) (fun _ h9 => h9) rfl dX1_compile_64 ?_
      refine lv_iload_n hx hb dX1_compile_67 rfl (lv_at hl 1 rfl) ?_
      refine va_iald hx hb hK hP 2 0 gY_2 rfl (ix_l h) dX1_compile_68 ?_
      have h := ix_r h
      refine pm_iast (w := (wY cI cZ cC cJ cA P)) hx hb hK hP hD hS 20 0 gY_20 rfl sY_20 (ix_l h) dX1_compile_69 (fun M1 eM1 H locs hP hD hS => ?_)
      have h := ix_r h
      have h := lt_o eM1 h
      refine lv_aload_n hx hb dX1_compile_70 rfl (lv_at hl 0 rfl) ?_
      refine va_get (D := D) (ci := 1) (v := .ref (P 21)) (C := RX1) (T := TX1) (N := 76) hx hb hgt iwX1 hown hK hP 0 gY_0 rfl 30 (Nat.le_of_ble_eq_true rfl) (hgt _ wd_4_231) (fun _ h9 => h9) rfl dX1_compile_71 ?_
      refine lv_iload_n hx hb dX1_compile_74 rfl (lv_at hl 1 rfl) ?_
      refine lv_aload_n hx hb dX1_compile_75 rfl (lv_at hl 0 rfl) ?_
      refine va_get (D := D) (ci := 1) (v := .ref (P 3)) (C := RX1) (T := TX1) (N := 76) hx hb hgt iwX1 hown hK hP 0 gY_0 rfl 8 (Nat.le_of_ble_eq_true rfl) (hgt _ wd_4_209) (fun _ h9 => h9) rfl dX1_compile_76 ?_
      refine lv_iload_n hx hb dX1_compile_79 rfl (lv_at hl 1 rfl) ?_
      refine va_iald hx hb hK hP 3 0 gY_3 rfl (ix_l h) dX1_compile_80 ?_
      have h := ix_r h
      refine pm_iast (w := (wY cI cZ cC cJ cA P)) hx hb hK hP hD hS 21 0 gY_21 rfl sY_21 (ix_l h) dX1_compile_81 (fun M2 eM2 H locs hP hD hS => ?_)
      have h := ix_r h
      have h := lt_o eM2 h
      refine lv_aload_n hx hb dX1_compile_82 rfl (lv_at hl 0 rfl) ?_
      refine va_get (D := D) (ci := 1) (v := .ref (P 22)) (C := RX1) (T := TX1) (N := 76) hx hb hgt iwX1 hown hK hP 0 gY_0 rfl 31 (Nat.le_of_ble_eq_true rfl) (hgt _ wd_4_232) (fun _ h9 => h9) rfl dX1_compile_83 ?_
      refine lv_iload_n hx hb dX1_compile_86 rfl (lv_at hl 1 rfl) ?_
      refine lv_aload_n hx hb dX1_compile_87 rfl (lv_at hl 0 rfl) ?_
      refine va_get (D := D) (ci := 1) (v := .ref (P 4)) (C := RX1) (T := TX1) (N := 76) hx hb hgt iwX1 hown hK hP 0 gY_0 rfl 9 (Nat.le_of_ble_eq_true rfl) (hgt _ wd_4_210) (fun _ h9 => h9) rfl dX1_compile_88 ?_
      refine lv_iload_n hx hb dX1_compile_91 rfl (lv_at hl 1 rfl) ?_
      refine va_iald hx hb hK hP 4 0 gY_4 rfl (ix_l h) dX1_compile_92 ?_
      have h := ix_r h
      refine pm_iast (w := (wY cI cZ cC cJ cA P)) hx hb hK hP hD hS 22 0 gY_22 rfl sY_22 (ix_l h) dX1_compile_93 (fun M3 eM3 H locs hP hD hS => ?_)
      have h := ix_r h
      have h := lt_o eM3 h
      refine lv_iinc (v := (v2 + 1)) hx hb dX1_compile_94 hl (k := 1) rfl rfl (Nat.le_of_ble_eq_true rfl) (lv' := [(2, .int (v2 + 1)), (0, .ref (P 0))]) rfl (fun ls hl => ?_)
      refine lv_goto hx hb dX1_compile_97 (tgt := 50) rfl ?_
      have hl := lv_sub hl [1, 0] (l' := [(0, .ref (P 0)), (2, .int (v2 + 1))]) rfl
      exact ih M3 (v2 + 1) H locs ls hl hP hD hS h
set_option maxHeartbeats 4000000 in
set_option maxRecDepth 20000 in
theorem b_ChipMapModel_compile_0 {p : Program} {l : Launch} {e : Env} {s s0 : State} {m : MethodId} {args : Array Value} {below : List Frame} {meth : Method} {c : Code} {D : va_G} {cI cZ cC cJ cA : ClassId} {P : Nat → Nat} {M' : Mm} {r' : Int32}  (hx : p.tables.exec = Jvm.exec) (hb : c.code = cX1_compile) (hml : c.maxLocals = 4) (hr : meth.sig.returnType = (some .int)) (hlk : meth.locks = false) (hgt : ∀ w ∈ GT, w.before args s = true) (hown : s.vm.findClass RX1 = some m.cls) (hK : va_K D vwCl [(cI, .int), (cZ, .boolean), (cC, .char), (cJ, .long), (cA, .array .int)] s) (hO : Old s0 s) (hAO : ∀ q, (aP P 51) q → s0.heap.size ≤ q)  : ∀ (M : Mm)  (H : Heap) (locs : List Loc) (ls : Array Slot), lv_has ls 4 [(0, .ref (P 0))] → va_P D vwCl ((wY cI cZ cC cJ cA P) M) H → va_D (aP P 51) ((wY cI cZ cC cJ cA P) M) → va_S (aP P 51) s.heap H locs → q_ChipMapModel_compile M = some (M', r') → W p l e ({ frames := 5, cells := 0, slots := 0, locals := 109 }) s m args below meth c H locs 0 0 (MQ below (gQi D (aP P 51) ((wY cI cZ cC cJ cA P) M') r') args s 0 0 (aP P 51)) (F0 m 0 ls []) := by
  intro M H locs ls hl hP hD hS h
  unfold q_ChipMapModel_compile at h
  refine lv_aload_n hx hb dX1_compile_0 rfl (lv_at hl 0 rfl) ?_
  refine lv_iconst (v := 0) hx hb dX1_compile_1 (by decide) ?_
  refine pm_put (w := (wY cI cZ cC cJ cA P)) (D := D) (ci := 1) (x := 0) (ty := .int) (C := RX1) (T := TX1) (N := 76) hx hb hgt iwX1 tyX1 tyX1_ok nmX1 hown hK hP hD hS 0 gY_0 rfl 4 (Nat.le_of_ble_eq_true rfl) (hgt _ wd_4_205) (fun _ h9 => h9) rfl (by decide +kernel) rfl rfl (Nat.le_of_ble_eq_true rfl) (sY_0_4 _) dX1_compile_2 (fun M1 eM1 H locs hP hD hS => ?_)
  have h := lt_o eM1 h
  refine lv_aload_n hx hb dX1_compile_5 rfl (lv_at hl 0 rfl) ?_
  refine lv_iconst (v := 0) hx hb dX1_compile_6 (by decide) ?_
  refine pm_put (w := (wY cI cZ cC cJ cA P)) (D := D) (ci := 1) (x := 0) (ty := .int) (C := RX1) (T := TX1) (N := 76) hx hb hgt iwX1 tyX1 tyX1_ok nmX1 hown hK hP hD hS 0 gY_0 rfl 5 (Nat.le_of_ble_eq_true rfl) (hgt _ wd_4_206) (fun _ h9 => h9) rfl (by decide +kernel) rfl rfl (Nat.le_of_ble_eq_true rfl) (sY_0_5 _) dX1_compile_7 (fun M2 eM2 H locs hP hD hS => ?_)
  have h := lt_o eM2 h
  refine lv_aload_n hx hb dX1_compile_10 rfl (lv_at hl 0 rfl) ?_
  obtain ⟨M3, r4, hq, h⟩ := cal_o h
  refine cx_i (va_runV (As := []) (rest := []) ⟨hx, hb, hml, hown, hgt⟩ (z_ChipMapModel_readAll l D cI cZ cC cJ cA P s0 hAO M2 M3 r4 hq) (cwV 0 hgt (gV wd_5_200 wd_5_202 sl__ChipMapModel____ChipMapModel___readAll_____Z_____ChipMapModel___readAll_____Z__ wd_0_15 wd_5_203) rfl rfl rfl (by decide +kernel) ⟨Nat.le_of_ble_eq_true rfl, Nat.le_of_ble_eq_true rfl⟩) (prV hP hK hD hO hAO hS (va_recv hK hP (ci := 1) (q0 := 0) rfl gY_0)) rfl rfl hl.1 rfl (lv_room (Nat.le_of_ble_eq_true rfl)) dX1_compile_11 ⟨Nat.le_of_ble_eq_true rfl, Nat.le_of_ble_eq_true rfl⟩) hS (fun H locs hP hD hS => ?_)
  refine lv_istore_n hx hb dX1_compile_14 rfl hl (Nat.le_of_ble_eq_true rfl) (lv' := [(1, .int r4), (0, .ref (P 0))]) rfl (fun ls hl => ?_)
  refine lv_aload_n hx hb dX1_compile_15 rfl (lv_at hl 1 rfl) ?_
  refine lv_iconst (v := 0) hx hb dX1_compile_16 (by decide) ?_
  refine pm_put (w := (wY cI cZ cC cJ cA P)) (D := D) (ci := 1) (x := 0) (ty := .int) (C := RX1) (T := TX1) (N := 76) hx hb hgt iwX1 tyX1 tyX1_ok nmX1 hown hK hP hD hS 0 gY_0 rfl 2 (Nat.le_of_ble_eq_true rfl) (hgt _ wd_4_203) (fun _ h9 => h9) rfl (by decide +kernel) rfl rfl (Nat.le_of_ble_eq_true rfl) (sY_0_2 _) dX1_compile_17 (fun M5 eM5 H locs hP hD hS => ?_)
  have h := lt_o eM5 h
  refine lv_iload_n hx hb dX1_compile_20 rfl (lv_at hl 0 rfl) ?_
  refine lv_if_ne hx hb dX1_compile_21 (tgt := 30) rfl (fun hc => ?_) (fun hc => ?_)
  · have h := br_F hc h
    refine lv_aload_n hx hb dX1_compile_30 rfl (lv_at hl 1 rfl) ?_
    refine lv_iconst (v := 0) hx hb dX1_compile_31 (by decide) ?_
    refine pm_put (w := (wY cI cZ cC cJ cA P)) (D := D) (ci := 1) (x := 0) (ty := .int) (C := RX1) (T := TX1) (N := 76) hx hb hgt iwX1 tyX1 tyX1_ok nmX1 hown hK hP hD hS 0 gY_0 rfl 0 (Nat.le_of_ble_eq_true rfl) (hgt _ wd_4_201) (fun _ h9 => h9) rfl (by decide +kernel) rfl rfl (Nat.le_of_ble_eq_true rfl) (sY_0_0 _) dX1_compile_32 (fun M6 eM6 H locs hP hD hS => ?_)
    have h := lt_o eM6 h
    refine lv_aload_n hx hb dX1_compile_35 rfl (lv_at hl 1 rfl) ?_
    refine lv_iconst (v := 1) hx hb dX1_compile_36 (by decide) ?_
    refine pm_put (w := (wY cI cZ cC cJ cA P)) (D := D) (ci := 1) (x := 1) (ty := .boolean) (C := RX1) (T := TX1) (N := 76) hx hb hgt iwX1 tyX1 tyX1_ok nmX1 hown hK hP hD hS 0 gY_0 rfl 27 (Nat.le_of_ble_eq_true rfl) (hgt _ wd_4_228) (fun _ h9 => h9) rfl (by decide +kernel) rfl rfl (Nat.le_of_ble_eq_true rfl) (sY_0_27 _) dX1_compile_37 (fun M7 eM7 H locs hP hD hS => ?_)
    have h := lt_o eM7 h
    refine lv_aload_n hx hb dX1_compile_40 rfl (lv_at hl 1 rfl) ?_
    refine lv_aload_n hx hb dX1_compile_41 rfl (lv_at hl 1 rfl) ?_
    refine va_get (D := D) (ci := 1) (v := .int (M7.1 0 6)) (C := RX1) (T := TX1) (N := 76) hx hb hgt iwX1 hown hK hP 0 gY_0 rfl 6 (Nat.le_of_ble_eq_true rfl) (hgt _ wd_4_207) (fun _ h9 => h9) rfl dX1_compile_42 ?_
    refine pm_put (w := (wY cI cZ cC cJ cA P)) (D := D) (ci := 1) (x := (M7.1 0 6)) (ty := .int) (C := RX1) (T := TX1) (N := 76) hx hb hgt iwX1 tyX1 tyX1_ok nmX1 hown hK hP hD hS 0 gY_0 rfl 28 (Nat.le_of_ble_eq_true rfl) (hgt _ wd_4_229) (fun _ h9 => h9) rfl (by decide +kernel) rfl rfl (Nat.le_of_ble_eq_true rfl) (sY_0_28 _) dX1_compile_45 (fun M8 eM8 H locs hP hD hS => ?_)
    have h := lt_o eM8 h
    refine lv_iconst (v := 0) hx hb dX1_compile_48 (by decide) ?_
    refine lv_istore_n hx hb dX1_compile_49 rfl hl (Nat.le_of_ble_eq_true rfl) (lv' := [(2, .int 0), (1, .int r4), (0, .ref (P 0))]) rfl (fun ls hl => ?_)
    have hl := lv_sub hl [2, 0] (l' := [(0, .ref (P 0)), (2, .int 0)]) rfl
    exact b_ChipMapModel_compile_50 hx hb hml hr hlk hgt hown hK hO hAO 4000 M8 0 H _ ls hl hP hD hS h
  · have h := br_T hc h
    refine lv_aload_n hx hb dX1_compile_24 rfl (lv_at hl 1 rfl) ?_
    refine lv_iconst (v := 1) hx hb dX1_compile_25 (by decide) ?_
    obtain ⟨M6, r7, hq, h⟩ := cal_o h
    refine cx_i (va_runV (As := [.int 1]) (rest := []) ⟨hx, hb, hml, hown, hgt⟩ (z_ChipMapModel_raise l D cI cZ cC cJ cA P s0 hAO M5 1 M6 r7 hq) (cwV 1 hgt (gV wd_6_33 wd_6_35 sl__ChipMapModel____ChipMapModel___raise____I_I_____ChipMapModel___raise____I_I__ wd_0_15 wd_6_36) rfl rfl rfl (by decide +kernel) ⟨Nat.le_of_ble_eq_true rfl, Nat.le_of_ble_eq_true rfl⟩) (prV hP hK hD hO hAO hS (va_recv hK hP (ci := 1) (q0 := 0) rfl gY_0)) rfl rfl hl.1 rfl (lv_room (Nat.le_of_ble_eq_true rfl)) dX1_compile_26 ⟨Nat.le_of_ble_eq_true rfl, Nat.le_of_ble_eq_true rfl⟩) hS (fun H locs hP hD hS => ?_)
    exact rt_i (w := (wY cI cZ cC cJ cA P)) hx hb hr hlk hP hD hS h dX1_compile_29
set_option maxHeartbeats 4000000 in
set_option maxRecDepth 20000 in
theorem z_ChipMapModel_compile (l : Launch) (D : va_G) (cI cZ cC cJ cA : ClassId) (P : Nat → Nat) (s0 : State) (hAO : ∀ q, (aP P 51) q → s0.heap.size ≤ q) (M : Mm)  (M' : Mm) (r' : Int32) (h : q_ChipMapModel_compile M = some (M', r')) : Met l yX1_compile wsX1_compile ({ frames := 5, cells := 0, slots := 0, locals := 109 }) (va_Pc [.ref (P 0)] (gPre s0 D [(cI, .int), (cZ, .boolean), (cC, .char), (cJ, .long), (cA, .array .int)] (aP P 51) ((wY cI cZ cC cJ cA P) M))) (gQi D (aP P 51) ((wY cI cZ cC cJ cA P) M') r') 0 0 (aP P 51) := by
  refine Met.ofW (cc := cX1_compile) (maxL := 4) (ret := (some .int)) (by decide) rfl ?_
  intro p e s m args below meth c s₁ B hml hv
  obtain ⟨rfl, hP, hK, hD, hO⟩ := hv
  have hx := B.exec
  have hb := B.bytes
  have hr := B.returns
  have hlk := B.notSynchronized
  have hgt := fun w (h : w ∈ GT) => atoms_spec (ws := wsX1_compile) B.pre w (List.mem_cons_of_mem _ h)
  have hown : s.vm.findClass RX1 = some m.cls := findClass_of_methodNamed B.named
  have hS : va_S (aP P 51) s.heap s.heap [] := va_S.rf
  have hl := lv_entry ([.ref (P 0)]) (n := 4) (Nat.le_of_ble_eq_true rfl)
  rw [lg_entry_eq]
  generalize (lg_sl ([.ref (P 0)]) ++ List.replicate (4 - (lg_sl ([.ref (P 0)])).length) Slot.unset).toArray = ls at hl ⊢
  have hl : lv_has ls 4 [(0, .ref (P 0))] := hl
  exact b_ChipMapModel_compile_0 hx hb hml hr hlk hgt hown hK hO hAO M s.heap [] ls hl hP hD hS h
end
section
def q_ChipMapModel_fault  (M : Mm) (a1 : Int32) : Rs := lt' (stI M 0 (upd (M.1 0) 0 0)) fun M1 => if a1 = 0 then (some (M1, (M1.1 0 4))) else (if a1 = 1 then (some (M1, (M1.1 0 5))) else (some (M1, (-1))))
set_option maxHeartbeats 4000000 in
set_option maxRecDepth 20000 in
theorem b_ChipMapModel_fault_0 {p : Program} {l : Launch} {e : Env} {s s0 : State} {m : MethodId} {args : Array Value} {below : List Frame} {meth : Method} {c : Code} {D : va_G} {cI cZ cC cJ cA : ClassId} {P : Nat → Nat} {M' : Mm} {r' : Int32}  (hx : p.tables.exec = Jvm.exec) (hb : c.code = cX1_fault) (hml : c.maxLocals = 2) (hr : meth.sig.returnType = (some .int)) (hlk : meth.locks = false) (hgt : ∀ w ∈ GT, w.before args s = true) (hown : s.vm.findClass RX1 = some m.cls) (hK : va_K D vwCl [(cI, .int), (cZ, .boolean), (cC, .char), (cJ, .long), (cA, .array .int)] s) (hO : Old s0 s) (hAO : ∀ q, (aP P 51) q → s0.heap.size ≤ q)  : ∀ (M : Mm) (a1 : Int32) (H : Heap) (locs : List Loc) (ls : Array Slot), lv_has ls 2 [(0, .ref (P 0)), (1, .int a1)] → va_P D vwCl ((wY cI cZ cC cJ cA P) M) H → va_D (aP P 51) ((wY cI cZ cC cJ cA P) M) → va_S (aP P 51) s.heap H locs → q_ChipMapModel_fault M a1 = some (M', r') → W p l e ({ frames := 0, cells := 0, slots := 0, locals := 0 }) s m args below meth c H locs 0 0 (MQ below (gQi D (aP P 51) ((wY cI cZ cC cJ cA P) M') r') args s 0 0 (aP P 51)) (F0 m 0 ls []) := by
  intro M a1 H locs ls hl hP hD hS h
  unfold q_ChipMapModel_fault at h
  refine lv_aload_n hx hb dX1_fault_0 rfl (lv_at hl 0 rfl) ?_
  refine lv_iconst (v := 0) hx hb dX1_fault_1 (by decide) ?_
  refine pm_put (w := (wY cI cZ cC cJ cA P)) (D := D) (ci := 1) (x := 0) (ty := .int) (C := RX1) (T := TX1) (N := 76) hx hb hgt iwX1 tyX1 tyX1_ok nmX1 hown hK hP hD hS 0 gY_0 rfl 0 (Nat.le_of_ble_eq_true rfl) (hgt _ wd_4_201) (fun _ h9 => h9) rfl (by decide +kernel) rfl rfl (Nat.le_of_ble_eq_true rfl) (sY_0_0 _) dX1_fault_2 (fun M1 eM1 H locs hP hD hS => ?_)
  have h := lt_o eM1 h
  refine lv_iload_n hx hb dX1_fault_5 rfl (lv_at hl 1 rfl) ?_
  refine lv_if_ne hx hb dX1_fault_6 (tgt := 16) rfl (fun hc => ?_) (fun hc => ?_)
  · have h := br_F hc h
    refine lv_iload_n hx hb dX1_fault_16 rfl (lv_at hl 1 rfl) ?_
    refine lv_iconst (v := 1) hx hb dX1_fault_17 (by decide) ?_
    refine lv_icmp_ne hx hb dX1_fault_18 (tgt := 28) rfl (fun hc => ?_) (fun hc => ?_)
    · have h := br_F hc h
      refine lv_iconst (v := (-1)) hx hb dX1_fault_28 (by decide) ?_
      exact rt_i (w := (wY cI cZ cC cJ cA P)) hx hb hr hlk hP hD hS h dX1_fault_29
    · have h := br_T hc h
      refine lv_aload_n hx hb dX1_fault_21 rfl (lv_at hl 0 rfl) ?_
      refine va_get (D := D) (ci := 1) (v := .int (M1.1 0 5)) (C := RX1) (T := TX1) (N := 76) hx hb hgt iwX1 hown hK hP 0 gY_0 rfl 5 (Nat.le_of_ble_eq_true rfl) (hgt _ wd_4_206) (fun _ h9 => h9) rfl dX1_fault_22 ?_
      refine lv_goto hx hb dX1_fault_25 (tgt := 29) rfl ?_
      exact rt_i (w := (wY cI cZ cC cJ cA P)) hx hb hr hlk hP hD hS h dX1_fault_29
  · have h := br_T hc h
    refine lv_aload_n hx hb dX1_fault_9 rfl (lv_at hl 0 rfl) ?_
    refine va_get (D := D) (ci := 1) (v := .int (M1.1 0 4)) (C := RX1) (T := TX1) (N := 76) hx hb hgt iwX1 hown hK hP 0 gY_0 rfl 4 (Nat.le_of_ble_eq_true rfl) (hgt _ wd_4_205) (fun _ h9 => h9) rfl dX1_fault_10 ?_
    refine lv_goto hx hb dX1_fault_13 (tgt := 29) rfl ?_
    exact rt_i (w := (wY cI cZ cC cJ cA P)) hx hb hr hlk hP hD hS h dX1_fault_29
set_option maxHeartbeats 4000000 in
set_option maxRecDepth 20000 in
theorem z_ChipMapModel_fault (l : Launch) (D : va_G) (cI cZ cC cJ cA : ClassId) (P : Nat → Nat) (s0 : State) (hAO : ∀ q, (aP P 51) q → s0.heap.size ≤ q) (M : Mm) (a1 : Int32) (M' : Mm) (r' : Int32) (h : q_ChipMapModel_fault M a1 = some (M', r')) : Met l yX1_fault wsX1_fault ({ frames := 0, cells := 0, slots := 0, locals := 0 }) (va_Pc [.ref (P 0), .int a1] (gPre s0 D [(cI, .int), (cZ, .boolean), (cC, .char), (cJ, .long), (cA, .array .int)] (aP P 51) ((wY cI cZ cC cJ cA P) M))) (gQi D (aP P 51) ((wY cI cZ cC cJ cA P) M') r') 0 0 (aP P 51) := by
  refine Met.ofW (cc := cX1_fault) (maxL := 2) (ret := (some .int)) (by decide) rfl ?_
  intro p e s m args below meth c s₁ B hml hv
  obtain ⟨rfl, hP, hK, hD, hO⟩ := hv
  have hx := B.exec
  have hb := B.bytes
  have hr := B.returns
  have hlk := B.notSynchronized
  have hgt := fun w (h : w ∈ GT) => atoms_spec (ws := wsX1_fault) B.pre w (List.mem_cons_of_mem _ h)
  have hown : s.vm.findClass RX1 = some m.cls := findClass_of_methodNamed B.named
  have hS : va_S (aP P 51) s.heap s.heap [] := va_S.rf
  have hl := lv_entry ([.ref (P 0), .int a1]) (n := 2) (Nat.le_of_ble_eq_true rfl)
  rw [lg_entry_eq]
  generalize (lg_sl ([.ref (P 0), .int a1]) ++ List.replicate (2 - (lg_sl ([.ref (P 0), .int a1])).length) Slot.unset).toArray = ls at hl ⊢
  have hl : lv_has ls 2 [(0, .ref (P 0)), (1, .int a1)] := hl
  exact b_ChipMapModel_fault_0 hx hb hml hr hlk hgt hown hK hO hAO M a1 s.heap [] ls hl hP hD hS h
def q_ChipMapModel_copyDevice_82  : Nat → Mm → Int32 → Int32 → Int32 → Rs
  | 0, _, _, _, _ => none
  | n' + 1, M, v1, v2, v3 => if 12 ≤ v3 then (some (M, 0)) else (ix ((12 * v1) + v3) 36 <| ix ((12 * v2) + v3) 36 <| lt' (stI M 36 (upd (M.1 36) (((12 * v2) + v3) : Int32).toNatClampNeg (vp_nar .boolean (M.1 36 (((12 * v1) + v3) : Int32).toNatClampNeg)))) fun M1 => q_ChipMapModel_copyDevice_82 n' M1 v1 v2 (v3 + 1))
def q_ChipMapModel_copyDevice_2  : Nat → Mm → Int32 → Int32 → Int32 → Rs
  | 0, _, _, _, _ => none
  | n' + 1, M, v1, v2, v3 => if 26 ≤ v3 then (q_ChipMapModel_copyDevice_82 4000 M v1 v2 0) else (ix ((26 * v1) + v3) 78 <| ix ((26 * v2) + v3) 78 <| lt' (stI M 33 (upd (M.1 33) (((26 * v2) + v3) : Int32).toNatClampNeg (M.1 33 (((26 * v1) + v3) : Int32).toNatClampNeg))) fun M1 => ix ((26 * v1) + v3) 78 <| ix ((26 * v2) + v3) 78 <| lt' (stI M1 34 (upd (M1.1 34) (((26 * v2) + v3) : Int32).toNatClampNeg (M1.1 34 (((26 * v1) + v3) : Int32).toNatClampNeg))) fun M2 => ix ((26 * v1) + v3) 78 <| ix ((26 * v2) + v3) 78 <| lt' (stI M2 35 (upd (M2.1 35) (((26 * v2) + v3) : Int32).toNatClampNeg (M2.1 35 (((26 * v1) + v3) : Int32).toNatClampNeg))) fun M3 => q_ChipMapModel_copyDevice_2 n' M3 v1 v2 (v3 + 1))
def q_ChipMapModel_copyDevice  (M : Mm) (a1 : Int32) (a2 : Int32) : Rs := q_ChipMapModel_copyDevice_2 4000 M a1 a2 0
set_option maxHeartbeats 4000000 in
set_option maxRecDepth 20000 in
theorem b_ChipMapModel_copyDevice_82 {p : Program} {l : Launch} {e : Env} {s s0 : State} {m : MethodId} {args : Array Value} {below : List Frame} {meth : Method} {c : Code} {D : va_G} {cI cZ cC cJ cA : ClassId} {P : Nat → Nat} {M' : Mm} {r' : Int32}  (hx : p.tables.exec = Jvm.exec) (hb : c.code = cX1_copyDevice) (hml : c.maxLocals = 4) (hr : meth.sig.returnType = none) (hlk : meth.locks = false) (hgt : ∀ w ∈ GT, w.before args s = true) (hown : s.vm.findClass RX1 = some m.cls) (hK : va_K D vwCl [(cI, .int), (cZ, .boolean), (cC, .char), (cJ, .long), (cA, .array .int)] s) (hO : Old s0 s) (hAO : ∀ q, (aP P 51) q → s0.heap.size ≤ q)  : ∀ (n' : Nat) (M : Mm) (v1 : Int32) (v2 : Int32) (v3 : Int32) (H : Heap) (locs : List Loc) (ls : Array Slot), lv_has ls 4 [(0, .ref (P 0)), (1, .int v1), (2, .int v2), (3, .int v3)] → va_P D vwCl ((wY cI cZ cC cJ cA P) M) H → va_D (aP P 51) ((wY cI cZ cC cJ cA P) M) → va_S (aP P 51) s.heap H locs → q_ChipMapModel_copyDevice_82 n' M v1 v2 v3 = some (M', r') → W p l e ({ frames := 0, cells := 0, slots := 0, locals := 0 }) s m args below meth c H locs 0 0 (MQ below (gQv D (aP P 51) ((wY cI cZ cC cJ cA P) M')) args s 0 0 (aP P 51)) (F0 m 82 ls []) := by
  intro n'
  induction n' with
  | zero => exact fun _ _ _ _ _ _ _ _ _ _ _ h => (rs_n h).elim
  | succ n' ih =>
    intro M v1 v2 v3 H locs ls hl hP hD hS h
    rw [q_ChipMapModel_copyDevice_82] at h
    refine lv_iload_n hx hb dX1_copyDevice_82 rfl (lv_at hl 3 rfl) ?_
    refine lv_bipush (v := 12) hx hb dX1_copyDevice_83 (by decide) ?_
    refine lv_icmp_ge hx hb dX1_copyDevice_85 (tgt := 116) rfl (fun hc => ?_) (fun hc => ?_)
    · have h := br_T hc h
      exact rt_v (w := (wY cI cZ cC cJ cA P)) (r := r') hx hb hr hlk hP hD hS h dX1_copyDevice_116
    · have h := br_F hc h
      refine lv_aload_n hx hb dX1_copyDevice_88 rfl (lv_at hl 0 rfl) ?_
      refine va_get (D := D) (ci := 1) (v := .ref (P 36)) (C := RX1) (T := TX1) (N := 76) hx hb hgt iwX1 hown hK hP 0 gY_0 rfl 46 (Nat.le_of_ble_eq_true rfl) (hgt _ wd_5_7) (fun _ h9 => h9) rfl dX1_copyDevice_89 ?_
      refine lv_bipush (v := 12) hx hb dX1_copyDevice_92 (by decide) ?_
      refine lv_iload_n hx hb dX1_copyDevice_94 rfl (lv_at hl 2 rfl) ?_
      refine lv_imul hx hb dX1_copyDevice_95 ?_
      refine lv_iload_n hx hb dX1_copyDevice_96 rfl (lv_at hl 3 rfl) ?_
      refine lv_iadd hx hb dX1_copyDevice_97 ?_
      refine lv_aload_n hx hb dX1_copyDevice_98 rfl (lv_at hl 0 rfl) ?_
      refine va_get (D := D) (ci := 1) (v := .ref (P 36)) (C := RX1) (T := TX1) (N := 76) hx hb hgt iwX1 hown hK hP 0 gY_0 rfl 46 (Nat.le_of_ble_eq_true rfl) (hgt _ wd_5_7) (fun _ h9 => h9) rfl dX1_copyDevice_99 ?_
      refine lv_bipush (v := 12) hx hb dX1_copyDevice_102 (by decide) ?_
      refine lv_iload_n hx hb dX1_copyDevice_104 rfl (lv_at hl 1 rfl) ?_
      refine lv_imul hx hb dX1_copyDevice_105 ?_
      refine lv_iload_n hx hb dX1_copyDevice_106 rfl (lv_at hl 3 rfl) ?_
      refine lv_iadd hx hb dX1_copyDevice_107 ?_
      refine va_zald hx hb hK hP 36 1 gY_36 rfl (ix_l h) dX1_copyDevice_108 ?_
      have h := ix_r h
      refine pm_zast (w := (wY cI cZ cC cJ cA P)) hx hb hK hP hD hS 36 1 gY_36 rfl sY_36 (ix_l h) dX1_copyDevice_109 (fun M1 eM1 H locs hP hD hS => ?_)
      have h := ix_r h
      have h := lt_o eM1 h
      refine lv_iinc (v := (v3 + 1)) hx hb dX1_copyDevice_110 hl (k := 3) rfl rfl (Nat.le_of_ble_eq_true rfl) (lv' := [(3, .int (v3 + 1)), (0, .ref (P 0)), (1, .int v1), (2, .int v2)]) rfl (fun ls hl => ?_)
      refine lv_goto hx hb dX1_copyDevice_113 (tgt := 82) rfl ?_
      have hl := lv_sub hl [1, 2, 3, 0] (l' := [(0, .ref (P 0)), (1, .int v1), (2, .int v2), (3, .int (v3 + 1))]) rfl
      exact ih M1 v1 v2 (v3 + 1) H locs ls hl hP hD hS h
set_option maxHeartbeats 4000000 in
set_option maxRecDepth 20000 in
theorem b_ChipMapModel_copyDevice_2 {p : Program} {l : Launch} {e : Env} {s s0 : State} {m : MethodId} {args : Array Value} {below : List Frame} {meth : Method} {c : Code} {D : va_G} {cI cZ cC cJ cA : ClassId} {P : Nat → Nat} {M' : Mm} {r' : Int32}  (hx : p.tables.exec = Jvm.exec) (hb : c.code = cX1_copyDevice) (hml : c.maxLocals = 4) (hr : meth.sig.returnType = none) (hlk : meth.locks = false) (hgt : ∀ w ∈ GT, w.before args s = true) (hown : s.vm.findClass RX1 = some m.cls) (hK : va_K D vwCl [(cI, .int), (cZ, .boolean), (cC, .char), (cJ, .long), (cA, .array .int)] s) (hO : Old s0 s) (hAO : ∀ q, (aP P 51) q → s0.heap.size ≤ q)  : ∀ (n' : Nat) (M : Mm) (v1 : Int32) (v2 : Int32) (v3 : Int32) (H : Heap) (locs : List Loc) (ls : Array Slot), lv_has ls 4 [(0, .ref (P 0)), (1, .int v1), (2, .int v2), (3, .int v3)] → va_P D vwCl ((wY cI cZ cC cJ cA P) M) H → va_D (aP P 51) ((wY cI cZ cC cJ cA P) M) → va_S (aP P 51) s.heap H locs → q_ChipMapModel_copyDevice_2 n' M v1 v2 v3 = some (M', r') → W p l e ({ frames := 0, cells := 0, slots := 0, locals := 0 }) s m args below meth c H locs 0 0 (MQ below (gQv D (aP P 51) ((wY cI cZ cC cJ cA P) M')) args s 0 0 (aP P 51)) (F0 m 2 ls []) := by
  intro n'
  induction n' with
  | zero => exact fun _ _ _ _ _ _ _ _ _ _ _ h => (rs_n h).elim
  | succ n' ih =>
    intro M v1 v2 v3 H locs ls hl hP hD hS h
    rw [q_ChipMapModel_copyDevice_2] at h
    refine lv_iload_n hx hb dX1_copyDevice_2 rfl (lv_at hl 3 rfl) ?_
    refine lv_bipush (v := 26) hx hb dX1_copyDevice_3 (by decide) ?_
    refine lv_icmp_ge hx hb dX1_copyDevice_5 (tgt := 80) rfl (fun hc => ?_) (fun hc => ?_)
    · have h := br_T hc h
      refine lv_iconst (v := 0) hx hb dX1_copyDevice_80 (by decide) ?_
      refine lv_istore_n hx hb dX1_copyDevice_81 rfl hl (Nat.le_of_ble_eq_true rfl) (lv' := [(3, .int 0), (0, .ref (P 0)), (1, .int v1), (2, .int v2)]) rfl (fun ls hl => ?_)
      have hl := lv_sub hl [1, 2, 3, 0] (l' := [(0, .ref (P 0)), (1, .int v1), (2, .int v2), (3, .int 0)]) rfl
      exact b_ChipMapModel_copyDevice_82 hx hb hml hr hlk hgt hown hK hO hAO 4000 M v1 v2 0 H _ ls hl hP hD hS h
    · have h := br_F hc h
      refine lv_aload_n hx hb dX1_copyDevice_8 rfl (lv_at hl 0 rfl) ?_
      refine va_get (D := D) (ci := 1) (v := .ref (P 33)) (C := RX1) (T := TX1) (N := 76) hx hb hgt iwX1 hown hK hP 0 gY_0 rfl 43 (Nat.le_of_ble_eq_true rfl) (hgt _ wd_5_4) (fun _ h9 => h9) rfl dX1_copyDevice_9 ?_
      refine lv_bipush (v := 26) hx hb dX1_copyDevice_12 (by decide) ?_
      refine lv_iload_n hx hb dX1_copyDevice_14 rfl (lv_at hl 2 rfl) ?_
      refine lv_imul hx hb dX1_copyDevice_15 ?_
      refine lv_iload_n hx hb dX1_copyDevice_16 rfl (lv_at hl 3 rfl) ?_
      refine lv_iadd hx hb dX1_copyDevice_17 ?_
      refine lv_aload_n hx hb dX1_copyDevice_18 rfl (lv_at hl 0 rfl) ?_
      refine va_get (D := D) (ci := 1) (v := .ref (P 33)) (C := RX1) (T := TX1) (N := 76) hx hb hgt iwX1 hown hK hP 0 gY_0 rfl 43 (Nat.le_of_ble_eq_true rfl) (hgt _ wd_5_4) (fun _ h9 => h9) rfl dX1_copyDevice_19 ?_
      refine lv_bipush (v := 26) hx hb dX1_copyDevice_22 (by decide) ?_
      refine lv_iload_n hx hb dX1_copyDevice_24 rfl (lv_at hl 1 rfl) ?_
      refine lv_imul hx hb dX1_copyDevice_25 ?_
      refine lv_iload_n hx hb dX1_copyDevice_26 rfl (lv_at hl 3 rfl) ?_
      refine lv_iadd hx hb dX1_copyDevice_27 ?_
      refine va_iald hx hb hK hP 33 0 gY_33 rfl (ix_l h) dX1_copyDevice_28 ?_
      have h := ix_r h
      refine pm_iast (w := (wY cI cZ cC cJ cA P)) hx hb hK hP hD hS 33 0 gY_33 rfl sY_33 (ix_l h) dX1_copyDevice_29 (fun M1 eM1 H locs hP hD hS => ?_)
      have h := ix_r h
      have h := lt_o eM1 h
      refine lv_aload_n hx hb dX1_copyDevice_30 rfl (lv_at hl 0 rfl) ?_
      refine va_get (D := D) (ci := 1) (v := .ref (P 34)) (C := RX1) (T := TX1) (N := 76) hx hb hgt iwX1 hown hK hP 0 gY_0 rfl 44 (Nat.le_of_ble_eq_true rfl) (hgt _ wd_5_5) (fun _ h9 => h9) rfl dX1_copyDevice_31 ?_
      refine lv_bipush (v := 26) hx hb dX1_copyDevice_34 (by decide) ?_
      refine lv_iload_n hx hb dX1_copyDevice_36 rfl (lv_at hl 2 rfl) ?_
      refine lv_imul hx hb dX1_copyDevice_37 ?_
      refine lv_iload_n hx hb dX1_copyDevice_38 rfl (lv_at hl 3 rfl) ?_
      refine lv_iadd hx hb dX1_copyDevice_39 ?_
      refine lv_aload_n hx hb dX1_copyDevice_40 rfl (lv_at hl 0 rfl) ?_
      refine va_get (D := D) (ci := 1) (v := .ref (P 34)) (C := RX1) (T := TX1) (N := 76) hx hb hgt iwX1 hown hK hP 0 gY_0 rfl 44 (Nat.le_of_ble_eq_true rfl) (hgt _ wd_5_5) (fun _ h9 => h9) rfl dX1_copyDevice_41 ?_
      refine lv_bipush (v := 26) hx hb dX1_copyDevice_44 (by decide) ?_
      refine lv_iload_n hx hb dX1_copyDevice_46 rfl (lv_at hl 1 rfl) ?_
      refine lv_imul hx hb dX1_copyDevice_47 ?_
      refine lv_iload_n hx hb dX1_copyDevice_48 rfl (lv_at hl 3 rfl) ?_
      refine lv_iadd hx hb dX1_copyDevice_49 ?_
      refine va_iald hx hb hK hP 34 0 gY_34 rfl (ix_l h) dX1_copyDevice_50 ?_
      have h := ix_r h
      refine pm_iast (w := (wY cI cZ cC cJ cA P)) hx hb hK hP hD hS 34 0 gY_34 rfl sY_34 (ix_l h) dX1_copyDevice_51 (fun M2 eM2 H locs hP hD hS => ?_)
      have h := ix_r h
      have h := lt_o eM2 h
      refine lv_aload_n hx hb dX1_copyDevice_52 rfl (lv_at hl 0 rfl) ?_
      refine va_get (D := D) (ci := 1) (v := .ref (P 35)) (C := RX1) (T := TX1) (N := 76) hx hb hgt iwX1 hown hK hP 0 gY_0 rfl 45 (Nat.le_of_ble_eq_true rfl) (hgt _ wd_5_6) (fun _ h9 => h9) rfl dX1_copyDevice_53 ?_
      refine lv_bipush (v := 26) hx hb dX1_copyDevice_56 (by decide) ?_
      refine lv_iload_n hx hb dX1_copyDevice_58 rfl (lv_at hl 2 rfl) ?_
      refine lv_imul hx hb dX1_copyDevice_59 ?_
      refine lv_iload_n hx hb dX1_copyDevice_60 rfl (lv_at hl 3 rfl) ?_
      refine lv_iadd hx hb dX1_copyDevice_61 ?_
      refine lv_aload_n hx hb dX1_copyDevice_62 rfl (lv_at hl 0 rfl) ?_
      refine va_get (D := D) (ci := 1) (v := .ref (P 35)) (C := RX1) (T := TX1) (N := 76) hx hb hgt iwX1 hown hK hP 0 gY_0 rfl 45 (Nat.le_of_ble_eq_true rfl) (hgt _ wd_5_6) (fun _ h9 => h9) rfl dX1_copyDevice_63 ?_
      refine lv_bipush (v := 26) hx hb dX1_copyDevice_66 (by decide) ?_
      refine lv_iload_n hx hb dX1_copyDevice_68 rfl (lv_at hl 1 rfl) ?_
      refine lv_imul hx hb dX1_copyDevice_69 ?_
      refine lv_iload_n hx hb dX1_copyDevice_70 rfl (lv_at hl 3 rfl) ?_
      refine lv_iadd hx hb dX1_copyDevice_71 ?_
      refine va_iald hx hb hK hP 35 0 gY_35 rfl (ix_l h) dX1_copyDevice_72 ?_
      have h := ix_r h
      refine pm_iast (w := (wY cI cZ cC cJ cA P)) hx hb hK hP hD hS 35 0 gY_35 rfl sY_35 (ix_l h) dX1_copyDevice_73 (fun M3 eM3 H locs hP hD hS => ?_)
      have h := ix_r h
      have h := lt_o eM3 h
      refine lv_iinc (v := (v3 + 1)) hx hb dX1_copyDevice_74 hl (k := 3) rfl rfl (Nat.le_of_ble_eq_true rfl) (lv' := [(3, .int (v3 + 1)), (0, .ref (P 0)), (1, .int v1), (2, .int v2)]) rfl (fun ls hl => ?_)
      refine lv_goto hx hb dX1_copyDevice_77 (tgt := 2) rfl ?_
      have hl := lv_sub hl [1, 2, 3, 0] (l' := [(0, .ref (P 0)), (1, .int v1), (2, .int v2), (3, .int (v3 + 1))]) rfl
      exact ih M3 v1 v2 (v3 + 1) H locs ls hl hP hD hS h
set_option maxHeartbeats 4000000 in
set_option maxRecDepth 20000 in
theorem b_ChipMapModel_copyDevice_0 {p : Program} {l : Launch} {e : Env} {s s0 : State} {m : MethodId} {args : Array Value} {below : List Frame} {meth : Method} {c : Code} {D : va_G} {cI cZ cC cJ cA : ClassId} {P : Nat → Nat} {M' : Mm} {r' : Int32}  (hx : p.tables.exec = Jvm.exec) (hb : c.code = cX1_copyDevice) (hml : c.maxLocals = 4) (hr : meth.sig.returnType = none) (hlk : meth.locks = false) (hgt : ∀ w ∈ GT, w.before args s = true) (hown : s.vm.findClass RX1 = some m.cls) (hK : va_K D vwCl [(cI, .int), (cZ, .boolean), (cC, .char), (cJ, .long), (cA, .array .int)] s) (hO : Old s0 s) (hAO : ∀ q, (aP P 51) q → s0.heap.size ≤ q)  : ∀ (M : Mm) (a1 : Int32) (a2 : Int32) (H : Heap) (locs : List Loc) (ls : Array Slot), lv_has ls 4 [(0, .ref (P 0)), (1, .int a1), (2, .int a2)] → va_P D vwCl ((wY cI cZ cC cJ cA P) M) H → va_D (aP P 51) ((wY cI cZ cC cJ cA P) M) → va_S (aP P 51) s.heap H locs → q_ChipMapModel_copyDevice M a1 a2 = some (M', r') → W p l e ({ frames := 0, cells := 0, slots := 0, locals := 0 }) s m args below meth c H locs 0 0 (MQ below (gQv D (aP P 51) ((wY cI cZ cC cJ cA P) M')) args s 0 0 (aP P 51)) (F0 m 0 ls []) := by
  intro M a1 a2 H locs ls hl hP hD hS h
  unfold q_ChipMapModel_copyDevice at h
  refine lv_iconst (v := 0) hx hb dX1_copyDevice_0 (by decide) ?_
  refine lv_istore_n hx hb dX1_copyDevice_1 rfl hl (Nat.le_of_ble_eq_true rfl) (lv' := [(3, .int 0), (0, .ref (P 0)), (1, .int a1), (2, .int a2)]) rfl (fun ls hl => ?_)
  have hl := lv_sub hl [1, 2, 3, 0] (l' := [(0, .ref (P 0)), (1, .int a1), (2, .int a2), (3, .int 0)]) rfl
  exact b_ChipMapModel_copyDevice_2 hx hb hml hr hlk hgt hown hK hO hAO 4000 M a1 a2 0 H _ ls hl hP hD hS h
set_option maxHeartbeats 4000000 in
set_option maxRecDepth 20000 in
theorem z_ChipMapModel_copyDevice (l : Launch) (D : va_G) (cI cZ cC cJ cA : ClassId) (P : Nat → Nat) (s0 : State) (hAO : ∀ q, (aP P 51) q → s0.heap.size ≤ q) (M : Mm) (a1 : Int32) (a2 : Int32) (M' : Mm) (r' : Int32) (h : q_ChipMapModel_copyDevice M a1 a2 = some (M', r')) : Met l yX1_copyDevice wsX1_copyDevice ({ frames := 0, cells := 0, slots := 0, locals := 0 }) (va_Pc [.ref (P 0), .int a1, .int a2] (gPre s0 D [(cI, .int), (cZ, .boolean), (cC, .char), (cJ, .long), (cA, .array .int)] (aP P 51) ((wY cI cZ cC cJ cA P) M))) (gQv D (aP P 51) ((wY cI cZ cC cJ cA P) M')) 0 0 (aP P 51) := by
  refine Met.ofW (cc := cX1_copyDevice) (maxL := 4) (ret := none) (by decide) rfl ?_
  intro p e s m args below meth c s₁ B hml hv
  obtain ⟨rfl, hP, hK, hD, hO⟩ := hv
  have hx := B.exec
  have hb := B.bytes
  have hr := B.returns
  have hlk := B.notSynchronized
  have hgt := fun w (h : w ∈ GT) => atoms_spec (ws := wsX1_copyDevice) B.pre w (List.mem_cons_of_mem _ h)
  have hown : s.vm.findClass RX1 = some m.cls := findClass_of_methodNamed B.named
  have hS : va_S (aP P 51) s.heap s.heap [] := va_S.rf
  have hl := lv_entry ([.ref (P 0), .int a1, .int a2]) (n := 4) (Nat.le_of_ble_eq_true rfl)
  rw [lg_entry_eq]
  generalize (lg_sl ([.ref (P 0), .int a1, .int a2]) ++ List.replicate (4 - (lg_sl ([.ref (P 0), .int a1, .int a2])).length) Slot.unset).toArray = ls at hl ⊢
  have hl : lv_has ls 4 [(0, .ref (P 0)), (1, .int a1), (2, .int a2)] := hl
  exact b_ChipMapModel_copyDevice_0 hx hb hml hr hlk hgt hown hK hO hAO M a1 a2 s.heap [] ls hl hP hD hS h
def q_ChipMapModel_isIn  (M : Mm) (a1 : Int32) (a2 : Int32) : Rs := ix a1 26 <| if (M.1 23 (a1 : Int32).toNatClampNeg) = 0 then (some (M, 0)) else (ix a1 26 <| if (M.1 25 (a1 : Int32).toNatClampNeg) = a2 then (some (M, 1)) else (some (M, 0)))
set_option maxHeartbeats 4000000 in
set_option maxRecDepth 20000 in
theorem b_ChipMapModel_isIn_0 {p : Program} {l : Launch} {e : Env} {s s0 : State} {m : MethodId} {args : Array Value} {below : List Frame} {meth : Method} {c : Code} {D : va_G} {cI cZ cC cJ cA : ClassId} {P : Nat → Nat} {M' : Mm} {r' : Int32}  (hx : p.tables.exec = Jvm.exec) (hb : c.code = cX1_isIn) (hml : c.maxLocals = 3) (hr : meth.sig.returnType = (some .boolean)) (hlk : meth.locks = false) (hgt : ∀ w ∈ GT, w.before args s = true) (hown : s.vm.findClass RX1 = some m.cls) (hK : va_K D vwCl [(cI, .int), (cZ, .boolean), (cC, .char), (cJ, .long), (cA, .array .int)] s) (hO : Old s0 s) (hAO : ∀ q, (aP P 51) q → s0.heap.size ≤ q)  : ∀ (M : Mm) (a1 : Int32) (a2 : Int32) (H : Heap) (locs : List Loc) (ls : Array Slot), lv_has ls 3 [(0, .ref (P 0)), (1, .int a1), (2, .int a2)] → va_P D vwCl ((wY cI cZ cC cJ cA P) M) H → va_D (aP P 51) ((wY cI cZ cC cJ cA P) M) → va_S (aP P 51) s.heap H locs → q_ChipMapModel_isIn M a1 a2 = some (M', r') → W p l e ({ frames := 0, cells := 0, slots := 0, locals := 0 }) s m args below meth c H locs 0 0 (MQ below (gQi D (aP P 51) ((wY cI cZ cC cJ cA P) M') r') args s 0 0 (aP P 51)) (F0 m 0 ls []) := by
  intro M a1 a2 H locs ls hl hP hD hS h
  unfold q_ChipMapModel_isIn at h
  refine lv_aload_n hx hb dX1_isIn_0 rfl (lv_at hl 0 rfl) ?_
  refine va_get (D := D) (ci := 1) (v := .ref (P 23)) (C := RX1) (T := TX1) (N := 76) hx hb hgt iwX1 hown hK hP 0 gY_0 rfl 32 (Nat.le_of_ble_eq_true rfl) (hgt _ wd_4_233) (fun _ h9 => h9) rfl dX1_isIn_1 ?_
  refine lv_iload_n hx hb dX1_isIn_4 rfl (lv_at hl 1 rfl) ?_
  refine va_zald hx hb hK hP 23 1 gY_23 rfl (ix_l h) dX1_isIn_5 ?_
  have h := ix_r h
  refine lv_if_eq hx hb dX1_isIn_6 (tgt := 23) rfl (fun hc => ?_) (fun hc => ?_)
  · have h := br_T hc h
    refine lv_iconst (v := 0) hx hb dX1_isIn_23 (by decide) ?_
    exact rt_z (w := (wY cI cZ cC cJ cA P)) hx hb hr hlk rfl hP hD hS h dX1_isIn_24
  · have h := br_F hc h
    refine lv_aload_n hx hb dX1_isIn_9 rfl (lv_at hl 0 rfl) ?_
    refine va_get (D := D) (ci := 1) (v := .ref (P 25)) (C := RX1) (T := TX1) (N := 76) hx hb hgt iwX1 hown hK hP 0 gY_0 rfl 34 (Nat.le_of_ble_eq_true rfl) (hgt _ wd_4_235) (fun _ h9 => h9) rfl dX1_isIn_10 ?_
    refine lv_iload_n hx hb dX1_isIn_13 rfl (lv_at hl 1 rfl) ?_
    refine va_iald hx hb hK hP 25 0 gY_25 rfl (ix_l h) dX1_isIn_14 ?_
    have h := ix_r h
    refine lv_iload_n hx hb dX1_isIn_15 rfl (lv_at hl 2 rfl) ?_
    refine lv_icmp_ne hx hb dX1_isIn_16 (tgt := 23) rfl (fun hc => ?_) (fun hc => ?_)
    · have h := br_F hc h
      refine lv_iconst (v := 0) hx hb dX1_isIn_23 (by decide) ?_
      exact rt_z (w := (wY cI cZ cC cJ cA P)) hx hb hr hlk rfl hP hD hS h dX1_isIn_24
    · have h := br_T hc h
      refine lv_iconst (v := 1) hx hb dX1_isIn_19 (by decide) ?_
      refine lv_goto hx hb dX1_isIn_20 (tgt := 24) rfl ?_
      exact rt_z (w := (wY cI cZ cC cJ cA P)) hx hb hr hlk rfl hP hD hS h dX1_isIn_24
set_option maxHeartbeats 4000000 in
set_option maxRecDepth 20000 in
theorem z_ChipMapModel_isIn (l : Launch) (D : va_G) (cI cZ cC cJ cA : ClassId) (P : Nat → Nat) (s0 : State) (hAO : ∀ q, (aP P 51) q → s0.heap.size ≤ q) (M : Mm) (a1 : Int32) (a2 : Int32) (M' : Mm) (r' : Int32) (h : q_ChipMapModel_isIn M a1 a2 = some (M', r')) : Met l yX1_isIn wsX1_isIn ({ frames := 0, cells := 0, slots := 0, locals := 0 }) (va_Pc [.ref (P 0), .int a1, .int a2] (gPre s0 D [(cI, .int), (cZ, .boolean), (cC, .char), (cJ, .long), (cA, .array .int)] (aP P 51) ((wY cI cZ cC cJ cA P) M))) (gQi D (aP P 51) ((wY cI cZ cC cJ cA P) M') r') 0 0 (aP P 51) := by
  refine Met.ofW (cc := cX1_isIn) (maxL := 3) (ret := (some .boolean)) (by decide) rfl ?_
  intro p e s m args below meth c s₁ B hml hv
  obtain ⟨rfl, hP, hK, hD, hO⟩ := hv
  have hx := B.exec
  have hb := B.bytes
  have hr := B.returns
  have hlk := B.notSynchronized
  have hgt := fun w (h : w ∈ GT) => atoms_spec (ws := wsX1_isIn) B.pre w (List.mem_cons_of_mem _ h)
  have hown : s.vm.findClass RX1 = some m.cls := findClass_of_methodNamed B.named
  have hS : va_S (aP P 51) s.heap s.heap [] := va_S.rf
  have hl := lv_entry ([.ref (P 0), .int a1, .int a2]) (n := 3) (Nat.le_of_ble_eq_true rfl)
  rw [lg_entry_eq]
  generalize (lg_sl ([.ref (P 0), .int a1, .int a2]) ++ List.replicate (3 - (lg_sl ([.ref (P 0), .int a1, .int a2])).length) Slot.unset).toArray = ls at hl ⊢
  have hl : lv_has ls 3 [(0, .ref (P 0)), (1, .int a1), (2, .int a2)] := hl
  exact b_ChipMapModel_isIn_0 hx hb hml hr hlk hgt hown hK hO hAO M a1 a2 s.heap [] ls hl hP hD hS h
def q_ChipMapModel_part  (M : Mm) (a1 : Int32) (a2 : Int32) : Rs := ix a1 26 <| ix a1 26 <| some (M, (((a2 : Int32) >>> ((M.1 26 (a1 : Int32).toNatClampNeg) &&& 31)) &&& (((1 : Int32) <<< ((M.1 27 (a1 : Int32).toNatClampNeg) &&& 31)) - 1)))
set_option maxHeartbeats 4000000 in
set_option maxRecDepth 20000 in
theorem b_ChipMapModel_part_0 {p : Program} {l : Launch} {e : Env} {s s0 : State} {m : MethodId} {args : Array Value} {below : List Frame} {meth : Method} {c : Code} {D : va_G} {cI cZ cC cJ cA : ClassId} {P : Nat → Nat} {M' : Mm} {r' : Int32}  (hx : p.tables.exec = Jvm.exec) (hb : c.code = cX1_part) (hml : c.maxLocals = 3) (hr : meth.sig.returnType = (some .int)) (hlk : meth.locks = false) (hgt : ∀ w ∈ GT, w.before args s = true) (hown : s.vm.findClass RX1 = some m.cls) (hK : va_K D vwCl [(cI, .int), (cZ, .boolean), (cC, .char), (cJ, .long), (cA, .array .int)] s) (hO : Old s0 s) (hAO : ∀ q, (aP P 51) q → s0.heap.size ≤ q)  : ∀ (M : Mm) (a1 : Int32) (a2 : Int32) (H : Heap) (locs : List Loc) (ls : Array Slot), lv_has ls 3 [(0, .ref (P 0)), (1, .int a1), (2, .int a2)] → va_P D vwCl ((wY cI cZ cC cJ cA P) M) H → va_D (aP P 51) ((wY cI cZ cC cJ cA P) M) → va_S (aP P 51) s.heap H locs → q_ChipMapModel_part M a1 a2 = some (M', r') → W p l e ({ frames := 0, cells := 0, slots := 0, locals := 0 }) s m args below meth c H locs 0 0 (MQ below (gQi D (aP P 51) ((wY cI cZ cC cJ cA P) M') r') args s 0 0 (aP P 51)) (F0 m 0 ls []) := by
  intro M a1 a2 H locs ls hl hP hD hS h
  unfold q_ChipMapModel_part at h
  refine lv_iload_n hx hb dX1_part_0 rfl (lv_at hl 2 rfl) ?_
  refine lv_aload_n hx hb dX1_part_1 rfl (lv_at hl 0 rfl) ?_
  refine va_get (D := D) (ci := 1) (v := .ref (P 26)) (C := RX1) (T := TX1) (N := 76) hx hb hgt iwX1 hown hK hP 0 gY_0 rfl 35 (Nat.le_of_ble_eq_true rfl) (hgt _ wd_4_236) (fun _ h9 => h9) rfl dX1_part_2 ?_
  refine lv_iload_n hx hb dX1_part_5 rfl (lv_at hl 1 rfl) ?_
  refine va_iald hx hb hK hP 26 0 gY_26 rfl (ix_l h) dX1_part_6 ?_
  have h := ix_r h
  refine lv_ishr hx hb dX1_part_7 ?_
  refine lv_iconst (v := 1) hx hb dX1_part_8 (by decide) ?_
  refine lv_aload_n hx hb dX1_part_9 rfl (lv_at hl 0 rfl) ?_
  refine va_get (D := D) (ci := 1) (v := .ref (P 27)) (C := RX1) (T := TX1) (N := 76) hx hb hgt iwX1 hown hK hP 0 gY_0 rfl 36 (Nat.le_of_ble_eq_true rfl) (hgt _ wd_4_237) (fun _ h9 => h9) rfl dX1_part_10 ?_
  refine lv_iload_n hx hb dX1_part_13 rfl (lv_at hl 1 rfl) ?_
  refine va_iald hx hb hK hP 27 0 gY_27 rfl (ix_l h) dX1_part_14 ?_
  have h := ix_r h
  refine lv_ishl hx hb dX1_part_15 ?_
  refine lv_iconst (v := 1) hx hb dX1_part_16 (by decide) ?_
  refine lv_isub hx hb dX1_part_17 ?_
  refine lv_iand hx hb dX1_part_18 ?_
  exact rt_i (w := (wY cI cZ cC cJ cA P)) hx hb hr hlk hP hD hS h dX1_part_19
set_option maxHeartbeats 4000000 in
set_option maxRecDepth 20000 in
theorem z_ChipMapModel_part (l : Launch) (D : va_G) (cI cZ cC cJ cA : ClassId) (P : Nat → Nat) (s0 : State) (hAO : ∀ q, (aP P 51) q → s0.heap.size ≤ q) (M : Mm) (a1 : Int32) (a2 : Int32) (M' : Mm) (r' : Int32) (h : q_ChipMapModel_part M a1 a2 = some (M', r')) : Met l yX1_part wsX1_part ({ frames := 0, cells := 0, slots := 0, locals := 0 }) (va_Pc [.ref (P 0), .int a1, .int a2] (gPre s0 D [(cI, .int), (cZ, .boolean), (cC, .char), (cJ, .long), (cA, .array .int)] (aP P 51) ((wY cI cZ cC cJ cA P) M))) (gQi D (aP P 51) ((wY cI cZ cC cJ cA P) M') r') 0 0 (aP P 51) := by
  refine Met.ofW (cc := cX1_part) (maxL := 3) (ret := (some .int)) (by decide) rfl ?_
  intro p e s m args below meth c s₁ B hml hv
  obtain ⟨rfl, hP, hK, hD, hO⟩ := hv
  have hx := B.exec
  have hb := B.bytes
  have hr := B.returns
  have hlk := B.notSynchronized
  have hgt := fun w (h : w ∈ GT) => atoms_spec (ws := wsX1_part) B.pre w (List.mem_cons_of_mem _ h)
  have hown : s.vm.findClass RX1 = some m.cls := findClass_of_methodNamed B.named
  have hS : va_S (aP P 51) s.heap s.heap [] := va_S.rf
  have hl := lv_entry ([.ref (P 0), .int a1, .int a2]) (n := 3) (Nat.le_of_ble_eq_true rfl)
  rw [lg_entry_eq]
  generalize (lg_sl ([.ref (P 0), .int a1, .int a2]) ++ List.replicate (3 - (lg_sl ([.ref (P 0), .int a1, .int a2])).length) Slot.unset).toArray = ls at hl ⊢
  have hl : lv_has ls 3 [(0, .ref (P 0)), (1, .int a1), (2, .int a2)] := hl
  exact b_ChipMapModel_part_0 hx hb hml hr hlk hgt hown hK hO hAO M a1 a2 s.heap [] ls hl hP hD hS h
def q_ChipMapModel_isStored  (M : Mm) (a1 : Int32) : Rs := ix a1 26 <| if (M.1 24 (a1 : Int32).toNatClampNeg) = 119 then (some (M, 1)) else (ix a1 26 <| if (M.1 24 (a1 : Int32).toNatClampNeg) = 111 then (some (M, 1)) else (some (M, 0)))
set_option maxHeartbeats 4000000 in
set_option maxRecDepth 20000 in
theorem b_ChipMapModel_isStored_0 {p : Program} {l : Launch} {e : Env} {s s0 : State} {m : MethodId} {args : Array Value} {below : List Frame} {meth : Method} {c : Code} {D : va_G} {cI cZ cC cJ cA : ClassId} {P : Nat → Nat} {M' : Mm} {r' : Int32}  (hx : p.tables.exec = Jvm.exec) (hb : c.code = cX1_isStored) (hml : c.maxLocals = 2) (hr : meth.sig.returnType = (some .boolean)) (hlk : meth.locks = false) (hgt : ∀ w ∈ GT, w.before args s = true) (hown : s.vm.findClass RX1 = some m.cls) (hK : va_K D vwCl [(cI, .int), (cZ, .boolean), (cC, .char), (cJ, .long), (cA, .array .int)] s) (hO : Old s0 s) (hAO : ∀ q, (aP P 51) q → s0.heap.size ≤ q)  : ∀ (M : Mm) (a1 : Int32) (H : Heap) (locs : List Loc) (ls : Array Slot), lv_has ls 2 [(0, .ref (P 0)), (1, .int a1)] → va_P D vwCl ((wY cI cZ cC cJ cA P) M) H → va_D (aP P 51) ((wY cI cZ cC cJ cA P) M) → va_S (aP P 51) s.heap H locs → q_ChipMapModel_isStored M a1 = some (M', r') → W p l e ({ frames := 0, cells := 0, slots := 0, locals := 0 }) s m args below meth c H locs 0 0 (MQ below (gQi D (aP P 51) ((wY cI cZ cC cJ cA P) M') r') args s 0 0 (aP P 51)) (F0 m 0 ls []) := by
  intro M a1 H locs ls hl hP hD hS h
  unfold q_ChipMapModel_isStored at h
  refine lv_aload_n hx hb dX1_isStored_0 rfl (lv_at hl 0 rfl) ?_
  refine va_get (D := D) (ci := 1) (v := .ref (P 24)) (C := RX1) (T := TX1) (N := 76) hx hb hgt iwX1 hown hK hP 0 gY_0 rfl 33 (Nat.le_of_ble_eq_true rfl) (hgt _ wd_4_234) (fun _ h9 => h9) rfl dX1_isStored_1 ?_
  refine lv_iload_n hx hb dX1_isStored_4 rfl (lv_at hl 1 rfl) ?_
  refine va_iald hx hb hK hP 24 0 gY_24 rfl (ix_l h) dX1_isStored_5 ?_
  have h := ix_r h
  refine lv_bipush (v := 119) hx hb dX1_isStored_6 (by decide) ?_
  refine lv_icmp_eq hx hb dX1_isStored_8 (tgt := 22) rfl (fun hc => ?_) (fun hc => ?_)
  · have h := br_T hc h
    refine lv_iconst (v := 1) hx hb dX1_isStored_22 (by decide) ?_
    refine lv_goto hx hb dX1_isStored_23 (tgt := 27) rfl ?_
    exact rt_z (w := (wY cI cZ cC cJ cA P)) hx hb hr hlk rfl hP hD hS h dX1_isStored_27
  · have h := br_F hc h
    refine lv_aload_n hx hb dX1_isStored_11 rfl (lv_at hl 0 rfl) ?_
    refine va_get (D := D) (ci := 1) (v := .ref (P 24)) (C := RX1) (T := TX1) (N := 76) hx hb hgt iwX1 hown hK hP 0 gY_0 rfl 33 (Nat.le_of_ble_eq_true rfl) (hgt _ wd_4_234) (fun _ h9 => h9) rfl dX1_isStored_12 ?_
    refine lv_iload_n hx hb dX1_isStored_15 rfl (lv_at hl 1 rfl) ?_
    refine va_iald hx hb hK hP 24 0 gY_24 rfl (ix_l h) dX1_isStored_16 ?_
    have h := ix_r h
    refine lv_bipush (v := 111) hx hb dX1_isStored_17 (by decide) ?_
    refine lv_icmp_ne hx hb dX1_isStored_19 (tgt := 26) rfl (fun hc => ?_) (fun hc => ?_)
    · have h := br_F hc h
      refine lv_iconst (v := 0) hx hb dX1_isStored_26 (by decide) ?_
      exact rt_z (w := (wY cI cZ cC cJ cA P)) hx hb hr hlk rfl hP hD hS h dX1_isStored_27
    · have h := br_T hc h
      refine lv_iconst (v := 1) hx hb dX1_isStored_22 (by decide) ?_
      refine lv_goto hx hb dX1_isStored_23 (tgt := 27) rfl ?_
      exact rt_z (w := (wY cI cZ cC cJ cA P)) hx hb hr hlk rfl hP hD hS h dX1_isStored_27
set_option maxHeartbeats 4000000 in
set_option maxRecDepth 20000 in
theorem z_ChipMapModel_isStored (l : Launch) (D : va_G) (cI cZ cC cJ cA : ClassId) (P : Nat → Nat) (s0 : State) (hAO : ∀ q, (aP P 51) q → s0.heap.size ≤ q) (M : Mm) (a1 : Int32) (M' : Mm) (r' : Int32) (h : q_ChipMapModel_isStored M a1 = some (M', r')) : Met l yX1_isStored wsX1_isStored ({ frames := 0, cells := 0, slots := 0, locals := 0 }) (va_Pc [.ref (P 0), .int a1] (gPre s0 D [(cI, .int), (cZ, .boolean), (cC, .char), (cJ, .long), (cA, .array .int)] (aP P 51) ((wY cI cZ cC cJ cA P) M))) (gQi D (aP P 51) ((wY cI cZ cC cJ cA P) M') r') 0 0 (aP P 51) := by
  refine Met.ofW (cc := cX1_isStored) (maxL := 2) (ret := (some .boolean)) (by decide) rfl ?_
  intro p e s m args below meth c s₁ B hml hv
  obtain ⟨rfl, hP, hK, hD, hO⟩ := hv
  have hx := B.exec
  have hb := B.bytes
  have hr := B.returns
  have hlk := B.notSynchronized
  have hgt := fun w (h : w ∈ GT) => atoms_spec (ws := wsX1_isStored) B.pre w (List.mem_cons_of_mem _ h)
  have hown : s.vm.findClass RX1 = some m.cls := findClass_of_methodNamed B.named
  have hS : va_S (aP P 51) s.heap s.heap [] := va_S.rf
  have hl := lv_entry ([.ref (P 0), .int a1]) (n := 2) (Nat.le_of_ble_eq_true rfl)
  rw [lg_entry_eq]
  generalize (lg_sl ([.ref (P 0), .int a1]) ++ List.replicate (2 - (lg_sl ([.ref (P 0), .int a1])).length) Slot.unset).toArray = ls at hl ⊢
  have hl : lv_has ls 2 [(0, .ref (P 0)), (1, .int a1)] := hl
  exact b_ChipMapModel_isStored_0 hx hb hml hr hlk hgt hown hK hO hAO M a1 s.heap [] ls hl hP hD hS h
def q_ChipMapModel_isWritten  (M : Mm) (a1 : Int32) (a2 : Int32) (a3 : Int32) : Rs := cal (q_ChipMapModel_isIn M a1 a2) fun M1 r2 => if r2 = 0 then (some (M1, 0)) else (ix a1 26 <| if (M1.1 24 (a1 : Int32).toNatClampNeg) = 114 then (some (M1, 0)) else (ix a1 26 <| if (M1.1 24 (a1 : Int32).toNatClampNeg) = 99 then (some (M1, 0)) else (cal (q_ChipMapModel_part M1 a1 a3) fun M3 r4 => cal (q_ChipMapModel_isStored M3 a1) fun M5 r6 => if r6 = 0 then (if r4 = 0 then (some (M5, 0)) else (some (M5, 1))) else (ix a1 78 <| if r4 = (M5.1 33 (a1 : Int32).toNatClampNeg) then (some (M5, 0)) else (some (M5, 1))))))
set_option maxHeartbeats 4000000 in
set_option maxRecDepth 20000 in
theorem b_ChipMapModel_isWritten_0 {p : Program} {l : Launch} {e : Env} {s s0 : State} {m : MethodId} {args : Array Value} {below : List Frame} {meth : Method} {c : Code} {D : va_G} {cI cZ cC cJ cA : ClassId} {P : Nat → Nat} {M' : Mm} {r' : Int32}  (hx : p.tables.exec = Jvm.exec) (hb : c.code = cX1_isWritten) (hml : c.maxLocals = 5) (hr : meth.sig.returnType = (some .boolean)) (hlk : meth.locks = false) (hgt : ∀ w ∈ GT, w.before args s = true) (hown : s.vm.findClass RX1 = some m.cls) (hK : va_K D vwCl [(cI, .int), (cZ, .boolean), (cC, .char), (cJ, .long), (cA, .array .int)] s) (hO : Old s0 s) (hAO : ∀ q, (aP P 51) q → s0.heap.size ≤ q)  : ∀ (M : Mm) (a1 : Int32) (a2 : Int32) (a3 : Int32) (H : Heap) (locs : List Loc) (ls : Array Slot), lv_has ls 5 [(0, .ref (P 0)), (1, .int a1), (2, .int a2), (3, .int a3)] → va_P D vwCl ((wY cI cZ cC cJ cA P) M) H → va_D (aP P 51) ((wY cI cZ cC cJ cA P) M) → va_S (aP P 51) s.heap H locs → q_ChipMapModel_isWritten M a1 a2 a3 = some (M', r') → W p l e ({ frames := 1, cells := 0, slots := 0, locals := 22 }) s m args below meth c H locs 0 0 (MQ below (gQi D (aP P 51) ((wY cI cZ cC cJ cA P) M') r') args s 0 0 (aP P 51)) (F0 m 0 ls []) := by
  intro M a1 a2 a3 H locs ls hl hP hD hS h
  unfold q_ChipMapModel_isWritten at h
  refine lv_aload_n hx hb dX1_isWritten_0 rfl (lv_at hl 0 rfl) ?_
  refine lv_iload_n hx hb dX1_isWritten_1 rfl (lv_at hl 1 rfl) ?_
  refine lv_iload_n hx hb dX1_isWritten_2 rfl (lv_at hl 2 rfl) ?_
  obtain ⟨M1, r2, hq, h⟩ := cal_o h
  refine cx_i (va_runV (As := [.int a1, .int a2]) (rest := []) ⟨hx, hb, hml, hown, hgt⟩ (z_ChipMapModel_isIn l D cI cZ cC cJ cA P s0 hAO M a1 a2 M1 r2 hq) (cwV 2 hgt (gV wd_6_86 wd_6_88 sl__ChipMapModel____ChipMapModel___isIn____II_Z_____ChipMapModel___isIn____II_Z__ wd_0_15 wd_6_89) rfl rfl rfl (by decide +kernel) ⟨Nat.le_of_ble_eq_true rfl, Nat.le_of_ble_eq_true rfl⟩) (prV hP hK hD hO hAO hS (va_recv hK hP (ci := 1) (q0 := 0) rfl gY_0)) rfl rfl hl.1 rfl (lv_room (Nat.le_of_ble_eq_true rfl)) dX1_isWritten_3 ⟨Nat.le_of_ble_eq_true rfl, Nat.le_of_ble_eq_true rfl⟩) hS (fun H locs hP hD hS => ?_)
  refine lv_if_eq hx hb dX1_isWritten_6 (tgt := 31) rfl (fun hc => ?_) (fun hc => ?_)
  · have h := br_T hc h
    refine lv_iconst (v := 0) hx hb dX1_isWritten_31 (by decide) ?_
    exact rt_z (w := (wY cI cZ cC cJ cA P)) hx hb hr hlk rfl hP hD hS h dX1_isWritten_32
  · have h := br_F hc h
    refine lv_aload_n hx hb dX1_isWritten_9 rfl (lv_at hl 0 rfl) ?_
    refine va_get (D := D) (ci := 1) (v := .ref (P 24)) (C := RX1) (T := TX1) (N := 76) hx hb hgt iwX1 hown hK hP 0 gY_0 rfl 33 (Nat.le_of_ble_eq_true rfl) (hgt _ wd_4_234) (fun _ h9 => h9) rfl dX1_isWritten_10 ?_
    refine lv_iload_n hx hb dX1_isWritten_13 rfl (lv_at hl 1 rfl) ?_
    refine va_iald hx hb hK hP 24 0 gY_24 rfl (ix_l h) dX1_isWritten_14 ?_
    have h := ix_r h
    refine lv_bipush (v := 114) hx hb dX1_isWritten_15 (by decide) ?_
    refine lv_icmp_eq hx hb dX1_isWritten_17 (tgt := 31) rfl (fun hc => ?_) (fun hc => ?_)
    · have h := br_T hc h
      refine lv_iconst (v := 0) hx hb dX1_isWritten_31 (by decide) ?_
      exact rt_z (w := (wY cI cZ cC cJ cA P)) hx hb hr hlk rfl hP hD hS h dX1_isWritten_32
    · have h := br_F hc h
      refine lv_aload_n hx hb dX1_isWritten_20 rfl (lv_at hl 0 rfl) ?_
      refine va_get (D := D) (ci := 1) (v := .ref (P 24)) (C := RX1) (T := TX1) (N := 76) hx hb hgt iwX1 hown hK hP 0 gY_0 rfl 33 (Nat.le_of_ble_eq_true rfl) (hgt _ wd_4_234) (fun _ h9 => h9) rfl dX1_isWritten_21 ?_
      refine lv_iload_n hx hb dX1_isWritten_24 rfl (lv_at hl 1 rfl) ?_
      refine va_iald hx hb hK hP 24 0 gY_24 rfl (ix_l h) dX1_isWritten_25 ?_
      have h := ix_r h
      refine lv_bipush (v := 99) hx hb dX1_isWritten_26 (by decide) ?_
      refine lv_icmp_ne hx hb dX1_isWritten_28 (tgt := 33) rfl (fun hc => ?_) (fun hc => ?_)
      · have h := br_F hc h
        refine lv_aload_n hx hb dX1_isWritten_33 rfl (lv_at hl 0 rfl) ?_
        refine lv_iload_n hx hb dX1_isWritten_34 rfl (lv_at hl 1 rfl) ?_
        refine lv_iload_n hx hb dX1_isWritten_35 rfl (lv_at hl 3 rfl) ?_
        obtain ⟨M3, r4, hq, h⟩ := cal_o h
        refine cx_i (va_runV (As := [.int a1, .int a3]) (rest := []) ⟨hx, hb, hml, hown, hgt⟩ (z_ChipMapModel_part l D cI cZ cC cJ cA P s0 hAO M1 a1 a3 M3 r4 hq) (cwV 2 hgt (gV wd_6_90 wd_6_92 sl__ChipMapModel____ChipMapModel___part____II_I_____ChipMapModel___part____II_I__ wd_0_15 wd_6_93) rfl rfl rfl (by decide +kernel) ⟨Nat.le_of_ble_eq_true rfl, Nat.le_of_ble_eq_true rfl⟩) (prV hP hK hD hO hAO hS (va_recv hK hP (ci := 1) (q0 := 0) rfl gY_0)) rfl rfl hl.1 rfl (lv_room (Nat.le_of_ble_eq_true rfl)) dX1_isWritten_36 ⟨Nat.le_of_ble_eq_true rfl, Nat.le_of_ble_eq_true rfl⟩) hS (fun H locs hP hD hS => ?_)
        refine lv_istore hx hb dX1_isWritten_39 hl (Nat.le_of_ble_eq_true rfl) (lv' := [(4, .int r4), (0, .ref (P 0)), (1, .int a1), (2, .int a2), (3, .int a3)]) rfl (fun ls hl => ?_)
        refine lv_aload_n hx hb dX1_isWritten_41 rfl (lv_at hl 1 rfl) ?_
        refine lv_iload_n hx hb dX1_isWritten_42 rfl (lv_at hl 2 rfl) ?_
        obtain ⟨M5, r6, hq, h⟩ := cal_o h
        refine cx_i (va_runV (As := [.int a1]) (rest := []) ⟨hx, hb, hml, hown, hgt⟩ (z_ChipMapModel_isStored l D cI cZ cC cJ cA P s0 hAO M3 a1 M5 r6 hq) (cwV 1 hgt (gV wd_6_94 wd_6_96 sl__ChipMapModel____ChipMapModel___isStored____I_Z_____ChipMapModel___isStored____I_Z__ wd_0_15 wd_6_97) rfl rfl rfl (by decide +kernel) ⟨Nat.le_of_ble_eq_true rfl, Nat.le_of_ble_eq_true rfl⟩) (prV hP hK hD hO hAO hS (va_recv hK hP (ci := 1) (q0 := 0) rfl gY_0)) rfl rfl hl.1 rfl (lv_room (Nat.le_of_ble_eq_true rfl)) dX1_isWritten_43 ⟨Nat.le_of_ble_eq_true rfl, Nat.le_of_ble_eq_true rfl⟩) hS (fun H locs hP hD hS => ?_)
        refine lv_if_eq hx hb dX1_isWritten_46 (tgt := 68) rfl (fun hc => ?_) (fun hc => ?_)
        · have h := br_T hc h
          refine lv_iload hx hb dX1_isWritten_68 (lv_at hl 0 rfl) ?_
          refine lv_if_eq hx hb dX1_isWritten_70 (tgt := 77) rfl (fun hc => ?_) (fun hc => ?_)
          · have h := br_T hc h
            refine lv_iconst (v := 0) hx hb dX1_isWritten_77 (by decide) ?_
            exact rt_z (w := (wY cI cZ cC cJ cA P)) hx hb hr hlk rfl hP hD hS h dX1_isWritten_78
          · have h := br_F hc h
            refine lv_iconst (v := 1) hx hb dX1_isWritten_73 (by decide) ?_
            refine lv_goto hx hb dX1_isWritten_74 (tgt := 78) rfl ?_
            exact rt_z (w := (wY cI cZ cC cJ cA P)) hx hb hr hlk rfl hP hD hS h dX1_isWritten_78
        · have h := br_F hc h
          refine lv_iload hx hb dX1_isWritten_49 (lv_at hl 0 rfl) ?_
          refine lv_aload_n hx hb dX1_isWritten_51 rfl (lv_at hl 1 rfl) ?_
          refine va_get (D := D) (ci := 1) (v := .ref (P 33)) (C := RX1) (T := TX1) (N := 76) hx hb hgt iwX1 hown hK hP 0 gY_0 rfl 43 (Nat.le_of_ble_eq_true rfl) (hgt _ wd_5_4) (fun _ h9 => h9) rfl dX1_isWritten_52 ?_
          refine lv_iload_n hx hb dX1_isWritten_55 rfl (lv_at hl 2 rfl) ?_
          refine va_iald hx hb hK hP 33 0 gY_33 rfl (ix_l h) dX1_isWritten_56 ?_
          have h := ix_r h
          refine lv_icmp_eq hx hb dX1_isWritten_57 (tgt := 64) rfl (fun hc => ?_) (fun hc => ?_)
          · have h := br_T hc h
            refine lv_iconst (v := 0) hx hb dX1_isWritten_64 (by decide) ?_
            refine lv_goto hx hb dX1_isWritten_65 (tgt := 78) rfl ?_
            exact rt_z (w := (wY cI cZ cC cJ cA P)) hx hb hr hlk rfl hP hD hS h dX1_isWritten_78
          · have h := br_F hc h
            refine lv_iconst (v := 1) hx hb dX1_isWritten_60 (by decide) ?_
            refine lv_goto hx hb dX1_isWritten_61 (tgt := 78) rfl ?_
            exact rt_z (w := (wY cI cZ cC cJ cA P)) hx hb hr hlk rfl hP hD hS h dX1_isWritten_78
      · have h := br_T hc h
        refine lv_iconst (v := 0) hx hb dX1_isWritten_31 (by decide) ?_
        exact rt_z (w := (wY cI cZ cC cJ cA P)) hx hb hr hlk rfl hP hD hS h dX1_isWritten_32
set_option maxHeartbeats 4000000 in
set_option maxRecDepth 20000 in
theorem z_ChipMapModel_isWritten (l : Launch) (D : va_G) (cI cZ cC cJ cA : ClassId) (P : Nat → Nat) (s0 : State) (hAO : ∀ q, (aP P 51) q → s0.heap.size ≤ q) (M : Mm) (a1 : Int32) (a2 : Int32) (a3 : Int32) (M' : Mm) (r' : Int32) (h : q_ChipMapModel_isWritten M a1 a2 a3 = some (M', r')) : Met l yX1_isWritten wsX1_isWritten ({ frames := 1, cells := 0, slots := 0, locals := 22 }) (va_Pc [.ref (P 0), .int a1, .int a2, .int a3] (gPre s0 D [(cI, .int), (cZ, .boolean), (cC, .char), (cJ, .long), (cA, .array .int)] (aP P 51) ((wY cI cZ cC cJ cA P) M))) (gQi D (aP P 51) ((wY cI cZ cC cJ cA P) M') r') 0 0 (aP P 51) := by
  refine Met.ofW (cc := cX1_isWritten) (maxL := 5) (ret := (some .boolean)) (by decide) rfl ?_
  intro p e s m args below meth c s₁ B hml hv
  obtain ⟨rfl, hP, hK, hD, hO⟩ := hv
  have hx := B.exec
  have hb := B.bytes
  have hr := B.returns
  have hlk := B.notSynchronized
  have hgt := fun w (h : w ∈ GT) => atoms_spec (ws := wsX1_isWritten) B.pre w (List.mem_cons_of_mem _ h)
  have hown : s.vm.findClass RX1 = some m.cls := findClass_of_methodNamed B.named
  have hS : va_S (aP P 51) s.heap s.heap [] := va_S.rf
  have hl := lv_entry ([.ref (P 0), .int a1, .int a2, .int a3]) (n := 5) (Nat.le_of_ble_eq_true rfl)
  rw [lg_entry_eq]
  generalize (lg_sl ([.ref (P 0), .int a1, .int a2, .int a3]) ++ List.replicate (5 - (lg_sl ([.ref (P 0), .int a1, .int a2, .int a3])).length) Slot.unset).toArray = ls at hl ⊢
  have hl : lv_has ls 5 [(0, .ref (P 0)), (1, .int a1), (2, .int a2), (3, .int a3)] := hl
  exact b_ChipMapModel_isWritten_0 hx hb hml hr hlk hgt hown hK hO hAO M a1 a2 a3 s.heap [] ls hl hP hD hS h
def q_ChipMapModel_breaks  (M : Mm) (a1 : Int32) (a2 : Int32) (a3 : Int32) : Rs := ix a1 12 <| cal (q_ChipMapModel_isWritten M (M.1 30 (a1 : Int32).toNatClampNeg) a2 a3) fun M1 r2 => ix a1 12 <| cal (q_ChipMapModel_isWritten M1 (M1.1 31 (a1 : Int32).toNatClampNeg) a2 a3) fun M3 r4 => ix a1 12 <| if (M3.1 29 (a1 : Int32).toNatClampNeg) = 60 then (if r4 = 0 then (some (M3, 0)) else (ix a1 36 <| if (M3.1 36 (a1 : Int32).toNatClampNeg) = 0 then (some (M3, 1)) else (some (M3, 0)))) else (ix a1 12 <| if (M3.1 29 (a1 : Int32).toNatClampNeg) = 38 then (if r2 = 0 then (some (M3, 0)) else (ix a1 12 <| ix (M3.1 31 (a1 : Int32).toNatClampNeg) 78 <| ix a1 12 <| if (M3.1 33 ((M3.1 31 (a1 : Int32).toNatClampNeg) : Int32).toNatClampNeg) = (M3.1 32 (a1 : Int32).toNatClampNeg) then (some (M3, 0)) else (some (M3, 1)))) else (if r2 = 0 then (some (M3, 0)) else (ix a1 36 <| if (M3.1 36 (a1 : Int32).toNatClampNeg) = 0 then (some (M3, 0)) else (some (M3, 1)))))
set_option maxHeartbeats 4000000 in
set_option maxRecDepth 20000 in
theorem b_ChipMapModel_breaks_0 {p : Program} {l : Launch} {e : Env} {s s0 : State} {m : MethodId} {args : Array Value} {below : List Frame} {meth : Method} {c : Code} {D : va_G} {cI cZ cC cJ cA : ClassId} {P : Nat → Nat} {M' : Mm} {r' : Int32}  (hx : p.tables.exec = Jvm.exec) (hb : c.code = cX1_breaks) (hml : c.maxLocals = 6) (hr : meth.sig.returnType = (some .boolean)) (hlk : meth.locks = false) (hgt : ∀ w ∈ GT, w.before args s = true) (hown : s.vm.findClass RX1 = some m.cls) (hK : va_K D vwCl [(cI, .int), (cZ, .boolean), (cC, .char), (cJ, .long), (cA, .array .int)] s) (hO : Old s0 s) (hAO : ∀ q, (aP P 51) q → s0.heap.size ≤ q)  : ∀ (M : Mm) (a1 : Int32) (a2 : Int32) (a3 : Int32) (H : Heap) (locs : List Loc) (ls : Array Slot), lv_has ls 6 [(0, .ref (P 0)), (1, .int a1), (2, .int a2), (3, .int a3)] → va_P D vwCl ((wY cI cZ cC cJ cA P) M) H → va_D (aP P 51) ((wY cI cZ cC cJ cA P) M) → va_S (aP P 51) s.heap H locs → q_ChipMapModel_breaks M a1 a2 a3 = some (M', r') → W p l e ({ frames := 2, cells := 0, slots := 0, locals := 46 }) s m args below meth c H locs 0 0 (MQ below (gQi D (aP P 51) ((wY cI cZ cC cJ cA P) M') r') args s 0 0 (aP P 51)) (F0 m 0 ls []) := by
  intro M a1 a2 a3 H locs ls hl hP hD hS h
  unfold q_ChipMapModel_breaks at h
  refine lv_aload_n hx hb dX1_breaks_0 rfl (lv_at hl 0 rfl) ?_
  refine lv_aload_n hx hb dX1_breaks_1 rfl (lv_at hl 0 rfl) ?_
  refine va_get (D := D) (ci := 1) (v := .ref (P 30)) (C := RX1) (T := TX1) (N := 76) hx hb hgt iwX1 hown hK hP 0 gY_0 rfl 40 (Nat.le_of_ble_eq_true rfl) (hgt _ wd_5_1) (fun _ h9 => h9) rfl dX1_breaks_2 ?_
  refine lv_iload_n hx hb dX1_breaks_5 rfl (lv_at hl 1 rfl) ?_
  refine va_iald hx hb hK hP 30 0 gY_30 rfl (ix_l h) dX1_breaks_6 ?_
  have h := ix_r h
  refine lv_iload_n hx hb dX1_breaks_7 rfl (lv_at hl 2 rfl) ?_
  refine lv_iload_n hx hb dX1_breaks_8 rfl (lv_at hl 3 rfl) ?_
  obtain ⟨M1, r2, hq, h⟩ := cal_o h
  refine cx_i (va_runV (As := [.int (M.1 30 (a1 : Int32).toNatClampNeg), .int a2, .int a3]) (rest := []) ⟨hx, hb, hml, hown, hgt⟩ (z_ChipMapModel_isWritten l D cI cZ cC cJ cA P s0 hAO M (M.1 30 (a1 : Int32).toNatClampNeg) a2 a3 M1 r2 hq) (cwV 3 hgt (gV wd_6_82 wd_6_84 sl__ChipMapModel____ChipMapModel___isWritten____III_Z_____ChipMapModel___isWritten____III_Z__ wd_0_15 wd_6_85) rfl rfl rfl (by decide +kernel) ⟨Nat.le_of_ble_eq_true rfl, Nat.le_of_ble_eq_true rfl⟩) (prV hP hK hD hO hAO hS (va_recv hK hP (ci := 1) (q0 := 0) rfl gY_0)) rfl rfl hl.1 rfl (lv_room (Nat.le_of_ble_eq_true rfl)) dX1_breaks_9 ⟨Nat.le_of_ble_eq_true rfl, Nat.le_of_ble_eq_true rfl⟩) hS (fun H locs hP hD hS => ?_)
  refine lv_istore hx hb dX1_breaks_12 hl (Nat.le_of_ble_eq_true rfl) (lv' := [(4, .int r2), (0, .ref (P 0)), (1, .int a1), (2, .int a2), (3, .int a3)]) rfl (fun ls hl => ?_)
  refine lv_aload_n hx hb dX1_breaks_14 rfl (lv_at hl 1 rfl) ?_
  refine lv_aload_n hx hb dX1_breaks_15 rfl (lv_at hl 1 rfl) ?_
  refine va_get (D := D) (ci := 1) (v := .ref (P 31)) (C := RX1) (T := TX1) (N := 76) hx hb hgt iwX1 hown hK hP 0 gY_0 rfl 41 (Nat.le_of_ble_eq_true rfl) (hgt _ wd_5_2) (fun _ h9 => h9) rfl dX1_breaks_16 ?_
  refine lv_iload_n hx hb dX1_breaks_19 rfl (lv_at hl 2 rfl) ?_
  refine va_iald hx hb hK hP 31 0 gY_31 rfl (ix_l h) dX1_breaks_20 ?_
  have h := ix_r h
  refine lv_iload_n hx hb dX1_breaks_21 rfl (lv_at hl 3 rfl) ?_
  refine lv_iload_n hx hb dX1_breaks_22 rfl (lv_at hl 4 rfl) ?_
  obtain ⟨M3, r4, hq, h⟩ := cal_o h
  refine cx_i (va_runV (As := [.int (M1.1 31 (a1 : Int32).toNatClampNeg), .int a2, .int a3]) (rest := []) ⟨hx, hb, hml, hown, hgt⟩ (z_ChipMapModel_isWritten l D cI cZ cC cJ cA P s0 hAO M1 (M1.1 31 (a1 : Int32).toNatClampNeg) a2 a3 M3 r4 hq) (cwV 3 hgt (gV wd_6_82 wd_6_84 sl__ChipMapModel____ChipMapModel___isWritten____III_Z_____ChipMapModel___isWritten____III_Z__ wd_0_15 wd_6_85) rfl rfl rfl (by decide +kernel) ⟨Nat.le_of_ble_eq_true rfl, Nat.le_of_ble_eq_true rfl⟩) (prV hP hK hD hO hAO hS (va_recv hK hP (ci := 1) (q0 := 0) rfl gY_0)) rfl rfl hl.1 rfl (lv_room (Nat.le_of_ble_eq_true rfl)) dX1_breaks_23 ⟨Nat.le_of_ble_eq_true rfl, Nat.le_of_ble_eq_true rfl⟩) hS (fun H locs hP hD hS => ?_)
  refine lv_istore hx hb dX1_breaks_26 hl (Nat.le_of_ble_eq_true rfl) (lv' := [(5, .int r4), (4, .int r2), (0, .ref (P 0)), (1, .int a1), (2, .int a2), (3, .int a3)]) rfl (fun ls hl => ?_)
  refine lv_aload_n hx hb dX1_breaks_28 rfl (lv_at hl 2 rfl) ?_
  refine va_get (D := D) (ci := 1) (v := .ref (P 29)) (C := RX1) (T := TX1) (N := 76) hx hb hgt iwX1 hown hK hP 0 gY_0 rfl 39 (Nat.le_of_ble_eq_true rfl) (hgt _ wd_5_0) (fun _ h9 => h9) rfl dX1_breaks_29 ?_
  refine lv_iload_n hx hb dX1_breaks_32 rfl (lv_at hl 3 rfl) ?_
  refine va_iald hx hb hK hP 29 0 gY_29 rfl (ix_l h) dX1_breaks_33 ?_
  have h := ix_r h
  refine lv_bipush (v := 60) hx hb dX1_breaks_34 (by decide) ?_
  refine lv_icmp_ne hx hb dX1_breaks_36 (tgt := 59) rfl (fun hc => ?_) (fun hc => ?_)
  · have h := br_F hc h
    refine lv_aload_n hx hb dX1_breaks_59 rfl (lv_at hl 2 rfl) ?_
    refine va_get (D := D) (ci := 1) (v := .ref (P 29)) (C := RX1) (T := TX1) (N := 76) hx hb hgt iwX1 hown hK hP 0 gY_0 rfl 39 (Nat.le_of_ble_eq_true rfl) (hgt _ wd_5_0) (fun _ h9 => h9) rfl dX1_breaks_60 ?_
    refine lv_iload_n hx hb dX1_breaks_63 rfl (lv_at hl 3 rfl) ?_
    refine va_iald hx hb hK hP 29 0 gY_29 rfl (ix_l h) dX1_breaks_64 ?_
    have h := ix_r h
    refine lv_bipush (v := 38) hx hb dX1_breaks_65 (by decide) ?_
    refine lv_icmp_ne hx hb dX1_breaks_67 (tgt := 101) rfl (fun hc => ?_) (fun hc => ?_)
    · have h := br_F hc h
      refine lv_iload hx hb dX1_breaks_101 (lv_at hl 1 rfl) ?_
      refine lv_if_eq hx hb dX1_breaks_103 (tgt := 119) rfl (fun hc => ?_) (fun hc => ?_)
      · have h := br_T hc h
        refine lv_iconst (v := 0) hx hb dX1_breaks_119 (by decide) ?_
        exact rt_z (w := (wY cI cZ cC cJ cA P)) hx hb hr hlk rfl hP hD hS h dX1_breaks_120
      · have h := br_F hc h
        refine lv_aload_n hx hb dX1_breaks_106 rfl (lv_at hl 2 rfl) ?_
        refine va_get (D := D) (ci := 1) (v := .ref (P 36)) (C := RX1) (T := TX1) (N := 76) hx hb hgt iwX1 hown hK hP 0 gY_0 rfl 46 (Nat.le_of_ble_eq_true rfl) (hgt _ wd_5_7) (fun _ h9 => h9) rfl dX1_breaks_107 ?_
        refine lv_iload_n hx hb dX1_breaks_110 rfl (lv_at hl 3 rfl) ?_
        refine va_zald hx hb hK hP 36 1 gY_36 rfl (ix_l h) dX1_breaks_111 ?_
        have h := ix_r h
        refine lv_if_eq hx hb dX1_breaks_112 (tgt := 119) rfl (fun hc => ?_) (fun hc => ?_)
        · have h := br_T hc h
          refine lv_iconst (v := 0) hx hb dX1_breaks_119 (by decide) ?_
          exact rt_z (w := (wY cI cZ cC cJ cA P)) hx hb hr hlk rfl hP hD hS h dX1_breaks_120
        · have h := br_F hc h
          refine lv_iconst (v := 1) hx hb dX1_breaks_115 (by decide) ?_
          refine lv_goto hx hb dX1_breaks_116 (tgt := 120) rfl ?_
          exact rt_z (w := (wY cI cZ cC cJ cA P)) hx hb hr hlk rfl hP hD hS h dX1_breaks_120
    · have h := br_T hc h
      refine lv_iload hx hb dX1_breaks_70 (lv_at hl 1 rfl) ?_
      refine lv_if_eq hx hb dX1_breaks_72 (tgt := 99) rfl (fun hc => ?_) (fun hc => ?_)
      · have h := br_T hc h
        refine lv_iconst (v := 0) hx hb dX1_breaks_99 (by decide) ?_
        exact rt_z (w := (wY cI cZ cC cJ cA P)) hx hb hr hlk rfl hP hD hS h dX1_breaks_100
      · have h := br_F hc h
        refine lv_aload_n hx hb dX1_breaks_75 rfl (lv_at hl 2 rfl) ?_
        refine va_get (D := D) (ci := 1) (v := .ref (P 33)) (C := RX1) (T := TX1) (N := 76) hx hb hgt iwX1 hown hK hP 0 gY_0 rfl 43 (Nat.le_of_ble_eq_true rfl) (hgt _ wd_5_4) (fun _ h9 => h9) rfl dX1_breaks_76 ?_
        refine lv_aload_n hx hb dX1_breaks_79 rfl (lv_at hl 2 rfl) ?_
        refine va_get (D := D) (ci := 1) (v := .ref (P 31)) (C := RX1) (T := TX1) (N := 76) hx hb hgt iwX1 hown hK hP 0 gY_0 rfl 41 (Nat.le_of_ble_eq_true rfl) (hgt _ wd_5_2) (fun _ h9 => h9) rfl dX1_breaks_80 ?_
        refine lv_iload_n hx hb dX1_breaks_83 rfl (lv_at hl 3 rfl) ?_
        refine va_iald hx hb hK hP 31 0 gY_31 rfl (ix_l h) dX1_breaks_84 ?_
        have h := ix_r h
        refine va_iald hx hb hK hP 33 0 gY_33 rfl (ix_l h) dX1_breaks_85 ?_
        have h := ix_r h
        refine lv_aload_n hx hb dX1_breaks_86 rfl (lv_at hl 2 rfl) ?_
        refine va_get (D := D) (ci := 1) (v := .ref (P 32)) (C := RX1) (T := TX1) (N := 76) hx hb hgt iwX1 hown hK hP 0 gY_0 rfl 42 (Nat.le_of_ble_eq_true rfl) (hgt _ wd_5_3) (fun _ h9 => h9) rfl dX1_breaks_87 ?_
        refine lv_iload_n hx hb dX1_breaks_90 rfl (lv_at hl 3 rfl) ?_
        refine va_iald hx hb hK hP 32 0 gY_32 rfl (ix_l h) dX1_breaks_91 ?_
        have h := ix_r h
        refine lv_icmp_eq hx hb dX1_breaks_92 (tgt := 99) rfl (fun hc => ?_) (fun hc => ?_)
        · have h := br_T hc h
          refine lv_iconst (v := 0) hx hb dX1_breaks_99 (by decide) ?_
          exact rt_z (w := (wY cI cZ cC cJ cA P)) hx hb hr hlk rfl hP hD hS h dX1_breaks_100
        · have h := br_F hc h
          refine lv_iconst (v := 1) hx hb dX1_breaks_95 (by decide) ?_
          refine lv_goto hx hb dX1_breaks_96 (tgt := 100) rfl ?_
          exact rt_z (w := (wY cI cZ cC cJ cA P)) hx hb hr hlk rfl hP hD hS h dX1_breaks_100
  · have h := br_T hc h
    refine lv_iload hx hb dX1_breaks_39 (lv_at hl 0 rfl) ?_
    refine lv_if_eq hx hb dX1_breaks_41 (tgt := 57) rfl (fun hc => ?_) (fun hc => ?_)
    · have h := br_T hc h
      refine lv_iconst (v := 0) hx hb dX1_breaks_57 (by decide) ?_
      exact rt_z (w := (wY cI cZ cC cJ cA P)) hx hb hr hlk rfl hP hD hS h dX1_breaks_58
    · have h := br_F hc h
      refine lv_aload_n hx hb dX1_breaks_44 rfl (lv_at hl 2 rfl) ?_
      refine va_get (D := D) (ci := 1) (v := .ref (P 36)) (C := RX1) (T := TX1) (N := 76) hx hb hgt iwX1 hown hK hP 0 gY_0 rfl 46 (Nat.le_of_ble_eq_true rfl) (hgt _ wd_5_7) (fun _ h9 => h9) rfl dX1_breaks_45 ?_
      refine lv_iload_n hx hb dX1_breaks_48 rfl (lv_at hl 3 rfl) ?_
      refine va_zald hx hb hK hP 36 1 gY_36 rfl (ix_l h) dX1_breaks_49 ?_
      have h := ix_r h
      refine lv_if_ne hx hb dX1_breaks_50 (tgt := 57) rfl (fun hc => ?_) (fun hc => ?_)
      · have h := br_F hc h
        refine lv_iconst (v := 0) hx hb dX1_breaks_57 (by decide) ?_
        exact rt_z (w := (wY cI cZ cC cJ cA P)) hx hb hr hlk rfl hP hD hS h dX1_breaks_58
      · have h := br_T hc h
        refine lv_iconst (v := 1) hx hb dX1_breaks_53 (by decide) ?_
        refine lv_goto hx hb dX1_breaks_54 (tgt := 58) rfl ?_
        exact rt_z (w := (wY cI cZ cC cJ cA P)) hx hb hr hlk rfl hP hD hS h dX1_breaks_58
set_option maxHeartbeats 4000000 in
set_option maxRecDepth 20000 in
theorem z_ChipMapModel_breaks (l : Launch) (D : va_G) (cI cZ cC cJ cA : ClassId) (P : Nat → Nat) (s0 : State) (hAO : ∀ q, (aP P 51) q → s0.heap.size ≤ q) (M : Mm) (a1 : Int32) (a2 : Int32) (a3 : Int32) (M' : Mm) (r' : Int32) (h : q_ChipMapModel_breaks M a1 a2 a3 = some (M', r')) : Met l yX1_breaks wsX1_breaks ({ frames := 2, cells := 0, slots := 0, locals := 46 }) (va_Pc [.ref (P 0), .int a1, .int a2, .int a3] (gPre s0 D [(cI, .int), (cZ, .boolean), (cC, .char), (cJ, .long), (cA, .array .int)] (aP P 51) ((wY cI cZ cC cJ cA P) M))) (gQi D (aP P 51) ((wY cI cZ cC cJ cA P) M') r') 0 0 (aP P 51) := by
  refine Met.ofW (cc := cX1_breaks) (maxL := 6) (ret := (some .boolean)) (by decide) rfl ?_
  intro p e s m args below meth c s₁ B hml hv
  obtain ⟨rfl, hP, hK, hD, hO⟩ := hv
  have hx := B.exec
  have hb := B.bytes
  have hr := B.returns
  have hlk := B.notSynchronized
  have hgt := fun w (h : w ∈ GT) => atoms_spec (ws := wsX1_breaks) B.pre w (List.mem_cons_of_mem _ h)
  have hown : s.vm.findClass RX1 = some m.cls := findClass_of_methodNamed B.named
  have hS : va_S (aP P 51) s.heap s.heap [] := va_S.rf
  have hl := lv_entry ([.ref (P 0), .int a1, .int a2, .int a3]) (n := 6) (Nat.le_of_ble_eq_true rfl)
  rw [lg_entry_eq]
  generalize (lg_sl ([.ref (P 0), .int a1, .int a2, .int a3]) ++ List.replicate (6 - (lg_sl ([.ref (P 0), .int a1, .int a2, .int a3])).length) Slot.unset).toArray = ls at hl ⊢
  have hl : lv_has ls 6 [(0, .ref (P 0)), (1, .int a1), (2, .int a2), (3, .int a3)] := hl
  exact b_ChipMapModel_breaks_0 hx hb hml hr hlk hgt hown hK hO hAO M a1 a2 a3 s.heap [] ls hl hP hD hS h
def q_ChipMapModel_firstBroken_2  : Nat → Mm → Int32 → Int32 → Int32 → Rs
  | 0, _, _, _, _ => none
  | n' + 1, M, v1, v2, v3 => if (M.1 0 38) ≤ v3 then (some (M, (-1))) else (cal (q_ChipMapModel_breaks M v3 v1 v2) fun M1 r2 => if r2 = 0 then (q_ChipMapModel_firstBroken_2 n' M1 v1 v2 (v3 + 1)) else (some (M1, v3)))
def q_ChipMapModel_firstBroken  (M : Mm) (a1 : Int32) (a2 : Int32) : Rs := q_ChipMapModel_firstBroken_2 4000 M a1 a2 0
set_option maxHeartbeats 4000000 in
set_option maxRecDepth 20000 in
theorem b_ChipMapModel_firstBroken_2 {p : Program} {l : Launch} {e : Env} {s s0 : State} {m : MethodId} {args : Array Value} {below : List Frame} {meth : Method} {c : Code} {D : va_G} {cI cZ cC cJ cA : ClassId} {P : Nat → Nat} {M' : Mm} {r' : Int32}  (hx : p.tables.exec = Jvm.exec) (hb : c.code = cX1_firstBroken) (hml : c.maxLocals = 4) (hr : meth.sig.returnType = (some .int)) (hlk : meth.locks = false) (hgt : ∀ w ∈ GT, w.before args s = true) (hown : s.vm.findClass RX1 = some m.cls) (hK : va_K D vwCl [(cI, .int), (cZ, .boolean), (cC, .char), (cJ, .long), (cA, .array .int)] s) (hO : Old s0 s) (hAO : ∀ q, (aP P 51) q → s0.heap.size ≤ q)  : ∀ (n' : Nat) (M : Mm) (v1 : Int32) (v2 : Int32) (v3 : Int32) (H : Heap) (locs : List Loc) (ls : Array Slot), lv_has ls 4 [(0, .ref (P 0)), (1, .int v1), (2, .int v2), (3, .int v3)] → va_P D vwCl ((wY cI cZ cC cJ cA P) M) H → va_D (aP P 51) ((wY cI cZ cC cJ cA P) M) → va_S (aP P 51) s.heap H locs → q_ChipMapModel_firstBroken_2 n' M v1 v2 v3 = some (M', r') → W p l e ({ frames := 3, cells := 0, slots := 0, locals := 71 }) s m args below meth c H locs 0 0 (MQ below (gQi D (aP P 51) ((wY cI cZ cC cJ cA P) M') r') args s 0 0 (aP P 51)) (F0 m 2 ls []) := by
  intro n'
  induction n' with
  | zero => exact fun _ _ _ _ _ _ _ _ _ _ _ h => (rs_n h).elim
  | succ n' ih =>
    intro M v1 v2 v3 H locs ls hl hP hD hS h
    rw [q_ChipMapModel_firstBroken_2] at h
    refine lv_iload_n hx hb dX1_firstBroken_2 rfl (lv_at hl 3 rfl) ?_
    refine lv_aload_n hx hb dX1_firstBroken_3 rfl (lv_at hl 0 rfl) ?_
    refine va_get (D := D) (ci := 1) (v := .int (M.1 0 38)) (C := RX1) (T := TX1) (N := 76) hx hb hgt iwX1 hown hK hP 0 gY_0 rfl 38 (Nat.le_of_ble_eq_true rfl) (hgt _ wd_4_239) (fun _ h9 => h9) rfl dX1_firstBroken_4 ?_
    refine lv_icmp_ge hx hb dX1_firstBroken_7 (tgt := 28) rfl (fun hc => ?_) (fun hc => ?_)
    · have h := br_T hc h
      refine lv_iconst (v := (-1)) hx hb dX1_firstBroken_28 (by decide) ?_
      exact rt_i (w := (wY cI cZ cC cJ cA P)) hx hb hr hlk hP hD hS h dX1_firstBroken_29
    · have h := br_F hc h
      refine lv_aload_n hx hb dX1_firstBroken_10 rfl (lv_at hl 0 rfl) ?_
      refine lv_iload_n hx hb dX1_firstBroken_11 rfl (lv_at hl 3 rfl) ?_
      refine lv_iload_n hx hb dX1_firstBroken_12 rfl (lv_at hl 1 rfl) ?_
      refine lv_iload_n hx hb dX1_firstBroken_13 rfl (lv_at hl 2 rfl) ?_
      obtain ⟨M1, r2, hq, h⟩ := cal_o h
      refine cx_i (va_runV (As := [.int v3, .int v1, .int v2]) (rest := []) ⟨hx, hb, hml, hown, hgt⟩ (z_ChipMapModel_breaks l D cI cZ cC cJ cA P s0 hAO M v3 v1 v2 M1 r2 hq) (cwV 3 hgt (gV wd_6_78 wd_6_80 sl__ChipMapModel____ChipMapModel___breaks____III_Z_____ChipMapModel___breaks____III_Z__ wd_0_15 wd_6_81) rfl rfl rfl (by decide +kernel) ⟨Nat.le_of_ble_eq_true rfl, Nat.le_of_ble_eq_true rfl⟩) (prV hP hK hD hO hAO hS (va_recv hK hP (ci := 1) (q0 := 0) rfl gY_0)) rfl rfl hl.1 rfl (lv_room (Nat.le_of_ble_eq_true rfl)) dX1_firstBroken_14 ⟨Nat.le_of_ble_eq_true rfl, Nat.le_of_ble_eq_true rfl⟩) hS (fun H locs hP hD hS => ?_)
      refine lv_if_eq hx hb dX1_firstBroken_17 (tgt := 22) rfl (fun hc => ?_) (fun hc => ?_)
      · have h := br_T hc h
        refine lv_iinc (v := (v3 + 1)) hx hb dX1_firstBroken_22 hl (k := 3) rfl rfl (Nat.le_of_ble_eq_true rfl) (lv' := [(3, .int (v3 + 1)), (0, .ref (P 0)), (1, .int v1), (2, .int v2)]) rfl (fun ls hl => ?_)
        refine lv_goto hx hb dX1_firstBroken_25 (tgt := 2) rfl ?_
        have hl := lv_sub hl [1, 2, 3, 0] (l' := [(0, .ref (P 0)), (1, .int v1), (2, .int v2), (3, .int (v3 + 1))]) rfl
        exact ih M1 v1 v2 (v3 + 1) H locs ls hl hP hD hS h
      · have h := br_F hc h
        refine lv_iload_n hx hb dX1_firstBroken_20 rfl (lv_at hl 3 rfl) ?_
        exact rt_i (w := (wY cI cZ cC cJ cA P)) hx hb hr hlk hP hD hS h dX1_firstBroken_21
set_option maxHeartbeats 4000000 in
set_option maxRecDepth 20000 in
theorem b_ChipMapModel_firstBroken_0 {p : Program} {l : Launch} {e : Env} {s s0 : State} {m : MethodId} {args : Array Value} {below : List Frame} {meth : Method} {c : Code} {D : va_G} {cI cZ cC cJ cA : ClassId} {P : Nat → Nat} {M' : Mm} {r' : Int32}  (hx : p.tables.exec = Jvm.exec) (hb : c.code = cX1_firstBroken) (hml : c.maxLocals = 4) (hr : meth.sig.returnType = (some .int)) (hlk : meth.locks = false) (hgt : ∀ w ∈ GT, w.before args s = true) (hown : s.vm.findClass RX1 = some m.cls) (hK : va_K D vwCl [(cI, .int), (cZ, .boolean), (cC, .char), (cJ, .long), (cA, .array .int)] s) (hO : Old s0 s) (hAO : ∀ q, (aP P 51) q → s0.heap.size ≤ q)  : ∀ (M : Mm) (a1 : Int32) (a2 : Int32) (H : Heap) (locs : List Loc) (ls : Array Slot), lv_has ls 4 [(0, .ref (P 0)), (1, .int a1), (2, .int a2)] → va_P D vwCl ((wY cI cZ cC cJ cA P) M) H → va_D (aP P 51) ((wY cI cZ cC cJ cA P) M) → va_S (aP P 51) s.heap H locs → q_ChipMapModel_firstBroken M a1 a2 = some (M', r') → W p l e ({ frames := 3, cells := 0, slots := 0, locals := 71 }) s m args below meth c H locs 0 0 (MQ below (gQi D (aP P 51) ((wY cI cZ cC cJ cA P) M') r') args s 0 0 (aP P 51)) (F0 m 0 ls []) := by
  intro M a1 a2 H locs ls hl hP hD hS h
  unfold q_ChipMapModel_firstBroken at h
  refine lv_iconst (v := 0) hx hb dX1_firstBroken_0 (by decide) ?_
  refine lv_istore_n hx hb dX1_firstBroken_1 rfl hl (Nat.le_of_ble_eq_true rfl) (lv' := [(3, .int 0), (0, .ref (P 0)), (1, .int a1), (2, .int a2)]) rfl (fun ls hl => ?_)
  have hl := lv_sub hl [1, 2, 3, 0] (l' := [(0, .ref (P 0)), (1, .int a1), (2, .int a2), (3, .int 0)]) rfl
  exact b_ChipMapModel_firstBroken_2 hx hb hml hr hlk hgt hown hK hO hAO 4000 M a1 a2 0 H _ ls hl hP hD hS h
set_option maxHeartbeats 4000000 in
set_option maxRecDepth 20000 in
theorem z_ChipMapModel_firstBroken (l : Launch) (D : va_G) (cI cZ cC cJ cA : ClassId) (P : Nat → Nat) (s0 : State) (hAO : ∀ q, (aP P 51) q → s0.heap.size ≤ q) (M : Mm) (a1 : Int32) (a2 : Int32) (M' : Mm) (r' : Int32) (h : q_ChipMapModel_firstBroken M a1 a2 = some (M', r')) : Met l yX1_firstBroken wsX1_firstBroken ({ frames := 3, cells := 0, slots := 0, locals := 71 }) (va_Pc [.ref (P 0), .int a1, .int a2] (gPre s0 D [(cI, .int), (cZ, .boolean), (cC, .char), (cJ, .long), (cA, .array .int)] (aP P 51) ((wY cI cZ cC cJ cA P) M))) (gQi D (aP P 51) ((wY cI cZ cC cJ cA P) M') r') 0 0 (aP P 51) := by
  refine Met.ofW (cc := cX1_firstBroken) (maxL := 4) (ret := (some .int)) (by decide) rfl ?_
  intro p e s m args below meth c s₁ B hml hv
  obtain ⟨rfl, hP, hK, hD, hO⟩ := hv
  have hx := B.exec
  have hb := B.bytes
  have hr := B.returns
  have hlk := B.notSynchronized
  have hgt := fun w (h : w ∈ GT) => atoms_spec (ws := wsX1_firstBroken) B.pre w (List.mem_cons_of_mem _ h)
  have hown : s.vm.findClass RX1 = some m.cls := findClass_of_methodNamed B.named
  have hS : va_S (aP P 51) s.heap s.heap [] := va_S.rf
  have hl := lv_entry ([.ref (P 0), .int a1, .int a2]) (n := 4) (Nat.le_of_ble_eq_true rfl)
  rw [lg_entry_eq]
  generalize (lg_sl ([.ref (P 0), .int a1, .int a2]) ++ List.replicate (4 - (lg_sl ([.ref (P 0), .int a1, .int a2])).length) Slot.unset).toArray = ls at hl ⊢
  have hl : lv_has ls 4 [(0, .ref (P 0)), (1, .int a1), (2, .int a2)] := hl
  exact b_ChipMapModel_firstBroken_0 hx hb hml hr hlk hgt hown hK hO hAO M a1 a2 s.heap [] ls hl hP hD hS h
end
