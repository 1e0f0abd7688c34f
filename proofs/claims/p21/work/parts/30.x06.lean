section
def q_Judge_decide_86  (M : Mm)  : Rs := if (M.1 23 2) = (-1) then (lt' (stI M 23 (upd (M.1 23) 1 0)) fun M1 => lt' (stI M1 23 (upd (M1.1 23) 2 0)) fun M2 => some (M2, 0)) else (some (M, 0))
def q_Judge_decide_65  (M : Mm)  : Rs := if (M.1 23 2) = (-1) then (lt' (stI M 23 (upd (M.1 23) 1 4)) fun M1 => cal (q_Judge_badRule M1) fun M2 r3 => lt' (stI M2 23 (upd (M2.1 23) 2 r3)) fun M4 => q_Judge_decide_86 M4) else (q_Judge_decide_86 M)
def q_Judge_decide_49  (M : Mm)  : Rs := if (M.1 23 2) = (-1) then (cal (q_Judge_badOffset M) fun M1 r2 => lt' (stI M1 23 (upd (M1.1 23) 2 r2)) fun M3 => q_Judge_decide_65 M3) else (q_Judge_decide_65 M)
def q_Judge_decide  (M : Mm) (a1 : Int32) (a2 : Int32) : Rs := if a1 = 0 then (lt' (stI M 23 (upd (M.1 23) 1 1)) fun M1 => lt' (stI M1 23 (upd (M1.1 23) 2 a2)) fun M2 => some (M2, 0)) else (lt' (stI M 23 (upd (M.1 23) 1 2)) fun M1 => cal (q_Judge_badField M1) fun M2 r3 => lt' (stI M2 23 (upd (M2.1 23) 2 r3)) fun M4 => if (M4.1 23 2) = (-1) then (lt' (stI M4 23 (upd (M4.1 23) 1 3)) fun M5 => cal (q_Judge_badBank M5) fun M6 r7 => lt' (stI M6 23 (upd (M6.1 23) 2 r7)) fun M8 => q_Judge_decide_49 M8) else (q_Judge_decide_49 M4))
set_option maxHeartbeats 4000000 in
set_option maxRecDepth 20000 in
theorem b_Judge_decide_86 {p : Program} {l : Launch} {e : Env} {s s0 : State} {m : MethodId} {args : Array Value} {below : List Frame} {meth : Method} {c : Code} {D : va_G} {cI cZ cC cJ cA : ClassId} {P : Nat → Nat} {M' : Mm} {r' : Int32}  (hx : p.tables.exec = Jvm.exec) (hb : c.code = cX5_decide) (hml : c.maxLocals = 3) (hr : meth.sig.returnType = none) (hlk : meth.locks = false) (hgt : ∀ w ∈ GT, w.before args s = true) (hown : s.vm.findClass RX5 = some m.cls) (hK : va_K D vwCl [(cI, .int), (cZ, .boolean), (cC, .char), (cJ, .long), (cA, .array .int)] s) (hO : Old s0 s) (hAO : ∀ q, (aP P 77) q → s0.heap.size ≤ q)  : ∀ (M : Mm)  (H : Heap) (locs : List Loc) (ls : Array Slot), lv_has ls 3 [(0, .ref (P 23))] → va_P D vwCl ((wX cI cZ cC cJ cA P) M) H → va_D (aP P 77) ((wX cI cZ cC cJ cA P) M) → va_S (aP P 77) s.heap H locs → q_Judge_decide_86 M = some (M', r') → W p l e ({ frames := 3, cells := 0, slots := 0, locals := 65 }) s m args below meth c H locs 0 0 (MQ below (gQv D (aP P 77) ((wX cI cZ cC cJ cA P) M')) args s 0 0 (aP P 77)) (F0 m 86 ls []) := by
  intro M H locs ls hl hP hD hS h
  unfold q_Judge_decide_86 at h
  refine lv_aload_n hx hb dX5_decide_86 rfl (lv_at hl 0 rfl) ?_
  refine va_get (D := D) (ci := 5) (v := .int (M.1 23 2)) (C := RX5) (T := TX5) (N := 3) hx hb hgt iwX5 hown hK hP 23 gX_23 rfl 2 (Nat.le_of_ble_eq_true rfl) (hgt _ wd_0_211) (fun _ h9 => h9) rfl dX5_decide_87 ?_
  refine lv_iconst (v := (-1)) hx hb dX5_decide_90 (by decide) ?_
  refine lv_icmp_ne hx hb dX5_decide_91 (tgt := 104) rfl (fun hc => ?_) (fun hc => ?_)
  · have h := br_F hc h
    exact rt_v (w := (wX cI cZ cC cJ cA P)) (r := r') hx hb hr hlk hP hD hS h dX5_decide_104
  · have h := br_T hc h
    refine lv_aload_n hx hb dX5_decide_94 rfl (lv_at hl 0 rfl) ?_
    refine lv_iconst (v := 0) hx hb dX5_decide_95 (by decide) ?_
    refine pm_put (w := (wX cI cZ cC cJ cA P)) (D := D) (ci := 5) (x := 0) (ty := .int) (C := RX5) (T := TX5) (N := 3) hx hb hgt iwX5 tyX5 tyX5_ok nmX5 hown hK hP hD hS 23 gX_23 rfl 1 (Nat.le_of_ble_eq_true rfl) (hgt _ wd_0_209) (fun _ h9 => h9) rfl (by decide +kernel) rfl rfl (Nat.le_of_ble_eq_true rfl) (sX_23_1 _) dX5_decide_96 (fun M1 eM1 H locs hP hD hS => ?_)
    have h := lt_o eM1 h
    refine lv_aload_n hx hb dX5_decide_99 rfl (lv_at hl 0 rfl) ?_
    refine lv_iconst (v := 0) hx hb dX5_decide_100 (by decide) ?_
    refine pm_put (w := (wX cI cZ cC cJ cA P)) (D := D) (ci := 5) (x := 0) (ty := .int) (C := RX5) (T := TX5) (N := 3) hx hb hgt iwX5 tyX5 tyX5_ok nmX5 hown hK hP hD hS 23 gX_23 rfl 2 (Nat.le_of_ble_eq_true rfl) (hgt _ wd_0_211) (fun _ h9 => h9) rfl (by decide +kernel) rfl rfl (Nat.le_of_ble_eq_true rfl) (sX_23_2 _) dX5_decide_101 (fun M2 eM2 H locs hP hD hS => ?_)
    have h := lt_o eM2 h
    exact rt_v (w := (wX cI cZ cC cJ cA P)) (r := r') hx hb hr hlk hP hD hS h dX5_decide_104
set_option maxHeartbeats 4000000 in
set_option maxRecDepth 20000 in
theorem b_Judge_decide_65 {p : Program} {l : Launch} {e : Env} {s s0 : State} {m : MethodId} {args : Array Value} {below : List Frame} {meth : Method} {c : Code} {D : va_G} {cI cZ cC cJ cA : ClassId} {P : Nat → Nat} {M' : Mm} {r' : Int32}  (hx : p.tables.exec = Jvm.exec) (hb : c.code = cX5_decide) (hml : c.maxLocals = 3) (hr : meth.sig.returnType = none) (hlk : meth.locks = false) (hgt : ∀ w ∈ GT, w.before args s = true) (hown : s.vm.findClass RX5 = some m.cls) (hK : va_K D vwCl [(cI, .int), (cZ, .boolean), (cC, .char), (cJ, .long), (cA, .array .int)] s) (hO : Old s0 s) (hAO : ∀ q, (aP P 77) q → s0.heap.size ≤ q)  : ∀ (M : Mm)  (H : Heap) (locs : List Loc) (ls : Array Slot), lv_has ls 3 [(0, .ref (P 23))] → va_P D vwCl ((wX cI cZ cC cJ cA P) M) H → va_D (aP P 77) ((wX cI cZ cC cJ cA P) M) → va_S (aP P 77) s.heap H locs → q_Judge_decide_65 M = some (M', r') → W p l e ({ frames := 3, cells := 0, slots := 0, locals := 65 }) s m args below meth c H locs 0 0 (MQ below (gQv D (aP P 77) ((wX cI cZ cC cJ cA P) M')) args s 0 0 (aP P 77)) (F0 m 65 ls []) := by
  intro M H locs ls hl hP hD hS h
  unfold q_Judge_decide_65 at h
  refine lv_aload_n hx hb dX5_decide_65 rfl (lv_at hl 0 rfl) ?_
  refine va_get (D := D) (ci := 5) (v := .int (M.1 23 2)) (C := RX5) (T := TX5) (N := 3) hx hb hgt iwX5 hown hK hP 23 gX_23 rfl 2 (Nat.le_of_ble_eq_true rfl) (hgt _ wd_0_211) (fun _ h9 => h9) rfl dX5_decide_66 ?_
  refine lv_iconst (v := (-1)) hx hb dX5_decide_69 (by decide) ?_
  refine lv_icmp_ne hx hb dX5_decide_70 (tgt := 86) rfl (fun hc => ?_) (fun hc => ?_)
  · have h := br_F hc h
    have hl := lv_sub hl [0] (l' := [(0, .ref (P 23))]) rfl
    exact b_Judge_decide_86 hx hb hml hr hlk hgt hown hK hO hAO M H _ ls hl hP hD hS h
  · have h := br_T hc h
    refine lv_aload_n hx hb dX5_decide_73 rfl (lv_at hl 0 rfl) ?_
    refine lv_iconst (v := 4) hx hb dX5_decide_74 (by decide) ?_
    refine pm_put (w := (wX cI cZ cC cJ cA P)) (D := D) (ci := 5) (x := 4) (ty := .int) (C := RX5) (T := TX5) (N := 3) hx hb hgt iwX5 tyX5 tyX5_ok nmX5 hown hK hP hD hS 23 gX_23 rfl 1 (Nat.le_of_ble_eq_true rfl) (hgt _ wd_0_209) (fun _ h9 => h9) rfl (by decide +kernel) rfl rfl (Nat.le_of_ble_eq_true rfl) (sX_23_1 _) dX5_decide_75 (fun M1 eM1 H locs hP hD hS => ?_)
    have h := lt_o eM1 h
    refine lv_aload_n hx hb dX5_decide_78 rfl (lv_at hl 0 rfl) ?_
    refine lv_aload_n hx hb dX5_decide_79 rfl (lv_at hl 0 rfl) ?_
    obtain ⟨M2, r3, hq, h⟩ := cal_o h
    refine cx_i (va_runV (As := []) (rest := [.ref (P 23)]) ⟨hx, hb, hml, hown, hgt⟩ (z_Judge_badRule l D cI cZ cC cJ cA P s0 hAO M1 M2 r3 hq) (cwV 0 hgt (gV wd_4_66 wd_4_68 sl__ChipMap_Judge____ChipMap_Judge___badRule_____I_____ChipMap_Judge___badRule_____I__ wd_0_5 wd_4_69) rfl rfl rfl (by decide +kernel) ⟨Nat.le_of_ble_eq_true rfl, Nat.le_of_ble_eq_true rfl⟩) (prV hP hK hD hO hAO hS (va_recv hK hP (ci := 5) (q0 := 23) rfl gX_23)) rfl rfl hl.1 rfl (lv_room (Nat.le_of_ble_eq_true rfl)) dX5_decide_80 ⟨Nat.le_of_ble_eq_true rfl, Nat.le_of_ble_eq_true rfl⟩) hS (fun H locs hP hD hS => ?_)
    refine pm_put (w := (wX cI cZ cC cJ cA P)) (D := D) (ci := 5) (x := r3) (ty := .int) (C := RX5) (T := TX5) (N := 3) hx hb hgt iwX5 tyX5 tyX5_ok nmX5 hown hK hP hD hS 23 gX_23 rfl 2 (Nat.le_of_ble_eq_true rfl) (hgt _ wd_0_211) (fun _ h9 => h9) rfl (by decide +kernel) rfl rfl (Nat.le_of_ble_eq_true rfl) (sX_23_2 _) dX5_decide_83 (fun M4 eM4 H locs hP hD hS => ?_)
    have h := lt_o eM4 h
    have hl := lv_sub hl [0] (l' := [(0, .ref (P 23))]) rfl
    exact b_Judge_decide_86 hx hb hml hr hlk hgt hown hK hO hAO M4 H _ ls hl hP hD hS h
set_option maxHeartbeats 4000000 in
set_option maxRecDepth 20000 in
theorem b_Judge_decide_49 {p : Program} {l : Launch} {e : Env} {s s0 : State} {m : MethodId} {args : Array Value} {below : List Frame} {meth : Method} {c : Code} {D : va_G} {cI cZ cC cJ cA : ClassId} {P : Nat → Nat} {M' : Mm} {r' : Int32}  (hx : p.tables.exec = Jvm.exec) (hb : c.code = cX5_decide) (hml : c.maxLocals = 3) (hr : meth.sig.returnType = none) (hlk : meth.locks = false) (hgt : ∀ w ∈ GT, w.before args s = true) (hown : s.vm.findClass RX5 = some m.cls) (hK : va_K D vwCl [(cI, .int), (cZ, .boolean), (cC, .char), (cJ, .long), (cA, .array .int)] s) (hO : Old s0 s) (hAO : ∀ q, (aP P 77) q → s0.heap.size ≤ q)  : ∀ (M : Mm)  (H : Heap) (locs : List Loc) (ls : Array Slot), lv_has ls 3 [(0, .ref (P 23))] → va_P D vwCl ((wX cI cZ cC cJ cA P) M) H → va_D (aP P 77) ((wX cI cZ cC cJ cA P) M) → va_S (aP P 77) s.heap H locs → q_Judge_decide_49 M = some (M', r') → W p l e ({ frames := 3, cells := 0, slots := 0, locals := 65 }) s m args below meth c H locs 0 0 (MQ below (gQv D (aP P 77) ((wX cI cZ cC cJ cA P) M')) args s 0 0 (aP P 77)) (F0 m 49 ls []) := by
  intro M H locs ls hl hP hD hS h
  unfold q_Judge_decide_49 at h
  refine lv_aload_n hx hb dX5_decide_49 rfl (lv_at hl 0 rfl) ?_
  refine va_get (D := D) (ci := 5) (v := .int (M.1 23 2)) (C := RX5) (T := TX5) (N := 3) hx hb hgt iwX5 hown hK hP 23 gX_23 rfl 2 (Nat.le_of_ble_eq_true rfl) (hgt _ wd_0_211) (fun _ h9 => h9) rfl dX5_decide_50 ?_
  refine lv_iconst (v := (-1)) hx hb dX5_decide_53 (by decide) ?_
  refine lv_icmp_ne hx hb dX5_decide_54 (tgt := 65) rfl (fun hc => ?_) (fun hc => ?_)
  · have h := br_F hc h
    have hl := lv_sub hl [0] (l' := [(0, .ref (P 23))]) rfl
    exact b_Judge_decide_65 hx hb hml hr hlk hgt hown hK hO hAO M H _ ls hl hP hD hS h
  · have h := br_T hc h
    refine lv_aload_n hx hb dX5_decide_57 rfl (lv_at hl 0 rfl) ?_
    refine lv_aload_n hx hb dX5_decide_58 rfl (lv_at hl 0 rfl) ?_
    obtain ⟨M1, r2, hq, h⟩ := cal_o h
    refine cx_i (va_runV (As := []) (rest := [.ref (P 23)]) ⟨hx, hb, hml, hown, hgt⟩ (z_Judge_badOffset l D cI cZ cC cJ cA P s0 hAO M M1 r2 hq) (cwV 0 hgt (gV wd_4_58 wd_4_60 sl__ChipMap_Judge____ChipMap_Judge___badOffset_____I_____ChipMap_Judge___badOffset_____I__ wd_0_5 wd_4_61) rfl rfl rfl (by decide +kernel) ⟨Nat.le_of_ble_eq_true rfl, Nat.le_of_ble_eq_true rfl⟩) (prV hP hK hD hO hAO hS (va_recv hK hP (ci := 5) (q0 := 23) rfl gX_23)) rfl rfl hl.1 rfl (lv_room (Nat.le_of_ble_eq_true rfl)) dX5_decide_59 ⟨Nat.le_of_ble_eq_true rfl, Nat.le_of_ble_eq_true rfl⟩) hS (fun H locs hP hD hS => ?_)
    refine pm_put (w := (wX cI cZ cC cJ cA P)) (D := D) (ci := 5) (x := r2) (ty := .int) (C := RX5) (T := TX5) (N := 3) hx hb hgt iwX5 tyX5 tyX5_ok nmX5 hown hK hP hD hS 23 gX_23 rfl 2 (Nat.le_of_ble_eq_true rfl) (hgt _ wd_0_211) (fun _ h9 => h9) rfl (by decide +kernel) rfl rfl (Nat.le_of_ble_eq_true rfl) (sX_23_2 _) dX5_decide_62 (fun M3 eM3 H locs hP hD hS => ?_)
    have h := lt_o eM3 h
    have hl := lv_sub hl [0] (l' := [(0, .ref (P 23))]) rfl
    exact b_Judge_decide_65 hx hb hml hr hlk hgt hown hK hO hAO M3 H _ ls hl hP hD hS h
set_option maxHeartbeats 4000000 in
set_option maxRecDepth 20000 in
theorem b_Judge_decide_0 {p : Program} {l : Launch} {e : Env} {s s0 : State} {m : MethodId} {args : Array Value} {below : List Frame} {meth : Method} {c : Code} {D : va_G} {cI cZ cC cJ cA : ClassId} {P : Nat → Nat} {M' : Mm} {r' : Int32}  (hx : p.tables.exec = Jvm.exec) (hb : c.code = cX5_decide) (hml : c.maxLocals = 3) (hr : meth.sig.returnType = none) (hlk : meth.locks = false) (hgt : ∀ w ∈ GT, w.before args s = true) (hown : s.vm.findClass RX5 = some m.cls) (hK : va_K D vwCl [(cI, .int), (cZ, .boolean), (cC, .char), (cJ, .long), (cA, .array .int)] s) (hO : Old s0 s) (hAO : ∀ q, (aP P 77) q → s0.heap.size ≤ q)  : ∀ (M : Mm) (a1 : Int32) (a2 : Int32) (H : Heap) (locs : List Loc) (ls : Array Slot), lv_has ls 3 [(0, .ref (P 23)), (1, .int a1), (2, .int a2)] → va_P D vwCl ((wX cI cZ cC cJ cA P) M) H → va_D (aP P 77) ((wX cI cZ cC cJ cA P) M) → va_S (aP P 77) s.heap H locs → q_Judge_decide M a1 a2 = some (M', r') → W p l e ({ frames := 3, cells := 0, slots := 0, locals := 65 }) s m args below meth c H locs 0 0 (MQ below (gQv D (aP P 77) ((wX cI cZ cC cJ cA P) M')) args s 0 0 (aP P 77)) (F0 m 0 ls []) := by
  intro M a1 a2 H locs ls hl hP hD hS h
  unfold q_Judge_decide at h
  refine lv_iload_n hx hb dX5_decide_0 rfl (lv_at hl 1 rfl) ?_
  refine lv_if_ne hx hb dX5_decide_1 (tgt := 15) rfl (fun hc => ?_) (fun hc => ?_)
  · have h := br_F hc h
    refine lv_aload_n hx hb dX5_decide_15 rfl (lv_at hl 0 rfl) ?_
    refine lv_iconst (v := 2) hx hb dX5_decide_16 (by decide) ?_
    refine pm_put (w := (wX cI cZ cC cJ cA P)) (D := D) (ci := 5) (x := 2) (ty := .int) (C := RX5) (T := TX5) (N := 3) hx hb hgt iwX5 tyX5 tyX5_ok nmX5 hown hK hP hD hS 23 gX_23 rfl 1 (Nat.le_of_ble_eq_true rfl) (hgt _ wd_0_209) (fun _ h9 => h9) rfl (by decide +kernel) rfl rfl (Nat.le_of_ble_eq_true rfl) (sX_23_1 _) dX5_decide_17 (fun M1 eM1 H locs hP hD hS => ?_)
    have h := lt_o eM1 h
    refine lv_aload_n hx hb dX5_decide_20 rfl (lv_at hl 0 rfl) ?_
    refine lv_aload_n hx hb dX5_decide_21 rfl (lv_at hl 0 rfl) ?_
    obtain ⟨M2, r3, hq, h⟩ := cal_o h
    refine cx_i (va_runV (As := []) (rest := [.ref (P 23)]) ⟨hx, hb, hml, hown, hgt⟩ (z_Judge_badField l D cI cZ cC cJ cA P s0 hAO M1 M2 r3 hq) (cwV 0 hgt (gV wd_4_38 wd_4_40 sl__ChipMap_Judge____ChipMap_Judge___badField_____I_____ChipMap_Judge___badField_____I__ wd_0_5 wd_4_41) rfl rfl rfl (by decide +kernel) ⟨Nat.le_of_ble_eq_true rfl, Nat.le_of_ble_eq_true rfl⟩) (prV hP hK hD hO hAO hS (va_recv hK hP (ci := 5) (q0 := 23) rfl gX_23)) rfl rfl hl.1 rfl (lv_room (Nat.le_of_ble_eq_true rfl)) dX5_decide_22 ⟨Nat.le_of_ble_eq_true rfl, Nat.le_of_ble_eq_true rfl⟩) hS (fun H locs hP hD hS => ?_)
    refine pm_put (w := (wX cI cZ cC cJ cA P)) (D := D) (ci := 5) (x := r3) (ty := .int) (C := RX5) (T := TX5) (N := 3) hx hb hgt iwX5 tyX5 tyX5_ok nmX5 hown hK hP hD hS 23 gX_23 rfl 2 (Nat.le_of_ble_eq_true rfl) (hgt _ wd_0_211) (fun _ h9 => h9) rfl (by decide +kernel) rfl rfl (Nat.le_of_ble_eq_true rfl) (sX_23_2 _) dX5_decide_25 (fun M4 eM4 H locs hP hD hS => ?_)
    have h := lt_o eM4 h
    refine lv_aload_n hx hb dX5_decide_28 rfl (lv_at hl 0 rfl) ?_
    refine va_get (D := D) (ci := 5) (v := .int (M4.1 23 2)) (C := RX5) (T := TX5) (N := 3) hx hb hgt iwX5 hown hK hP 23 gX_23 rfl 2 (Nat.le_of_ble_eq_true rfl) (hgt _ wd_0_211) (fun _ h9 => h9) rfl dX5_decide_29 ?_
    refine lv_iconst (v := (-1)) hx hb dX5_decide_32 (by decide) ?_
    refine lv_icmp_ne hx hb dX5_decide_33 (tgt := 49) rfl (fun hc => ?_) (fun hc => ?_)
    · have h := br_F hc h
      have hl := lv_sub hl [0] (l' := [(0, .ref (P 23))]) rfl
      exact b_Judge_decide_49 hx hb hml hr hlk hgt hown hK hO hAO M4 H _ ls hl hP hD hS h
    · have h := br_T hc h
      refine lv_aload_n hx hb dX5_decide_36 rfl (lv_at hl 0 rfl) ?_
      refine lv_iconst (v := 3) hx hb dX5_decide_37 (by decide) ?_
      refine pm_put (w := (wX cI cZ cC cJ cA P)) (D := D) (ci := 5) (x := 3) (ty := .int) (C := RX5) (T := TX5) (N := 3) hx hb hgt iwX5 tyX5 tyX5_ok nmX5 hown hK hP hD hS 23 gX_23 rfl 1 (Nat.le_of_ble_eq_true rfl) (hgt _ wd_0_209) (fun _ h9 => h9) rfl (by decide +kernel) rfl rfl (Nat.le_of_ble_eq_true rfl) (sX_23_1 _) dX5_decide_38 (fun M5 eM5 H locs hP hD hS => ?_)
      have h := lt_o eM5 h
      refine lv_aload_n hx hb dX5_decide_41 rfl (lv_at hl 0 rfl) ?_
      refine lv_aload_n hx hb dX5_decide_42 rfl (lv_at hl 0 rfl) ?_
      obtain ⟨M6, r7, hq, h⟩ := cal_o h
      refine cx_i (va_runV (As := []) (rest := [.ref (P 23)]) ⟨hx, hb, hml, hown, hgt⟩ (z_Judge_badBank l D cI cZ cC cJ cA P s0 hAO M5 M6 r7 hq) (cwV 0 hgt (gV wd_4_50 wd_4_52 sl__ChipMap_Judge____ChipMap_Judge___badBank_____I_____ChipMap_Judge___badBank_____I__ wd_0_5 wd_4_53) rfl rfl rfl (by decide +kernel) ⟨Nat.le_of_ble_eq_true rfl, Nat.le_of_ble_eq_true rfl⟩) (prV hP hK hD hO hAO hS (va_recv hK hP (ci := 5) (q0 := 23) rfl gX_23)) rfl rfl hl.1 rfl (lv_room (Nat.le_of_ble_eq_true rfl)) dX5_decide_43 ⟨Nat.le_of_ble_eq_true rfl, Nat.le_of_ble_eq_true rfl⟩) hS (fun H locs hP hD hS => ?_)
      refine pm_put (w := (wX cI cZ cC cJ cA P)) (D := D) (ci := 5) (x := r7) (ty := .int) (C := RX5) (T := TX5) (N := 3) hx hb hgt iwX5 tyX5 tyX5_ok nmX5 hown hK hP hD hS 23 gX_23 rfl 2 (Nat.le_of_ble_eq_true rfl) (hgt _ wd_0_211) (fun _ h9 => h9) rfl (by decide +kernel) rfl rfl (Nat.le_of_ble_eq_true rfl) (sX_23_2 _) dX5_decide_46 (fun M8 eM8 H locs hP hD hS => ?_)
      have h := lt_o eM8 h
      have hl := lv_sub hl [0] (l' := [(0, .ref (P 23))]) rfl
      exact b_Judge_decide_49 hx hb hml hr hlk hgt hown hK hO hAO M8 H _ ls hl hP hD hS h
  · have h := br_T hc h
    refine lv_aload_n hx hb dX5_decide_4 rfl (lv_at hl 0 rfl) ?_
    refine lv_iconst (v := 1) hx hb dX5_decide_5 (by decide) ?_
    refine pm_put (w := (wX cI cZ cC cJ cA P)) (D := D) (ci := 5) (x := 1) (ty := .int) (C := RX5) (T := TX5) (N := 3) hx hb hgt iwX5 tyX5 tyX5_ok nmX5 hown hK hP hD hS 23 gX_23 rfl 1 (Nat.le_of_ble_eq_true rfl) (hgt _ wd_0_209) (fun _ h9 => h9) rfl (by decide +kernel) rfl rfl (Nat.le_of_ble_eq_true rfl) (sX_23_1 _) dX5_decide_6 (fun M1 eM1 H locs hP hD hS => ?_)
    have h := lt_o eM1 h
    refine lv_aload_n hx hb dX5_decide_9 rfl (lv_at hl 0 rfl) ?_
    refine lv_iload_n hx hb dX5_decide_10 rfl (lv_at hl 2 rfl) ?_
    refine pm_put (w := (wX cI cZ cC cJ cA P)) (D := D) (ci := 5) (x := a2) (ty := .int) (C := RX5) (T := TX5) (N := 3) hx hb hgt iwX5 tyX5 tyX5_ok nmX5 hown hK hP hD hS 23 gX_23 rfl 2 (Nat.le_of_ble_eq_true rfl) (hgt _ wd_0_211) (fun _ h9 => h9) rfl (by decide +kernel) rfl rfl (Nat.le_of_ble_eq_true rfl) (sX_23_2 _) dX5_decide_11 (fun M2 eM2 H locs hP hD hS => ?_)
    have h := lt_o eM2 h
    exact rt_v (w := (wX cI cZ cC cJ cA P)) (r := r') hx hb hr hlk hP hD hS h dX5_decide_14
set_option maxHeartbeats 4000000 in
set_option maxRecDepth 20000 in
theorem z_Judge_decide (l : Launch) (D : va_G) (cI cZ cC cJ cA : ClassId) (P : Nat → Nat) (s0 : State) (hAO : ∀ q, (aP P 77) q → s0.heap.size ≤ q) (M : Mm) (a1 : Int32) (a2 : Int32) (M' : Mm) (r' : Int32) (h : q_Judge_decide M a1 a2 = some (M', r')) : Met l yX5_decide wsX5_decide ({ frames := 3, cells := 0, slots := 0, locals := 65 }) (va_Pc [.ref (P 23), .int a1, .int a2] (gPre s0 D [(cI, .int), (cZ, .boolean), (cC, .char), (cJ, .long), (cA, .array .int)] (aP P 77) ((wX cI cZ cC cJ cA P) M))) (gQv D (aP P 77) ((wX cI cZ cC cJ cA P) M')) 0 0 (aP P 77) := by
  refine Met.ofW (cc := cX5_decide) (maxL := 3) (ret := none) (by decide) rfl ?_
  intro p e s m args below meth c s₁ B hml hv
  obtain ⟨rfl, hP, hK, hD, hO⟩ := hv
  have hx := B.exec
  have hb := B.bytes
  have hr := B.returns
  have hlk := B.notSynchronized
  have hgt := fun w (h : w ∈ GT) => atoms_spec (ws := wsX5_decide) B.pre w (List.mem_cons_of_mem _ h)
  have hown : s.vm.findClass RX5 = some m.cls := findClass_of_methodNamed B.named
  have hS : va_S (aP P 77) s.heap s.heap [] := va_S.rf
  have hl := lv_entry ([.ref (P 23), .int a1, .int a2]) (n := 3) (Nat.le_of_ble_eq_true rfl)
  rw [lg_entry_eq]
  generalize (lg_sl ([.ref (P 23), .int a1, .int a2]) ++ List.replicate (3 - (lg_sl ([.ref (P 23), .int a1, .int a2])).length) Slot.unset).toArray = ls at hl ⊢
  have hl : lv_has ls 3 [(0, .ref (P 23)), (1, .int a1), (2, .int a2)] := hl
  exact b_Judge_decide_0 hx hb hml hr hlk hgt hown hK hO hAO M a1 a2 s.heap [] ls hl hP hD hS h
def q_Rules_copy  (M : Mm)  : Rs := lt' (stI M 43 (upd (M.1 43) 0 (M.1 14 0))) fun M1 => cpk 0 0 12 12 12 <| lt' (stI M1 44 (va_cpy (M1.1 15) (M1.1 44) (0 : Int32).toNatClampNeg (0 : Int32).toNatClampNeg (12 : Int32).toNatClampNeg)) fun M2 => cpk 0 0 12 12 12 <| lt' (stI M2 45 (va_cpy (M2.1 16) (M2.1 45) (0 : Int32).toNatClampNeg (0 : Int32).toNatClampNeg (12 : Int32).toNatClampNeg)) fun M3 => cpk 0 0 12 12 12 <| lt' (stI M3 46 (va_cpy (M3.1 17) (M3.1 46) (0 : Int32).toNatClampNeg (0 : Int32).toNatClampNeg (12 : Int32).toNatClampNeg)) fun M4 => cpk 0 0 12 12 12 <| lt' (stI M4 47 (va_cpy (M4.1 18) (M4.1 47) (0 : Int32).toNatClampNeg (0 : Int32).toNatClampNeg (12 : Int32).toNatClampNeg)) fun M5 => some (M5, 0)
set_option maxHeartbeats 4000000 in
set_option maxRecDepth 20000 in
theorem b_Rules_copy_0 {p : Program} {l : Launch} {e : Env} {s s0 : State} {m : MethodId} {args : Array Value} {below : List Frame} {meth : Method} {c : Code} {D : va_G} {cI cZ cC cJ cA : ClassId} {P : Nat → Nat} {M' : Mm} {r' : Int32}  (hx : p.tables.exec = Jvm.exec) (hb : c.code = cX11_copy) (hml : c.maxLocals = 2) (hr : meth.sig.returnType = none) (hlk : meth.locks = false) (hgt : ∀ w ∈ GT, w.before args s = true) (hown : s.vm.findClass RX11 = some m.cls) (hK : va_K D vwCl [(cI, .int), (cZ, .boolean), (cC, .char), (cJ, .long), (cA, .array .int)] s) (hO : Old s0 s) (hAO : ∀ q, (aP P 77) q → s0.heap.size ≤ q)  : ∀ (M : Mm)  (H : Heap) (locs : List Loc) (ls : Array Slot), lv_has ls 2 [(0, .ref (P 43)), (1, .ref (P 14))] → va_P D vwCl ((wX cI cZ cC cJ cA P) M) H → va_D (aP P 77) ((wX cI cZ cC cJ cA P) M) → va_S (aP P 77) s.heap H locs → q_Rules_copy M = some (M', r') → W p l e ({ frames := 1, cells := 0, slots := 0, locals := 64 }) s m args below meth c H locs 0 0 (MQ below (gQv D (aP P 77) ((wX cI cZ cC cJ cA P) M')) args s 0 0 (aP P 77)) (F0 m 0 ls []) := by
  intro M H locs ls hl hP hD hS h
  unfold q_Rules_copy at h
  refine lv_aload_n hx hb dX11_copy_0 rfl (lv_at hl 0 rfl) ?_
  refine lv_aload_n hx hb dX11_copy_1 rfl (lv_at hl 1 rfl) ?_
  refine va_get (D := D) (ci := 11) (v := .int (M.1 14 0)) (C := RX11) (T := TX11) (N := 7) hx hb hgt iwX11 hown hK hP 14 gX_14 rfl 0 (Nat.le_of_ble_eq_true rfl) (hgt _ wd_0_49) (fun _ h9 => h9) rfl dX11_copy_2 ?_
  refine pm_put (w := (wX cI cZ cC cJ cA P)) (D := D) (ci := 11) (x := (M.1 14 0)) (ty := .int) (C := RX11) (T := TX11) (N := 7) hx hb hgt iwX11 tyX11 tyX11_ok nmX11 hown hK hP hD hS 43 gX_43 rfl 0 (Nat.le_of_ble_eq_true rfl) (hgt _ wd_0_49) (fun _ h9 => h9) rfl (by decide +kernel) rfl rfl (Nat.le_of_ble_eq_true rfl) (sX_43_0 _) dX11_copy_5 (fun M1 eM1 H locs hP hD hS => ?_)
  have h := lt_o eM1 h
  refine lv_aload_n hx hb dX11_copy_8 rfl (lv_at hl 1 rfl) ?_
  refine va_get (D := D) (ci := 11) (v := .ref (P 15)) (C := RX11) (T := TX11) (N := 7) hx hb hgt iwX11 hown hK hP 14 gX_14 rfl 1 (Nat.le_of_ble_eq_true rfl) (hgt _ wd_0_55) (fun _ h9 => h9) rfl dX11_copy_9 ?_
  refine lv_iconst (v := 0) hx hb dX11_copy_12 (by decide) ?_
  refine lv_aload_n hx hb dX11_copy_13 rfl (lv_at hl 0 rfl) ?_
  refine va_get (D := D) (ci := 11) (v := .ref (P 44)) (C := RX11) (T := TX11) (N := 7) hx hb hgt iwX11 hown hK hP 43 gX_43 rfl 1 (Nat.le_of_ble_eq_true rfl) (hgt _ wd_0_55) (fun _ h9 => h9) rfl dX11_copy_14 ?_
  refine lv_iconst (v := 0) hx hb dX11_copy_17 (by decide) ?_
  refine lv_bipush (v := 12) hx hb dX11_copy_18 (by decide) ?_
  refine pm_cpyi (w := (wX cI cZ cC cJ cA P)) hx hb (hml.trans hl.1.symm) hown (hgt _ wd_4_150) (hgt _ wd_2_194) (hgt _ wd_2_193) (hgt _ wd_0_25) hK hP hD hS 15 44 0 gX_15 gX_44 rfl sX_44 (cpk_l h) (Nat.le_of_ble_eq_true rfl) (by decide) dX11_copy_20 (fun M2 eM2 H locs hP hD hS => ?_)
  have h := lt_o eM2 (cpk_r h)
  refine lv_aload_n hx hb dX11_copy_23 rfl (lv_at hl 1 rfl) ?_
  refine va_get (D := D) (ci := 11) (v := .ref (P 16)) (C := RX11) (T := TX11) (N := 7) hx hb hgt iwX11 hown hK hP 14 gX_14 rfl 2 (Nat.le_of_ble_eq_true rfl) (hgt _ wd_0_59) (fun _ h9 => h9) rfl dX11_copy_24 ?_
  refine lv_iconst (v := 0) hx hb dX11_copy_27 (by decide) ?_
  refine lv_aload_n hx hb dX11_copy_28 rfl (lv_at hl 0 rfl) ?_
  refine va_get (D := D) (ci := 11) (v := .ref (P 45)) (C := RX11) (T := TX11) (N := 7) hx hb hgt iwX11 hown hK hP 43 gX_43 rfl 2 (Nat.le_of_ble_eq_true rfl) (hgt _ wd_0_59) (fun _ h9 => h9) rfl dX11_copy_29 ?_
  refine lv_iconst (v := 0) hx hb dX11_copy_32 (by decide) ?_
  refine lv_bipush (v := 12) hx hb dX11_copy_33 (by decide) ?_
  refine pm_cpyi (w := (wX cI cZ cC cJ cA P)) hx hb (hml.trans hl.1.symm) hown (hgt _ wd_4_150) (hgt _ wd_2_194) (hgt _ wd_2_193) (hgt _ wd_0_25) hK hP hD hS 16 45 0 gX_16 gX_45 rfl sX_45 (cpk_l h) (Nat.le_of_ble_eq_true rfl) (by decide) dX11_copy_35 (fun M3 eM3 H locs hP hD hS => ?_)
  have h := lt_o eM3 (cpk_r h)
  refine lv_aload_n hx hb dX11_copy_38 rfl (lv_at hl 1 rfl) ?_
  refine va_get (D := D) (ci := 11) (v := .ref (P 17)) (C := RX11) (T := TX11) (N := 7) hx hb hgt iwX11 hown hK hP 14 gX_14 rfl 3 (Nat.le_of_ble_eq_true rfl) (hgt _ wd_0_63) (fun _ h9 => h9) rfl dX11_copy_39 ?_
  refine lv_iconst (v := 0) hx hb dX11_copy_42 (by decide) ?_
  refine lv_aload_n hx hb dX11_copy_43 rfl (lv_at hl 0 rfl) ?_
  refine va_get (D := D) (ci := 11) (v := .ref (P 46)) (C := RX11) (T := TX11) (N := 7) hx hb hgt iwX11 hown hK hP 43 gX_43 rfl 3 (Nat.le_of_ble_eq_true rfl) (hgt _ wd_0_63) (fun _ h9 => h9) rfl dX11_copy_44 ?_
  refine lv_iconst (v := 0) hx hb dX11_copy_47 (by decide) ?_
  refine lv_bipush (v := 12) hx hb dX11_copy_48 (by decide) ?_
  refine pm_cpyi (w := (wX cI cZ cC cJ cA P)) hx hb (hml.trans hl.1.symm) hown (hgt _ wd_4_150) (hgt _ wd_2_194) (hgt _ wd_2_193) (hgt _ wd_0_25) hK hP hD hS 17 46 0 gX_17 gX_46 rfl sX_46 (cpk_l h) (Nat.le_of_ble_eq_true rfl) (by decide) dX11_copy_50 (fun M4 eM4 H locs hP hD hS => ?_)
  have h := lt_o eM4 (cpk_r h)
  refine lv_aload_n hx hb dX11_copy_53 rfl (lv_at hl 1 rfl) ?_
  refine va_get (D := D) (ci := 11) (v := .ref (P 18)) (C := RX11) (T := TX11) (N := 7) hx hb hgt iwX11 hown hK hP 14 gX_14 rfl 4 (Nat.le_of_ble_eq_true rfl) (hgt _ wd_0_67) (fun _ h9 => h9) rfl dX11_copy_54 ?_
  refine lv_iconst (v := 0) hx hb dX11_copy_57 (by decide) ?_
  refine lv_aload_n hx hb dX11_copy_58 rfl (lv_at hl 0 rfl) ?_
  refine va_get (D := D) (ci := 11) (v := .ref (P 47)) (C := RX11) (T := TX11) (N := 7) hx hb hgt iwX11 hown hK hP 43 gX_43 rfl 4 (Nat.le_of_ble_eq_true rfl) (hgt _ wd_0_67) (fun _ h9 => h9) rfl dX11_copy_59 ?_
  refine lv_iconst (v := 0) hx hb dX11_copy_62 (by decide) ?_
  refine lv_bipush (v := 12) hx hb dX11_copy_63 (by decide) ?_
  refine pm_cpyi (w := (wX cI cZ cC cJ cA P)) hx hb (hml.trans hl.1.symm) hown (hgt _ wd_4_150) (hgt _ wd_2_194) (hgt _ wd_2_193) (hgt _ wd_0_25) hK hP hD hS 18 47 0 gX_18 gX_47 rfl sX_47 (cpk_l h) (Nat.le_of_ble_eq_true rfl) (by decide) dX11_copy_65 (fun M5 eM5 H locs hP hD hS => ?_)
  have h := lt_o eM5 (cpk_r h)
  exact rt_v (w := (wX cI cZ cC cJ cA P)) (r := r') hx hb hr hlk hP hD hS h dX11_copy_68
set_option maxHeartbeats 4000000 in
set_option maxRecDepth 20000 in
theorem z_Rules_copy (l : Launch) (D : va_G) (cI cZ cC cJ cA : ClassId) (P : Nat → Nat) (s0 : State) (hAO : ∀ q, (aP P 77) q → s0.heap.size ≤ q) (M : Mm)  (M' : Mm) (r' : Int32) (h : q_Rules_copy M = some (M', r')) : Met l yX11_copy wsX11_copy ({ frames := 1, cells := 0, slots := 0, locals := 64 }) (va_Pc [.ref (P 43), .ref (P 14)] (gPre s0 D [(cI, .int), (cZ, .boolean), (cC, .char), (cJ, .long), (cA, .array .int)] (aP P 77) ((wX cI cZ cC cJ cA P) M))) (gQv D (aP P 77) ((wX cI cZ cC cJ cA P) M')) 0 0 (aP P 77) := by
  refine Met.ofW (cc := cX11_copy) (maxL := 2) (ret := none) (by decide) rfl ?_
  intro p e s m args below meth c s₁ B hml hv
  obtain ⟨rfl, hP, hK, hD, hO⟩ := hv
  have hx := B.exec
  have hb := B.bytes
  have hr := B.returns
  have hlk := B.notSynchronized
  have hgt := fun w (h : w ∈ GT) => atoms_spec (ws := wsX11_copy) B.pre w (List.mem_cons_of_mem _ h)
  have hown : s.vm.findClass RX11 = some m.cls := findClass_of_methodNamed B.named
  have hS : va_S (aP P 77) s.heap s.heap [] := va_S.rf
  have hl := lv_entry ([.ref (P 43), .ref (P 14)]) (n := 2) (Nat.le_of_ble_eq_true rfl)
  rw [lg_entry_eq]
  generalize (lg_sl ([.ref (P 43), .ref (P 14)]) ++ List.replicate (2 - (lg_sl ([.ref (P 43), .ref (P 14)])).length) Slot.unset).toArray = ls at hl ⊢
  have hl : lv_has ls 2 [(0, .ref (P 43)), (1, .ref (P 14))] := hl
  exact b_Rules_copy_0 hx hb hml hr hlk hgt hown hK hO hAO M s.heap [] ls hl hP hD hS h
def q_Layout_isKnown  (M : Mm) (a1 : Int32) : Rs := ix a1 26 <| if (M.1 39 (a1 : Int32).toNatClampNeg) = 0 then (some (M, 1)) else (ix a1 26 <| if (M.1 39 (a1 : Int32).toNatClampNeg) = 2 then (some (M, 1)) else (some (M, 0)))
set_option maxHeartbeats 4000000 in
set_option maxRecDepth 20000 in
theorem b_Layout_isKnown_0 {p : Program} {l : Launch} {e : Env} {s s0 : State} {m : MethodId} {args : Array Value} {below : List Frame} {meth : Method} {c : Code} {D : va_G} {cI cZ cC cJ cA : ClassId} {P : Nat → Nat} {M' : Mm} {r' : Int32}  (hx : p.tables.exec = Jvm.exec) (hb : c.code = cX6_isKnown) (hml : c.maxLocals = 2) (hr : meth.sig.returnType = (some .boolean)) (hlk : meth.locks = false) (hgt : ∀ w ∈ GT, w.before args s = true) (hown : s.vm.findClass RX6 = some m.cls) (hK : va_K D vwCl [(cI, .int), (cZ, .boolean), (cC, .char), (cJ, .long), (cA, .array .int)] s) (hO : Old s0 s) (hAO : ∀ q, (aP P 77) q → s0.heap.size ≤ q)  : ∀ (M : Mm) (a1 : Int32) (H : Heap) (locs : List Loc) (ls : Array Slot), lv_has ls 2 [(0, .ref (P 24)), (1, .int a1)] → va_P D vwCl ((wX cI cZ cC cJ cA P) M) H → va_D (aP P 77) ((wX cI cZ cC cJ cA P) M) → va_S (aP P 77) s.heap H locs → q_Layout_isKnown M a1 = some (M', r') → W p l e ({ frames := 0, cells := 0, slots := 0, locals := 0 }) s m args below meth c H locs 0 0 (MQ below (gQi D (aP P 77) ((wX cI cZ cC cJ cA P) M') r') args s 0 0 (aP P 77)) (F0 m 0 ls []) := by
  intro M a1 H locs ls hl hP hD hS h
  unfold q_Layout_isKnown at h
  refine lv_aload_n hx hb dX6_isKnown_0 rfl (lv_at hl 0 rfl) ?_
  refine va_get (D := D) (ci := 6) (v := .ref (P 39)) (C := RX6) (T := TX6) (N := 13) hx hb hgt iwX6 hown hK hP 24 gX_24 rfl 8 (Nat.le_of_ble_eq_true rfl) (hgt _ wd_1_30) (fun _ h9 => h9) rfl dX6_isKnown_1 ?_
  refine lv_iload_n hx hb dX6_isKnown_4 rfl (lv_at hl 1 rfl) ?_
  refine va_iald hx hb hK hP 39 0 gX_39 rfl (ix_l h) dX6_isKnown_5 ?_
  have h := ix_r h
  refine lv_if_eq hx hb dX6_isKnown_6 (tgt := 19) rfl (fun hc => ?_) (fun hc => ?_)
  · have h := br_T hc h
    refine lv_iconst (v := 1) hx hb dX6_isKnown_19 (by decide) ?_
    refine lv_goto hx hb dX6_isKnown_20 (tgt := 24) rfl ?_
    exact rt_z (w := (wX cI cZ cC cJ cA P)) hx hb hr hlk rfl hP hD hS h dX6_isKnown_24
  · have h := br_F hc h
    refine lv_aload_n hx hb dX6_isKnown_9 rfl (lv_at hl 0 rfl) ?_
    refine va_get (D := D) (ci := 6) (v := .ref (P 39)) (C := RX6) (T := TX6) (N := 13) hx hb hgt iwX6 hown hK hP 24 gX_24 rfl 8 (Nat.le_of_ble_eq_true rfl) (hgt _ wd_1_30) (fun _ h9 => h9) rfl dX6_isKnown_10 ?_
    refine lv_iload_n hx hb dX6_isKnown_13 rfl (lv_at hl 1 rfl) ?_
    refine va_iald hx hb hK hP 39 0 gX_39 rfl (ix_l h) dX6_isKnown_14 ?_
    have h := ix_r h
    refine lv_iconst (v := 2) hx hb dX6_isKnown_15 (by decide) ?_
    refine lv_icmp_ne hx hb dX6_isKnown_16 (tgt := 23) rfl (fun hc => ?_) (fun hc => ?_)
    · have h := br_F hc h
      refine lv_iconst (v := 0) hx hb dX6_isKnown_23 (by decide) ?_
      exact rt_z (w := (wX cI cZ cC cJ cA P)) hx hb hr hlk rfl hP hD hS h dX6_isKnown_24
    · have h := br_T hc h
      refine lv_iconst (v := 1) hx hb dX6_isKnown_19 (by decide) ?_
      refine lv_goto hx hb dX6_isKnown_20 (tgt := 24) rfl ?_
      exact rt_z (w := (wX cI cZ cC cJ cA P)) hx hb hr hlk rfl hP hD hS h dX6_isKnown_24
set_option maxHeartbeats 4000000 in
set_option maxRecDepth 20000 in
theorem z_Layout_isKnown (l : Launch) (D : va_G) (cI cZ cC cJ cA : ClassId) (P : Nat → Nat) (s0 : State) (hAO : ∀ q, (aP P 77) q → s0.heap.size ≤ q) (M : Mm) (a1 : Int32) (M' : Mm) (r' : Int32) (h : q_Layout_isKnown M a1 = some (M', r')) : Met l yX6_isKnown wsX6_isKnown ({ frames := 0, cells := 0, slots := 0, locals := 0 }) (va_Pc [.ref (P 24), .int a1] (gPre s0 D [(cI, .int), (cZ, .boolean), (cC, .char), (cJ, .long), (cA, .array .int)] (aP P 77) ((wX cI cZ cC cJ cA P) M))) (gQi D (aP P 77) ((wX cI cZ cC cJ cA P) M') r') 0 0 (aP P 77) := by
  refine Met.ofW (cc := cX6_isKnown) (maxL := 2) (ret := (some .boolean)) (by decide) rfl ?_
  intro p e s m args below meth c s₁ B hml hv
  obtain ⟨rfl, hP, hK, hD, hO⟩ := hv
  have hx := B.exec
  have hb := B.bytes
  have hr := B.returns
  have hlk := B.notSynchronized
  have hgt := fun w (h : w ∈ GT) => atoms_spec (ws := wsX6_isKnown) B.pre w (List.mem_cons_of_mem _ h)
  have hown : s.vm.findClass RX6 = some m.cls := findClass_of_methodNamed B.named
  have hS : va_S (aP P 77) s.heap s.heap [] := va_S.rf
  have hl := lv_entry ([.ref (P 24), .int a1]) (n := 2) (Nat.le_of_ble_eq_true rfl)
  rw [lg_entry_eq]
  generalize (lg_sl ([.ref (P 24), .int a1]) ++ List.replicate (2 - (lg_sl ([.ref (P 24), .int a1])).length) Slot.unset).toArray = ls at hl ⊢
  have hl : lv_has ls 2 [(0, .ref (P 24)), (1, .int a1)] := hl
  exact b_Layout_isKnown_0 hx hb hml hr hlk hgt hown hK hO hAO M a1 s.heap [] ls hl hP hD hS h
def q_Layout_addField  (M : Mm) (a2 : Int32) : Rs := ix a2 128 <| lt' (M.1 7 (a2 : Int32).toNatClampNeg) fun x1 => ix a2 128 <| lt' (M.1 9 (a2 : Int32).toNatClampNeg) fun x2 => ix x1 26 <| lt' (stI M 38 (upd (M.1 38) (x1 : Int32).toNatClampNeg x2)) fun M3 => ix a2 128 <| ix x1 26 <| lt' (stI M3 39 (upd (M3.1 39) (x1 : Int32).toNatClampNeg (M3.1 10 (a2 : Int32).toNatClampNeg))) fun M4 => ix a2 128 <| ix x1 26 <| lt' (stI M4 40 (upd (M4.1 40) (x1 : Int32).toNatClampNeg (M4.1 12 (a2 : Int32).toNatClampNeg))) fun M5 => ix a2 128 <| ix a2 128 <| ix x1 26 <| lt' (stI M5 41 (upd (M5.1 41) (x1 : Int32).toNatClampNeg (((M5.1 11 (a2 : Int32).toNatClampNeg) - (M5.1 12 (a2 : Int32).toNatClampNeg)) + 1))) fun M6 => ix x1 26 <| ix x1 26 <| ix x1 26 <| lt' (stI M6 42 (upd (M6.1 42) (x1 : Int32).toNatClampNeg (((((1 : Int32) <<< ((M6.1 41 (x1 : Int32).toNatClampNeg) &&& 31)) - 1) : Int32) <<< ((M6.1 40 (x1 : Int32).toNatClampNeg) &&& 31)))) fun M7 => ix x2 16 <| ix a2 128 <| ix x1 26 <| ix x2 16 <| lt' (stI M7 28 (upd (M7.1 28) (x2 : Int32).toNatClampNeg ((M7.1 28 (x2 : Int32).toNatClampNeg) ||| (((M7.1 13 (a2 : Int32).toNatClampNeg) : Int32) <<< ((M7.1 40 (x1 : Int32).toNatClampNeg) &&& 31))))) fun M8 => ix x1 26 <| ix (M8.1 39 (x1 : Int32).toNatClampNeg) 7 <| ix x2 16 <| ix x1 26 <| ix x2 16 <| lt' (stI M8 (31 + ((M8.1 39 (x1 : Int32).toNatClampNeg) : Int32).toNatClampNeg) (upd (M8.1 (31 + ((M8.1 39 (x1 : Int32).toNatClampNeg) : Int32).toNatClampNeg)) (x2 : Int32).toNatClampNeg ((M8.1 (31 + ((M8.1 39 (x1 : Int32).toNatClampNeg) : Int32).toNatClampNeg) (x2 : Int32).toNatClampNeg) ||| (M8.1 42 (x1 : Int32).toNatClampNeg)))) fun M9 => cal (q_Layout_isKnown M9 x1) fun M10 r11 => if r11 = 0 then (some (M10, 0)) else (ix x2 16 <| ix x1 26 <| ix x2 16 <| lt' (stI M10 29 (upd (M10.1 29) (x2 : Int32).toNatClampNeg ((M10.1 29 (x2 : Int32).toNatClampNeg) ||| (M10.1 42 (x1 : Int32).toNatClampNeg)))) fun M12 => some (M12, 0))
set_option maxHeartbeats 4000000 in
set_option maxRecDepth 20000 in
theorem b_Layout_addField_0 {p : Program} {l : Launch} {e : Env} {s s0 : State} {m : MethodId} {args : Array Value} {below : List Frame} {meth : Method} {c : Code} {D : va_G} {cI cZ cC cJ cA : ClassId} {P : Nat → Nat} {M' : Mm} {r' : Int32}  (hx : p.tables.exec = Jvm.exec) (hb : c.code = cX6_addField) (hml : c.maxLocals = 5) (hr : meth.sig.returnType = none) (hlk : meth.locks = false) (hgt : ∀ w ∈ GT, w.before args s = true) (hown : s.vm.findClass RX6 = some m.cls) (hK : va_K D vwCl [(cI, .int), (cZ, .boolean), (cC, .char), (cJ, .long), (cA, .array .int)] s) (hO : Old s0 s) (hAO : ∀ q, (aP P 77) q → s0.heap.size ≤ q)  : ∀ (M : Mm) (a2 : Int32) (H : Heap) (locs : List Loc) (ls : Array Slot), lv_has ls 5 [(0, .ref (P 24)), (1, .ref (P 1)), (2, .int a2)] → va_P D vwCl ((wX cI cZ cC cJ cA P) M) H → va_D (aP P 77) ((wX cI cZ cC cJ cA P) M) → va_S (aP P 77) s.heap H locs → q_Layout_addField M a2 = some (M', r') → W p l e ({ frames := 1, cells := 0, slots := 0, locals := 21 }) s m args below meth c H locs 0 0 (MQ below (gQv D (aP P 77) ((wX cI cZ cC cJ cA P) M')) args s 0 0 (aP P 77)) (F0 m 0 ls []) := by
  intro M a2 H locs ls hl hP hD hS h
  unfold q_Layout_addField at h
  refine lv_aload_n hx hb dX6_addField_0 rfl (lv_at hl 1 rfl) ?_
  refine va_get (D := D) (ci := 4) (v := .ref (P 7)) (C := RX4) (T := TX4) (N := 15) hx hb hgt iwX4 hown hK hP 1 gX_1 rfl 7 (Nat.le_of_ble_eq_true rfl) (hgt _ wd_0_120) (fun _ h9 => h9) rfl dX6_addField_1 ?_
  refine lv_iload_n hx hb dX6_addField_4 rfl (lv_at hl 2 rfl) ?_
  refine va_iald hx hb hK hP 7 0 gX_7 rfl (ix_l h) dX6_addField_5 ?_
  have h := ix_r h
  refine lv_topi (fun x1 ex1 => ?_)
  have h := lt_o ex1 h
  refine lv_istore_n hx hb dX6_addField_6 rfl hl (Nat.le_of_ble_eq_true rfl) (lv' := [(3, .int x1), (0, .ref (P 24)), (1, .ref (P 1)), (2, .int a2)]) rfl (fun ls hl => ?_)
  refine lv_aload_n hx hb dX6_addField_7 rfl (lv_at hl 2 rfl) ?_
  refine va_get (D := D) (ci := 4) (v := .ref (P 9)) (C := RX4) (T := TX4) (N := 15) hx hb hgt iwX4 hown hK hP 1 gX_1 rfl 9 (Nat.le_of_ble_eq_true rfl) (hgt _ wd_0_127) (fun _ h9 => h9) rfl dX6_addField_8 ?_
  refine lv_iload_n hx hb dX6_addField_11 rfl (lv_at hl 3 rfl) ?_
  refine va_iald hx hb hK hP 9 0 gX_9 rfl (ix_l h) dX6_addField_12 ?_
  have h := ix_r h
  refine lv_topi (fun x2 ex2 => ?_)
  have h := lt_o ex2 h
  refine lv_istore hx hb dX6_addField_13 hl (Nat.le_of_ble_eq_true rfl) (lv' := [(4, .int x2), (3, .int x1), (0, .ref (P 24)), (1, .ref (P 1)), (2, .int a2)]) rfl (fun ls hl => ?_)
  refine lv_aload_n hx hb dX6_addField_15 rfl (lv_at hl 2 rfl) ?_
  refine va_get (D := D) (ci := 6) (v := .ref (P 38)) (C := RX6) (T := TX6) (N := 13) hx hb hgt iwX6 hown hK hP 24 gX_24 rfl 7 (Nat.le_of_ble_eq_true rfl) (hgt _ wd_1_25) (fun _ h9 => h9) rfl dX6_addField_16 ?_
  refine lv_iload_n hx hb dX6_addField_19 rfl (lv_at hl 1 rfl) ?_
  refine lv_iload hx hb dX6_addField_20 (lv_at hl 0 rfl) ?_
  refine pm_iast (w := (wX cI cZ cC cJ cA P)) hx hb hK hP hD hS 38 0 gX_38 rfl sX_38 (ix_l h) dX6_addField_22 (fun M3 eM3 H locs hP hD hS => ?_)
  have h := ix_r h
  have h := lt_o eM3 h
  refine lv_aload_n hx hb dX6_addField_23 rfl (lv_at hl 2 rfl) ?_
  refine va_get (D := D) (ci := 6) (v := .ref (P 39)) (C := RX6) (T := TX6) (N := 13) hx hb hgt iwX6 hown hK hP 24 gX_24 rfl 8 (Nat.le_of_ble_eq_true rfl) (hgt _ wd_1_30) (fun _ h9 => h9) rfl dX6_addField_24 ?_
  refine lv_iload_n hx hb dX6_addField_27 rfl (lv_at hl 1 rfl) ?_
  refine lv_aload_n hx hb dX6_addField_28 rfl (lv_at hl 3 rfl) ?_
  refine va_get (D := D) (ci := 4) (v := .ref (P 10)) (C := RX4) (T := TX4) (N := 15) hx hb hgt iwX4 hown hK hP 1 gX_1 rfl 10 (Nat.le_of_ble_eq_true rfl) (hgt _ wd_0_131) (fun _ h9 => h9) rfl dX6_addField_29 ?_
  refine lv_iload_n hx hb dX6_addField_32 rfl (lv_at hl 4 rfl) ?_
  refine va_iald hx hb hK hP 10 0 gX_10 rfl (ix_l h) dX6_addField_33 ?_
  have h := ix_r h
  refine pm_iast (w := (wX cI cZ cC cJ cA P)) hx hb hK hP hD hS 39 0 gX_39 rfl sX_39 (ix_l h) dX6_addField_34 (fun M4 eM4 H locs hP hD hS => ?_)
  have h := ix_r h
  have h := lt_o eM4 h
  refine lv_aload_n hx hb dX6_addField_35 rfl (lv_at hl 2 rfl) ?_
  refine va_get (D := D) (ci := 6) (v := .ref (P 40)) (C := RX6) (T := TX6) (N := 13) hx hb hgt iwX6 hown hK hP 24 gX_24 rfl 9 (Nat.le_of_ble_eq_true rfl) (hgt _ wd_1_34) (fun _ h9 => h9) rfl dX6_addField_36 ?_
  refine lv_iload_n hx hb dX6_addField_39 rfl (lv_at hl 1 rfl) ?_
  refine lv_aload_n hx hb dX6_addField_40 rfl (lv_at hl 3 rfl) ?_
  refine va_get (D := D) (ci := 4) (v := .ref (P 12)) (C := RX4) (T := TX4) (N := 15) hx hb hgt iwX4 hown hK hP 1 gX_1 rfl 12 (Nat.le_of_ble_eq_true rfl) (hgt _ wd_0_139) (fun _ h9 => h9) rfl dX6_addField_41 ?_
  refine lv_iload_n hx hb dX6_addField_44 rfl (lv_at hl 4 rfl) ?_
  refine va_iald hx hb hK hP 12 0 gX_12 rfl (ix_l h) dX6_addField_45 ?_
  have h := ix_r h
  refine pm_iast (w := (wX cI cZ cC cJ cA P)) hx hb hK hP hD hS 40 0 gX_40 rfl sX_40 (ix_l h) dX6_addField_46 (fun M5 eM5 H locs hP hD hS => ?_)
  have h := ix_r h
  have h := lt_o eM5 h
  refine lv_aload_n hx hb dX6_addField_47 rfl (lv_at hl 2 rfl) ?_
  refine va_get (D := D) (ci := 6) (v := .ref (P 41)) (C := RX6) (T := TX6) (N := 13) hx hb hgt iwX6 hown hK hP 24 gX_24 rfl 10 (Nat.le_of_ble_eq_true rfl) (hgt _ wd_1_39) (fun _ h9 => h9) rfl dX6_addField_48 ?_
  refine lv_iload_n hx hb dX6_addField_51 rfl (lv_at hl 1 rfl) ?_
  refine lv_aload_n hx hb dX6_addField_52 rfl (lv_at hl 3 rfl) ?_
  refine va_get (D := D) (ci := 4) (v := .ref (P 11)) (C := RX4) (T := TX4) (N := 15) hx hb hgt iwX4 hown hK hP 1 gX_1 rfl 11 (Nat.le_of_ble_eq_true rfl) (hgt _ wd_0_136) (fun _ h9 => h9) rfl dX6_addField_53 ?_
  refine lv_iload_n hx hb dX6_addField_56 rfl (lv_at hl 4 rfl) ?_
  refine va_iald hx hb hK hP 11 0 gX_11 rfl (ix_l h) dX6_addField_57 ?_
  have h := ix_r h
  refine lv_aload_n hx hb dX6_addField_58 rfl (lv_at hl 3 rfl) ?_
  refine va_get (D := D) (ci := 4) (v := .ref (P 12)) (C := RX4) (T := TX4) (N := 15) hx hb hgt iwX4 hown hK hP 1 gX_1 rfl 12 (Nat.le_of_ble_eq_true rfl) (hgt _ wd_0_139) (fun _ h9 => h9) rfl dX6_addField_59 ?_
  refine lv_iload_n hx hb dX6_addField_62 rfl (lv_at hl 4 rfl) ?_
  refine va_iald hx hb hK hP 12 0 gX_12 rfl (ix_l h) dX6_addField_63 ?_
  have h := ix_r h
  refine lv_isub hx hb dX6_addField_64 ?_
  refine lv_iconst (v := 1) hx hb dX6_addField_65 (by decide) ?_
  refine lv_iadd hx hb dX6_addField_66 ?_
  refine pm_iast (w := (wX cI cZ cC cJ cA P)) hx hb hK hP hD hS 41 0 gX_41 rfl sX_41 (ix_l h) dX6_addField_67 (fun M6 eM6 H locs hP hD hS => ?_)
  have h := ix_r h
  have h := lt_o eM6 h
  refine lv_aload_n hx hb dX6_addField_68 rfl (lv_at hl 2 rfl) ?_
  refine va_get (D := D) (ci := 6) (v := .ref (P 42)) (C := RX6) (T := TX6) (N := 13) hx hb hgt iwX6 hown hK hP 24 gX_24 rfl 11 (Nat.le_of_ble_eq_true rfl) (hgt _ wd_1_41) (fun _ h9 => h9) rfl dX6_addField_69 ?_
  refine lv_iload_n hx hb dX6_addField_72 rfl (lv_at hl 1 rfl) ?_
  refine lv_iconst (v := 1) hx hb dX6_addField_73 (by decide) ?_
  refine lv_aload_n hx hb dX6_addField_74 rfl (lv_at hl 2 rfl) ?_
  refine va_get (D := D) (ci := 6) (v := .ref (P 41)) (C := RX6) (T := TX6) (N := 13) hx hb hgt iwX6 hown hK hP 24 gX_24 rfl 10 (Nat.le_of_ble_eq_true rfl) (hgt _ wd_1_39) (fun _ h9 => h9) rfl dX6_addField_75 ?_
  refine lv_iload_n hx hb dX6_addField_78 rfl (lv_at hl 1 rfl) ?_
  refine va_iald hx hb hK hP 41 0 gX_41 rfl (ix_l h) dX6_addField_79 ?_
  have h := ix_r h
  refine lv_ishl hx hb dX6_addField_80 ?_
  refine lv_iconst (v := 1) hx hb dX6_addField_81 (by decide) ?_
  refine lv_isub hx hb dX6_addField_82 ?_
  refine lv_aload_n hx hb dX6_addField_83 rfl (lv_at hl 2 rfl) ?_
  refine va_get (D := D) (ci := 6) (v := .ref (P 40)) (C := RX6) (T := TX6) (N := 13) hx hb hgt iwX6 hown hK hP 24 gX_24 rfl 9 (Nat.le_of_ble_eq_true rfl) (hgt _ wd_1_34) (fun _ h9 => h9) rfl dX6_addField_84 ?_
  refine lv_iload_n hx hb dX6_addField_87 rfl (lv_at hl 1 rfl) ?_
  refine va_iald hx hb hK hP 40 0 gX_40 rfl (ix_l h) dX6_addField_88 ?_
  have h := ix_r h
  refine lv_ishl hx hb dX6_addField_89 ?_
  refine pm_iast (w := (wX cI cZ cC cJ cA P)) hx hb hK hP hD hS 42 0 gX_42 rfl sX_42 (ix_l h) dX6_addField_90 (fun M7 eM7 H locs hP hD hS => ?_)
  have h := ix_r h
  have h := lt_o eM7 h
  refine lv_aload_n hx hb dX6_addField_91 rfl (lv_at hl 2 rfl) ?_
  refine va_get (D := D) (ci := 6) (v := .ref (P 28)) (C := RX6) (T := TX6) (N := 13) hx hb hgt iwX6 hown hK hP 24 gX_24 rfl 4 (Nat.le_of_ble_eq_true rfl) (hgt _ wd_1_16) (fun _ h9 => h9) rfl dX6_addField_92 ?_
  refine lv_iload hx hb dX6_addField_95 (lv_at hl 0 rfl) ?_
  refine lv_dup2_11 hx hb dX6_addField_97 rfl rfl ?_
  refine va_iald hx hb hK hP 28 0 gX_28 rfl (ix_l h) dX6_addField_98 ?_
  have h := ix_r h
  refine lv_aload_n hx hb dX6_addField_99 rfl (lv_at hl 3 rfl) ?_
  refine va_get (D := D) (ci := 4) (v := .ref (P 13)) (C := RX4) (T := TX4) (N := 15) hx hb hgt iwX4 hown hK hP 1 gX_1 rfl 13 (Nat.le_of_ble_eq_true rfl) (hgt _ wd_0_143) (fun _ h9 => h9) rfl dX6_addField_100 ?_
  refine lv_iload_n hx hb dX6_addField_103 rfl (lv_at hl 4 rfl) ?_
  refine va_iald hx hb hK hP 13 0 gX_13 rfl (ix_l h) dX6_addField_104 ?_
  have h := ix_r h
  refine lv_aload_n hx hb dX6_addField_105 rfl (lv_at hl 2 rfl) ?_
  refine va_get (D := D) (ci := 6) (v := .ref (P 40)) (C := RX6) (T := TX6) (N := 13) hx hb hgt iwX6 hown hK hP 24 gX_24 rfl 9 (Nat.le_of_ble_eq_true rfl) (hgt _ wd_1_34) (fun _ h9 => h9) rfl dX6_addField_106 ?_
  refine lv_iload_n hx hb dX6_addField_109 rfl (lv_at hl 1 rfl) ?_
  refine va_iald hx hb hK hP 40 0 gX_40 rfl (ix_l h) dX6_addField_110 ?_
  have h := ix_r h
  refine lv_ishl hx hb dX6_addField_111 ?_
  refine lv_ior hx hb dX6_addField_112 ?_
  refine pm_iast (w := (wX cI cZ cC cJ cA P)) hx hb hK hP hD hS 28 0 gX_28 rfl sX_28 (ix_l h) dX6_addField_113 (fun M8 eM8 H locs hP hD hS => ?_)
  have h := ix_r h
  have h := lt_o eM8 h
  refine lv_aload_n hx hb dX6_addField_114 rfl (lv_at hl 2 rfl) ?_
  refine va_get (D := D) (ci := 6) (v := .ref (P 30)) (C := RX6) (T := TX6) (N := 13) hx hb hgt iwX6 hown hK hP 24 gX_24 rfl 6 (Nat.le_of_ble_eq_true rfl) (hgt _ wd_1_23) (fun _ h9 => h9) rfl dX6_addField_115 ?_
  refine lv_aload_n hx hb dX6_addField_118 rfl (lv_at hl 2 rfl) ?_
  refine va_get (D := D) (ci := 6) (v := .ref (P 39)) (C := RX6) (T := TX6) (N := 13) hx hb hgt iwX6 hown hK hP 24 gX_24 rfl 8 (Nat.le_of_ble_eq_true rfl) (hgt _ wd_1_30) (fun _ h9 => h9) rfl dX6_addField_119 ?_
  refine lv_iload_n hx hb dX6_addField_122 rfl (lv_at hl 1 rfl) ?_
  refine va_iald hx hb hK hP 39 0 gX_39 rfl (ix_l h) dX6_addField_123 ?_
  have h := ix_r h
  refine pm_aald hx hb hK hP 30 4 gX_30 rfl (ix_l h) dX6_addField_124 ?_
  have hj124 := vi_lt (ix_l h)
  have h := ix_r h
  refine lv_iload hx hb dX6_addField_125 (lv_at hl 0 rfl) ?_
  refine lv_dup2_11 hx hb dX6_addField_127 rfl rfl ?_
  refine va_iald hx hb hK hP (31 + ((M8.1 39 (x1 : Int32).toNatClampNeg) : Int32).toNatClampNeg) 0 (gX_b hj124) rfl (ix_l h) dX6_addField_128 ?_
  have h := ix_r h
  refine lv_aload_n hx hb dX6_addField_129 rfl (lv_at hl 2 rfl) ?_
  refine va_get (D := D) (ci := 6) (v := .ref (P 42)) (C := RX6) (T := TX6) (N := 13) hx hb hgt iwX6 hown hK hP 24 gX_24 rfl 11 (Nat.le_of_ble_eq_true rfl) (hgt _ wd_1_41) (fun _ h9 => h9) rfl dX6_addField_130 ?_
  refine lv_iload_n hx hb dX6_addField_133 rfl (lv_at hl 1 rfl) ?_
  refine va_iald hx hb hK hP 42 0 gX_42 rfl (ix_l h) dX6_addField_134 ?_
  have h := ix_r h
  refine lv_ior hx hb dX6_addField_135 ?_
  refine pm_iast (w := (wX cI cZ cC cJ cA P)) hx hb hK hP hD hS (31 + ((M8.1 39 (x1 : Int32).toNatClampNeg) : Int32).toNatClampNeg) 0 (gX_b hj124) rfl (sX_b hj124) (ix_l h) dX6_addField_136 (fun M9 eM9 H locs hP hD hS => ?_)
  have h := ix_r h
  have h := lt_o eM9 h
  refine lv_aload_n hx hb dX6_addField_137 rfl (lv_at hl 2 rfl) ?_
  refine lv_iload_n hx hb dX6_addField_138 rfl (lv_at hl 1 rfl) ?_
  obtain ⟨M10, r11, hq, h⟩ := cal_o h
  refine cx_i (va_runV (As := [.int x1]) (rest := []) ⟨hx, hb, hml, hown, hgt⟩ (z_Layout_isKnown l D cI cZ cC cJ cA P s0 hAO M9 x1 M10 r11 hq) (cwV 1 hgt (gV wd_4_155 wd_2_204 wd_2_205 wd_0_6 wd_2_206) rfl rfl rfl (by decide +kernel) ⟨Nat.le_of_ble_eq_true rfl, Nat.le_of_ble_eq_true rfl⟩) (prV hP hK hD hO hAO hS (va_recv hK hP (ci := 6) (q0 := 24) rfl gX_24)) rfl rfl hl.1 rfl (lv_room (Nat.le_of_ble_eq_true rfl)) dX6_addField_139 ⟨Nat.le_of_ble_eq_true rfl, Nat.le_of_ble_eq_true rfl⟩) hS (fun H locs hP hD hS => ?_)
  refine lv_if_eq hx hb dX6_addField_142 (tgt := 161) rfl (fun hc => ?_) (fun hc => ?_)
  · have h := br_T hc h
    exact rt_v (w := (wX cI cZ cC cJ cA P)) (r := r') hx hb hr hlk hP hD hS h dX6_addField_161
  · have h := br_F hc h
    refine lv_aload_n hx hb dX6_addField_145 rfl (lv_at hl 2 rfl) ?_
    refine va_get (D := D) (ci := 6) (v := .ref (P 29)) (C := RX6) (T := TX6) (N := 13) hx hb hgt iwX6 hown hK hP 24 gX_24 rfl 5 (Nat.le_of_ble_eq_true rfl) (hgt _ wd_1_19) (fun _ h9 => h9) rfl dX6_addField_146 ?_
    refine lv_iload hx hb dX6_addField_149 (lv_at hl 0 rfl) ?_
    refine lv_dup2_11 hx hb dX6_addField_151 rfl rfl ?_
    refine va_iald hx hb hK hP 29 0 gX_29 rfl (ix_l h) dX6_addField_152 ?_
    have h := ix_r h
    refine lv_aload_n hx hb dX6_addField_153 rfl (lv_at hl 2 rfl) ?_
    refine va_get (D := D) (ci := 6) (v := .ref (P 42)) (C := RX6) (T := TX6) (N := 13) hx hb hgt iwX6 hown hK hP 24 gX_24 rfl 11 (Nat.le_of_ble_eq_true rfl) (hgt _ wd_1_41) (fun _ h9 => h9) rfl dX6_addField_154 ?_
    refine lv_iload_n hx hb dX6_addField_157 rfl (lv_at hl 1 rfl) ?_
    refine va_iald hx hb hK hP 42 0 gX_42 rfl (ix_l h) dX6_addField_158 ?_
    have h := ix_r h
    refine lv_ior hx hb dX6_addField_159 ?_
    refine pm_iast (w := (wX cI cZ cC cJ cA P)) hx hb hK hP hD hS 29 0 gX_29 rfl sX_29 (ix_l h) dX6_addField_160 (fun M12 eM12 H locs hP hD hS => ?_)
    have h := ix_r h
    have h := lt_o eM12 h
    exact rt_v (w := (wX cI cZ cC cJ cA P)) (r := r') hx hb hr hlk hP hD hS h dX6_addField_161
set_option maxHeartbeats 4000000 in
set_option maxRecDepth 20000 in
theorem z_Layout_addField (l : Launch) (D : va_G) (cI cZ cC cJ cA : ClassId) (P : Nat → Nat) (s0 : State) (hAO : ∀ q, (aP P 77) q → s0.heap.size ≤ q) (M : Mm) (a2 : Int32) (M' : Mm) (r' : Int32) (h : q_Layout_addField M a2 = some (M', r')) : Met l yX6_addField wsX6_addField ({ frames := 1, cells := 0, slots := 0, locals := 21 }) (va_Pc [.ref (P 24), .ref (P 1), .int a2] (gPre s0 D [(cI, .int), (cZ, .boolean), (cC, .char), (cJ, .long), (cA, .array .int)] (aP P 77) ((wX cI cZ cC cJ cA P) M))) (gQv D (aP P 77) ((wX cI cZ cC cJ cA P) M')) 0 0 (aP P 77) := by
  refine Met.ofW (cc := cX6_addField) (maxL := 5) (ret := none) (by decide) rfl ?_
  intro p e s m args below meth c s₁ B hml hv
  obtain ⟨rfl, hP, hK, hD, hO⟩ := hv
  have hx := B.exec
  have hb := B.bytes
  have hr := B.returns
  have hlk := B.notSynchronized
  have hgt := fun w (h : w ∈ GT) => atoms_spec (ws := wsX6_addField) B.pre w (List.mem_cons_of_mem _ h)
  have hown : s.vm.findClass RX6 = some m.cls := findClass_of_methodNamed B.named
  have hS : va_S (aP P 77) s.heap s.heap [] := va_S.rf
  have hl := lv_entry ([.ref (P 24), .ref (P 1), .int a2]) (n := 5) (Nat.le_of_ble_eq_true rfl)
  rw [lg_entry_eq]
  generalize (lg_sl ([.ref (P 24), .ref (P 1), .int a2]) ++ List.replicate (5 - (lg_sl ([.ref (P 24), .ref (P 1), .int a2])).length) Slot.unset).toArray = ls at hl ⊢
  have hl : lv_has ls 5 [(0, .ref (P 24)), (1, .ref (P 1)), (2, .int a2)] := hl
  exact b_Layout_addField_0 hx hb hml hr hlk hgt hown hK hO hAO M a2 s.heap [] ls hl hP hD hS h
def q_Layout_follow_117  : Nat → Mm → Int32 → Rs
  | 0, _, _ => none
  | n' + 1, M, v2 => if (M.1 1 6) ≤ v2 then (some (M, 0)) else (cal (q_Layout_addField M v2) fun M1 r2 => q_Layout_follow_117 n' M1 (v2 + 1))
def q_Layout_follow_82  : Nat → Mm → Int32 → Rs
  | 0, _, _ => none
  | n' + 1, M, v2 => if 7 ≤ v2 then (lt' (stI M 38 (fun _ => (-1))) fun M1 => q_Layout_follow_117 4000 M1 0) else (ix v2 7 <| lt' (stI M (31 + (v2 : Int32).toNatClampNeg) (fun _ => 0)) fun M1 => q_Layout_follow_82 n' M1 (v2 + 1))
def q_Layout_follow  (M : Mm)  : Rs := lt' (stI M 24 (upd (M.1 24) 0 (M.1 1 0))) fun M1 => cpk 0 0 16 16 16 <| lt' (stI M1 25 (va_cpy (M1.1 3) (M1.1 25) (0 : Int32).toNatClampNeg (0 : Int32).toNatClampNeg (16 : Int32).toNatClampNeg)) fun M2 => cpk 0 0 16 16 16 <| lt' (stI M2 26 (va_cpy (M2.1 4) (M2.1 26) (0 : Int32).toNatClampNeg (0 : Int32).toNatClampNeg (16 : Int32).toNatClampNeg)) fun M3 => cpk 0 0 16 16 16 <| lt' (stI M3 27 (va_cpy (M3.1 6) (M3.1 27) (0 : Int32).toNatClampNeg (0 : Int32).toNatClampNeg (16 : Int32).toNatClampNeg)) fun M4 => cal (q_Rules_copy M4) fun M5 r6 => lt' (stI M5 28 (fun _ => 0)) fun M7 => lt' (stI M7 29 (fun _ => 0)) fun M8 => q_Layout_follow_82 4000 M8 0
set_option maxHeartbeats 4000000 in
set_option maxRecDepth 20000 in
theorem b_Layout_follow_117 {p : Program} {l : Launch} {e : Env} {s s0 : State} {m : MethodId} {args : Array Value} {below : List Frame} {meth : Method} {c : Code} {D : va_G} {cI cZ cC cJ cA : ClassId} {P : Nat → Nat} {M' : Mm} {r' : Int32}  (hx : p.tables.exec = Jvm.exec) (hb : c.code = cX6_follow) (hml : c.maxLocals = 3) (hr : meth.sig.returnType = none) (hlk : meth.locks = false) (hgt : ∀ w ∈ GT, w.before args s = true) (hown : s.vm.findClass RX6 = some m.cls) (hK : va_K D vwCl [(cI, .int), (cZ, .boolean), (cC, .char), (cJ, .long), (cA, .array .int)] s) (hO : Old s0 s) (hAO : ∀ q, (aP P 77) q → s0.heap.size ≤ q)  : ∀ (n' : Nat) (M : Mm) (v2 : Int32) (H : Heap) (locs : List Loc) (ls : Array Slot), lv_has ls 3 [(0, .ref (P 24)), (1, .ref (P 1)), (2, .int v2)] → va_P D vwCl ((wX cI cZ cC cJ cA P) M) H → va_D (aP P 77) ((wX cI cZ cC cJ cA P) M) → va_S (aP P 77) s.heap H locs → q_Layout_follow_117 n' M v2 = some (M', r') → W p l e ({ frames := 2, cells := 0, slots := 0, locals := 85 }) s m args below meth c H locs 0 0 (MQ below (gQv D (aP P 77) ((wX cI cZ cC cJ cA P) M')) args s 0 0 (aP P 77)) (F0 m 117 ls []) := by
  intro n'
  induction n' with
  | zero => exact fun _ _ _ _ _ _ _ _ _ h => (rs_n h).elim
  | succ n' ih =>
    intro M v2 H locs ls hl hP hD hS h
    rw [q_Layout_follow_117] at h
    refine lv_iload_n hx hb dX6_follow_117 rfl (lv_at hl 2 rfl) ?_
    refine lv_aload_n hx hb dX6_follow_118 rfl (lv_at hl 1 rfl) ?_
    refine va_get (D := D) (ci := 4) (v := .int (M.1 1 6)) (C := RX4) (T := TX4) (N := 15) hx hb hgt iwX4 hown hK hP 1 gX_1 rfl 6 (Nat.le_of_ble_eq_true rfl) (hgt _ wd_0_116) (fun _ h9 => h9) rfl dX6_follow_119 ?_
    refine lv_icmp_ge hx hb dX6_follow_122 (tgt := 137) rfl (fun hc => ?_) (fun hc => ?_)
    · have h := br_T hc h
      exact rt_v (w := (wX cI cZ cC cJ cA P)) (r := r') hx hb hr hlk hP hD hS h dX6_follow_137
    · have h := br_F hc h
      refine lv_aload_n hx hb dX6_follow_125 rfl (lv_at hl 0 rfl) ?_
      refine lv_aload_n hx hb dX6_follow_126 rfl (lv_at hl 1 rfl) ?_
      refine lv_iload_n hx hb dX6_follow_127 rfl (lv_at hl 2 rfl) ?_
      obtain ⟨M1, r2, hq, h⟩ := cal_o h
      refine cx_v (va_runV (As := [.ref (P 1), .int v2]) (rest := []) ⟨hx, hb, hml, hown, hgt⟩ (z_Layout_addField l D cI cZ cC cJ cA P s0 hAO M v2 M1 r2 hq) (cwV 2 hgt (gV wd_4_151 wd_4_153 sl__ChipMap_Layout____ChipMap_Layout___addField____LChipMap_Draft_I_V_____ChipMap_Layout___addField____LChipMap_Draft_I_V__ wd_0_6 wd_4_154) rfl rfl rfl (by decide +kernel) ⟨Nat.le_of_ble_eq_true rfl, Nat.le_of_ble_eq_true rfl⟩) (prV hP hK hD hO hAO hS (va_recv hK hP (ci := 6) (q0 := 24) rfl gX_24)) rfl rfl hl.1 rfl (lv_room (Nat.le_of_ble_eq_true rfl)) dX6_follow_128 ⟨Nat.le_of_ble_eq_true rfl, Nat.le_of_ble_eq_true rfl⟩) hS (fun H locs hP hD hS => ?_)
      refine lv_iinc (v := (v2 + 1)) hx hb dX6_follow_131 hl (k := 2) rfl rfl (Nat.le_of_ble_eq_true rfl) (lv' := [(2, .int (v2 + 1)), (0, .ref (P 24)), (1, .ref (P 1))]) rfl (fun ls hl => ?_)
      refine lv_goto hx hb dX6_follow_134 (tgt := 117) rfl ?_
      have hl := lv_sub hl [1, 2, 0] (l' := [(0, .ref (P 24)), (1, .ref (P 1)), (2, .int (v2 + 1))]) rfl
      exact ih M1 (v2 + 1) H locs ls hl hP hD hS h
set_option maxHeartbeats 4000000 in
set_option maxRecDepth 20000 in
theorem b_Layout_follow_82 {p : Program} {l : Launch} {e : Env} {s s0 : State} {m : MethodId} {args : Array Value} {below : List Frame} {meth : Method} {c : Code} {D : va_G} {cI cZ cC cJ cA : ClassId} {P : Nat → Nat} {M' : Mm} {r' : Int32}  (hx : p.tables.exec = Jvm.exec) (hb : c.code = cX6_follow) (hml : c.maxLocals = 3) (hr : meth.sig.returnType = none) (hlk : meth.locks = false) (hgt : ∀ w ∈ GT, w.before args s = true) (hown : s.vm.findClass RX6 = some m.cls) (hK : va_K D vwCl [(cI, .int), (cZ, .boolean), (cC, .char), (cJ, .long), (cA, .array .int)] s) (hO : Old s0 s) (hAO : ∀ q, (aP P 77) q → s0.heap.size ≤ q)  : ∀ (n' : Nat) (M : Mm) (v2 : Int32) (H : Heap) (locs : List Loc) (ls : Array Slot), lv_has ls 3 [(0, .ref (P 24)), (1, .ref (P 1)), (2, .int v2)] → va_P D vwCl ((wX cI cZ cC cJ cA P) M) H → va_D (aP P 77) ((wX cI cZ cC cJ cA P) M) → va_S (aP P 77) s.heap H locs → q_Layout_follow_82 n' M v2 = some (M', r') → W p l e ({ frames := 2, cells := 0, slots := 0, locals := 85 }) s m args below meth c H locs 0 0 (MQ below (gQv D (aP P 77) ((wX cI cZ cC cJ cA P) M')) args s 0 0 (aP P 77)) (F0 m 82 ls []) := by
  intro n'
  induction n' with
  | zero => exact fun _ _ _ _ _ _ _ _ _ h => (rs_n h).elim
  | succ n' ih =>
    intro M v2 H locs ls hl hP hD hS h
    rw [q_Layout_follow_82] at h
    refine lv_iload_n hx hb dX6_follow_82 rfl (lv_at hl 2 rfl) ?_
    refine lv_aload_n hx hb dX6_follow_83 rfl (lv_at hl 0 rfl) ?_
    refine va_get (D := D) (ci := 6) (v := .ref (P 30)) (C := RX6) (T := TX6) (N := 13) hx hb hgt iwX6 hown hK hP 24 gX_24 rfl 6 (Nat.le_of_ble_eq_true rfl) (hgt _ wd_1_23) (fun _ h9 => h9) rfl dX6_follow_84 ?_
    refine va_alen (v := 7) hx hb hK hP 30 4 gX_30 rfl rfl dX6_follow_87 ?_
    refine lv_icmp_ge hx hb dX6_follow_88 (tgt := 107) rfl (fun hc => ?_) (fun hc => ?_)
    · have h := br_T hc h
      refine lv_aload_n hx hb dX6_follow_107 rfl (lv_at hl 0 rfl) ?_
      refine va_get (D := D) (ci := 6) (v := .ref (P 38)) (C := RX6) (T := TX6) (N := 13) hx hb hgt iwX6 hown hK hP 24 gX_24 rfl 7 (Nat.le_of_ble_eq_true rfl) (hgt _ wd_1_25) (fun _ h9 => h9) rfl dX6_follow_108 ?_
      refine lv_iconst (v := (-1)) hx hb dX6_follow_111 (by decide) ?_
      refine cx_v (va_runS (As := [.ref (P 38), .int (-1)]) (rest := []) ⟨hx, hb, hml, hown, hgt⟩ (z_fill 26 l D cI cZ cC cJ cA (wX cI cZ cC cJ cA P) (aP P 77) s0 P 38 (fun _ => gX_38) (fun _ => sX_38) rfl (-1) M) (va_cwS 2 hgt (gS wd_1_1 wd_1_2 wd_0_8 wd_1_3) rfl rfl rfl (by decide +kernel) ⟨Nat.le_of_ble_eq_true rfl, Nat.le_of_ble_eq_true rfl⟩) (prS hP hK hD hO hAO hS) rfl rfl hl.1 rfl (lv_room (Nat.le_of_ble_eq_true rfl)) dX6_follow_112 ⟨Nat.le_of_ble_eq_true rfl, Nat.le_of_ble_eq_true rfl⟩) hS (fun H locs hP hD hS => ?_)
      obtain ⟨M1, eM1⟩ : ∃ M1, M1 = stI M 38 (fun _ => (-1)) := ⟨_, rfl⟩
      rw [← eM1] at hP hD
      have h := lt_o eM1 h
      refine lv_iconst (v := 0) hx hb dX6_follow_115 (by decide) ?_
      refine lv_istore_n hx hb dX6_follow_116 rfl hl (Nat.le_of_ble_eq_true rfl) (lv' := [(2, .int 0), (0, .ref (P 24)), (1, .ref (P 1))]) rfl (fun ls hl => ?_)
      have hl := lv_sub hl [1, 2, 0] (l' := [(0, .ref (P 24)), (1, .ref (P 1)), (2, .int 0)]) rfl
      exact b_Layout_follow_117 hx hb hml hr hlk hgt hown hK hO hAO 4000 M1 0 H _ ls hl hP hD hS h
    · have h := br_F hc h
      refine lv_aload_n hx hb dX6_follow_91 rfl (lv_at hl 0 rfl) ?_
      refine va_get (D := D) (ci := 6) (v := .ref (P 30)) (C := RX6) (T := TX6) (N := 13) hx hb hgt iwX6 hown hK hP 24 gX_24 rfl 6 (Nat.le_of_ble_eq_true rfl) (hgt _ wd_1_23) (fun _ h9 => h9) rfl dX6_follow_92 ?_
      refine lv_iload_n hx hb dX6_follow_95 rfl (lv_at hl 2 rfl) ?_
      refine pm_aald hx hb hK hP 30 4 gX_30 rfl (ix_l h) dX6_follow_96 ?_
      have hj96 := vi_lt (ix_l h)
      have h := ix_r h
      refine lv_iconst (v := 0) hx hb dX6_follow_97 (by decide) ?_
      refine cx_v (va_runS (As := [.ref (P (31 + (v2 : Int32).toNatClampNeg)), .int 0]) (rest := []) ⟨hx, hb, hml, hown, hgt⟩ (z_fill 16 l D cI cZ cC cJ cA (wX cI cZ cC cJ cA P) (aP P 77) s0 P (31 + (v2 : Int32).toNatClampNeg) (fun _ => (gX_b hj96)) (fun _ => (sX_b hj96)) rfl 0 M) (va_cwS 2 hgt (gS wd_1_1 wd_1_2 wd_0_8 wd_1_3) rfl rfl rfl (by decide +kernel) ⟨Nat.le_of_ble_eq_true rfl, Nat.le_of_ble_eq_true rfl⟩) (prS hP hK hD hO hAO hS) rfl rfl hl.1 rfl (lv_room (Nat.le_of_ble_eq_true rfl)) dX6_follow_98 ⟨Nat.le_of_ble_eq_true rfl, Nat.le_of_ble_eq_true rfl⟩) hS (fun H locs hP hD hS => ?_)
      obtain ⟨M1, eM1⟩ : ∃ M1, M1 = stI M (31 + (v2 : Int32).toNatClampNeg) (fun _ => 0) := ⟨_, rfl⟩
      rw [← eM1] at hP hD
      have h := lt_o eM1 h
      refine lv_iinc (v := (v2 + 1)) hx hb dX6_follow_101 hl (k := 2) rfl rfl (Nat.le_of_ble_eq_true rfl) (lv' := [(2, .int (v2 + 1)), (0, .ref (P 24)), (1, .ref (P 1))]) rfl (fun ls hl => ?_)
      refine lv_goto hx hb dX6_follow_104 (tgt := 82) rfl ?_
      have hl := lv_sub hl [1, 2, 0] (l' := [(0, .ref (P 24)), (1, .ref (P 1)), (2, .int (v2 + 1))]) rfl
      exact ih M1 (v2 + 1) H locs ls hl hP hD hS h
set_option maxHeartbeats 4000000 in
set_option maxRecDepth 20000 in
theorem b_Layout_follow_0 {p : Program} {l : Launch} {e : Env} {s s0 : State} {m : MethodId} {args : Array Value} {below : List Frame} {meth : Method} {c : Code} {D : va_G} {cI cZ cC cJ cA : ClassId} {P : Nat → Nat} {M' : Mm} {r' : Int32}  (hx : p.tables.exec = Jvm.exec) (hb : c.code = cX6_follow) (hml : c.maxLocals = 3) (hr : meth.sig.returnType = none) (hlk : meth.locks = false) (hgt : ∀ w ∈ GT, w.before args s = true) (hown : s.vm.findClass RX6 = some m.cls) (hK : va_K D vwCl [(cI, .int), (cZ, .boolean), (cC, .char), (cJ, .long), (cA, .array .int)] s) (hO : Old s0 s) (hAO : ∀ q, (aP P 77) q → s0.heap.size ≤ q)  : ∀ (M : Mm)  (H : Heap) (locs : List Loc) (ls : Array Slot), lv_has ls 3 [(0, .ref (P 24)), (1, .ref (P 1))] → va_P D vwCl ((wX cI cZ cC cJ cA P) M) H → va_D (aP P 77) ((wX cI cZ cC cJ cA P) M) → va_S (aP P 77) s.heap H locs → q_Layout_follow M = some (M', r') → W p l e ({ frames := 2, cells := 0, slots := 0, locals := 85 }) s m args below meth c H locs 0 0 (MQ below (gQv D (aP P 77) ((wX cI cZ cC cJ cA P) M')) args s 0 0 (aP P 77)) (F0 m 0 ls []) := by
  intro M H locs ls hl hP hD hS h
  unfold q_Layout_follow at h
  refine lv_aload_n hx hb dX6_follow_0 rfl (lv_at hl 0 rfl) ?_
  refine lv_aload_n hx hb dX6_follow_1 rfl (lv_at hl 1 rfl) ?_
  refine va_get (D := D) (ci := 4) (v := .int (M.1 1 0)) (C := RX4) (T := TX4) (N := 15) hx hb hgt iwX4 hown hK hP 1 gX_1 rfl 0 (Nat.le_of_ble_eq_true rfl) (hgt _ wd_0_94) (fun _ h9 => h9) rfl dX6_follow_2 ?_
  refine pm_put (w := (wX cI cZ cC cJ cA P)) (D := D) (ci := 6) (x := (M.1 1 0)) (ty := .int) (C := RX6) (T := TX6) (N := 13) hx hb hgt iwX6 tyX6 tyX6_ok nmX6 hown hK hP hD hS 24 gX_24 rfl 0 (Nat.le_of_ble_eq_true rfl) (hgt _ wd_1_4) (fun _ h9 => h9) rfl (by decide +kernel) rfl rfl (Nat.le_of_ble_eq_true rfl) (sX_24_0 _) dX6_follow_5 (fun M1 eM1 H locs hP hD hS => ?_)
  have h := lt_o eM1 h
  refine lv_aload_n hx hb dX6_follow_8 rfl (lv_at hl 1 rfl) ?_
  refine va_get (D := D) (ci := 4) (v := .ref (P 3)) (C := RX4) (T := TX4) (N := 15) hx hb hgt iwX4 hown hK hP 1 gX_1 rfl 2 (Nat.le_of_ble_eq_true rfl) (hgt _ wd_0_101) (fun _ h9 => h9) rfl dX6_follow_9 ?_
  refine lv_iconst (v := 0) hx hb dX6_follow_12 (by decide) ?_
  refine lv_aload_n hx hb dX6_follow_13 rfl (lv_at hl 0 rfl) ?_
  refine va_get (D := D) (ci := 6) (v := .ref (P 25)) (C := RX6) (T := TX6) (N := 13) hx hb hgt iwX6 hown hK hP 24 gX_24 rfl 1 (Nat.le_of_ble_eq_true rfl) (hgt _ wd_1_8) (fun _ h9 => h9) rfl dX6_follow_14 ?_
  refine lv_iconst (v := 0) hx hb dX6_follow_17 (by decide) ?_
  refine lv_bipush (v := 16) hx hb dX6_follow_18 (by decide) ?_
  refine pm_cpyi (w := (wX cI cZ cC cJ cA P)) hx hb (hml.trans hl.1.symm) hown (hgt _ wd_4_145) (hgt _ wd_2_194) (hgt _ wd_2_193) (hgt _ wd_0_25) hK hP hD hS 3 25 0 gX_3 gX_25 rfl sX_25 (cpk_l h) (Nat.le_of_ble_eq_true rfl) (by decide) dX6_follow_20 (fun M2 eM2 H locs hP hD hS => ?_)
  have h := lt_o eM2 (cpk_r h)
  refine lv_aload_n hx hb dX6_follow_23 rfl (lv_at hl 1 rfl) ?_
  refine va_get (D := D) (ci := 4) (v := .ref (P 4)) (C := RX4) (T := TX4) (N := 15) hx hb hgt iwX4 hown hK hP 1 gX_1 rfl 3 (Nat.le_of_ble_eq_true rfl) (hgt _ wd_0_105) (fun _ h9 => h9) rfl dX6_follow_24 ?_
  refine lv_iconst (v := 0) hx hb dX6_follow_27 (by decide) ?_
  refine lv_aload_n hx hb dX6_follow_28 rfl (lv_at hl 0 rfl) ?_
  refine va_get (D := D) (ci := 6) (v := .ref (P 26)) (C := RX6) (T := TX6) (N := 13) hx hb hgt iwX6 hown hK hP 24 gX_24 rfl 2 (Nat.le_of_ble_eq_true rfl) (hgt _ wd_1_10) (fun _ h9 => h9) rfl dX6_follow_29 ?_
  refine lv_iconst (v := 0) hx hb dX6_follow_32 (by decide) ?_
  refine lv_bipush (v := 16) hx hb dX6_follow_33 (by decide) ?_
  refine pm_cpyi (w := (wX cI cZ cC cJ cA P)) hx hb (hml.trans hl.1.symm) hown (hgt _ wd_4_145) (hgt _ wd_2_194) (hgt _ wd_2_193) (hgt _ wd_0_25) hK hP hD hS 4 26 0 gX_4 gX_26 rfl sX_26 (cpk_l h) (Nat.le_of_ble_eq_true rfl) (by decide) dX6_follow_35 (fun M3 eM3 H locs hP hD hS => ?_)
  have h := lt_o eM3 (cpk_r h)
  refine lv_aload_n hx hb dX6_follow_38 rfl (lv_at hl 1 rfl) ?_
  refine va_get (D := D) (ci := 4) (v := .ref (P 6)) (C := RX4) (T := TX4) (N := 15) hx hb hgt iwX4 hown hK hP 1 gX_1 rfl 5 (Nat.le_of_ble_eq_true rfl) (hgt _ wd_0_112) (fun _ h9 => h9) rfl dX6_follow_39 ?_
  refine lv_iconst (v := 0) hx hb dX6_follow_42 (by decide) ?_
  refine lv_aload_n hx hb dX6_follow_43 rfl (lv_at hl 0 rfl) ?_
  refine va_get (D := D) (ci := 6) (v := .ref (P 27)) (C := RX6) (T := TX6) (N := 13) hx hb hgt iwX6 hown hK hP 24 gX_24 rfl 3 (Nat.le_of_ble_eq_true rfl) (hgt _ wd_1_13) (fun _ h9 => h9) rfl dX6_follow_44 ?_
  refine lv_iconst (v := 0) hx hb dX6_follow_47 (by decide) ?_
  refine lv_bipush (v := 16) hx hb dX6_follow_48 (by decide) ?_
  refine pm_cpyi (w := (wX cI cZ cC cJ cA P)) hx hb (hml.trans hl.1.symm) hown (hgt _ wd_4_145) (hgt _ wd_2_194) (hgt _ wd_2_193) (hgt _ wd_0_25) hK hP hD hS 6 27 0 gX_6 gX_27 rfl sX_27 (cpk_l h) (Nat.le_of_ble_eq_true rfl) (by decide) dX6_follow_50 (fun M4 eM4 H locs hP hD hS => ?_)
  have h := lt_o eM4 (cpk_r h)
  refine lv_aload_n hx hb dX6_follow_53 rfl (lv_at hl 0 rfl) ?_
  refine va_get (D := D) (ci := 6) (v := .ref (P 43)) (C := RX6) (T := TX6) (N := 13) hx hb hgt iwX6 hown hK hP 24 gX_24 rfl 12 (Nat.le_of_ble_eq_true rfl) (hgt _ wd_1_45) (fun _ h9 => h9) rfl dX6_follow_54 ?_
  refine lv_aload_n hx hb dX6_follow_57 rfl (lv_at hl 1 rfl) ?_
  refine va_get (D := D) (ci := 4) (v := .ref (P 14)) (C := RX4) (T := TX4) (N := 15) hx hb hgt iwX4 hown hK hP 1 gX_1 rfl 14 (Nat.le_of_ble_eq_true rfl) (hgt _ wd_0_147) (fun _ h9 => h9) rfl dX6_follow_58 ?_
  obtain ⟨M5, r6, hq, h⟩ := cal_o h
  refine cx_v (va_runV (As := [.ref (P 14)]) (rest := []) ⟨hx, hb, hml, hown, hgt⟩ (z_Rules_copy l D cI cZ cC cJ cA P s0 hAO M4 M5 r6 hq) (cwV 1 hgt (gV wd_4_146 wd_4_147 wd_4_148 wd_0_3 wd_4_149) rfl rfl rfl (by decide +kernel) ⟨Nat.le_of_ble_eq_true rfl, Nat.le_of_ble_eq_true rfl⟩) (prV hP hK hD hO hAO hS (va_recv hK hP (ci := 11) (q0 := 43) rfl gX_43)) rfl rfl hl.1 rfl (lv_room (Nat.le_of_ble_eq_true rfl)) dX6_follow_61 ⟨Nat.le_of_ble_eq_true rfl, Nat.le_of_ble_eq_true rfl⟩) hS (fun H locs hP hD hS => ?_)
  refine lv_aload_n hx hb dX6_follow_64 rfl (lv_at hl 0 rfl) ?_
  refine va_get (D := D) (ci := 6) (v := .ref (P 28)) (C := RX6) (T := TX6) (N := 13) hx hb hgt iwX6 hown hK hP 24 gX_24 rfl 4 (Nat.le_of_ble_eq_true rfl) (hgt _ wd_1_16) (fun _ h9 => h9) rfl dX6_follow_65 ?_
  refine lv_iconst (v := 0) hx hb dX6_follow_68 (by decide) ?_
  refine cx_v (va_runS (As := [.ref (P 28), .int 0]) (rest := []) ⟨hx, hb, hml, hown, hgt⟩ (z_fill 16 l D cI cZ cC cJ cA (wX cI cZ cC cJ cA P) (aP P 77) s0 P 28 (fun _ => gX_28) (fun _ => sX_28) rfl 0 M5) (va_cwS 2 hgt (gS wd_1_1 wd_1_2 wd_0_8 wd_1_3) rfl rfl rfl (by decide +kernel) ⟨Nat.le_of_ble_eq_true rfl, Nat.le_of_ble_eq_true rfl⟩) (prS hP hK hD hO hAO hS) rfl rfl hl.1 rfl (lv_room (Nat.le_of_ble_eq_true rfl)) dX6_follow_69 ⟨Nat.le_of_ble_eq_true rfl, Nat.le_of_ble_eq_true rfl⟩) hS (fun H locs hP hD hS => ?_)
  obtain ⟨M7, eM7⟩ : ∃ M7, M7 = stI M5 28 (fun _ => 0) := ⟨_, rfl⟩
  rw [← eM7] at hP hD
  have h := lt_o eM7 h
  refine lv_aload_n hx hb dX6_follow_72 rfl (lv_at hl 0 rfl) ?_
  refine va_get (D := D) (ci := 6) (v := .ref (P 29)) (C := RX6) (T := TX6) (N := 13) hx hb hgt iwX6 hown hK hP 24 gX_24 rfl 5 (Nat.le_of_ble_eq_true rfl) (hgt _ wd_1_19) (fun _ h9 => h9) rfl dX6_follow_73 ?_
  refine lv_iconst (v := 0) hx hb dX6_follow_76 (by decide) ?_
  refine cx_v (va_runS (As := [.ref (P 29), .int 0]) (rest := []) ⟨hx, hb, hml, hown, hgt⟩ (z_fill 16 l D cI cZ cC cJ cA (wX cI cZ cC cJ cA P) (aP P 77) s0 P 29 (fun _ => gX_29) (fun _ => sX_29) rfl 0 M7) (va_cwS 2 hgt (gS wd_1_1 wd_1_2 wd_0_8 wd_1_3) rfl rfl rfl (by decide +kernel) ⟨Nat.le_of_ble_eq_true rfl, Nat.le_of_ble_eq_true rfl⟩) (prS hP hK hD hO hAO hS) rfl rfl hl.1 rfl (lv_room (Nat.le_of_ble_eq_true rfl)) dX6_follow_77 ⟨Nat.le_of_ble_eq_true rfl, Nat.le_of_ble_eq_true rfl⟩) hS (fun H locs hP hD hS => ?_)
  obtain ⟨M8, eM8⟩ : ∃ M8, M8 = stI M7 29 (fun _ => 0) := ⟨_, rfl⟩
  rw [← eM8] at hP hD
  have h := lt_o eM8 h
  refine lv_iconst (v := 0) hx hb dX6_follow_80 (by decide) ?_
  refine lv_istore_n hx hb dX6_follow_81 rfl hl (Nat.le_of_ble_eq_true rfl) (lv' := [(2, .int 0), (0, .ref (P 24)), (1, .ref (P 1))]) rfl (fun ls hl => ?_)
  have hl := lv_sub hl [1, 2, 0] (l' := [(0, .ref (P 24)), (1, .ref (P 1)), (2, .int 0)]) rfl
  exact b_Layout_follow_82 hx hb hml hr hlk hgt hown hK hO hAO 4000 M8 0 H _ ls hl hP hD hS h
set_option maxHeartbeats 4000000 in
set_option maxRecDepth 20000 in
theorem z_Layout_follow (l : Launch) (D : va_G) (cI cZ cC cJ cA : ClassId) (P : Nat → Nat) (s0 : State) (hAO : ∀ q, (aP P 77) q → s0.heap.size ≤ q) (M : Mm)  (M' : Mm) (r' : Int32) (h : q_Layout_follow M = some (M', r')) : Met l yX6_follow wsX6_follow ({ frames := 2, cells := 0, slots := 0, locals := 85 }) (va_Pc [.ref (P 24), .ref (P 1)] (gPre s0 D [(cI, .int), (cZ, .boolean), (cC, .char), (cJ, .long), (cA, .array .int)] (aP P 77) ((wX cI cZ cC cJ cA P) M))) (gQv D (aP P 77) ((wX cI cZ cC cJ cA P) M')) 0 0 (aP P 77) := by
  refine Met.ofW (cc := cX6_follow) (maxL := 3) (ret := none) (by decide) rfl ?_
  intro p e s m args below meth c s₁ B hml hv
  obtain ⟨rfl, hP, hK, hD, hO⟩ := hv
  have hx := B.exec
  have hb := B.bytes
  have hr := B.returns
  have hlk := B.notSynchronized
  have hgt := fun w (h : w ∈ GT) => atoms_spec (ws := wsX6_follow) B.pre w (List.mem_cons_of_mem _ h)
  have hown : s.vm.findClass RX6 = some m.cls := findClass_of_methodNamed B.named
  have hS : va_S (aP P 77) s.heap s.heap [] := va_S.rf
  have hl := lv_entry ([.ref (P 24), .ref (P 1)]) (n := 3) (Nat.le_of_ble_eq_true rfl)
  rw [lg_entry_eq]
  generalize (lg_sl ([.ref (P 24), .ref (P 1)]) ++ List.replicate (3 - (lg_sl ([.ref (P 24), .ref (P 1)])).length) Slot.unset).toArray = ls at hl ⊢
  have hl : lv_has ls 3 [(0, .ref (P 24)), (1, .ref (P 1))] := hl
  exact b_Layout_follow_0 hx hb hml hr hlk hgt hown hK hO hAO M s.heap [] ls hl hP hD hS h
end
section
def q_Mind_restart_2  : Nat → Mm → Int32 → Rs
  | 0, _, _ => none
  | n' + 1, M, v1 => if 16 ≤ v1 then (lt' (stI M 51 (upd (M.1 51) 2 0)) fun M1 => some (M1, 0)) else (ix v1 16 <| ix v1 16 <| ix v1 16 <| lt' (stI M 52 (upd (M.1 52) (v1 : Int32).toNatClampNeg ((M.1 28 (v1 : Int32).toNatClampNeg) &&& (M.1 29 (v1 : Int32).toNatClampNeg)))) fun M1 => q_Mind_restart_2 n' M1 (v1 + 1))
def q_Mind_restart  (M : Mm)  : Rs := q_Mind_restart_2 4000 M 0
set_option maxHeartbeats 4000000 in
set_option maxRecDepth 20000 in
theorem b_Mind_restart_2 {p : Program} {l : Launch} {e : Env} {s s0 : State} {m : MethodId} {args : Array Value} {below : List Frame} {meth : Method} {c : Code} {D : va_G} {cI cZ cC cJ cA : ClassId} {P : Nat → Nat} {M' : Mm} {r' : Int32}  (hx : p.tables.exec = Jvm.exec) (hb : c.code = cX8_restart) (hml : c.maxLocals = 2) (hr : meth.sig.returnType = none) (hlk : meth.locks = false) (hgt : ∀ w ∈ GT, w.before args s = true) (hown : s.vm.findClass RX8 = some m.cls) (hK : va_K D vwCl [(cI, .int), (cZ, .boolean), (cC, .char), (cJ, .long), (cA, .array .int)] s) (hO : Old s0 s) (hAO : ∀ q, (aP P 77) q → s0.heap.size ≤ q)  : ∀ (n' : Nat) (M : Mm) (v1 : Int32) (H : Heap) (locs : List Loc) (ls : Array Slot), lv_has ls 2 [(0, .ref (P 51)), (1, .int v1)] → va_P D vwCl ((wX cI cZ cC cJ cA P) M) H → va_D (aP P 77) ((wX cI cZ cC cJ cA P) M) → va_S (aP P 77) s.heap H locs → q_Mind_restart_2 n' M v1 = some (M', r') → W p l e ({ frames := 0, cells := 0, slots := 0, locals := 0 }) s m args below meth c H locs 0 0 (MQ below (gQv D (aP P 77) ((wX cI cZ cC cJ cA P) M')) args s 0 0 (aP P 77)) (F0 m 2 ls []) := by
  intro n'
  induction n' with
  | zero => exact fun _ _ _ _ _ _ _ _ _ h => (rs_n h).elim
  | succ n' ih =>
    intro M v1 H locs ls hl hP hD hS h
    rw [q_Mind_restart_2] at h
    refine lv_iload_n hx hb dX8_restart_2 rfl (lv_at hl 1 rfl) ?_
    refine lv_bipush (v := 16) hx hb dX8_restart_3 (by decide) ?_
    refine lv_icmp_ge hx hb dX8_restart_5 (tgt := 39) rfl (fun hc => ?_) (fun hc => ?_)
    · have h := br_T hc h
      refine lv_aload_n hx hb dX8_restart_39 rfl (lv_at hl 0 rfl) ?_
      refine lv_iconst (v := 0) hx hb dX8_restart_40 (by decide) ?_
      refine pm_put (w := (wX cI cZ cC cJ cA P)) (D := D) (ci := 8) (x := 0) (ty := .int) (C := RX8) (T := TX8) (N := 3) hx hb hgt iwX8 tyX8 tyX8_ok nmX8 hown hK hP hD hS 51 gX_51 rfl 2 (Nat.le_of_ble_eq_true rfl) (hgt _ wd_1_117) (fun _ h9 => h9) rfl (by decide +kernel) rfl rfl (Nat.le_of_ble_eq_true rfl) (sX_51_2 _) dX8_restart_41 (fun M1 eM1 H locs hP hD hS => ?_)
      have h := lt_o eM1 h
      exact rt_v (w := (wX cI cZ cC cJ cA P)) (r := r') hx hb hr hlk hP hD hS h dX8_restart_44
    · have h := br_F hc h
      refine lv_aload_n hx hb dX8_restart_8 rfl (lv_at hl 0 rfl) ?_
      refine va_get (D := D) (ci := 8) (v := .ref (P 52)) (C := RX8) (T := TX8) (N := 3) hx hb hgt iwX8 hown hK hP 51 gX_51 rfl 1 (Nat.le_of_ble_eq_true rfl) (hgt _ wd_1_113) (fun _ h9 => h9) rfl dX8_restart_9 ?_
      refine lv_iload_n hx hb dX8_restart_12 rfl (lv_at hl 1 rfl) ?_
      refine lv_aload_n hx hb dX8_restart_13 rfl (lv_at hl 0 rfl) ?_
      refine va_get (D := D) (ci := 8) (v := .ref (P 24)) (C := RX8) (T := TX8) (N := 3) hx hb hgt iwX8 hown hK hP 51 gX_51 rfl 0 (Nat.le_of_ble_eq_true rfl) (hgt _ wd_1_112) (fun _ h9 => h9) rfl dX8_restart_14 ?_
      refine va_get (D := D) (ci := 6) (v := .ref (P 28)) (C := RX6) (T := TX6) (N := 13) hx hb hgt iwX6 hown hK hP 24 gX_24 rfl 4 (Nat.le_of_ble_eq_true rfl) (hgt _ wd_1_17) (fun _ h9 => h9) rfl dX8_restart_17 ?_
      refine lv_iload_n hx hb dX8_restart_20 rfl (lv_at hl 1 rfl) ?_
      refine va_iald hx hb hK hP 28 0 gX_28 rfl (ix_l h) dX8_restart_21 ?_
      have h := ix_r h
      refine lv_aload_n hx hb dX8_restart_22 rfl (lv_at hl 0 rfl) ?_
      refine va_get (D := D) (ci := 8) (v := .ref (P 24)) (C := RX8) (T := TX8) (N := 3) hx hb hgt iwX8 hown hK hP 51 gX_51 rfl 0 (Nat.le_of_ble_eq_true rfl) (hgt _ wd_1_112) (fun _ h9 => h9) rfl dX8_restart_23 ?_
      refine va_get (D := D) (ci := 6) (v := .ref (P 29)) (C := RX6) (T := TX6) (N := 13) hx hb hgt iwX6 hown hK hP 24 gX_24 rfl 5 (Nat.le_of_ble_eq_true rfl) (hgt _ wd_1_20) (fun _ h9 => h9) rfl dX8_restart_26 ?_
      refine lv_iload_n hx hb dX8_restart_29 rfl (lv_at hl 1 rfl) ?_
      refine va_iald hx hb hK hP 29 0 gX_29 rfl (ix_l h) dX8_restart_30 ?_
      have h := ix_r h
      refine lv_iand hx hb dX8_restart_31 ?_
      refine pm_iast (w := (wX cI cZ cC cJ cA P)) hx hb hK hP hD hS 52 0 gX_52 rfl sX_52 (ix_l h) dX8_restart_32 (fun M1 eM1 H locs hP hD hS => ?_)
      have h := ix_r h
      have h := lt_o eM1 h
      refine lv_iinc (v := (v1 + 1)) hx hb dX8_restart_33 hl (k := 1) rfl rfl (Nat.le_of_ble_eq_true rfl) (lv' := [(1, .int (v1 + 1)), (0, .ref (P 51))]) rfl (fun ls hl => ?_)
      refine lv_goto hx hb dX8_restart_36 (tgt := 2) rfl ?_
      have hl := lv_sub hl [1, 0] (l' := [(0, .ref (P 51)), (1, .int (v1 + 1))]) rfl
      exact ih M1 (v1 + 1) H locs ls hl hP hD hS h
set_option maxHeartbeats 4000000 in
set_option maxRecDepth 20000 in
theorem b_Mind_restart_0 {p : Program} {l : Launch} {e : Env} {s s0 : State} {m : MethodId} {args : Array Value} {below : List Frame} {meth : Method} {c : Code} {D : va_G} {cI cZ cC cJ cA : ClassId} {P : Nat → Nat} {M' : Mm} {r' : Int32}  (hx : p.tables.exec = Jvm.exec) (hb : c.code = cX8_restart) (hml : c.maxLocals = 2) (hr : meth.sig.returnType = none) (hlk : meth.locks = false) (hgt : ∀ w ∈ GT, w.before args s = true) (hown : s.vm.findClass RX8 = some m.cls) (hK : va_K D vwCl [(cI, .int), (cZ, .boolean), (cC, .char), (cJ, .long), (cA, .array .int)] s) (hO : Old s0 s) (hAO : ∀ q, (aP P 77) q → s0.heap.size ≤ q)  : ∀ (M : Mm)  (H : Heap) (locs : List Loc) (ls : Array Slot), lv_has ls 2 [(0, .ref (P 51))] → va_P D vwCl ((wX cI cZ cC cJ cA P) M) H → va_D (aP P 77) ((wX cI cZ cC cJ cA P) M) → va_S (aP P 77) s.heap H locs → q_Mind_restart M = some (M', r') → W p l e ({ frames := 0, cells := 0, slots := 0, locals := 0 }) s m args below meth c H locs 0 0 (MQ below (gQv D (aP P 77) ((wX cI cZ cC cJ cA P) M')) args s 0 0 (aP P 77)) (F0 m 0 ls []) := by
  intro M H locs ls hl hP hD hS h
  unfold q_Mind_restart at h
  refine lv_iconst (v := 0) hx hb dX8_restart_0 (by decide) ?_
  refine lv_istore_n hx hb dX8_restart_1 rfl hl (Nat.le_of_ble_eq_true rfl) (lv' := [(1, .int 0), (0, .ref (P 51))]) rfl (fun ls hl => ?_)
  have hl := lv_sub hl [1, 0] (l' := [(0, .ref (P 51)), (1, .int 0)]) rfl
  exact b_Mind_restart_2 hx hb hml hr hlk hgt hown hK hO hAO 4000 M 0 H _ ls hl hP hD hS h
set_option maxHeartbeats 4000000 in
set_option maxRecDepth 20000 in
theorem z_Mind_restart (l : Launch) (D : va_G) (cI cZ cC cJ cA : ClassId) (P : Nat → Nat) (s0 : State) (hAO : ∀ q, (aP P 77) q → s0.heap.size ≤ q) (M : Mm)  (M' : Mm) (r' : Int32) (h : q_Mind_restart M = some (M', r')) : Met l yX8_restart wsX8_restart ({ frames := 0, cells := 0, slots := 0, locals := 0 }) (va_Pc [.ref (P 51)] (gPre s0 D [(cI, .int), (cZ, .boolean), (cC, .char), (cJ, .long), (cA, .array .int)] (aP P 77) ((wX cI cZ cC cJ cA P) M))) (gQv D (aP P 77) ((wX cI cZ cC cJ cA P) M')) 0 0 (aP P 77) := by
  refine Met.ofW (cc := cX8_restart) (maxL := 2) (ret := none) (by decide) rfl ?_
  intro p e s m args below meth c s₁ B hml hv
  obtain ⟨rfl, hP, hK, hD, hO⟩ := hv
  have hx := B.exec
  have hb := B.bytes
  have hr := B.returns
  have hlk := B.notSynchronized
  have hgt := fun w (h : w ∈ GT) => atoms_spec (ws := wsX8_restart) B.pre w (List.mem_cons_of_mem _ h)
  have hown : s.vm.findClass RX8 = some m.cls := findClass_of_methodNamed B.named
  have hS : va_S (aP P 77) s.heap s.heap [] := va_S.rf
  have hl := lv_entry ([.ref (P 51)]) (n := 2) (Nat.le_of_ble_eq_true rfl)
  rw [lg_entry_eq]
  generalize (lg_sl ([.ref (P 51)]) ++ List.replicate (2 - (lg_sl ([.ref (P 51)])).length) Slot.unset).toArray = ls at hl ⊢
  have hl : lv_has ls 2 [(0, .ref (P 51))] := hl
  exact b_Mind_restart_0 hx hb hml hr hlk hgt hown hK hO hAO M s.heap [] ls hl hP hD hS h
def q_Device_restart_9  : Nat → Mm → Int32 → Rs
  | 0, _, _ => none
  | n' + 1, M, v1 => if 16 ≤ v1 then (lt' (stI M 58 (fun _ => 0)) fun M1 => lt' (stI M1 59 (fun _ => 0)) fun M2 => lt' (stI M2 50 (upd (M2.1 50) 3 0)) fun M3 => lt' (stI M3 53 (upd (M3.1 53) 0 0)) fun M4 => some (M4, 0)) else (ix v1 16 <| ix v1 16 <| ix v1 16 <| lt' (stI M 57 (upd (M.1 57) (v1 : Int32).toNatClampNeg ((M.1 28 (v1 : Int32).toNatClampNeg) &&& ((M.1 29 (v1 : Int32).toNatClampNeg) ^^^ (-1))))) fun M1 => q_Device_restart_9 n' M1 (v1 + 1))
def q_Device_restart  (M : Mm)  : Rs := cal (q_Mind_restart M) fun M1 r2 => q_Device_restart_9 4000 M1 0
set_option maxHeartbeats 4000000 in
set_option maxRecDepth 20000 in
theorem b_Device_restart_9 {p : Program} {l : Launch} {e : Env} {s s0 : State} {m : MethodId} {args : Array Value} {below : List Frame} {meth : Method} {c : Code} {D : va_G} {cI cZ cC cJ cA : ClassId} {P : Nat → Nat} {M' : Mm} {r' : Int32}  (hx : p.tables.exec = Jvm.exec) (hb : c.code = cX3_restart) (hml : c.maxLocals = 2) (hr : meth.sig.returnType = none) (hlk : meth.locks = false) (hgt : ∀ w ∈ GT, w.before args s = true) (hown : s.vm.findClass RX3 = some m.cls) (hK : va_K D vwCl [(cI, .int), (cZ, .boolean), (cC, .char), (cJ, .long), (cA, .array .int)] s) (hO : Old s0 s) (hAO : ∀ q, (aP P 77) q → s0.heap.size ≤ q)  : ∀ (n' : Nat) (M : Mm) (v1 : Int32) (H : Heap) (locs : List Loc) (ls : Array Slot), lv_has ls 2 [(0, .ref (P 50)), (1, .int v1)] → va_P D vwCl ((wX cI cZ cC cJ cA P) M) H → va_D (aP P 77) ((wX cI cZ cC cJ cA P) M) → va_S (aP P 77) s.heap H locs → q_Device_restart_9 n' M v1 = some (M', r') → W p l e ({ frames := 1, cells := 0, slots := 0, locals := 23 }) s m args below meth c H locs 0 0 (MQ below (gQv D (aP P 77) ((wX cI cZ cC cJ cA P) M')) args s 0 0 (aP P 77)) (F0 m 9 ls []) := by
  intro n'
  induction n' with
  | zero => exact fun _ _ _ _ _ _ _ _ _ h => (rs_n h).elim
  | succ n' ih =>
    intro M v1 H locs ls hl hP hD hS h
    rw [q_Device_restart_9] at h
    refine lv_iload_n hx hb dX3_restart_9 rfl (lv_at hl 1 rfl) ?_
    refine lv_bipush (v := 16) hx hb dX3_restart_10 (by decide) ?_
    refine lv_icmp_ge hx hb dX3_restart_12 (tgt := 48) rfl (fun hc => ?_) (fun hc => ?_)
    · have h := br_T hc h
      refine lv_aload_n hx hb dX3_restart_48 rfl (lv_at hl 0 rfl) ?_
      refine va_get (D := D) (ci := 3) (v := .ref (P 58)) (C := RX3) (T := TX3) (N := 7) hx hb hgt iwX3 hown hK hP 50 gX_50 rfl 5 (Nat.le_of_ble_eq_true rfl) (hgt _ wd_1_134) (fun _ h9 => h9) rfl dX3_restart_49 ?_
      refine lv_iconst (v := 0) hx hb dX3_restart_52 (by decide) ?_
      refine cx_v (va_runS (As := [.ref (P 58), .int 0]) (rest := []) ⟨hx, hb, hml, hown, hgt⟩ (z_fill 16 l D cI cZ cC cJ cA (wX cI cZ cC cJ cA P) (aP P 77) s0 P 58 (fun _ => gX_58) (fun _ => sX_58) rfl 0 M) (va_cwS 2 hgt (gS wd_2_97 wd_1_2 wd_0_8 wd_1_3) rfl rfl rfl (by decide +kernel) ⟨Nat.le_of_ble_eq_true rfl, Nat.le_of_ble_eq_true rfl⟩) (prS hP hK hD hO hAO hS) rfl rfl hl.1 rfl (lv_room (Nat.le_of_ble_eq_true rfl)) dX3_restart_53 ⟨Nat.le_of_ble_eq_true rfl, Nat.le_of_ble_eq_true rfl⟩) hS (fun H locs hP hD hS => ?_)
      obtain ⟨M1, eM1⟩ : ∃ M1, M1 = stI M 58 (fun _ => 0) := ⟨_, rfl⟩
      rw [← eM1] at hP hD
      have h := lt_o eM1 h
      refine lv_aload_n hx hb dX3_restart_56 rfl (lv_at hl 0 rfl) ?_
      refine va_get (D := D) (ci := 3) (v := .ref (P 59)) (C := RX3) (T := TX3) (N := 7) hx hb hgt iwX3 hown hK hP 50 gX_50 rfl 6 (Nat.le_of_ble_eq_true rfl) (hgt _ wd_1_136) (fun _ h9 => h9) rfl dX3_restart_57 ?_
      refine lv_iconst (v := 0) hx hb dX3_restart_60 (by decide) ?_
      refine cx_v (va_runS (As := [.ref (P 59), .int 0]) (rest := []) ⟨hx, hb, hml, hown, hgt⟩ (z_fill 26 l D cI cZ cC cJ cA (wX cI cZ cC cJ cA P) (aP P 77) s0 P 59 (fun _ => gX_59) (fun _ => sX_59) rfl 0 M1) (va_cwS 2 hgt (gS wd_2_97 wd_1_2 wd_0_8 wd_1_3) rfl rfl rfl (by decide +kernel) ⟨Nat.le_of_ble_eq_true rfl, Nat.le_of_ble_eq_true rfl⟩) (prS hP hK hD hO hAO hS) rfl rfl hl.1 rfl (lv_room (Nat.le_of_ble_eq_true rfl)) dX3_restart_61 ⟨Nat.le_of_ble_eq_true rfl, Nat.le_of_ble_eq_true rfl⟩) hS (fun H locs hP hD hS => ?_)
      obtain ⟨M2, eM2⟩ : ∃ M2, M2 = stI M1 59 (fun _ => 0) := ⟨_, rfl⟩
      rw [← eM2] at hP hD
      have h := lt_o eM2 h
      refine lv_aload_n hx hb dX3_restart_64 rfl (lv_at hl 0 rfl) ?_
      refine lv_iconst (v := 0) hx hb dX3_restart_65 (by decide) ?_
      refine pm_put (w := (wX cI cZ cC cJ cA P)) (D := D) (ci := 3) (x := 0) (ty := .int) (C := RX3) (T := TX3) (N := 7) hx hb hgt iwX3 tyX3 tyX3_ok nmX3 hown hK hP hD hS 50 gX_50 rfl 3 (Nat.le_of_ble_eq_true rfl) (hgt _ wd_1_131) (fun _ h9 => h9) rfl (by decide +kernel) rfl rfl (Nat.le_of_ble_eq_true rfl) (sX_50_3 _) dX3_restart_66 (fun M3 eM3 H locs hP hD hS => ?_)
      have h := lt_o eM3 h
      refine lv_aload_n hx hb dX3_restart_69 rfl (lv_at hl 0 rfl) ?_
      refine va_get (D := D) (ci := 3) (v := .ref (P 53)) (C := RX3) (T := TX3) (N := 7) hx hb hgt iwX3 hown hK hP 50 gX_50 rfl 2 (Nat.le_of_ble_eq_true rfl) (hgt _ wd_1_129) (fun _ h9 => h9) rfl dX3_restart_70 ?_
      refine lv_iconst (v := 0) hx hb dX3_restart_73 (by decide) ?_
      refine pm_put (w := (wX cI cZ cC cJ cA P)) (D := D) (ci := 7) (x := 0) (ty := .int) (C := RX7) (T := TX7) (N := 4) hx hb hgt iwX7 tyX7 tyX7_ok nmX7 hown hK hP hD hS 53 gX_53 rfl 0 (Nat.le_of_ble_eq_true rfl) (hgt _ wd_1_89) (fun _ h9 => h9) rfl (by decide +kernel) rfl rfl (Nat.le_of_ble_eq_true rfl) (sX_53_0 _) dX3_restart_74 (fun M4 eM4 H locs hP hD hS => ?_)
      have h := lt_o eM4 h
      exact rt_v (w := (wX cI cZ cC cJ cA P)) (r := r') hx hb hr hlk hP hD hS h dX3_restart_77
    · have h := br_F hc h
      refine lv_aload_n hx hb dX3_restart_15 rfl (lv_at hl 0 rfl) ?_
      refine va_get (D := D) (ci := 3) (v := .ref (P 57)) (C := RX3) (T := TX3) (N := 7) hx hb hgt iwX3 hown hK hP 50 gX_50 rfl 4 (Nat.le_of_ble_eq_true rfl) (hgt _ wd_1_133) (fun _ h9 => h9) rfl dX3_restart_16 ?_
      refine lv_iload_n hx hb dX3_restart_19 rfl (lv_at hl 1 rfl) ?_
      refine lv_aload_n hx hb dX3_restart_20 rfl (lv_at hl 0 rfl) ?_
      refine va_get (D := D) (ci := 3) (v := .ref (P 24)) (C := RX3) (T := TX3) (N := 7) hx hb hgt iwX3 hown hK hP 50 gX_50 rfl 0 (Nat.le_of_ble_eq_true rfl) (hgt _ wd_1_126) (fun _ h9 => h9) rfl dX3_restart_21 ?_
      refine va_get (D := D) (ci := 6) (v := .ref (P 28)) (C := RX6) (T := TX6) (N := 13) hx hb hgt iwX6 hown hK hP 24 gX_24 rfl 4 (Nat.le_of_ble_eq_true rfl) (hgt _ wd_1_18) (fun _ h9 => h9) rfl dX3_restart_24 ?_
      refine lv_iload_n hx hb dX3_restart_27 rfl (lv_at hl 1 rfl) ?_
      refine va_iald hx hb hK hP 28 0 gX_28 rfl (ix_l h) dX3_restart_28 ?_
      have h := ix_r h
      refine lv_aload_n hx hb dX3_restart_29 rfl (lv_at hl 0 rfl) ?_
      refine va_get (D := D) (ci := 3) (v := .ref (P 24)) (C := RX3) (T := TX3) (N := 7) hx hb hgt iwX3 hown hK hP 50 gX_50 rfl 0 (Nat.le_of_ble_eq_true rfl) (hgt _ wd_1_126) (fun _ h9 => h9) rfl dX3_restart_30 ?_
      refine va_get (D := D) (ci := 6) (v := .ref (P 29)) (C := RX6) (T := TX6) (N := 13) hx hb hgt iwX6 hown hK hP 24 gX_24 rfl 5 (Nat.le_of_ble_eq_true rfl) (hgt _ wd_1_21) (fun _ h9 => h9) rfl dX3_restart_33 ?_
      refine lv_iload_n hx hb dX3_restart_36 rfl (lv_at hl 1 rfl) ?_
      refine va_iald hx hb hK hP 29 0 gX_29 rfl (ix_l h) dX3_restart_37 ?_
      have h := ix_r h
      refine lv_iconst (v := (-1)) hx hb dX3_restart_38 (by decide) ?_
      refine lv_ixor hx hb dX3_restart_39 ?_
      refine lv_iand hx hb dX3_restart_40 ?_
      refine pm_iast (w := (wX cI cZ cC cJ cA P)) hx hb hK hP hD hS 57 0 gX_57 rfl sX_57 (ix_l h) dX3_restart_41 (fun M1 eM1 H locs hP hD hS => ?_)
      have h := ix_r h
      have h := lt_o eM1 h
      refine lv_iinc (v := (v1 + 1)) hx hb dX3_restart_42 hl (k := 1) rfl rfl (Nat.le_of_ble_eq_true rfl) (lv' := [(1, .int (v1 + 1)), (0, .ref (P 50))]) rfl (fun ls hl => ?_)
      refine lv_goto hx hb dX3_restart_45 (tgt := 9) rfl ?_
      have hl := lv_sub hl [1, 0] (l' := [(0, .ref (P 50)), (1, .int (v1 + 1))]) rfl
      exact ih M1 (v1 + 1) H locs ls hl hP hD hS h
set_option maxHeartbeats 4000000 in
set_option maxRecDepth 20000 in
theorem b_Device_restart_0 {p : Program} {l : Launch} {e : Env} {s s0 : State} {m : MethodId} {args : Array Value} {below : List Frame} {meth : Method} {c : Code} {D : va_G} {cI cZ cC cJ cA : ClassId} {P : Nat → Nat} {M' : Mm} {r' : Int32}  (hx : p.tables.exec = Jvm.exec) (hb : c.code = cX3_restart) (hml : c.maxLocals = 2) (hr : meth.sig.returnType = none) (hlk : meth.locks = false) (hgt : ∀ w ∈ GT, w.before args s = true) (hown : s.vm.findClass RX3 = some m.cls) (hK : va_K D vwCl [(cI, .int), (cZ, .boolean), (cC, .char), (cJ, .long), (cA, .array .int)] s) (hO : Old s0 s) (hAO : ∀ q, (aP P 77) q → s0.heap.size ≤ q)  : ∀ (M : Mm)  (H : Heap) (locs : List Loc) (ls : Array Slot), lv_has ls 2 [(0, .ref (P 50))] → va_P D vwCl ((wX cI cZ cC cJ cA P) M) H → va_D (aP P 77) ((wX cI cZ cC cJ cA P) M) → va_S (aP P 77) s.heap H locs → q_Device_restart M = some (M', r') → W p l e ({ frames := 1, cells := 0, slots := 0, locals := 23 }) s m args below meth c H locs 0 0 (MQ below (gQv D (aP P 77) ((wX cI cZ cC cJ cA P) M')) args s 0 0 (aP P 77)) (F0 m 0 ls []) := by
  intro M H locs ls hl hP hD hS h
  unfold q_Device_restart at h
  refine lv_aload_n hx hb dX3_restart_0 rfl (lv_at hl 0 rfl) ?_
  refine va_get (D := D) (ci := 3) (v := .ref (P 51)) (C := RX3) (T := TX3) (N := 7) hx hb hgt iwX3 hown hK hP 50 gX_50 rfl 1 (Nat.le_of_ble_eq_true rfl) (hgt _ wd_1_127) (fun _ h9 => h9) rfl dX3_restart_1 ?_
  obtain ⟨M1, r2, hq, h⟩ := cal_o h
  refine cx_v (va_runV (As := []) (rest := []) ⟨hx, hb, hml, hown, hgt⟩ (z_Mind_restart l D cI cZ cC cJ cA P s0 hAO M M1 r2 hq) (cwV 0 hgt (gV wd_2_93 wd_2_94 wd_2_95 wd_0_11 wd_2_96) rfl rfl rfl (by decide +kernel) ⟨Nat.le_of_ble_eq_true rfl, Nat.le_of_ble_eq_true rfl⟩) (prV hP hK hD hO hAO hS (va_recv hK hP (ci := 8) (q0 := 51) rfl gX_51)) rfl rfl hl.1 rfl (lv_room (Nat.le_of_ble_eq_true rfl)) dX3_restart_4 ⟨Nat.le_of_ble_eq_true rfl, Nat.le_of_ble_eq_true rfl⟩) hS (fun H locs hP hD hS => ?_)
  refine lv_iconst (v := 0) hx hb dX3_restart_7 (by decide) ?_
  refine lv_istore_n hx hb dX3_restart_8 rfl hl (Nat.le_of_ble_eq_true rfl) (lv' := [(1, .int 0), (0, .ref (P 50))]) rfl (fun ls hl => ?_)
  have hl := lv_sub hl [1, 0] (l' := [(0, .ref (P 50)), (1, .int 0)]) rfl
  exact b_Device_restart_9 hx hb hml hr hlk hgt hown hK hO hAO 4000 M1 0 H _ ls hl hP hD hS h
set_option maxHeartbeats 4000000 in
set_option maxRecDepth 20000 in
theorem z_Device_restart (l : Launch) (D : va_G) (cI cZ cC cJ cA : ClassId) (P : Nat → Nat) (s0 : State) (hAO : ∀ q, (aP P 77) q → s0.heap.size ≤ q) (M : Mm)  (M' : Mm) (r' : Int32) (h : q_Device_restart M = some (M', r')) : Met l yX3_restart wsX3_restart ({ frames := 1, cells := 0, slots := 0, locals := 23 }) (va_Pc [.ref (P 50)] (gPre s0 D [(cI, .int), (cZ, .boolean), (cC, .char), (cJ, .long), (cA, .array .int)] (aP P 77) ((wX cI cZ cC cJ cA P) M))) (gQv D (aP P 77) ((wX cI cZ cC cJ cA P) M')) 0 0 (aP P 77) := by
  refine Met.ofW (cc := cX3_restart) (maxL := 2) (ret := none) (by decide) rfl ?_
  intro p e s m args below meth c s₁ B hml hv
  obtain ⟨rfl, hP, hK, hD, hO⟩ := hv
  have hx := B.exec
  have hb := B.bytes
  have hr := B.returns
  have hlk := B.notSynchronized
  have hgt := fun w (h : w ∈ GT) => atoms_spec (ws := wsX3_restart) B.pre w (List.mem_cons_of_mem _ h)
  have hown : s.vm.findClass RX3 = some m.cls := findClass_of_methodNamed B.named
  have hS : va_S (aP P 77) s.heap s.heap [] := va_S.rf
  have hl := lv_entry ([.ref (P 50)]) (n := 2) (Nat.le_of_ble_eq_true rfl)
  rw [lg_entry_eq]
  generalize (lg_sl ([.ref (P 50)]) ++ List.replicate (2 - (lg_sl ([.ref (P 50)])).length) Slot.unset).toArray = ls at hl ⊢
  have hl : lv_has ls 2 [(0, .ref (P 50))] := hl
  exact b_Device_restart_0 hx hb hml hr hlk hgt hown hK hO hAO M s.heap [] ls hl hP hD hS h
def q_ChipMap_startAgain  (M : Mm)  : Rs := cal (q_Device_restart M) fun M1 r2 => lt' (stI M1 65 (upd (M1.1 65) 0 0)) fun M3 => some (M3, 0)
set_option maxHeartbeats 4000000 in
set_option maxRecDepth 20000 in
theorem b_ChipMap_startAgain_0 {p : Program} {l : Launch} {e : Env} {s s0 : State} {m : MethodId} {args : Array Value} {below : List Frame} {meth : Method} {c : Code} {D : va_G} {cI cZ cC cJ cA : ClassId} {P : Nat → Nat} {M' : Mm} {r' : Int32}  (hx : p.tables.exec = Jvm.exec) (hb : c.code = cX0_startAgain) (hml : c.maxLocals = 1) (hr : meth.sig.returnType = none) (hlk : meth.locks = false) (hgt : ∀ w ∈ GT, w.before args s = true) (hown : s.vm.findClass RX0 = some m.cls) (hK : va_K D vwCl [(cI, .int), (cZ, .boolean), (cC, .char), (cJ, .long), (cA, .array .int)] s) (hO : Old s0 s) (hAO : ∀ q, (aP P 77) q → s0.heap.size ≤ q)  : ∀ (M : Mm)  (H : Heap) (locs : List Loc) (ls : Array Slot), lv_has ls 1 [(0, .ref (P 0))] → va_P D vwCl ((wX cI cZ cC cJ cA P) M) H → va_D (aP P 77) ((wX cI cZ cC cJ cA P) M) → va_S (aP P 77) s.heap H locs → q_ChipMap_startAgain M = some (M', r') → W p l e ({ frames := 2, cells := 0, slots := 0, locals := 44 }) s m args below meth c H locs 0 0 (MQ below (gQv D (aP P 77) ((wX cI cZ cC cJ cA P) M')) args s 0 0 (aP P 77)) (F0 m 0 ls []) := by
  intro M H locs ls hl hP hD hS h
  unfold q_ChipMap_startAgain at h
  refine lv_aload_n hx hb dX0_startAgain_0 rfl (lv_at hl 0 rfl) ?_
  refine va_get (D := D) (ci := 0) (v := .ref (P 50)) (C := RX0) (T := TX0) (N := 9) hx hb hgt iwX0 hown hK hP 0 gX_0 rfl 4 (Nat.le_of_ble_eq_true rfl) (hgt _ wd_2_21) (fun _ h9 => h9) rfl dX0_startAgain_1 ?_
  obtain ⟨M1, r2, hq, h⟩ := cal_o h
  refine cx_v (va_runV (As := []) (rest := []) ⟨hx, hb, hml, hown, hgt⟩ (z_Device_restart l D cI cZ cC cJ cA P s0 hAO M M1 r2 hq) (cwV 0 hgt (gV wd_2_89 wd_2_90 wd_2_91 wd_0_9 wd_2_92) rfl rfl rfl (by decide +kernel) ⟨Nat.le_of_ble_eq_true rfl, Nat.le_of_ble_eq_true rfl⟩) (prV hP hK hD hO hAO hS (va_recv hK hP (ci := 3) (q0 := 50) rfl gX_50)) rfl rfl hl.1 rfl (lv_room (Nat.le_of_ble_eq_true rfl)) dX0_startAgain_4 ⟨Nat.le_of_ble_eq_true rfl, Nat.le_of_ble_eq_true rfl⟩) hS (fun H locs hP hD hS => ?_)
  refine lv_aload_n hx hb dX0_startAgain_7 rfl (lv_at hl 0 rfl) ?_
  refine va_get (D := D) (ci := 0) (v := .ref (P 65)) (C := RX0) (T := TX0) (N := 9) hx hb hgt iwX0 hown hK hP 0 gX_0 rfl 6 (Nat.le_of_ble_eq_true rfl) (hgt _ wd_2_23) (fun _ h9 => h9) rfl dX0_startAgain_8 ?_
  refine lv_iconst (v := 0) hx hb dX0_startAgain_11 (by decide) ?_
  refine pm_put (w := (wX cI cZ cC cJ cA P)) (D := D) (ci := 12) (x := 0) (ty := .int) (C := RX12) (T := TX12) (N := 4) hx hb hgt iwX12 tyX12 tyX12_ok nmX12 hown hK hP hD hS 65 gX_65 rfl 0 (Nat.le_of_ble_eq_true rfl) (hgt _ wd_1_193) (fun _ h9 => h9) rfl (by decide +kernel) rfl rfl (Nat.le_of_ble_eq_true rfl) (sX_65_0 _) dX0_startAgain_12 (fun M3 eM3 H locs hP hD hS => ?_)
  have h := lt_o eM3 h
  exact rt_v (w := (wX cI cZ cC cJ cA P)) (r := r') hx hb hr hlk hP hD hS h dX0_startAgain_15
set_option maxHeartbeats 4000000 in
set_option maxRecDepth 20000 in
theorem z_ChipMap_startAgain (l : Launch) (D : va_G) (cI cZ cC cJ cA : ClassId) (P : Nat → Nat) (s0 : State) (hAO : ∀ q, (aP P 77) q → s0.heap.size ≤ q) (M : Mm)  (M' : Mm) (r' : Int32) (h : q_ChipMap_startAgain M = some (M', r')) : Met l yX0_startAgain wsX0_startAgain ({ frames := 2, cells := 0, slots := 0, locals := 44 }) (va_Pc [.ref (P 0)] (gPre s0 D [(cI, .int), (cZ, .boolean), (cC, .char), (cJ, .long), (cA, .array .int)] (aP P 77) ((wX cI cZ cC cJ cA P) M))) (gQv D (aP P 77) ((wX cI cZ cC cJ cA P) M')) 0 0 (aP P 77) := by
  refine Met.ofW (cc := cX0_startAgain) (maxL := 1) (ret := none) (by decide) rfl ?_
  intro p e s m args below meth c s₁ B hml hv
  obtain ⟨rfl, hP, hK, hD, hO⟩ := hv
  have hx := B.exec
  have hb := B.bytes
  have hr := B.returns
  have hlk := B.notSynchronized
  have hgt := fun w (h : w ∈ GT) => atoms_spec (ws := wsX0_startAgain) B.pre w (List.mem_cons_of_mem _ h)
  have hown : s.vm.findClass RX0 = some m.cls := findClass_of_methodNamed B.named
  have hS : va_S (aP P 77) s.heap s.heap [] := va_S.rf
  have hl := lv_entry ([.ref (P 0)]) (n := 1) (Nat.le_of_ble_eq_true rfl)
  rw [lg_entry_eq]
  generalize (lg_sl ([.ref (P 0)]) ++ List.replicate (1 - (lg_sl ([.ref (P 0)])).length) Slot.unset).toArray = ls at hl ⊢
  have hl : lv_has ls 1 [(0, .ref (P 0))] := hl
  exact b_ChipMap_startAgain_0 hx hb hml hr hlk hgt hown hK hO hAO M s.heap [] ls hl hP hD hS h
def q_ChipMap_compile  (M : Mm)  : Rs := cal (q_Reader_readAll M) fun M1 r2 => cal (q_Judge_decide M1 r2 (M1.1 21 3)) fun M3 r4 => if (M3.1 23 1) = 0 then (cal (q_Layout_follow M3) fun M5 r6 => lt' (stI M5 69 (upd (M5.1 69) 0 0)) fun M7 => cal (q_ChipMap_startAgain M7) fun M8 r9 => some (M8, (M8.1 24 0))) else (none)
set_option maxHeartbeats 4000000 in
set_option maxRecDepth 20000 in
theorem b_ChipMap_compile_0 {p : Program} {l : Launch} {e : Env} {s s0 : State} {m : MethodId} {args : Array Value} {below : List Frame} {meth : Method} {c : Code} {D : va_G} {cI cZ cC cJ cA : ClassId} {P : Nat → Nat} {M' : Mm} {r' : Int32}  {qS : Nat → Nat} (hx : p.tables.exec = Jvm.exec) (hb : c.code = cX0_compile) (hml : c.maxLocals = 2) (hr : meth.sig.returnType = (some .int)) (hlk : meth.locks = false) (hgt : ∀ w ∈ GT, w.before args s = true) (hown : s.vm.findClass RX0 = some m.cls) (hK : va_K D vwCl [(cI, .int), (cZ, .boolean), (cC, .char), (cJ, .long), (cA, .array .int)] s) (hO : Old s0 s) (hAO : ∀ q, (aP P 77) q → s0.heap.size ≤ q) (hE : xE s0 qS)  : ∀ (M : Mm)  (H : Heap) (locs : List Loc) (ls : Array Slot), lv_has ls 2 [(0, .ref (P 0))] → va_P D vwCl ((wX cI cZ cC cJ cA P) M) H → va_D (aP P 77) ((wX cI cZ cC cJ cA P) M) → va_S (aP P 77) s.heap H locs → q_ChipMap_compile M = some (M', r') → W p l e ({ frames := 9, cells := 0, slots := 0, locals := 199 }) s m args below meth c H locs 0 0 (MQ below (gQi D (aP P 77) ((wX cI cZ cC cJ cA P) M') r') args s 0 0 (aP P 77)) (F0 m 0 ls []) := by
  intro M H locs ls hl hP hD hS h
  unfold q_ChipMap_compile at h
  refine lv_aload_n hx hb dX0_compile_0 rfl (lv_at hl 0 rfl) ?_
  refine va_get (D := D) (ci := 0) (v := .ref (P 21)) (C := RX0) (T := TX0) (N := 9) hx hb hgt iwX0 hown hK hP 0 gX_0 rfl 1 (Nat.le_of_ble_eq_true rfl) (hgt _ wd_2_18) (fun _ h9 => h9) rfl dX0_compile_1 ?_
  obtain ⟨M1, r2, hq, h⟩ := cal_o h
  refine cx_i (va_runV (As := []) (rest := []) ⟨hx, hb, hml, hown, hgt⟩ (z_Reader_readAll l D cI cZ cC cJ cA P s0 hAO qS hE M M1 r2 hq) (cwV 0 hgt (gV wd_3_138 wd_3_139 wd_3_140 wd_0_4 wd_3_141) rfl rfl rfl (by decide +kernel) ⟨Nat.le_of_ble_eq_true rfl, Nat.le_of_ble_eq_true rfl⟩) (prV hP hK hD hO hAO hS (va_recv hK hP (ci := 10) (q0 := 21) rfl gX_21)) rfl rfl hl.1 rfl (lv_room (Nat.le_of_ble_eq_true rfl)) dX0_compile_4 ⟨Nat.le_of_ble_eq_true rfl, Nat.le_of_ble_eq_true rfl⟩) hS (fun H locs hP hD hS => ?_)
  refine lv_istore_n hx hb dX0_compile_7 rfl hl (Nat.le_of_ble_eq_true rfl) (lv' := [(1, .int r2), (0, .ref (P 0))]) rfl (fun ls hl => ?_)
  refine lv_aload_n hx hb dX0_compile_8 rfl (lv_at hl 1 rfl) ?_
  refine va_get (D := D) (ci := 0) (v := .ref (P 23)) (C := RX0) (T := TX0) (N := 9) hx hb hgt iwX0 hown hK hP 0 gX_0 rfl 2 (Nat.le_of_ble_eq_true rfl) (hgt _ wd_2_19) (fun _ h9 => h9) rfl dX0_compile_9 ?_
  refine lv_iload_n hx hb dX0_compile_12 rfl (lv_at hl 0 rfl) ?_
  refine lv_aload_n hx hb dX0_compile_13 rfl (lv_at hl 1 rfl) ?_
  refine va_get (D := D) (ci := 0) (v := .ref (P 21)) (C := RX0) (T := TX0) (N := 9) hx hb hgt iwX0 hown hK hP 0 gX_0 rfl 1 (Nat.le_of_ble_eq_true rfl) (hgt _ wd_2_18) (fun _ h9 => h9) rfl dX0_compile_14 ?_
  refine va_get (D := D) (ci := 10) (v := .int (M1.1 21 3)) (C := RX10) (T := TX10) (N := 4) hx hb hgt iwX10 hown hK hP 21 gX_21 rfl 3 (Nat.le_of_ble_eq_true rfl) (hgt _ wd_0_190) (fun _ h9 => h9) rfl dX0_compile_17 ?_
  obtain ⟨M3, r4, hq, h⟩ := cal_o h
  refine cx_v (va_runV (As := [.int r2, .int (M1.1 21 3)]) (rest := []) ⟨hx, hb, hml, hown, hgt⟩ (z_Judge_decide l D cI cZ cC cJ cA P s0 hAO M1 r2 (M1.1 21 3) M3 r4 hq) (cwV 2 hgt (gV wd_4_34 wd_4_35 wd_4_36 wd_0_5 wd_4_37) rfl rfl rfl (by decide +kernel) ⟨Nat.le_of_ble_eq_true rfl, Nat.le_of_ble_eq_true rfl⟩) (prV hP hK hD hO hAO hS (va_recv hK hP (ci := 5) (q0 := 23) rfl gX_23)) rfl rfl hl.1 rfl (lv_room (Nat.le_of_ble_eq_true rfl)) dX0_compile_20 ⟨Nat.le_of_ble_eq_true rfl, Nat.le_of_ble_eq_true rfl⟩) hS (fun H locs hP hD hS => ?_)
  refine lv_aload_n hx hb dX0_compile_23 rfl (lv_at hl 1 rfl) ?_
  refine va_get (D := D) (ci := 0) (v := .ref (P 23)) (C := RX0) (T := TX0) (N := 9) hx hb hgt iwX0 hown hK hP 0 gX_0 rfl 2 (Nat.le_of_ble_eq_true rfl) (hgt _ wd_2_19) (fun _ h9 => h9) rfl dX0_compile_24 ?_
  refine va_get (D := D) (ci := 5) (v := .int (M3.1 23 1)) (C := RX5) (T := TX5) (N := 3) hx hb hgt iwX5 hown hK hP 23 gX_23 rfl 1 (Nat.le_of_ble_eq_true rfl) (hgt _ wd_0_210) (fun _ h9 => h9) rfl dX0_compile_27 ?_
  refine lv_if_eq hx hb dX0_compile_30 (tgt := 41) rfl (fun hc => ?_) (fun hc => ?_)
  · have h := br_T hc h
    refine lv_aload_n hx hb dX0_compile_41 rfl (lv_at hl 1 rfl) ?_
    refine va_get (D := D) (ci := 0) (v := .ref (P 24)) (C := RX0) (T := TX0) (N := 9) hx hb hgt iwX0 hown hK hP 0 gX_0 rfl 3 (Nat.le_of_ble_eq_true rfl) (hgt _ wd_2_20) (fun _ h9 => h9) rfl dX0_compile_42 ?_
    refine lv_aload_n hx hb dX0_compile_45 rfl (lv_at hl 1 rfl) ?_
    refine va_get (D := D) (ci := 0) (v := .ref (P 1)) (C := RX0) (T := TX0) (N := 9) hx hb hgt iwX0 hown hK hP 0 gX_0 rfl 0 (Nat.le_of_ble_eq_true rfl) (hgt _ wd_2_17) (fun _ h9 => h9) rfl dX0_compile_46 ?_
    obtain ⟨M5, r6, hq, h⟩ := cal_o h
    refine cx_v (va_runV (As := [.ref (P 1)]) (rest := []) ⟨hx, hb, hml, hown, hgt⟩ (z_Layout_follow l D cI cZ cC cJ cA P s0 hAO M3 M5 r6 hq) (cwV 1 hgt (gV wd_4_141 wd_4_142 wd_4_143 wd_0_6 wd_4_144) rfl rfl rfl (by decide +kernel) ⟨Nat.le_of_ble_eq_true rfl, Nat.le_of_ble_eq_true rfl⟩) (prV hP hK hD hO hAO hS (va_recv hK hP (ci := 6) (q0 := 24) rfl gX_24)) rfl rfl hl.1 rfl (lv_room (Nat.le_of_ble_eq_true rfl)) dX0_compile_49 ⟨Nat.le_of_ble_eq_true rfl, Nat.le_of_ble_eq_true rfl⟩) hS (fun H locs hP hD hS => ?_)
    refine lv_aload_n hx hb dX0_compile_52 rfl (lv_at hl 1 rfl) ?_
    refine va_get (D := D) (ci := 0) (v := .ref (P 69)) (C := RX0) (T := TX0) (N := 9) hx hb hgt iwX0 hown hK hP 0 gX_0 rfl 7 (Nat.le_of_ble_eq_true rfl) (hgt _ wd_2_24) (fun _ h9 => h9) rfl dX0_compile_53 ?_
    refine lv_iconst (v := 0) hx hb dX0_compile_56 (by decide) ?_
    refine pm_put (w := (wX cI cZ cC cJ cA P)) (D := D) (ci := 12) (x := 0) (ty := .int) (C := RX12) (T := TX12) (N := 4) hx hb hgt iwX12 tyX12 tyX12_ok nmX12 hown hK hP hD hS 69 gX_69 rfl 0 (Nat.le_of_ble_eq_true rfl) (hgt _ wd_1_193) (fun _ h9 => h9) rfl (by decide +kernel) rfl rfl (Nat.le_of_ble_eq_true rfl) (sX_69_0 _) dX0_compile_57 (fun M7 eM7 H locs hP hD hS => ?_)
    have h := lt_o eM7 h
    refine lv_aload_n hx hb dX0_compile_60 rfl (lv_at hl 1 rfl) ?_
    obtain ⟨M8, r9, hq, h⟩ := cal_o h
    refine cx_v (va_runV (As := []) (rest := []) ⟨hx, hb, hml, hown, hgt⟩ (z_ChipMap_startAgain l D cI cZ cC cJ cA P s0 hAO M7 M8 r9 hq) (cwV 0 hgt (gV wd_2_85 wd_2_87 sl__ChipMap____ChipMap___startAgain_____V_____ChipMap___startAgain_____V__ wd_0_1 wd_2_88) rfl rfl rfl (by decide +kernel) ⟨Nat.le_of_ble_eq_true rfl, Nat.le_of_ble_eq_true rfl⟩) (prV hP hK hD hO hAO hS (va_recv hK hP (ci := 0) (q0 := 0) rfl gX_0)) rfl rfl hl.1 rfl (lv_room (Nat.le_of_ble_eq_true rfl)) dX0_compile_61 ⟨Nat.le_of_ble_eq_true rfl, Nat.le_of_ble_eq_true rfl⟩) hS (fun H locs hP hD hS => ?_)
    refine lv_aload_n hx hb dX0_compile_64 rfl (lv_at hl 1 rfl) ?_
    refine va_get (D := D) (ci := 0) (v := .ref (P 24)) (C := RX0) (T := TX0) (N := 9) hx hb hgt iwX0 hown hK hP 0 gX_0 rfl 3 (Nat.le_of_ble_eq_true rfl) (hgt _ wd_2_20) (fun _ h9 => h9) rfl dX0_compile_65 ?_
    refine va_get (D := D) (ci := 6) (v := .int (M8.1 24 0)) (C := RX6) (T := TX6) (N := 13) hx hb hgt iwX6 hown hK hP 24 gX_24 rfl 0 (Nat.le_of_ble_eq_true rfl) (hgt _ wd_1_6) (fun _ h9 => h9) rfl dX0_compile_68 ?_
    exact rt_i (w := (wX cI cZ cC cJ cA P)) hx hb hr hlk hP hD hS h dX0_compile_71
  · have h := br_F hc h
    exact (rs_n h).elim
set_option maxHeartbeats 4000000 in
set_option maxRecDepth 20000 in
theorem z_ChipMap_compile (l : Launch) (D : va_G) (cI cZ cC cJ cA : ClassId) (P : Nat → Nat) (s0 : State) (hAO : ∀ q, (aP P 77) q → s0.heap.size ≤ q) (qS : Nat → Nat) (hE : xE s0 qS) (M : Mm)  (M' : Mm) (r' : Int32) (h : q_ChipMap_compile M = some (M', r')) : Met l yX0_compile wsX0_compile ({ frames := 9, cells := 0, slots := 0, locals := 199 }) (va_Pc [.ref (P 0)] (gPre s0 D [(cI, .int), (cZ, .boolean), (cC, .char), (cJ, .long), (cA, .array .int)] (aP P 77) ((wX cI cZ cC cJ cA P) M))) (gQi D (aP P 77) ((wX cI cZ cC cJ cA P) M') r') 0 0 (aP P 77) := by
  refine Met.ofW (cc := cX0_compile) (maxL := 2) (ret := (some .int)) (by decide) rfl ?_
  intro p e s m args below meth c s₁ B hml hv
  obtain ⟨rfl, hP, hK, hD, hO⟩ := hv
  have hx := B.exec
  have hb := B.bytes
  have hr := B.returns
  have hlk := B.notSynchronized
  have hgt := fun w (h : w ∈ GT) => atoms_spec (ws := wsX0_compile) B.pre w (List.mem_cons_of_mem _ h)
  have hown : s.vm.findClass RX0 = some m.cls := findClass_of_methodNamed B.named
  have hS : va_S (aP P 77) s.heap s.heap [] := va_S.rf
  have hl := lv_entry ([.ref (P 0)]) (n := 2) (Nat.le_of_ble_eq_true rfl)
  rw [lg_entry_eq]
  generalize (lg_sl ([.ref (P 0)]) ++ List.replicate (2 - (lg_sl ([.ref (P 0)])).length) Slot.unset).toArray = ls at hl ⊢
  have hl : lv_has ls 2 [(0, .ref (P 0))] := hl
  exact b_ChipMap_compile_0 hx hb hml hr hlk hgt hown hK hO hAO hE M s.heap [] ls hl hP hD hS h
def q_ChipMap_fault  (M : Mm) (a1 : Int32) : Rs := if a1 = 0 then (some (M, (M.1 23 1))) else if a1 = 1 then (some (M, (M.1 23 2))) else (some (M, (-1)))
set_option maxHeartbeats 4000000 in
set_option maxRecDepth 20000 in
theorem b_ChipMap_fault_0 {p : Program} {l : Launch} {e : Env} {s s0 : State} {m : MethodId} {args : Array Value} {below : List Frame} {meth : Method} {c : Code} {D : va_G} {cI cZ cC cJ cA : ClassId} {P : Nat → Nat} {M' : Mm} {r' : Int32}  (hx : p.tables.exec = Jvm.exec) (hb : c.code = cX0_fault) (hml : c.maxLocals = 2) (hr : meth.sig.returnType = (some .int)) (hlk : meth.locks = false) (hgt : ∀ w ∈ GT, w.before args s = true) (hown : s.vm.findClass RX0 = some m.cls) (hK : va_K D vwCl [(cI, .int), (cZ, .boolean), (cC, .char), (cJ, .long), (cA, .array .int)] s) (hO : Old s0 s) (hAO : ∀ q, (aP P 77) q → s0.heap.size ≤ q)  : ∀ (M : Mm) (a1 : Int32) (H : Heap) (locs : List Loc) (ls : Array Slot), lv_has ls 2 [(0, .ref (P 0)), (1, .int a1)] → va_P D vwCl ((wX cI cZ cC cJ cA P) M) H → va_D (aP P 77) ((wX cI cZ cC cJ cA P) M) → va_S (aP P 77) s.heap H locs → q_ChipMap_fault M a1 = some (M', r') → W p l e ({ frames := 0, cells := 0, slots := 0, locals := 0 }) s m args below meth c H locs 0 0 (MQ below (gQi D (aP P 77) ((wX cI cZ cC cJ cA P) M') r') args s 0 0 (aP P 77)) (F0 m 0 ls []) := by
  intro M a1 H locs ls hl hP hD hS h
  unfold q_ChipMap_fault at h
  refine lv_iload_n hx hb dX0_fault_0 rfl (lv_at hl 1 rfl) ?_
  by_cases k_1_0 : a1 = 0
  · have h := br_T k_1_0 h
    refine lv_lookup hx hb dX0_fault_1 (off := 27) (tgt := 28) (by decide) (by rw [k_1_0]; decide) (by decide) ?_
    refine lv_aload_n hx hb dX0_fault_28 rfl (lv_at hl 0 rfl) ?_
    refine va_get (D := D) (ci := 0) (v := .ref (P 23)) (C := RX0) (T := TX0) (N := 9) hx hb hgt iwX0 hown hK hP 0 gX_0 rfl 2 (Nat.le_of_ble_eq_true rfl) (hgt _ wd_2_19) (fun _ h9 => h9) rfl dX0_fault_29 ?_
    refine va_get (D := D) (ci := 5) (v := .int (M.1 23 1)) (C := RX5) (T := TX5) (N := 3) hx hb hgt iwX5 hown hK hP 23 gX_23 rfl 1 (Nat.le_of_ble_eq_true rfl) (hgt _ wd_0_210) (fun _ h9 => h9) rfl dX0_fault_32 ?_
    exact rt_i (w := (wX cI cZ cC cJ cA P)) hx hb hr hlk hP hD hS h dX0_fault_35
  have h := br_F k_1_0 h
  by_cases k_1_1 : a1 = 1
  · have h := br_T k_1_1 h
    refine lv_lookup hx hb dX0_fault_1 (off := 35) (tgt := 36) (by decide) (by rw [k_1_1]; decide) (by decide) ?_
    refine lv_aload_n hx hb dX0_fault_36 rfl (lv_at hl 0 rfl) ?_
    refine va_get (D := D) (ci := 0) (v := .ref (P 23)) (C := RX0) (T := TX0) (N := 9) hx hb hgt iwX0 hown hK hP 0 gX_0 rfl 2 (Nat.le_of_ble_eq_true rfl) (hgt _ wd_2_19) (fun _ h9 => h9) rfl dX0_fault_37 ?_
    refine va_get (D := D) (ci := 5) (v := .int (M.1 23 2)) (C := RX5) (T := TX5) (N := 3) hx hb hgt iwX5 hown hK hP 23 gX_23 rfl 2 (Nat.le_of_ble_eq_true rfl) (hgt _ wd_0_212) (fun _ h9 => h9) rfl dX0_fault_40 ?_
    exact rt_i (w := (wX cI cZ cC cJ cA P)) hx hb hr hlk hP hD hS h dX0_fault_43
  have h := br_F k_1_1 h
  refine lv_lookup hx hb dX0_fault_1 (off := 43) (tgt := 44) (by decide) (by rw [lookupswitch.offset_cons, if_neg (tne (by decide) k_1_0), lookupswitch.offset_cons, if_neg (tne (by decide) k_1_1), lookupswitch.offset_nil]) (by decide) ?_
  refine lv_iconst (v := (-1)) hx hb dX0_fault_44 (by decide) ?_
  exact rt_i (w := (wX cI cZ cC cJ cA P)) hx hb hr hlk hP hD hS h dX0_fault_45
set_option maxHeartbeats 4000000 in
set_option maxRecDepth 20000 in
theorem z_ChipMap_fault (l : Launch) (D : va_G) (cI cZ cC cJ cA : ClassId) (P : Nat → Nat) (s0 : State) (hAO : ∀ q, (aP P 77) q → s0.heap.size ≤ q) (M : Mm) (a1 : Int32) (M' : Mm) (r' : Int32) (h : q_ChipMap_fault M a1 = some (M', r')) : Met l yX0_fault wsX0_fault ({ frames := 0, cells := 0, slots := 0, locals := 0 }) (va_Pc [.ref (P 0), .int a1] (gPre s0 D [(cI, .int), (cZ, .boolean), (cC, .char), (cJ, .long), (cA, .array .int)] (aP P 77) ((wX cI cZ cC cJ cA P) M))) (gQi D (aP P 77) ((wX cI cZ cC cJ cA P) M') r') 0 0 (aP P 77) := by
  refine Met.ofW (cc := cX0_fault) (maxL := 2) (ret := (some .int)) (by decide) rfl ?_
  intro p e s m args below meth c s₁ B hml hv
  obtain ⟨rfl, hP, hK, hD, hO⟩ := hv
  have hx := B.exec
  have hb := B.bytes
  have hr := B.returns
  have hlk := B.notSynchronized
  have hgt := fun w (h : w ∈ GT) => atoms_spec (ws := wsX0_fault) B.pre w (List.mem_cons_of_mem _ h)
  have hown : s.vm.findClass RX0 = some m.cls := findClass_of_methodNamed B.named
  have hS : va_S (aP P 77) s.heap s.heap [] := va_S.rf
  have hl := lv_entry ([.ref (P 0), .int a1]) (n := 2) (Nat.le_of_ble_eq_true rfl)
  rw [lg_entry_eq]
  generalize (lg_sl ([.ref (P 0), .int a1]) ++ List.replicate (2 - (lg_sl ([.ref (P 0), .int a1])).length) Slot.unset).toArray = ls at hl ⊢
  have hl : lv_has ls 2 [(0, .ref (P 0)), (1, .int a1)] := hl
  exact b_ChipMap_fault_0 hx hb hml hr hlk hgt hown hK hO hAO M a1 s.heap [] ls hl hP hD hS h
def q_Layout_has  (M : Mm) (a1 : Int32) : Rs := if a1 < 0 then (some (M, 0)) else (if 26 ≤ a1 then (some (M, 0)) else (ix a1 26 <| if (M.1 38 (a1 : Int32).toNatClampNeg) = (-1) then (some (M, 0)) else (some (M, 1))))
set_option maxHeartbeats 4000000 in
set_option maxRecDepth 20000 in
theorem b_Layout_has_0 {p : Program} {l : Launch} {e : Env} {s s0 : State} {m : MethodId} {args : Array Value} {below : List Frame} {meth : Method} {c : Code} {D : va_G} {cI cZ cC cJ cA : ClassId} {P : Nat → Nat} {M' : Mm} {r' : Int32}  (hx : p.tables.exec = Jvm.exec) (hb : c.code = cX6_has) (hml : c.maxLocals = 2) (hr : meth.sig.returnType = (some .boolean)) (hlk : meth.locks = false) (hgt : ∀ w ∈ GT, w.before args s = true) (hown : s.vm.findClass RX6 = some m.cls) (hK : va_K D vwCl [(cI, .int), (cZ, .boolean), (cC, .char), (cJ, .long), (cA, .array .int)] s) (hO : Old s0 s) (hAO : ∀ q, (aP P 77) q → s0.heap.size ≤ q)  : ∀ (M : Mm) (a1 : Int32) (H : Heap) (locs : List Loc) (ls : Array Slot), lv_has ls 2 [(0, .ref (P 24)), (1, .int a1)] → va_P D vwCl ((wX cI cZ cC cJ cA P) M) H → va_D (aP P 77) ((wX cI cZ cC cJ cA P) M) → va_S (aP P 77) s.heap H locs → q_Layout_has M a1 = some (M', r') → W p l e ({ frames := 0, cells := 0, slots := 0, locals := 0 }) s m args below meth c H locs 0 0 (MQ below (gQi D (aP P 77) ((wX cI cZ cC cJ cA P) M') r') args s 0 0 (aP P 77)) (F0 m 0 ls []) := by
  intro M a1 H locs ls hl hP hD hS h
  unfold q_Layout_has at h
  refine lv_iload_n hx hb dX6_has_0 rfl (lv_at hl 1 rfl) ?_
  refine lv_if_lt hx hb dX6_has_1 (tgt := 24) rfl (fun hc => ?_) (fun hc => ?_)
  · have h := br_T hc h
    refine lv_iconst (v := 0) hx hb dX6_has_24 (by decide) ?_
    exact rt_z (w := (wX cI cZ cC cJ cA P)) hx hb hr hlk rfl hP hD hS h dX6_has_25
  · have h := br_F hc h
    refine lv_iload_n hx hb dX6_has_4 rfl (lv_at hl 1 rfl) ?_
    refine lv_bipush (v := 26) hx hb dX6_has_5 (by decide) ?_
    refine lv_icmp_ge hx hb dX6_has_7 (tgt := 24) rfl (fun hc => ?_) (fun hc => ?_)
    · have h := br_T hc h
      refine lv_iconst (v := 0) hx hb dX6_has_24 (by decide) ?_
      exact rt_z (w := (wX cI cZ cC cJ cA P)) hx hb hr hlk rfl hP hD hS h dX6_has_25
    · have h := br_F hc h
      refine lv_aload_n hx hb dX6_has_10 rfl (lv_at hl 0 rfl) ?_
      refine va_get (D := D) (ci := 6) (v := .ref (P 38)) (C := RX6) (T := TX6) (N := 13) hx hb hgt iwX6 hown hK hP 24 gX_24 rfl 7 (Nat.le_of_ble_eq_true rfl) (hgt _ wd_1_25) (fun _ h9 => h9) rfl dX6_has_11 ?_
      refine lv_iload_n hx hb dX6_has_14 rfl (lv_at hl 1 rfl) ?_
      refine va_iald hx hb hK hP 38 0 gX_38 rfl (ix_l h) dX6_has_15 ?_
      have h := ix_r h
      refine lv_iconst (v := (-1)) hx hb dX6_has_16 (by decide) ?_
      refine lv_icmp_eq hx hb dX6_has_17 (tgt := 24) rfl (fun hc => ?_) (fun hc => ?_)
      · have h := br_T hc h
        refine lv_iconst (v := 0) hx hb dX6_has_24 (by decide) ?_
        exact rt_z (w := (wX cI cZ cC cJ cA P)) hx hb hr hlk rfl hP hD hS h dX6_has_25
      · have h := br_F hc h
        refine lv_iconst (v := 1) hx hb dX6_has_20 (by decide) ?_
        refine lv_goto hx hb dX6_has_21 (tgt := 25) rfl ?_
        exact rt_z (w := (wX cI cZ cC cJ cA P)) hx hb hr hlk rfl hP hD hS h dX6_has_25
set_option maxHeartbeats 4000000 in
set_option maxRecDepth 20000 in
theorem z_Layout_has (l : Launch) (D : va_G) (cI cZ cC cJ cA : ClassId) (P : Nat → Nat) (s0 : State) (hAO : ∀ q, (aP P 77) q → s0.heap.size ≤ q) (M : Mm) (a1 : Int32) (M' : Mm) (r' : Int32) (h : q_Layout_has M a1 = some (M', r')) : Met l yX6_has wsX6_has ({ frames := 0, cells := 0, slots := 0, locals := 0 }) (va_Pc [.ref (P 24), .int a1] (gPre s0 D [(cI, .int), (cZ, .boolean), (cC, .char), (cJ, .long), (cA, .array .int)] (aP P 77) ((wX cI cZ cC cJ cA P) M))) (gQi D (aP P 77) ((wX cI cZ cC cJ cA P) M') r') 0 0 (aP P 77) := by
  refine Met.ofW (cc := cX6_has) (maxL := 2) (ret := (some .boolean)) (by decide) rfl ?_
  intro p e s m args below meth c s₁ B hml hv
  obtain ⟨rfl, hP, hK, hD, hO⟩ := hv
  have hx := B.exec
  have hb := B.bytes
  have hr := B.returns
  have hlk := B.notSynchronized
  have hgt := fun w (h : w ∈ GT) => atoms_spec (ws := wsX6_has) B.pre w (List.mem_cons_of_mem _ h)
  have hown : s.vm.findClass RX6 = some m.cls := findClass_of_methodNamed B.named
  have hS : va_S (aP P 77) s.heap s.heap [] := va_S.rf
  have hl := lv_entry ([.ref (P 24), .int a1]) (n := 2) (Nat.le_of_ble_eq_true rfl)
  rw [lg_entry_eq]
  generalize (lg_sl ([.ref (P 24), .int a1]) ++ List.replicate (2 - (lg_sl ([.ref (P 24), .int a1])).length) Slot.unset).toArray = ls at hl ⊢
  have hl : lv_has ls 2 [(0, .ref (P 24)), (1, .int a1)] := hl
  exact b_Layout_has_0 hx hb hml hr hlk hgt hown hK hO hAO M a1 s.heap [] ls hl hP hD hS h
def q_Layout_bitsOf  (M : Mm) (a1 : Int32) (a2 : Int32) : Rs := ix a1 26 <| ix a1 26 <| some (M, (((a2 &&& (M.1 42 (a1 : Int32).toNatClampNeg)) : Int32) >>> ((M.1 40 (a1 : Int32).toNatClampNeg) &&& 31)))
set_option maxHeartbeats 4000000 in
set_option maxRecDepth 20000 in
theorem b_Layout_bitsOf_0 {p : Program} {l : Launch} {e : Env} {s s0 : State} {m : MethodId} {args : Array Value} {below : List Frame} {meth : Method} {c : Code} {D : va_G} {cI cZ cC cJ cA : ClassId} {P : Nat → Nat} {M' : Mm} {r' : Int32}  (hx : p.tables.exec = Jvm.exec) (hb : c.code = cX6_bitsOf) (hml : c.maxLocals = 3) (hr : meth.sig.returnType = (some .int)) (hlk : meth.locks = false) (hgt : ∀ w ∈ GT, w.before args s = true) (hown : s.vm.findClass RX6 = some m.cls) (hK : va_K D vwCl [(cI, .int), (cZ, .boolean), (cC, .char), (cJ, .long), (cA, .array .int)] s) (hO : Old s0 s) (hAO : ∀ q, (aP P 77) q → s0.heap.size ≤ q)  : ∀ (M : Mm) (a1 : Int32) (a2 : Int32) (H : Heap) (locs : List Loc) (ls : Array Slot), lv_has ls 3 [(0, .ref (P 24)), (1, .int a1), (2, .int a2)] → va_P D vwCl ((wX cI cZ cC cJ cA P) M) H → va_D (aP P 77) ((wX cI cZ cC cJ cA P) M) → va_S (aP P 77) s.heap H locs → q_Layout_bitsOf M a1 a2 = some (M', r') → W p l e ({ frames := 0, cells := 0, slots := 0, locals := 0 }) s m args below meth c H locs 0 0 (MQ below (gQi D (aP P 77) ((wX cI cZ cC cJ cA P) M') r') args s 0 0 (aP P 77)) (F0 m 0 ls []) := by
  intro M a1 a2 H locs ls hl hP hD hS h
  unfold q_Layout_bitsOf at h
  refine lv_iload_n hx hb dX6_bitsOf_0 rfl (lv_at hl 2 rfl) ?_
  refine lv_aload_n hx hb dX6_bitsOf_1 rfl (lv_at hl 0 rfl) ?_
  refine va_get (D := D) (ci := 6) (v := .ref (P 42)) (C := RX6) (T := TX6) (N := 13) hx hb hgt iwX6 hown hK hP 24 gX_24 rfl 11 (Nat.le_of_ble_eq_true rfl) (hgt _ wd_1_41) (fun _ h9 => h9) rfl dX6_bitsOf_2 ?_
  refine lv_iload_n hx hb dX6_bitsOf_5 rfl (lv_at hl 1 rfl) ?_
  refine va_iald hx hb hK hP 42 0 gX_42 rfl (ix_l h) dX6_bitsOf_6 ?_
  have h := ix_r h
  refine lv_iand hx hb dX6_bitsOf_7 ?_
  refine lv_aload_n hx hb dX6_bitsOf_8 rfl (lv_at hl 0 rfl) ?_
  refine va_get (D := D) (ci := 6) (v := .ref (P 40)) (C := RX6) (T := TX6) (N := 13) hx hb hgt iwX6 hown hK hP 24 gX_24 rfl 9 (Nat.le_of_ble_eq_true rfl) (hgt _ wd_1_34) (fun _ h9 => h9) rfl dX6_bitsOf_9 ?_
  refine lv_iload_n hx hb dX6_bitsOf_12 rfl (lv_at hl 1 rfl) ?_
  refine va_iald hx hb hK hP 40 0 gX_40 rfl (ix_l h) dX6_bitsOf_13 ?_
  have h := ix_r h
  refine lv_ishr hx hb dX6_bitsOf_14 ?_
  exact rt_i (w := (wX cI cZ cC cJ cA P)) hx hb hr hlk hP hD hS h dX6_bitsOf_15
set_option maxHeartbeats 4000000 in
set_option maxRecDepth 20000 in
theorem z_Layout_bitsOf (l : Launch) (D : va_G) (cI cZ cC cJ cA : ClassId) (P : Nat → Nat) (s0 : State) (hAO : ∀ q, (aP P 77) q → s0.heap.size ≤ q) (M : Mm) (a1 : Int32) (a2 : Int32) (M' : Mm) (r' : Int32) (h : q_Layout_bitsOf M a1 a2 = some (M', r')) : Met l yX6_bitsOf wsX6_bitsOf ({ frames := 0, cells := 0, slots := 0, locals := 0 }) (va_Pc [.ref (P 24), .int a1, .int a2] (gPre s0 D [(cI, .int), (cZ, .boolean), (cC, .char), (cJ, .long), (cA, .array .int)] (aP P 77) ((wX cI cZ cC cJ cA P) M))) (gQi D (aP P 77) ((wX cI cZ cC cJ cA P) M') r') 0 0 (aP P 77) := by
  refine Met.ofW (cc := cX6_bitsOf) (maxL := 3) (ret := (some .int)) (by decide) rfl ?_
  intro p e s m args below meth c s₁ B hml hv
  obtain ⟨rfl, hP, hK, hD, hO⟩ := hv
  have hx := B.exec
  have hb := B.bytes
  have hr := B.returns
  have hlk := B.notSynchronized
  have hgt := fun w (h : w ∈ GT) => atoms_spec (ws := wsX6_bitsOf) B.pre w (List.mem_cons_of_mem _ h)
  have hown : s.vm.findClass RX6 = some m.cls := findClass_of_methodNamed B.named
  have hS : va_S (aP P 77) s.heap s.heap [] := va_S.rf
  have hl := lv_entry ([.ref (P 24), .int a1, .int a2]) (n := 3) (Nat.le_of_ble_eq_true rfl)
  rw [lg_entry_eq]
  generalize (lg_sl ([.ref (P 24), .int a1, .int a2]) ++ List.replicate (3 - (lg_sl ([.ref (P 24), .int a1, .int a2])).length) Slot.unset).toArray = ls at hl ⊢
  have hl : lv_has ls 3 [(0, .ref (P 24)), (1, .int a1), (2, .int a2)] := hl
  exact b_Layout_bitsOf_0 hx hb hml hr hlk hgt hown hK hO hAO M a1 a2 s.heap [] ls hl hP hD hS h
def q_Device_valueOf  (M : Mm) (a1 : Int32) : Rs := ix a1 26 <| lt' (M.1 38 (a1 : Int32).toNatClampNeg) fun x1 => ix x1 16 <| ix x1 16 <| cal (q_Layout_bitsOf M a1 ((M.1 52 (x1 : Int32).toNatClampNeg) ||| (M.1 57 (x1 : Int32).toNatClampNeg))) fun M2 r3 => some (M2, r3)
set_option maxHeartbeats 4000000 in
set_option maxRecDepth 20000 in
theorem b_Device_valueOf_0 {p : Program} {l : Launch} {e : Env} {s s0 : State} {m : MethodId} {args : Array Value} {below : List Frame} {meth : Method} {c : Code} {D : va_G} {cI cZ cC cJ cA : ClassId} {P : Nat → Nat} {M' : Mm} {r' : Int32}  (hx : p.tables.exec = Jvm.exec) (hb : c.code = cX3_valueOf) (hml : c.maxLocals = 3) (hr : meth.sig.returnType = (some .int)) (hlk : meth.locks = false) (hgt : ∀ w ∈ GT, w.before args s = true) (hown : s.vm.findClass RX3 = some m.cls) (hK : va_K D vwCl [(cI, .int), (cZ, .boolean), (cC, .char), (cJ, .long), (cA, .array .int)] s) (hO : Old s0 s) (hAO : ∀ q, (aP P 77) q → s0.heap.size ≤ q)  : ∀ (M : Mm) (a1 : Int32) (H : Heap) (locs : List Loc) (ls : Array Slot), lv_has ls 3 [(0, .ref (P 50)), (1, .int a1)] → va_P D vwCl ((wX cI cZ cC cJ cA P) M) H → va_D (aP P 77) ((wX cI cZ cC cJ cA P) M) → va_S (aP P 77) s.heap H locs → q_Device_valueOf M a1 = some (M', r') → W p l e ({ frames := 1, cells := 0, slots := 0, locals := 22 }) s m args below meth c H locs 0 0 (MQ below (gQi D (aP P 77) ((wX cI cZ cC cJ cA P) M') r') args s 0 0 (aP P 77)) (F0 m 0 ls []) := by
  intro M a1 H locs ls hl hP hD hS h
  unfold q_Device_valueOf at h
  refine lv_aload_n hx hb dX3_valueOf_0 rfl (lv_at hl 0 rfl) ?_
  refine va_get (D := D) (ci := 3) (v := .ref (P 24)) (C := RX3) (T := TX3) (N := 7) hx hb hgt iwX3 hown hK hP 50 gX_50 rfl 0 (Nat.le_of_ble_eq_true rfl) (hgt _ wd_1_126) (fun _ h9 => h9) rfl dX3_valueOf_1 ?_
  refine va_get (D := D) (ci := 6) (v := .ref (P 38)) (C := RX6) (T := TX6) (N := 13) hx hb hgt iwX6 hown hK hP 24 gX_24 rfl 7 (Nat.le_of_ble_eq_true rfl) (hgt _ wd_1_26) (fun _ h9 => h9) rfl dX3_valueOf_4 ?_
  refine lv_iload_n hx hb dX3_valueOf_7 rfl (lv_at hl 1 rfl) ?_
  refine va_iald hx hb hK hP 38 0 gX_38 rfl (ix_l h) dX3_valueOf_8 ?_
  have h := ix_r h
  refine lv_topi (fun x1 ex1 => ?_)
  have h := lt_o ex1 h
  refine lv_istore_n hx hb dX3_valueOf_9 rfl hl (Nat.le_of_ble_eq_true rfl) (lv' := [(2, .int x1), (0, .ref (P 50)), (1, .int a1)]) rfl (fun ls hl => ?_)
  refine lv_aload_n hx hb dX3_valueOf_10 rfl (lv_at hl 1 rfl) ?_
  refine va_get (D := D) (ci := 3) (v := .ref (P 24)) (C := RX3) (T := TX3) (N := 7) hx hb hgt iwX3 hown hK hP 50 gX_50 rfl 0 (Nat.le_of_ble_eq_true rfl) (hgt _ wd_1_126) (fun _ h9 => h9) rfl dX3_valueOf_11 ?_
  refine lv_iload_n hx hb dX3_valueOf_14 rfl (lv_at hl 2 rfl) ?_
  refine lv_aload_n hx hb dX3_valueOf_15 rfl (lv_at hl 1 rfl) ?_
  refine va_get (D := D) (ci := 3) (v := .ref (P 51)) (C := RX3) (T := TX3) (N := 7) hx hb hgt iwX3 hown hK hP 50 gX_50 rfl 1 (Nat.le_of_ble_eq_true rfl) (hgt _ wd_1_127) (fun _ h9 => h9) rfl dX3_valueOf_16 ?_
  refine va_get (D := D) (ci := 8) (v := .ref (P 52)) (C := RX8) (T := TX8) (N := 3) hx hb hgt iwX8 hown hK hP 51 gX_51 rfl 1 (Nat.le_of_ble_eq_true rfl) (hgt _ wd_1_114) (fun _ h9 => h9) rfl dX3_valueOf_19 ?_
  refine lv_iload_n hx hb dX3_valueOf_22 rfl (lv_at hl 0 rfl) ?_
  refine va_iald hx hb hK hP 52 0 gX_52 rfl (ix_l h) dX3_valueOf_23 ?_
  have h := ix_r h
  refine lv_aload_n hx hb dX3_valueOf_24 rfl (lv_at hl 1 rfl) ?_
  refine va_get (D := D) (ci := 3) (v := .ref (P 57)) (C := RX3) (T := TX3) (N := 7) hx hb hgt iwX3 hown hK hP 50 gX_50 rfl 4 (Nat.le_of_ble_eq_true rfl) (hgt _ wd_1_133) (fun _ h9 => h9) rfl dX3_valueOf_25 ?_
  refine lv_iload_n hx hb dX3_valueOf_28 rfl (lv_at hl 0 rfl) ?_
  refine va_iald hx hb hK hP 57 0 gX_57 rfl (ix_l h) dX3_valueOf_29 ?_
  have h := ix_r h
  refine lv_ior hx hb dX3_valueOf_30 ?_
  obtain ⟨M2, r3, hq, h⟩ := cal_o h
  refine cx_i (va_runV (As := [.int a1, .int ((M.1 52 (x1 : Int32).toNatClampNeg) ||| (M.1 57 (x1 : Int32).toNatClampNeg))]) (rest := []) ⟨hx, hb, hml, hown, hgt⟩ (z_Layout_bitsOf l D cI cZ cC cJ cA P s0 hAO M a1 ((M.1 52 (x1 : Int32).toNatClampNeg) ||| (M.1 57 (x1 : Int32).toNatClampNeg)) M2 r3 hq) (cwV 2 hgt (gV wd_2_72 wd_2_73 wd_2_74 wd_0_6 wd_2_75) rfl rfl rfl (by decide +kernel) ⟨Nat.le_of_ble_eq_true rfl, Nat.le_of_ble_eq_true rfl⟩) (prV hP hK hD hO hAO hS (va_recv hK hP (ci := 6) (q0 := 24) rfl gX_24)) rfl rfl hl.1 rfl (lv_room (Nat.le_of_ble_eq_true rfl)) dX3_valueOf_31 ⟨Nat.le_of_ble_eq_true rfl, Nat.le_of_ble_eq_true rfl⟩) hS (fun H locs hP hD hS => ?_)
  exact rt_i (w := (wX cI cZ cC cJ cA P)) hx hb hr hlk hP hD hS h dX3_valueOf_34
set_option maxHeartbeats 4000000 in
set_option maxRecDepth 20000 in
theorem z_Device_valueOf (l : Launch) (D : va_G) (cI cZ cC cJ cA : ClassId) (P : Nat → Nat) (s0 : State) (hAO : ∀ q, (aP P 77) q → s0.heap.size ≤ q) (M : Mm) (a1 : Int32) (M' : Mm) (r' : Int32) (h : q_Device_valueOf M a1 = some (M', r')) : Met l yX3_valueOf wsX3_valueOf ({ frames := 1, cells := 0, slots := 0, locals := 22 }) (va_Pc [.ref (P 50), .int a1] (gPre s0 D [(cI, .int), (cZ, .boolean), (cC, .char), (cJ, .long), (cA, .array .int)] (aP P 77) ((wX cI cZ cC cJ cA P) M))) (gQi D (aP P 77) ((wX cI cZ cC cJ cA P) M') r') 0 0 (aP P 77) := by
  refine Met.ofW (cc := cX3_valueOf) (maxL := 3) (ret := (some .int)) (by decide) rfl ?_
  intro p e s m args below meth c s₁ B hml hv
  obtain ⟨rfl, hP, hK, hD, hO⟩ := hv
  have hx := B.exec
  have hb := B.bytes
  have hr := B.returns
  have hlk := B.notSynchronized
  have hgt := fun w (h : w ∈ GT) => atoms_spec (ws := wsX3_valueOf) B.pre w (List.mem_cons_of_mem _ h)
  have hown : s.vm.findClass RX3 = some m.cls := findClass_of_methodNamed B.named
  have hS : va_S (aP P 77) s.heap s.heap [] := va_S.rf
  have hl := lv_entry ([.ref (P 50), .int a1]) (n := 3) (Nat.le_of_ble_eq_true rfl)
  rw [lg_entry_eq]
  generalize (lg_sl ([.ref (P 50), .int a1]) ++ List.replicate (3 - (lg_sl ([.ref (P 50), .int a1])).length) Slot.unset).toArray = ls at hl ⊢
  have hl : lv_has ls 3 [(0, .ref (P 50)), (1, .int a1)] := hl
  exact b_Device_valueOf_0 hx hb hml hr hlk hgt hown hK hO hAO M a1 s.heap [] ls hl hP hD hS h
def q_ChipMap_field  (M : Mm) (a1 : Int32) (a2 : Int32) : Rs := cal (q_Layout_has M a1) fun M1 r2 => if r2 = 0 then (some (M1, (-1))) else (if a2 = 0 then (ix a1 26 <| some (M1, (M1.1 38 (a1 : Int32).toNatClampNeg))) else if a2 = 1 then (ix a1 26 <| some (M1, (M1.1 40 (a1 : Int32).toNatClampNeg))) else if a2 = 2 then (ix a1 26 <| some (M1, (M1.1 41 (a1 : Int32).toNatClampNeg))) else if a2 = 3 then (cal (q_Device_valueOf M1 a1) fun M3 r4 => some (M3, r4)) else if a2 = 4 then (ix a1 26 <| ix (M1.1 38 (a1 : Int32).toNatClampNeg) 16 <| cal (q_Layout_bitsOf M1 a1 (M1.1 58 ((M1.1 38 (a1 : Int32).toNatClampNeg) : Int32).toNatClampNeg)) fun M3 r4 => some (M3, r4)) else (some (M1, (-1))))
set_option maxHeartbeats 4000000 in
set_option maxRecDepth 20000 in
theorem b_ChipMap_field_0 {p : Program} {l : Launch} {e : Env} {s s0 : State} {m : MethodId} {args : Array Value} {below : List Frame} {meth : Method} {c : Code} {D : va_G} {cI cZ cC cJ cA : ClassId} {P : Nat → Nat} {M' : Mm} {r' : Int32}  (hx : p.tables.exec = Jvm.exec) (hb : c.code = cX0_field) (hml : c.maxLocals = 3) (hr : meth.sig.returnType = (some .int)) (hlk : meth.locks = false) (hgt : ∀ w ∈ GT, w.before args s = true) (hown : s.vm.findClass RX0 = some m.cls) (hK : va_K D vwCl [(cI, .int), (cZ, .boolean), (cC, .char), (cJ, .long), (cA, .array .int)] s) (hO : Old s0 s) (hAO : ∀ q, (aP P 77) q → s0.heap.size ≤ q)  : ∀ (M : Mm) (a1 : Int32) (a2 : Int32) (H : Heap) (locs : List Loc) (ls : Array Slot), lv_has ls 3 [(0, .ref (P 0)), (1, .int a1), (2, .int a2)] → va_P D vwCl ((wX cI cZ cC cJ cA P) M) H → va_D (aP P 77) ((wX cI cZ cC cJ cA P) M) → va_S (aP P 77) s.heap H locs → q_ChipMap_field M a1 a2 = some (M', r') → W p l e ({ frames := 2, cells := 0, slots := 0, locals := 44 }) s m args below meth c H locs 0 0 (MQ below (gQi D (aP P 77) ((wX cI cZ cC cJ cA P) M') r') args s 0 0 (aP P 77)) (F0 m 0 ls []) := by
  intro M a1 a2 H locs ls hl hP hD hS h
  unfold q_ChipMap_field at h
  refine lv_aload_n hx hb dX0_field_0 rfl (lv_at hl 0 rfl) ?_
  refine va_get (D := D) (ci := 0) (v := .ref (P 24)) (C := RX0) (T := TX0) (N := 9) hx hb hgt iwX0 hown hK hP 0 gX_0 rfl 3 (Nat.le_of_ble_eq_true rfl) (hgt _ wd_2_20) (fun _ h9 => h9) rfl dX0_field_1 ?_
  refine lv_iload_n hx hb dX0_field_4 rfl (lv_at hl 1 rfl) ?_
  obtain ⟨M1, r2, hq, h⟩ := cal_o h
  refine cx_i (va_runV (As := [.int a1]) (rest := []) ⟨hx, hb, hml, hown, hgt⟩ (z_Layout_has l D cI cZ cC cJ cA P s0 hAO M a1 M1 r2 hq) (cwV 1 hgt (gV wd_2_64 wd_2_65 wd_2_66 wd_0_6 wd_2_67) rfl rfl rfl (by decide +kernel) ⟨Nat.le_of_ble_eq_true rfl, Nat.le_of_ble_eq_true rfl⟩) (prV hP hK hD hO hAO hS (va_recv hK hP (ci := 6) (q0 := 24) rfl gX_24)) rfl rfl hl.1 rfl (lv_room (Nat.le_of_ble_eq_true rfl)) dX0_field_5 ⟨Nat.le_of_ble_eq_true rfl, Nat.le_of_ble_eq_true rfl⟩) hS (fun H locs hP hD hS => ?_)
  refine lv_if_ne hx hb dX0_field_8 (tgt := 13) rfl (fun hc => ?_) (fun hc => ?_)
  · have h := br_F hc h
    refine lv_iload_n hx hb dX0_field_13 rfl (lv_at hl 2 rfl) ?_
    by_cases k_14_0 : a2 = 0
    · have h := br_T k_14_0 h
      refine lv_tableIn hx hb dX0_field_14 (off := 34) (tgt := 48) (by rw [k_14_0]; decide) (by rw [k_14_0]; decide) (by rw [k_14_0]; decide) (by decide) ?_
      refine lv_aload_n hx hb dX0_field_48 rfl (lv_at hl 0 rfl) ?_
      refine va_get (D := D) (ci := 0) (v := .ref (P 24)) (C := RX0) (T := TX0) (N := 9) hx hb hgt iwX0 hown hK hP 0 gX_0 rfl 3 (Nat.le_of_ble_eq_true rfl) (hgt _ wd_2_20) (fun _ h9 => h9) rfl dX0_field_49 ?_
      refine va_get (D := D) (ci := 6) (v := .ref (P 38)) (C := RX6) (T := TX6) (N := 13) hx hb hgt iwX6 hown hK hP 24 gX_24 rfl 7 (Nat.le_of_ble_eq_true rfl) (hgt _ wd_1_29) (fun _ h9 => h9) rfl dX0_field_52 ?_
      refine lv_iload_n hx hb dX0_field_55 rfl (lv_at hl 1 rfl) ?_
      refine va_iald hx hb hK hP 38 0 gX_38 rfl (ix_l h) dX0_field_56 ?_
      have h := ix_r h
      exact rt_i (w := (wX cI cZ cC cJ cA P)) hx hb hr hlk hP hD hS h dX0_field_57
    have h := br_F k_14_0 h
    by_cases k_14_1 : a2 = 1
    · have h := br_T k_14_1 h
      refine lv_tableIn hx hb dX0_field_14 (off := 44) (tgt := 58) (by rw [k_14_1]; decide) (by rw [k_14_1]; decide) (by rw [k_14_1]; decide) (by decide) ?_
      refine lv_aload_n hx hb dX0_field_58 rfl (lv_at hl 0 rfl) ?_
      refine va_get (D := D) (ci := 0) (v := .ref (P 24)) (C := RX0) (T := TX0) (N := 9) hx hb hgt iwX0 hown hK hP 0 gX_0 rfl 3 (Nat.le_of_ble_eq_true rfl) (hgt _ wd_2_20) (fun _ h9 => h9) rfl dX0_field_59 ?_
      refine va_get (D := D) (ci := 6) (v := .ref (P 40)) (C := RX6) (T := TX6) (N := 13) hx hb hgt iwX6 hown hK hP 24 gX_24 rfl 9 (Nat.le_of_ble_eq_true rfl) (hgt _ wd_1_38) (fun _ h9 => h9) rfl dX0_field_62 ?_
      refine lv_iload_n hx hb dX0_field_65 rfl (lv_at hl 1 rfl) ?_
      refine va_iald hx hb hK hP 40 0 gX_40 rfl (ix_l h) dX0_field_66 ?_
      have h := ix_r h
      exact rt_i (w := (wX cI cZ cC cJ cA P)) hx hb hr hlk hP hD hS h dX0_field_67
    have h := br_F k_14_1 h
    by_cases k_14_2 : a2 = 2
    · have h := br_T k_14_2 h
      refine lv_tableIn hx hb dX0_field_14 (off := 54) (tgt := 68) (by rw [k_14_2]; decide) (by rw [k_14_2]; decide) (by rw [k_14_2]; decide) (by decide) ?_
      refine lv_aload_n hx hb dX0_field_68 rfl (lv_at hl 0 rfl) ?_
      refine va_get (D := D) (ci := 0) (v := .ref (P 24)) (C := RX0) (T := TX0) (N := 9) hx hb hgt iwX0 hown hK hP 0 gX_0 rfl 3 (Nat.le_of_ble_eq_true rfl) (hgt _ wd_2_20) (fun _ h9 => h9) rfl dX0_field_69 ?_
      refine va_get (D := D) (ci := 6) (v := .ref (P 41)) (C := RX6) (T := TX6) (N := 13) hx hb hgt iwX6 hown hK hP 24 gX_24 rfl 10 (Nat.le_of_ble_eq_true rfl) (hgt _ wd_1_40) (fun _ h9 => h9) rfl dX0_field_72 ?_
      refine lv_iload_n hx hb dX0_field_75 rfl (lv_at hl 1 rfl) ?_
      refine va_iald hx hb hK hP 41 0 gX_41 rfl (ix_l h) dX0_field_76 ?_
      have h := ix_r h
      exact rt_i (w := (wX cI cZ cC cJ cA P)) hx hb hr hlk hP hD hS h dX0_field_77
    have h := br_F k_14_2 h
    by_cases k_14_3 : a2 = 3
    · have h := br_T k_14_3 h
      refine lv_tableIn hx hb dX0_field_14 (off := 64) (tgt := 78) (by rw [k_14_3]; decide) (by rw [k_14_3]; decide) (by rw [k_14_3]; decide) (by decide) ?_
      refine lv_aload_n hx hb dX0_field_78 rfl (lv_at hl 0 rfl) ?_
      refine va_get (D := D) (ci := 0) (v := .ref (P 50)) (C := RX0) (T := TX0) (N := 9) hx hb hgt iwX0 hown hK hP 0 gX_0 rfl 4 (Nat.le_of_ble_eq_true rfl) (hgt _ wd_2_21) (fun _ h9 => h9) rfl dX0_field_79 ?_
      refine lv_iload_n hx hb dX0_field_82 rfl (lv_at hl 1 rfl) ?_
      obtain ⟨M3, r4, hq, h⟩ := cal_o h
      refine cx_i (va_runV (As := [.int a1]) (rest := []) ⟨hx, hb, hml, hown, hgt⟩ (z_Device_valueOf l D cI cZ cC cJ cA P s0 hAO M1 a1 M3 r4 hq) (cwV 1 hgt (gV wd_2_68 wd_2_69 wd_2_70 wd_0_9 wd_2_71) rfl rfl rfl (by decide +kernel) ⟨Nat.le_of_ble_eq_true rfl, Nat.le_of_ble_eq_true rfl⟩) (prV hP hK hD hO hAO hS (va_recv hK hP (ci := 3) (q0 := 50) rfl gX_50)) rfl rfl hl.1 rfl (lv_room (Nat.le_of_ble_eq_true rfl)) dX0_field_83 ⟨Nat.le_of_ble_eq_true rfl, Nat.le_of_ble_eq_true rfl⟩) hS (fun H locs hP hD hS => ?_)
      exact rt_i (w := (wX cI cZ cC cJ cA P)) hx hb hr hlk hP hD hS h dX0_field_86
    have h := br_F k_14_3 h
    by_cases k_14_4 : a2 = 4
    · have h := br_T k_14_4 h
      refine lv_tableIn hx hb dX0_field_14 (off := 73) (tgt := 87) (by rw [k_14_4]; decide) (by rw [k_14_4]; decide) (by rw [k_14_4]; decide) (by decide) ?_
      refine lv_aload_n hx hb dX0_field_87 rfl (lv_at hl 0 rfl) ?_
      refine va_get (D := D) (ci := 0) (v := .ref (P 24)) (C := RX0) (T := TX0) (N := 9) hx hb hgt iwX0 hown hK hP 0 gX_0 rfl 3 (Nat.le_of_ble_eq_true rfl) (hgt _ wd_2_20) (fun _ h9 => h9) rfl dX0_field_88 ?_
      refine lv_iload_n hx hb dX0_field_91 rfl (lv_at hl 1 rfl) ?_
      refine lv_aload_n hx hb dX0_field_92 rfl (lv_at hl 0 rfl) ?_
      refine va_get (D := D) (ci := 0) (v := .ref (P 50)) (C := RX0) (T := TX0) (N := 9) hx hb hgt iwX0 hown hK hP 0 gX_0 rfl 4 (Nat.le_of_ble_eq_true rfl) (hgt _ wd_2_21) (fun _ h9 => h9) rfl dX0_field_93 ?_
      refine va_get (D := D) (ci := 3) (v := .ref (P 58)) (C := RX3) (T := TX3) (N := 7) hx hb hgt iwX3 hown hK hP 50 gX_50 rfl 5 (Nat.le_of_ble_eq_true rfl) (hgt _ wd_1_135) (fun _ h9 => h9) rfl dX0_field_96 ?_
      refine lv_aload_n hx hb dX0_field_99 rfl (lv_at hl 0 rfl) ?_
      refine va_get (D := D) (ci := 0) (v := .ref (P 24)) (C := RX0) (T := TX0) (N := 9) hx hb hgt iwX0 hown hK hP 0 gX_0 rfl 3 (Nat.le_of_ble_eq_true rfl) (hgt _ wd_2_20) (fun _ h9 => h9) rfl dX0_field_100 ?_
      refine va_get (D := D) (ci := 6) (v := .ref (P 38)) (C := RX6) (T := TX6) (N := 13) hx hb hgt iwX6 hown hK hP 24 gX_24 rfl 7 (Nat.le_of_ble_eq_true rfl) (hgt _ wd_1_29) (fun _ h9 => h9) rfl dX0_field_103 ?_
      refine lv_iload_n hx hb dX0_field_106 rfl (lv_at hl 1 rfl) ?_
      refine va_iald hx hb hK hP 38 0 gX_38 rfl (ix_l h) dX0_field_107 ?_
      have h := ix_r h
      refine va_iald hx hb hK hP 58 0 gX_58 rfl (ix_l h) dX0_field_108 ?_
      have h := ix_r h
      obtain ⟨M3, r4, hq, h⟩ := cal_o h
      refine cx_i (va_runV (As := [.int a1, .int (M1.1 58 ((M1.1 38 (a1 : Int32).toNatClampNeg) : Int32).toNatClampNeg)]) (rest := []) ⟨hx, hb, hml, hown, hgt⟩ (z_Layout_bitsOf l D cI cZ cC cJ cA P s0 hAO M1 a1 (M1.1 58 ((M1.1 38 (a1 : Int32).toNatClampNeg) : Int32).toNatClampNeg) M3 r4 hq) (cwV 2 hgt (gV wd_2_76 wd_2_73 wd_2_74 wd_0_6 wd_2_75) rfl rfl rfl (by decide +kernel) ⟨Nat.le_of_ble_eq_true rfl, Nat.le_of_ble_eq_true rfl⟩) (prV hP hK hD hO hAO hS (va_recv hK hP (ci := 6) (q0 := 24) rfl gX_24)) rfl rfl hl.1 rfl (lv_room (Nat.le_of_ble_eq_true rfl)) dX0_field_109 ⟨Nat.le_of_ble_eq_true rfl, Nat.le_of_ble_eq_true rfl⟩) hS (fun H locs hP hD hS => ?_)
      exact rt_i (w := (wX cI cZ cC cJ cA P)) hx hb hr hlk hP hD hS h dX0_field_112
    have h := br_F k_14_4 h
    refine lv_tableOut hx hb dX0_field_14 (tgt := 113) (by have a0 := tne (z := 0) (by decide) k_14_0; have a1 := tne (z := 1) (by decide) k_14_1; have a2 := tne (z := 2) (by decide) k_14_2; have a3 := tne (z := 3) (by decide) k_14_3; have a4 := tne (z := 4) (by decide) k_14_4; omega) (by decide) ?_
    refine lv_iconst (v := (-1)) hx hb dX0_field_113 (by decide) ?_
    exact rt_i (w := (wX cI cZ cC cJ cA P)) hx hb hr hlk hP hD hS h dX0_field_114
  · have h := br_T hc h
    refine lv_iconst (v := (-1)) hx hb dX0_field_11 (by decide) ?_
    exact rt_i (w := (wX cI cZ cC cJ cA P)) hx hb hr hlk hP hD hS h dX0_field_12
set_option maxHeartbeats 4000000 in
set_option maxRecDepth 20000 in
theorem z_ChipMap_field (l : Launch) (D : va_G) (cI cZ cC cJ cA : ClassId) (P : Nat → Nat) (s0 : State) (hAO : ∀ q, (aP P 77) q → s0.heap.size ≤ q) (M : Mm) (a1 : Int32) (a2 : Int32) (M' : Mm) (r' : Int32) (h : q_ChipMap_field M a1 a2 = some (M', r')) : Met l yX0_field wsX0_field ({ frames := 2, cells := 0, slots := 0, locals := 44 }) (va_Pc [.ref (P 0), .int a1, .int a2] (gPre s0 D [(cI, .int), (cZ, .boolean), (cC, .char), (cJ, .long), (cA, .array .int)] (aP P 77) ((wX cI cZ cC cJ cA P) M))) (gQi D (aP P 77) ((wX cI cZ cC cJ cA P) M') r') 0 0 (aP P 77) := by
  refine Met.ofW (cc := cX0_field) (maxL := 3) (ret := (some .int)) (by decide) rfl ?_
  intro p e s m args below meth c s₁ B hml hv
  obtain ⟨rfl, hP, hK, hD, hO⟩ := hv
  have hx := B.exec
  have hb := B.bytes
  have hr := B.returns
  have hlk := B.notSynchronized
  have hgt := fun w (h : w ∈ GT) => atoms_spec (ws := wsX0_field) B.pre w (List.mem_cons_of_mem _ h)
  have hown : s.vm.findClass RX0 = some m.cls := findClass_of_methodNamed B.named
  have hS : va_S (aP P 77) s.heap s.heap [] := va_S.rf
  have hl := lv_entry ([.ref (P 0), .int a1, .int a2]) (n := 3) (Nat.le_of_ble_eq_true rfl)
  rw [lg_entry_eq]
  generalize (lg_sl ([.ref (P 0), .int a1, .int a2]) ++ List.replicate (3 - (lg_sl ([.ref (P 0), .int a1, .int a2])).length) Slot.unset).toArray = ls at hl ⊢
  have hl : lv_has ls 3 [(0, .ref (P 0)), (1, .int a1), (2, .int a2)] := hl
  exact b_ChipMap_field_0 hx hb hml hr hlk hgt hown hK hO hAO M a1 a2 s.heap [] ls hl hP hD hS h
end
