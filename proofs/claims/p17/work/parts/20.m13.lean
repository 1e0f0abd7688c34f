def q_ChipMapModel_check_82  (M : Mm)  : Rs := lt' (stI M 0 (upd (M.1 0) 58 0)) fun M1 => cal (q_ChipMapModel_copyDevice M1 2 0) fun M2 r3 => lt' (stI M2 0 (upd (M2.1 0) 67 (M2.1 0 63))) fun M4 => if (M4.1 0 69) = 0 then (some (M4, ((M4.1 0 75) + 1))) else (lt' (stI M4 0 (upd (M4.1 0) 68 0)) fun M5 => some (M5, (-2)))
def q_ChipMapModel_check_56  : Nat → Mm → Int32 → Rs
  | 0, _, _ => none
  | n' + 1, M, v1 => if (M.1 0 63) ≤ v1 then (q_ChipMapModel_check_82 M) else (if (M.1 0 69) = 0 then (cal (q_ChipMapModel_goOn M v1) fun M1 r2 => q_ChipMapModel_check_56 n' M1 (v1 + 1)) else (q_ChipMapModel_check_82 M))
def q_ChipMapModel_check  (M : Mm)  : Rs := lt' (stI M 0 (upd (M.1 0) 0 0)) fun M1 => if (M1.1 0 27) = 0 then (some (M1, (-1))) else (cal (q_ChipMapModel_copyDevice M1 0 2) fun M2 r3 => lt' (stI M2 0 (upd (M2.1 0) 58 1)) fun M4 => cal (q_ChipMapModel_resetDevice M4) fun M5 r6 => lt' (stI M5 0 (upd (M5.1 0) 63 0)) fun M7 => lt' (stI M7 0 (upd (M7.1 0) 69 0)) fun M8 => lt' (stI M8 0 (upd (M8.1 0) 75 (-1))) fun M9 => lt' (stI M9 0 (upd (M9.1 0) 68 0)) fun M10 => cal (q_ChipMapModel_meet M10 0) fun M11 r12 => q_ChipMapModel_check_56 4000 M11 0)
set_option maxHeartbeats 4000000 in
set_option maxRecDepth 20000 in
theorem b_ChipMapModel_check_82 {p : Program} {l : Launch} {e : Env} {s s0 : State} {m : MethodId} {args : Array Value} {below : List Frame} {meth : Method} {c : Code} {D : va_G} {cI cZ cC cJ cA : ClassId} {P : Nat → Nat} {M' : Mm} {r' : Int32}  (hx : p.tables.exec = Jvm.exec) (hb : c.code = cX1_check) (hml : c.maxLocals = 2) (hr : meth.sig.returnType = (some .int)) (hlk : meth.locks = false) (hgt : ∀ w ∈ GT, w.before args s = true) (hown : s.vm.findClass RX1 = some m.cls) (hK : va_K D vwCl [(cI, .int), (cZ, .boolean), (cC, .char), (cJ, .long), (cA, .array .int)] s) (hO : Old s0 s) (hAO : ∀ q, (aP P 51) q → s0.heap.size ≤ q)  : ∀ (M : Mm)  (H : Heap) (locs : List Loc) (ls : Array Slot), lv_has ls 2 [(0, .ref (P 0))] → va_P D vwCl ((wY cI cZ cC cJ cA P) M) H → va_D (aP P 51) ((wY cI cZ cC cJ cA P) M) → va_S (aP P 51) s.heap H locs → q_ChipMapModel_check_82 M = some (M', r') → W p l e ({ frames := 8, cells := 0, slots := 0, locals := 183 }) s m args below meth c H locs 0 0 (MQ below (gQi D (aP P 51) ((wY cI cZ cC cJ cA P) M') r') args s 0 0 (aP P 51)) (F0 m 82 ls []) := by
  intro M H locs ls hl hP hD hS h
  unfold q_ChipMapModel_check_82 at h
  refine lv_aload_n hx hb dX1_check_82 rfl (lv_at hl 0 rfl) ?_
  refine lv_iconst (v := 0) hx hb dX1_check_83 (by decide) ?_
  refine pm_put (w := (wY cI cZ cC cJ cA P)) (D := D) (ci := 1) (x := 0) (ty := .boolean) (C := RX1) (T := TX1) (N := 76) hx hb hgt iwX1 tyX1 tyX1_ok nmX1 hown hK hP hD hS 0 gY_0 rfl 58 (Nat.le_of_ble_eq_true rfl) (hgt _ wd_5_19) (fun _ h9 => h9) rfl (by decide +kernel) rfl rfl (Nat.le_of_ble_eq_true rfl) (sY_0_58 _) dX1_check_84 (fun M1 eM1 H locs hP hD hS => ?_)
  have h := lt_o eM1 h
  refine lv_aload_n hx hb dX1_check_87 rfl (lv_at hl 0 rfl) ?_
  refine lv_iconst (v := 2) hx hb dX1_check_88 (by decide) ?_
  refine lv_iconst (v := 0) hx hb dX1_check_89 (by decide) ?_
  obtain ⟨M2, r3, hq, h⟩ := cal_o h
  refine cx_v (va_runV (As := [.int 2, .int 0]) (rest := []) ⟨hx, hb, hml, hown, hgt⟩ (z_ChipMapModel_copyDevice l D cI cZ cC cJ cA P s0 hAO M1 2 0 M2 r3 hq) (cwV 2 hgt (gV wd_6_134 wd_6_136 sl__ChipMapModel____ChipMapModel___copyDevice____II_V_____ChipMapModel___copyDevice____II_V__ wd_0_15 wd_6_137) rfl rfl rfl (by decide +kernel) ⟨Nat.le_of_ble_eq_true rfl, Nat.le_of_ble_eq_true rfl⟩) (prV hP hK hD hO hAO hS (va_recv hK hP (ci := 1) (q0 := 0) rfl gY_0)) rfl rfl hl.1 rfl (lv_room (Nat.le_of_ble_eq_true rfl)) dX1_check_90 ⟨Nat.le_of_ble_eq_true rfl, Nat.le_of_ble_eq_true rfl⟩) hS (fun H locs hP hD hS => ?_)
  refine lv_aload_n hx hb dX1_check_93 rfl (lv_at hl 0 rfl) ?_
  refine lv_aload_n hx hb dX1_check_94 rfl (lv_at hl 0 rfl) ?_
  refine va_get (D := D) (ci := 1) (v := .int (M2.1 0 63)) (C := RX1) (T := TX1) (N := 76) hx hb hgt iwX1 hown hK hP 0 gY_0 rfl 63 (Nat.le_of_ble_eq_true rfl) (hgt _ wd_5_24) (fun _ h9 => h9) rfl dX1_check_95 ?_
  refine pm_put (w := (wY cI cZ cC cJ cA P)) (D := D) (ci := 1) (x := (M2.1 0 63)) (ty := .int) (C := RX1) (T := TX1) (N := 76) hx hb hgt iwX1 tyX1 tyX1_ok nmX1 hown hK hP hD hS 0 gY_0 rfl 67 (Nat.le_of_ble_eq_true rfl) (hgt _ wd_5_28) (fun _ h9 => h9) rfl (by decide +kernel) rfl rfl (Nat.le_of_ble_eq_true rfl) (sY_0_67 _) dX1_check_98 (fun M4 eM4 H locs hP hD hS => ?_)
  have h := lt_o eM4 h
  refine lv_aload_n hx hb dX1_check_101 rfl (lv_at hl 0 rfl) ?_
  refine va_get (D := D) (ci := 1) (v := .int (M4.1 0 69)) (C := RX1) (T := TX1) (N := 76) hx hb hgt iwX1 hown hK hP 0 gY_0 rfl 69 (Nat.le_of_ble_eq_true rfl) (hgt _ wd_5_30) (fun _ h9 => h9) rfl dX1_check_102 ?_
  refine lv_if_eq hx hb dX1_check_105 (tgt := 116) rfl (fun hc => ?_) (fun hc => ?_)
  · have h := br_T hc h
    refine lv_aload_n hx hb dX1_check_116 rfl (lv_at hl 0 rfl) ?_
    refine va_get (D := D) (ci := 1) (v := .int (M4.1 0 75)) (C := RX1) (T := TX1) (N := 76) hx hb hgt iwX1 hown hK hP 0 gY_0 rfl 75 (Nat.le_of_ble_eq_true rfl) (hgt _ wd_5_36) (fun _ h9 => h9) rfl dX1_check_117 ?_
    refine lv_iconst (v := 1) hx hb dX1_check_120 (by decide) ?_
    refine lv_iadd hx hb dX1_check_121 ?_
    exact rt_i (w := (wY cI cZ cC cJ cA P)) hx hb hr hlk hP hD hS h dX1_check_122
  · have h := br_F hc h
    refine lv_aload_n hx hb dX1_check_108 rfl (lv_at hl 0 rfl) ?_
    refine lv_iconst (v := 0) hx hb dX1_check_109 (by decide) ?_
    refine pm_put (w := (wY cI cZ cC cJ cA P)) (D := D) (ci := 1) (x := 0) (ty := .int) (C := RX1) (T := TX1) (N := 76) hx hb hgt iwX1 tyX1 tyX1_ok nmX1 hown hK hP hD hS 0 gY_0 rfl 68 (Nat.le_of_ble_eq_true rfl) (hgt _ wd_5_29) (fun _ h9 => h9) rfl (by decide +kernel) rfl rfl (Nat.le_of_ble_eq_true rfl) (sY_0_68 _) dX1_check_110 (fun M5 eM5 H locs hP hD hS => ?_)
    have h := lt_o eM5 h
    refine lv_bipush (v := (-2)) hx hb dX1_check_113 (by decide) ?_
    exact rt_i (w := (wY cI cZ cC cJ cA P)) hx hb hr hlk hP hD hS h dX1_check_115
set_option maxHeartbeats 4000000 in
set_option maxRecDepth 20000 in
theorem b_ChipMapModel_check_56 {p : Program} {l : Launch} {e : Env} {s s0 : State} {m : MethodId} {args : Array Value} {below : List Frame} {meth : Method} {c : Code} {D : va_G} {cI cZ cC cJ cA : ClassId} {P : Nat → Nat} {M' : Mm} {r' : Int32}  (hx : p.tables.exec = Jvm.exec) (hb : c.code = cX1_check) (hml : c.maxLocals = 2) (hr : meth.sig.returnType = (some .int)) (hlk : meth.locks = false) (hgt : ∀ w ∈ GT, w.before args s = true) (hown : s.vm.findClass RX1 = some m.cls) (hK : va_K D vwCl [(cI, .int), (cZ, .boolean), (cC, .char), (cJ, .long), (cA, .array .int)] s) (hO : Old s0 s) (hAO : ∀ q, (aP P 51) q → s0.heap.size ≤ q)  : ∀ (n' : Nat) (M : Mm) (v1 : Int32) (H : Heap) (locs : List Loc) (ls : Array Slot), lv_has ls 2 [(0, .ref (P 0)), (1, .int v1)] → va_P D vwCl ((wY cI cZ cC cJ cA P) M) H → va_D (aP P 51) ((wY cI cZ cC cJ cA P) M) → va_S (aP P 51) s.heap H locs → q_ChipMapModel_check_56 n' M v1 = some (M', r') → W p l e ({ frames := 8, cells := 0, slots := 0, locals := 183 }) s m args below meth c H locs 0 0 (MQ below (gQi D (aP P 51) ((wY cI cZ cC cJ cA P) M') r') args s 0 0 (aP P 51)) (F0 m 56 ls []) := by
  intro n'
  induction n' with
  | zero => exact fun _ _ _ _ _ _ _ _ _ h => (rs_n h).elim
  | succ n' ih =>
    intro M v1 H locs ls hl hP hD hS h
    rw [q_ChipMapModel_check_56] at h
    refine lv_iload_n hx hb dX1_check_56 rfl (lv_at hl 1 rfl) ?_
    refine lv_aload_n hx hb dX1_check_57 rfl (lv_at hl 0 rfl) ?_
    refine va_get (D := D) (ci := 1) (v := .int (M.1 0 63)) (C := RX1) (T := TX1) (N := 76) hx hb hgt iwX1 hown hK hP 0 gY_0 rfl 63 (Nat.le_of_ble_eq_true rfl) (hgt _ wd_5_24) (fun _ h9 => h9) rfl dX1_check_58 ?_
    refine lv_icmp_ge hx hb dX1_check_61 (tgt := 82) rfl (fun hc => ?_) (fun hc => ?_)
    · have h := br_T hc h
      have hl := lv_sub hl [0] (l' := [(0, .ref (P 0))]) rfl
      exact b_ChipMapModel_check_82 hx hb hml hr hlk hgt hown hK hO hAO M H _ ls hl hP hD hS h
    · have h := br_F hc h
      refine lv_aload_n hx hb dX1_check_64 rfl (lv_at hl 0 rfl) ?_
      refine va_get (D := D) (ci := 1) (v := .int (M.1 0 69)) (C := RX1) (T := TX1) (N := 76) hx hb hgt iwX1 hown hK hP 0 gY_0 rfl 69 (Nat.le_of_ble_eq_true rfl) (hgt _ wd_5_30) (fun _ h9 => h9) rfl dX1_check_65 ?_
      refine lv_if_ne hx hb dX1_check_68 (tgt := 82) rfl (fun hc => ?_) (fun hc => ?_)
      · have h := br_F hc h
        have hl := lv_sub hl [0] (l' := [(0, .ref (P 0))]) rfl
        exact b_ChipMapModel_check_82 hx hb hml hr hlk hgt hown hK hO hAO M H _ ls hl hP hD hS h
      · have h := br_T hc h
        refine lv_aload_n hx hb dX1_check_71 rfl (lv_at hl 0 rfl) ?_
        refine lv_iload_n hx hb dX1_check_72 rfl (lv_at hl 1 rfl) ?_
        obtain ⟨M1, r2, hq, h⟩ := cal_o h
        refine cx_v (va_runV (As := [.int v1]) (rest := []) ⟨hx, hb, hml, hown, hgt⟩ (z_ChipMapModel_goOn l D cI cZ cC cJ cA P s0 hAO M v1 M1 r2 hq) (cwV 1 hgt (gV wd_6_218 wd_6_220 sl__ChipMapModel____ChipMapModel___goOn____I_V_____ChipMapModel___goOn____I_V__ wd_0_15 wd_6_221) rfl rfl rfl (by decide +kernel) ⟨Nat.le_of_ble_eq_true rfl, Nat.le_of_ble_eq_true rfl⟩) (prV hP hK hD hO hAO hS (va_recv hK hP (ci := 1) (q0 := 0) rfl gY_0)) rfl rfl hl.1 rfl (lv_room (Nat.le_of_ble_eq_true rfl)) dX1_check_73 ⟨Nat.le_of_ble_eq_true rfl, Nat.le_of_ble_eq_true rfl⟩) hS (fun H locs hP hD hS => ?_)
        refine lv_iinc (v := (v1 + 1)) hx hb dX1_check_76 hl (k := 1) rfl rfl (Nat.le_of_ble_eq_true rfl) (lv' := [(1, .int (v1 + 1)), (0, .ref (P 0))]) rfl (fun ls hl => ?_)
        refine lv_goto hx hb dX1_check_79 (tgt := 56) rfl ?_
        have hl := lv_sub hl [1, 0] (l' := [(0, .ref (P 0)), (1, .int (v1 + 1))]) rfl
        exact ih M1 (v1 + 1) H locs ls hl hP hD hS h
set_option maxHeartbeats 4000000 in
set_option maxRecDepth 20000 in
theorem b_ChipMapModel_check_0 {p : Program} {l : Launch} {e : Env} {s s0 : State} {m : MethodId} {args : Array Value} {below : List Frame} {meth : Method} {c : Code} {D : va_G} {cI cZ cC cJ cA : ClassId} {P : Nat → Nat} {M' : Mm} {r' : Int32}  (hx : p.tables.exec = Jvm.exec) (hb : c.code = cX1_check) (hml : c.maxLocals = 2) (hr : meth.sig.returnType = (some .int)) (hlk : meth.locks = false) (hgt : ∀ w ∈ GT, w.before args s = true) (hown : s.vm.findClass RX1 = some m.cls) (hK : va_K D vwCl [(cI, .int), (cZ, .boolean), (cC, .char), (cJ, .long), (cA, .array .int)] s) (hO : Old s0 s) (hAO : ∀ q, (aP P 51) q → s0.heap.size ≤ q)  : ∀ (M : Mm)  (H : Heap) (locs : List Loc) (ls : Array Slot), lv_has ls 2 [(0, .ref (P 0))] → va_P D vwCl ((wY cI cZ cC cJ cA P) M) H → va_D (aP P 51) ((wY cI cZ cC cJ cA P) M) → va_S (aP P 51) s.heap H locs → q_ChipMapModel_check M = some (M', r') → W p l e ({ frames := 8, cells := 0, slots := 0, locals := 183 }) s m args below meth c H locs 0 0 (MQ below (gQi D (aP P 51) ((wY cI cZ cC cJ cA P) M') r') args s 0 0 (aP P 51)) (F0 m 0 ls []) := by
  intro M H locs ls hl hP hD hS h
  unfold q_ChipMapModel_check at h
  refine lv_aload_n hx hb dX1_check_0 rfl (lv_at hl 0 rfl) ?_
  refine lv_iconst (v := 0) hx hb dX1_check_1 (by decide) ?_
  refine pm_put (w := (wY cI cZ cC cJ cA P)) (D := D) (ci := 1) (x := 0) (ty := .int) (C := RX1) (T := TX1) (N := 76) hx hb hgt iwX1 tyX1 tyX1_ok nmX1 hown hK hP hD hS 0 gY_0 rfl 0 (Nat.le_of_ble_eq_true rfl) (hgt _ wd_4_201) (fun _ h9 => h9) rfl (by decide +kernel) rfl rfl (Nat.le_of_ble_eq_true rfl) (sY_0_0 _) dX1_check_2 (fun M1 eM1 H locs hP hD hS => ?_)
  have h := lt_o eM1 h
  refine lv_aload_n hx hb dX1_check_5 rfl (lv_at hl 0 rfl) ?_
  refine va_get (D := D) (ci := 1) (v := .int (M1.1 0 27)) (C := RX1) (T := TX1) (N := 76) hx hb hgt iwX1 hown hK hP 0 gY_0 rfl 27 (Nat.le_of_ble_eq_true rfl) (hgt _ wd_4_228) (fun _ h9 => h9) rfl dX1_check_6 ?_
  refine lv_if_ne hx hb dX1_check_9 (tgt := 14) rfl (fun hc => ?_) (fun hc => ?_)
  · have h := br_F hc h
    refine lv_aload_n hx hb dX1_check_14 rfl (lv_at hl 0 rfl) ?_
    refine lv_iconst (v := 0) hx hb dX1_check_15 (by decide) ?_
    refine lv_iconst (v := 2) hx hb dX1_check_16 (by decide) ?_
    obtain ⟨M2, r3, hq, h⟩ := cal_o h
    refine cx_v (va_runV (As := [.int 0, .int 2]) (rest := []) ⟨hx, hb, hml, hown, hgt⟩ (z_ChipMapModel_copyDevice l D cI cZ cC cJ cA P s0 hAO M1 0 2 M2 r3 hq) (cwV 2 hgt (gV wd_6_134 wd_6_136 sl__ChipMapModel____ChipMapModel___copyDevice____II_V_____ChipMapModel___copyDevice____II_V__ wd_0_15 wd_6_137) rfl rfl rfl (by decide +kernel) ⟨Nat.le_of_ble_eq_true rfl, Nat.le_of_ble_eq_true rfl⟩) (prV hP hK hD hO hAO hS (va_recv hK hP (ci := 1) (q0 := 0) rfl gY_0)) rfl rfl hl.1 rfl (lv_room (Nat.le_of_ble_eq_true rfl)) dX1_check_17 ⟨Nat.le_of_ble_eq_true rfl, Nat.le_of_ble_eq_true rfl⟩) hS (fun H locs hP hD hS => ?_)
    refine lv_aload_n hx hb dX1_check_20 rfl (lv_at hl 0 rfl) ?_
    refine lv_iconst (v := 1) hx hb dX1_check_21 (by decide) ?_
    refine pm_put (w := (wY cI cZ cC cJ cA P)) (D := D) (ci := 1) (x := 1) (ty := .boolean) (C := RX1) (T := TX1) (N := 76) hx hb hgt iwX1 tyX1 tyX1_ok nmX1 hown hK hP hD hS 0 gY_0 rfl 58 (Nat.le_of_ble_eq_true rfl) (hgt _ wd_5_19) (fun _ h9 => h9) rfl (by decide +kernel) rfl rfl (Nat.le_of_ble_eq_true rfl) (sY_0_58 _) dX1_check_22 (fun M4 eM4 H locs hP hD hS => ?_)
    have h := lt_o eM4 h
    refine lv_aload_n hx hb dX1_check_25 rfl (lv_at hl 0 rfl) ?_
    obtain ⟨M5, r6, hq, h⟩ := cal_o h
    refine cx_v (va_runV (As := []) (rest := []) ⟨hx, hb, hml, hown, hgt⟩ (z_ChipMapModel_resetDevice l D cI cZ cC cJ cA P s0 hAO M4 M5 r6 hq) (cwV 0 hgt (gV wd_6_41 wd_6_43 sl__ChipMapModel____ChipMapModel___resetDevice_____V_____ChipMapModel___resetDevice_____V__ wd_0_15 wd_6_44) rfl rfl rfl (by decide +kernel) ⟨Nat.le_of_ble_eq_true rfl, Nat.le_of_ble_eq_true rfl⟩) (prV hP hK hD hO hAO hS (va_recv hK hP (ci := 1) (q0 := 0) rfl gY_0)) rfl rfl hl.1 rfl (lv_room (Nat.le_of_ble_eq_true rfl)) dX1_check_26 ⟨Nat.le_of_ble_eq_true rfl, Nat.le_of_ble_eq_true rfl⟩) hS (fun H locs hP hD hS => ?_)
    refine lv_aload_n hx hb dX1_check_29 rfl (lv_at hl 0 rfl) ?_
    refine lv_iconst (v := 0) hx hb dX1_check_30 (by decide) ?_
    refine pm_put (w := (wY cI cZ cC cJ cA P)) (D := D) (ci := 1) (x := 0) (ty := .int) (C := RX1) (T := TX1) (N := 76) hx hb hgt iwX1 tyX1 tyX1_ok nmX1 hown hK hP hD hS 0 gY_0 rfl 63 (Nat.le_of_ble_eq_true rfl) (hgt _ wd_5_24) (fun _ h9 => h9) rfl (by decide +kernel) rfl rfl (Nat.le_of_ble_eq_true rfl) (sY_0_63 _) dX1_check_31 (fun M7 eM7 H locs hP hD hS => ?_)
    have h := lt_o eM7 h
    refine lv_aload_n hx hb dX1_check_34 rfl (lv_at hl 0 rfl) ?_
    refine lv_iconst (v := 0) hx hb dX1_check_35 (by decide) ?_
    refine pm_put (w := (wY cI cZ cC cJ cA P)) (D := D) (ci := 1) (x := 0) (ty := .boolean) (C := RX1) (T := TX1) (N := 76) hx hb hgt iwX1 tyX1 tyX1_ok nmX1 hown hK hP hD hS 0 gY_0 rfl 69 (Nat.le_of_ble_eq_true rfl) (hgt _ wd_5_30) (fun _ h9 => h9) rfl (by decide +kernel) rfl rfl (Nat.le_of_ble_eq_true rfl) (sY_0_69 _) dX1_check_36 (fun M8 eM8 H locs hP hD hS => ?_)
    have h := lt_o eM8 h
    refine lv_aload_n hx hb dX1_check_39 rfl (lv_at hl 0 rfl) ?_
    refine lv_iconst (v := (-1)) hx hb dX1_check_40 (by decide) ?_
    refine pm_put (w := (wY cI cZ cC cJ cA P)) (D := D) (ci := 1) (x := (-1)) (ty := .int) (C := RX1) (T := TX1) (N := 76) hx hb hgt iwX1 tyX1 tyX1_ok nmX1 hown hK hP hD hS 0 gY_0 rfl 75 (Nat.le_of_ble_eq_true rfl) (hgt _ wd_5_36) (fun _ h9 => h9) rfl (by decide +kernel) rfl rfl (Nat.le_of_ble_eq_true rfl) (sY_0_75 _) dX1_check_41 (fun M9 eM9 H locs hP hD hS => ?_)
    have h := lt_o eM9 h
    refine lv_aload_n hx hb dX1_check_44 rfl (lv_at hl 0 rfl) ?_
    refine lv_iconst (v := 0) hx hb dX1_check_45 (by decide) ?_
    refine pm_put (w := (wY cI cZ cC cJ cA P)) (D := D) (ci := 1) (x := 0) (ty := .int) (C := RX1) (T := TX1) (N := 76) hx hb hgt iwX1 tyX1 tyX1_ok nmX1 hown hK hP hD hS 0 gY_0 rfl 68 (Nat.le_of_ble_eq_true rfl) (hgt _ wd_5_29) (fun _ h9 => h9) rfl (by decide +kernel) rfl rfl (Nat.le_of_ble_eq_true rfl) (sY_0_68 _) dX1_check_46 (fun M10 eM10 H locs hP hD hS => ?_)
    have h := lt_o eM10 h
    refine lv_aload_n hx hb dX1_check_49 rfl (lv_at hl 0 rfl) ?_
    refine lv_iconst (v := 0) hx hb dX1_check_50 (by decide) ?_
    obtain ⟨M11, r12, hq, h⟩ := cal_o h
    refine cx_v (va_runV (As := [.int 0]) (rest := []) ⟨hx, hb, hml, hown, hgt⟩ (z_ChipMapModel_meet l D cI cZ cC cJ cA P s0 hAO M10 0 M11 r12 hq) (cwV 1 hgt (gV wd_6_206 wd_6_208 sl__ChipMapModel____ChipMapModel___meet____I_V_____ChipMapModel___meet____I_V__ wd_0_15 wd_6_209) rfl rfl rfl (by decide +kernel) ⟨Nat.le_of_ble_eq_true rfl, Nat.le_of_ble_eq_true rfl⟩) (prV hP hK hD hO hAO hS (va_recv hK hP (ci := 1) (q0 := 0) rfl gY_0)) rfl rfl hl.1 rfl (lv_room (Nat.le_of_ble_eq_true rfl)) dX1_check_51 ⟨Nat.le_of_ble_eq_true rfl, Nat.le_of_ble_eq_true rfl⟩) hS (fun H locs hP hD hS => ?_)
    refine lv_iconst (v := 0) hx hb dX1_check_54 (by decide) ?_
    refine lv_istore_n hx hb dX1_check_55 rfl hl (Nat.le_of_ble_eq_true rfl) (lv' := [(1, .int 0), (0, .ref (P 0))]) rfl (fun ls hl => ?_)
    have hl := lv_sub hl [1, 0] (l' := [(0, .ref (P 0)), (1, .int 0)]) rfl
    exact b_ChipMapModel_check_56 hx hb hml hr hlk hgt hown hK hO hAO 4000 M11 0 H _ ls hl hP hD hS h
  · have h := br_T hc h
    refine lv_iconst (v := (-1)) hx hb dX1_check_12 (by decide) ?_
    exact rt_i (w := (wY cI cZ cC cJ cA P)) hx hb hr hlk hP hD hS h dX1_check_13
set_option maxHeartbeats 4000000 in
set_option maxRecDepth 20000 in
theorem z_ChipMapModel_check (l : Launch) (D : va_G) (cI cZ cC cJ cA : ClassId) (P : Nat → Nat) (s0 : State) (hAO : ∀ q, (aP P 51) q → s0.heap.size ≤ q) (M : Mm)  (M' : Mm) (r' : Int32) (h : q_ChipMapModel_check M = some (M', r')) : Met l yX1_check wsX1_check ({ frames := 8, cells := 0, slots := 0, locals := 183 }) (va_Pc [.ref (P 0)] (gPre s0 D [(cI, .int), (cZ, .boolean), (cC, .char), (cJ, .long), (cA, .array .int)] (aP P 51) ((wY cI cZ cC cJ cA P) M))) (gQi D (aP P 51) ((wY cI cZ cC cJ cA P) M') r') 0 0 (aP P 51) := by
  refine Met.ofW (cc := cX1_check) (maxL := 2) (ret := (some .int)) (by decide) rfl ?_
  intro p e s m args below meth c s₁ B hml hv
  obtain ⟨rfl, hP, hK, hD, hO⟩ := hv
  have hx := B.exec
  have hb := B.bytes
  have hr := B.returns
  have hlk := B.notSynchronized
  have hgt := fun w (h : w ∈ GT) => atoms_spec (ws := wsX1_check) B.pre w (List.mem_cons_of_mem _ h)
  have hown : s.vm.findClass RX1 = some m.cls := findClass_of_methodNamed B.named
  have hS : va_S (aP P 51) s.heap s.heap [] := va_S.rf
  have hl := lv_entry ([.ref (P 0)]) (n := 2) (Nat.le_of_ble_eq_true rfl)
  rw [lg_entry_eq]
  generalize (lg_sl ([.ref (P 0)]) ++ List.replicate (2 - (lg_sl ([.ref (P 0)])).length) Slot.unset).toArray = ls at hl ⊢
  have hl : lv_has ls 2 [(0, .ref (P 0))] := hl
  exact b_ChipMapModel_check_0 hx hb hml hr hlk hgt hown hK hO hAO M s.heap [] ls hl hP hD hS h
def q_ChipMapModel_found  (M : Mm) (a1 : Int32) : Rs := lt' (stI M 0 (upd (M.1 0) 0 0)) fun M1 => if a1 = 0 then (some (M1, (M1.1 0 67))) else (if a1 = 1 then (some (M1, (M1.1 0 68))) else (some (M1, (-1))))
set_option maxHeartbeats 4000000 in
set_option maxRecDepth 20000 in
theorem b_ChipMapModel_found_0 {p : Program} {l : Launch} {e : Env} {s s0 : State} {m : MethodId} {args : Array Value} {below : List Frame} {meth : Method} {c : Code} {D : va_G} {cI cZ cC cJ cA : ClassId} {P : Nat → Nat} {M' : Mm} {r' : Int32}  (hx : p.tables.exec = Jvm.exec) (hb : c.code = cX1_found) (hml : c.maxLocals = 2) (hr : meth.sig.returnType = (some .int)) (hlk : meth.locks = false) (hgt : ∀ w ∈ GT, w.before args s = true) (hown : s.vm.findClass RX1 = some m.cls) (hK : va_K D vwCl [(cI, .int), (cZ, .boolean), (cC, .char), (cJ, .long), (cA, .array .int)] s) (hO : Old s0 s) (hAO : ∀ q, (aP P 51) q → s0.heap.size ≤ q)  : ∀ (M : Mm) (a1 : Int32) (H : Heap) (locs : List Loc) (ls : Array Slot), lv_has ls 2 [(0, .ref (P 0)), (1, .int a1)] → va_P D vwCl ((wY cI cZ cC cJ cA P) M) H → va_D (aP P 51) ((wY cI cZ cC cJ cA P) M) → va_S (aP P 51) s.heap H locs → q_ChipMapModel_found M a1 = some (M', r') → W p l e ({ frames := 0, cells := 0, slots := 0, locals := 0 }) s m args below meth c H locs 0 0 (MQ below (gQi D (aP P 51) ((wY cI cZ cC cJ cA P) M') r') args s 0 0 (aP P 51)) (F0 m 0 ls []) := by
  intro M a1 H locs ls hl hP hD hS h
  unfold q_ChipMapModel_found at h
  refine lv_aload_n hx hb dX1_found_0 rfl (lv_at hl 0 rfl) ?_
  refine lv_iconst (v := 0) hx hb dX1_found_1 (by decide) ?_
  refine pm_put (w := (wY cI cZ cC cJ cA P)) (D := D) (ci := 1) (x := 0) (ty := .int) (C := RX1) (T := TX1) (N := 76) hx hb hgt iwX1 tyX1 tyX1_ok nmX1 hown hK hP hD hS 0 gY_0 rfl 0 (Nat.le_of_ble_eq_true rfl) (hgt _ wd_4_201) (fun _ h9 => h9) rfl (by decide +kernel) rfl rfl (Nat.le_of_ble_eq_true rfl) (sY_0_0 _) dX1_found_2 (fun M1 eM1 H locs hP hD hS => ?_)
  have h := lt_o eM1 h
  refine lv_iload_n hx hb dX1_found_5 rfl (lv_at hl 1 rfl) ?_
  refine lv_if_ne hx hb dX1_found_6 (tgt := 16) rfl (fun hc => ?_) (fun hc => ?_)
  · have h := br_F hc h
    refine lv_iload_n hx hb dX1_found_16 rfl (lv_at hl 1 rfl) ?_
    refine lv_iconst (v := 1) hx hb dX1_found_17 (by decide) ?_
    refine lv_icmp_ne hx hb dX1_found_18 (tgt := 28) rfl (fun hc => ?_) (fun hc => ?_)
    · have h := br_F hc h
      refine lv_iconst (v := (-1)) hx hb dX1_found_28 (by decide) ?_
      exact rt_i (w := (wY cI cZ cC cJ cA P)) hx hb hr hlk hP hD hS h dX1_found_29
    · have h := br_T hc h
      refine lv_aload_n hx hb dX1_found_21 rfl (lv_at hl 0 rfl) ?_
      refine va_get (D := D) (ci := 1) (v := .int (M1.1 0 68)) (C := RX1) (T := TX1) (N := 76) hx hb hgt iwX1 hown hK hP 0 gY_0 rfl 68 (Nat.le_of_ble_eq_true rfl) (hgt _ wd_5_29) (fun _ h9 => h9) rfl dX1_found_22 ?_
      refine lv_goto hx hb dX1_found_25 (tgt := 29) rfl ?_
      exact rt_i (w := (wY cI cZ cC cJ cA P)) hx hb hr hlk hP hD hS h dX1_found_29
  · have h := br_T hc h
    refine lv_aload_n hx hb dX1_found_9 rfl (lv_at hl 0 rfl) ?_
    refine va_get (D := D) (ci := 1) (v := .int (M1.1 0 67)) (C := RX1) (T := TX1) (N := 76) hx hb hgt iwX1 hown hK hP 0 gY_0 rfl 67 (Nat.le_of_ble_eq_true rfl) (hgt _ wd_5_28) (fun _ h9 => h9) rfl dX1_found_10 ?_
    refine lv_goto hx hb dX1_found_13 (tgt := 29) rfl ?_
    exact rt_i (w := (wY cI cZ cC cJ cA P)) hx hb hr hlk hP hD hS h dX1_found_29
set_option maxHeartbeats 4000000 in
set_option maxRecDepth 20000 in
theorem z_ChipMapModel_found (l : Launch) (D : va_G) (cI cZ cC cJ cA : ClassId) (P : Nat → Nat) (s0 : State) (hAO : ∀ q, (aP P 51) q → s0.heap.size ≤ q) (M : Mm) (a1 : Int32) (M' : Mm) (r' : Int32) (h : q_ChipMapModel_found M a1 = some (M', r')) : Met l yX1_found wsX1_found ({ frames := 0, cells := 0, slots := 0, locals := 0 }) (va_Pc [.ref (P 0), .int a1] (gPre s0 D [(cI, .int), (cZ, .boolean), (cC, .char), (cJ, .long), (cA, .array .int)] (aP P 51) ((wY cI cZ cC cJ cA P) M))) (gQi D (aP P 51) ((wY cI cZ cC cJ cA P) M') r') 0 0 (aP P 51) := by
  refine Met.ofW (cc := cX1_found) (maxL := 2) (ret := (some .int)) (by decide) rfl ?_
  intro p e s m args below meth c s₁ B hml hv
  obtain ⟨rfl, hP, hK, hD, hO⟩ := hv
  have hx := B.exec
  have hb := B.bytes
  have hr := B.returns
  have hlk := B.notSynchronized
  have hgt := fun w (h : w ∈ GT) => atoms_spec (ws := wsX1_found) B.pre w (List.mem_cons_of_mem _ h)
  have hown : s.vm.findClass RX1 = some m.cls := findClass_of_methodNamed B.named
  have hS : va_S (aP P 51) s.heap s.heap [] := va_S.rf
  have hl := lv_entry ([.ref (P 0), .int a1]) (n := 2) (Nat.le_of_ble_eq_true rfl)
  rw [lg_entry_eq]
  generalize (lg_sl ([.ref (P 0), .int a1]) ++ List.replicate (2 - (lg_sl ([.ref (P 0), .int a1])).length) Slot.unset).toArray = ls at hl ⊢
  have hl : lv_has ls 2 [(0, .ref (P 0)), (1, .int a1)] := hl
  exact b_ChipMapModel_found_0 hx hb hml hr hlk hgt hown hK hO hAO M a1 s.heap [] ls hl hP hD hS h
def q_ChipMapModel_run_153 (kf28 : Mm → Int32 → Int32 → Int32 → Int32 → Rs) (M : Mm) (v1 : Int32) (v2 : Int32) (v3 : Int32) (v4 : Int32) : Rs := kf28 M v1 v2 v3 (v4 + 1)
def q_ChipMapModel_run_137 (kf28 : Mm → Int32 → Int32 → Int32 → Int32 → Rs) (M : Mm) (v1 : Int32) (v2 : Int32) (v3 : Int32) (v4 : Int32) : Rs := cal (q_ChipMapModel_end M) fun M1 r2 => if r2 = (-2) then (some (M1, (v2 + 1))) else (q_ChipMapModel_run_153 kf28 M1 v1 (v2 + 1) v3 v4)
def q_ChipMapModel_run_92 (kf28 : Mm → Int32 → Int32 → Int32 → Int32 → Rs) (M : Mm) (v1 : Int32) (v3 : Int32) (v4 : Int32) (t0 : Int32) : Rs := q_ChipMapModel_run_153 kf28 M v1 t0 (v3 + 1) v4
def q_ChipMapModel_run_28  : Nat → Mm → Int32 → Int32 → Int32 → Int32 → Rs
  | 0, _, _, _, _, _ => none
  | n' + 1, M, v1, v2, v3, v4 => if 300 ≤ v4 then (if v2 < (M.1 0 59) then (some (M, (-2))) else (some (M, 0))) else (if v2 < (M.1 0 59) then (ix v2 40 <| lt' (M.1 42 (v2 : Int32).toNatClampNeg) fun x1 => if x1 = 3 then (some (M, 0)) else (if x1 = 2 then (if (((v1 : Int32) >>> ((v3 - v3 / 32 * 32) &&& 31)) &&& 1) = 1 then (ix v2 40 <| q_ChipMapModel_run_92 (q_ChipMapModel_run_28 n') M v1 v3 v4 (M.1 44 (v2 : Int32).toNatClampNeg)) else (q_ChipMapModel_run_92 (q_ChipMapModel_run_28 n') M v1 v3 v4 (v2 + 1))) else (cal (q_ChipMapModel_begin M) fun M2 r3 => if x1 = 0 then (ix v2 40 <| ix v2 40 <| cal (q_ChipMapModel_doPut M2 (M2.1 43 (v2 : Int32).toNatClampNeg) (M2.1 44 (v2 : Int32).toNatClampNeg)) fun M4 r5 => q_ChipMapModel_run_137 (q_ChipMapModel_run_28 n') M4 v1 v2 v3 v4) else (ix v2 40 <| cal (q_ChipMapModel_doFetch M2 (M2.1 43 (v2 : Int32).toNatClampNeg)) fun M4 r5 => q_ChipMapModel_run_137 (q_ChipMapModel_run_28 n') M4 v1 v2 v3 v4)))) else (some (M, 0)))
def q_ChipMapModel_run  (M : Mm) (a1 : Int32) : Rs := lt' (stI M 0 (upd (M.1 0) 0 0)) fun M1 => if (M1.1 0 27) = 0 then (some (M1, (-1))) else (if (M1.1 0 52) ≤ 0 then (q_ChipMapModel_run_28 4000 M1 a1 0 0 0) else (some (M1, (-1))))
set_option maxHeartbeats 4000000 in
set_option maxRecDepth 20000 in
theorem b_ChipMapModel_run_153 {p : Program} {l : Launch} {e : Env} {s s0 : State} {m : MethodId} {args : Array Value} {below : List Frame} {meth : Method} {c : Code} {D : va_G} {cI cZ cC cJ cA : ClassId} {P : Nat → Nat} {M' : Mm} {r' : Int32} {kf28 : Mm → Int32 → Int32 → Int32 → Int32 → Rs} (hx : p.tables.exec = Jvm.exec) (hb : c.code = cX1_run) (hml : c.maxLocals = 6) (hr : meth.sig.returnType = (some .int)) (hlk : meth.locks = false) (hgt : ∀ w ∈ GT, w.before args s = true) (hown : s.vm.findClass RX1 = some m.cls) (hK : va_K D vwCl [(cI, .int), (cZ, .boolean), (cC, .char), (cJ, .long), (cA, .array .int)] s) (hO : Old s0 s) (hAO : ∀ q, (aP P 51) q → s0.heap.size ≤ q) (kk28 : ∀ (M : Mm) (v1 : Int32) (v2 : Int32) (v3 : Int32) (v4 : Int32) (H : Heap) (locs : List Loc) (ls : Array Slot), lv_has ls 6 [(0, .ref (P 0)), (1, .int v1), (2, .int v2), (3, .int v3), (4, .int v4)] → va_P D vwCl ((wY cI cZ cC cJ cA P) M) H → va_D (aP P 51) ((wY cI cZ cC cJ cA P) M) → va_S (aP P 51) s.heap H locs → kf28 M v1 v2 v3 v4 = some (M', r') → W p l e ({ frames := 7, cells := 0, slots := 0, locals := 161 }) s m args below meth c H locs 0 0 (MQ below (gQi D (aP P 51) ((wY cI cZ cC cJ cA P) M') r') args s 0 0 (aP P 51)) (F0 m 28 ls [])) : ∀ (M : Mm) (v1 : Int32) (v2 : Int32) (v3 : Int32) (v4 : Int32) (H : Heap) (locs : List Loc) (ls : Array Slot), lv_has ls 6 [(0, .ref (P 0)), (1, .int v1), (2, .int v2), (3, .int v3), (4, .int v4)] → va_P D vwCl ((wY cI cZ cC cJ cA P) M) H → va_D (aP P 51) ((wY cI cZ cC cJ cA P) M) → va_S (aP P 51) s.heap H locs → q_ChipMapModel_run_153 kf28 M v1 v2 v3 v4 = some (M', r') → W p l e ({ frames := 7, cells := 0, slots := 0, locals := 161 }) s m args below meth c H locs 0 0 (MQ below (gQi D (aP P 51) ((wY cI cZ cC cJ cA P) M') r') args s 0 0 (aP P 51)) (F0 m 153 ls []) := by
  intro M v1 v2 v3 v4 H locs ls hl hP hD hS h
  unfold q_ChipMapModel_run_153 at h
  refine lv_iinc (v := (v4 + 1)) hx hb dX1_run_153 hl (k := 4) rfl rfl (Nat.le_of_ble_eq_true rfl) (lv' := [(4, .int (v4 + 1)), (0, .ref (P 0)), (1, .int v1), (2, .int v2), (3, .int v3)]) rfl (fun ls hl => ?_)
  refine lv_goto hx hb dX1_run_156 (tgt := 28) rfl ?_
  have hl := lv_sub hl [1, 2, 3, 4, 0] (l' := [(0, .ref (P 0)), (1, .int v1), (2, .int v2), (3, .int v3), (4, .int (v4 + 1))]) rfl
  exact kk28 M v1 v2 v3 (v4 + 1) H locs ls hl hP hD hS h
set_option maxHeartbeats 4000000 in
set_option maxRecDepth 20000 in
theorem b_ChipMapModel_run_137 {p : Program} {l : Launch} {e : Env} {s s0 : State} {m : MethodId} {args : Array Value} {below : List Frame} {meth : Method} {c : Code} {D : va_G} {cI cZ cC cJ cA : ClassId} {P : Nat → Nat} {M' : Mm} {r' : Int32} {kf28 : Mm → Int32 → Int32 → Int32 → Int32 → Rs} (hx : p.tables.exec = Jvm.exec) (hb : c.code = cX1_run) (hml : c.maxLocals = 6) (hr : meth.sig.returnType = (some .int)) (hlk : meth.locks = false) (hgt : ∀ w ∈ GT, w.before args s = true) (hown : s.vm.findClass RX1 = some m.cls) (hK : va_K D vwCl [(cI, .int), (cZ, .boolean), (cC, .char), (cJ, .long), (cA, .array .int)] s) (hO : Old s0 s) (hAO : ∀ q, (aP P 51) q → s0.heap.size ≤ q) (kk28 : ∀ (M : Mm) (v1 : Int32) (v2 : Int32) (v3 : Int32) (v4 : Int32) (H : Heap) (locs : List Loc) (ls : Array Slot), lv_has ls 6 [(0, .ref (P 0)), (1, .int v1), (2, .int v2), (3, .int v3), (4, .int v4)] → va_P D vwCl ((wY cI cZ cC cJ cA P) M) H → va_D (aP P 51) ((wY cI cZ cC cJ cA P) M) → va_S (aP P 51) s.heap H locs → kf28 M v1 v2 v3 v4 = some (M', r') → W p l e ({ frames := 7, cells := 0, slots := 0, locals := 161 }) s m args below meth c H locs 0 0 (MQ below (gQi D (aP P 51) ((wY cI cZ cC cJ cA P) M') r') args s 0 0 (aP P 51)) (F0 m 28 ls [])) : ∀ (M : Mm) (v1 : Int32) (v2 : Int32) (v3 : Int32) (v4 : Int32) (H : Heap) (locs : List Loc) (ls : Array Slot), lv_has ls 6 [(0, .ref (P 0)), (1, .int v1), (2, .int v2), (3, .int v3), (4, .int v4)] → va_P D vwCl ((wY cI cZ cC cJ cA P) M) H → va_D (aP P 51) ((wY cI cZ cC cJ cA P) M) → va_S (aP P 51) s.heap H locs → q_ChipMapModel_run_137 kf28 M v1 v2 v3 v4 = some (M', r') → W p l e ({ frames := 7, cells := 0, slots := 0, locals := 161 }) s m args below meth c H locs 0 0 (MQ below (gQi D (aP P 51) ((wY cI cZ cC cJ cA P) M') r') args s 0 0 (aP P 51)) (F0 m 137 ls []) := by
  intro M v1 v2 v3 v4 H locs ls hl hP hD hS h
  unfold q_ChipMapModel_run_137 at h
  refine lv_aload_n hx hb dX1_run_137 rfl (lv_at hl 0 rfl) ?_
  obtain ⟨M1, r2, hq, h⟩ := cal_o h
  refine cx_i (va_runV (As := []) (rest := []) ⟨hx, hb, hml, hown, hgt⟩ (z_ChipMapModel_end l D cI cZ cC cJ cA P s0 hAO M M1 r2 hq) (cwV 0 hgt (gV wd_6_158 wd_6_160 sl__ChipMapModel____ChipMapModel___end_____I_____ChipMapModel___end_____I__ wd_0_15 wd_6_161) rfl rfl rfl (by decide +kernel) ⟨Nat.le_of_ble_eq_true rfl, Nat.le_of_ble_eq_true rfl⟩) (prV hP hK hD hO hAO hS (va_recv hK hP (ci := 1) (q0 := 0) rfl gY_0)) rfl rfl hl.1 rfl (lv_room (Nat.le_of_ble_eq_true rfl)) dX1_run_138 ⟨Nat.le_of_ble_eq_true rfl, Nat.le_of_ble_eq_true rfl⟩) hS (fun H locs hP hD hS => ?_)
  refine lv_bipush (v := (-2)) hx hb dX1_run_141 (by decide) ?_
  refine lv_icmp_ne hx hb dX1_run_143 (tgt := 150) rfl (fun hc => ?_) (fun hc => ?_)
  · have h := br_F hc h
    refine lv_iinc (v := (v2 + 1)) hx hb dX1_run_150 hl (k := 2) rfl rfl (Nat.le_of_ble_eq_true rfl) (lv' := [(2, .int (v2 + 1)), (0, .ref (P 0)), (1, .int v1), (3, .int v3), (4, .int v4)]) rfl (fun ls hl => ?_)
    have hl := lv_sub hl [1, 2, 0, 3, 4] (l' := [(0, .ref (P 0)), (1, .int v1), (2, .int (v2 + 1)), (3, .int v3), (4, .int v4)]) rfl
    exact b_ChipMapModel_run_153 hx hb hml hr hlk hgt hown hK hO hAO kk28 M1 v1 (v2 + 1) v3 v4 H _ ls hl hP hD hS h
  · have h := br_T hc h
    refine lv_iload_n hx hb dX1_run_146 rfl (lv_at hl 2 rfl) ?_
    refine lv_iconst (v := 1) hx hb dX1_run_147 (by decide) ?_
    refine lv_iadd hx hb dX1_run_148 ?_
    exact rt_i (w := (wY cI cZ cC cJ cA P)) hx hb hr hlk hP hD hS h dX1_run_149
set_option maxHeartbeats 4000000 in
set_option maxRecDepth 20000 in
theorem b_ChipMapModel_run_92 {p : Program} {l : Launch} {e : Env} {s s0 : State} {m : MethodId} {args : Array Value} {below : List Frame} {meth : Method} {c : Code} {D : va_G} {cI cZ cC cJ cA : ClassId} {P : Nat → Nat} {M' : Mm} {r' : Int32} {kf28 : Mm → Int32 → Int32 → Int32 → Int32 → Rs} (hx : p.tables.exec = Jvm.exec) (hb : c.code = cX1_run) (hml : c.maxLocals = 6) (hr : meth.sig.returnType = (some .int)) (hlk : meth.locks = false) (hgt : ∀ w ∈ GT, w.before args s = true) (hown : s.vm.findClass RX1 = some m.cls) (hK : va_K D vwCl [(cI, .int), (cZ, .boolean), (cC, .char), (cJ, .long), (cA, .array .int)] s) (hO : Old s0 s) (hAO : ∀ q, (aP P 51) q → s0.heap.size ≤ q) (kk28 : ∀ (M : Mm) (v1 : Int32) (v2 : Int32) (v3 : Int32) (v4 : Int32) (H : Heap) (locs : List Loc) (ls : Array Slot), lv_has ls 6 [(0, .ref (P 0)), (1, .int v1), (2, .int v2), (3, .int v3), (4, .int v4)] → va_P D vwCl ((wY cI cZ cC cJ cA P) M) H → va_D (aP P 51) ((wY cI cZ cC cJ cA P) M) → va_S (aP P 51) s.heap H locs → kf28 M v1 v2 v3 v4 = some (M', r') → W p l e ({ frames := 7, cells := 0, slots := 0, locals := 161 }) s m args below meth c H locs 0 0 (MQ below (gQi D (aP P 51) ((wY cI cZ cC cJ cA P) M') r') args s 0 0 (aP P 51)) (F0 m 28 ls [])) : ∀ (M : Mm) (v1 : Int32) (v3 : Int32) (v4 : Int32) (t0 : Int32) (H : Heap) (locs : List Loc) (ls : Array Slot), lv_has ls 6 [(0, .ref (P 0)), (1, .int v1), (3, .int v3), (4, .int v4)] → va_P D vwCl ((wY cI cZ cC cJ cA P) M) H → va_D (aP P 51) ((wY cI cZ cC cJ cA P) M) → va_S (aP P 51) s.heap H locs → q_ChipMapModel_run_92 kf28 M v1 v3 v4 t0 = some (M', r') → W p l e ({ frames := 7, cells := 0, slots := 0, locals := 161 }) s m args below meth c H locs 0 0 (MQ below (gQi D (aP P 51) ((wY cI cZ cC cJ cA P) M') r') args s 0 0 (aP P 51)) (F0 m 92 ls [.int t0]) := by
  intro M v1 v3 v4 t0 H locs ls hl hP hD hS h
  unfold q_ChipMapModel_run_92 at h
  refine lv_istore_n hx hb dX1_run_92 rfl hl (Nat.le_of_ble_eq_true rfl) (lv' := [(2, .int t0), (0, .ref (P 0)), (1, .int v1), (3, .int v3), (4, .int v4)]) rfl (fun ls hl => ?_)
  refine lv_iinc (v := (v3 + 1)) hx hb dX1_run_93 hl (k := 3) rfl rfl (Nat.le_of_ble_eq_true rfl) (lv' := [(3, .int (v3 + 1)), (2, .int t0), (0, .ref (P 0)), (1, .int v1), (4, .int v4)]) rfl (fun ls hl => ?_)
  refine lv_goto hx hb dX1_run_96 (tgt := 153) rfl ?_
  have hl := lv_sub hl [2, 3, 1, 0, 4] (l' := [(0, .ref (P 0)), (1, .int v1), (2, .int t0), (3, .int (v3 + 1)), (4, .int v4)]) rfl
  exact b_ChipMapModel_run_153 hx hb hml hr hlk hgt hown hK hO hAO kk28 M v1 t0 (v3 + 1) v4 H _ ls hl hP hD hS h
set_option maxHeartbeats 4000000 in
set_option maxRecDepth 20000 in
theorem b_ChipMapModel_run_28 {p : Program} {l : Launch} {e : Env} {s s0 : State} {m : MethodId} {args : Array Value} {below : List Frame} {meth : Method} {c : Code} {D : va_G} {cI cZ cC cJ cA : ClassId} {P : Nat → Nat} {M' : Mm} {r' : Int32}  (hx : p.tables.exec = Jvm.exec) (hb : c.code = cX1_run) (hml : c.maxLocals = 6) (hr : meth.sig.returnType = (some .int)) (hlk : meth.locks = false) (hgt : ∀ w ∈ GT, w.before args s = true) (hown : s.vm.findClass RX1 = some m.cls) (hK : va_K D vwCl [(cI, .int), (cZ, .boolean), (cC, .char), (cJ, .long), (cA, .array .int)] s) (hO : Old s0 s) (hAO : ∀ q, (aP P 51) q → s0.heap.size ≤ q)  : ∀ (n' : Nat) (M : Mm) (v1 : Int32) (v2 : Int32) (v3 : Int32) (v4 : Int32) (H : Heap) (locs : List Loc) (ls : Array Slot), lv_has ls 6 [(0, .ref (P 0)), (1, .int v1), (2, .int v2), (3, .int v3), (4, .int v4)] → va_P D vwCl ((wY cI cZ cC cJ cA P) M) H → va_D (aP P 51) ((wY cI cZ cC cJ cA P) M) → va_S (aP P 51) s.heap H locs → q_ChipMapModel_run_28 n' M v1 v2 v3 v4 = some (M', r') → W p l e ({ frames := 7, cells := 0, slots := 0, locals := 161 }) s m args below meth c H locs 0 0 (MQ below (gQi D (aP P 51) ((wY cI cZ cC cJ cA P) M') r') args s 0 0 (aP P 51)) (F0 m 28 ls []) := by
  intro n'
  induction n' with
  | zero => exact fun _ _ _ _ _ _ _ _ _ _ _ _ h => (rs_n h).elim
  | succ n' ih =>
    intro M v1 v2 v3 v4 H locs ls hl hP hD hS h
    rw [q_ChipMapModel_run_28] at h
    refine lv_iload hx hb dX1_run_28 (lv_at hl 4 rfl) ?_
    refine lv_sipush (v := 300) hx hb dX1_run_30 (by decide) ?_
    refine lv_icmp_ge hx hb dX1_run_33 (tgt := 159) rfl (fun hc => ?_) (fun hc => ?_)
    · have h := br_T hc h
      refine lv_iload_n hx hb dX1_run_159 rfl (lv_at hl 2 rfl) ?_
      refine lv_aload_n hx hb dX1_run_160 rfl (lv_at hl 0 rfl) ?_
      refine va_get (D := D) (ci := 1) (v := .int (M.1 0 59)) (C := RX1) (T := TX1) (N := 76) hx hb hgt iwX1 hown hK hP 0 gY_0 rfl 59 (Nat.le_of_ble_eq_true rfl) (hgt _ wd_5_20) (fun _ h9 => h9) rfl dX1_run_161 ?_
      refine lv_icmp_lt hx hb dX1_run_164 (tgt := 171) rfl (fun hc => ?_) (fun hc => ?_)
      · have h := br_T hc h
        refine lv_bipush (v := (-2)) hx hb dX1_run_171 (by decide) ?_
        exact rt_i (w := (wY cI cZ cC cJ cA P)) hx hb hr hlk hP hD hS h dX1_run_173
      · have h := br_F hc h
        refine lv_iconst (v := 0) hx hb dX1_run_167 (by decide) ?_
        refine lv_goto hx hb dX1_run_168 (tgt := 173) rfl ?_
        exact rt_i (w := (wY cI cZ cC cJ cA P)) hx hb hr hlk hP hD hS h dX1_run_173
    · have h := br_F hc h
      refine lv_iload_n hx hb dX1_run_36 rfl (lv_at hl 2 rfl) ?_
      refine lv_aload_n hx hb dX1_run_37 rfl (lv_at hl 0 rfl) ?_
      refine va_get (D := D) (ci := 1) (v := .int (M.1 0 59)) (C := RX1) (T := TX1) (N := 76) hx hb hgt iwX1 hown hK hP 0 gY_0 rfl 59 (Nat.le_of_ble_eq_true rfl) (hgt _ wd_5_20) (fun _ h9 => h9) rfl dX1_run_38 ?_
      refine lv_icmp_lt hx hb dX1_run_41 (tgt := 46) rfl (fun hc => ?_) (fun hc => ?_)
      · have h := br_T hc h
        refine lv_aload_n hx hb dX1_run_46 rfl (lv_at hl 0 rfl) ?_
        refine va_get (D := D) (ci := 1) (v := .ref (P 42)) (C := RX1) (T := TX1) (N := 76) hx hb hgt iwX1 hown hK hP 0 gY_0 rfl 60 (Nat.le_of_ble_eq_true rfl) (hgt _ wd_5_21) (fun _ h9 => h9) rfl dX1_run_47 ?_
        refine lv_iload_n hx hb dX1_run_50 rfl (lv_at hl 2 rfl) ?_
        refine va_iald hx hb hK hP 42 0 gY_42 rfl (ix_l h) dX1_run_51 ?_
        have h := ix_r h
        refine lv_topi (fun x1 ex1 => ?_)
        have h := lt_o ex1 h
        refine lv_istore hx hb dX1_run_52 hl (Nat.le_of_ble_eq_true rfl) (lv' := [(5, .int x1), (0, .ref (P 0)), (1, .int v1), (2, .int v2), (3, .int v3), (4, .int v4)]) rfl (fun ls hl => ?_)
        refine lv_iload hx hb dX1_run_54 (lv_at hl 0 rfl) ?_
        refine lv_iconst (v := 3) hx hb dX1_run_56 (by decide) ?_
        refine lv_icmp_ne hx hb dX1_run_57 (tgt := 62) rfl (fun hc => ?_) (fun hc => ?_)
        · have h := br_F hc h
          refine lv_iload hx hb dX1_run_62 (lv_at hl 0 rfl) ?_
          refine lv_iconst (v := 2) hx hb dX1_run_64 (by decide) ?_
          refine lv_icmp_ne hx hb dX1_run_65 (tgt := 99) rfl (fun hc => ?_) (fun hc => ?_)
          · have h := br_F hc h
            refine lv_aload_n hx hb dX1_run_99 rfl (lv_at hl 1 rfl) ?_
            obtain ⟨M2, r3, hq, h⟩ := cal_o h
            refine cx_v (va_runV (As := []) (rest := []) ⟨hx, hb, hml, hown, hgt⟩ (z_ChipMapModel_begin l D cI cZ cC cJ cA P s0 hAO M M2 r3 hq) (cwV 0 hgt (gV wd_6_130 wd_6_132 sl__ChipMapModel____ChipMapModel___begin_____V_____ChipMapModel___begin_____V__ wd_0_15 wd_6_133) rfl rfl rfl (by decide +kernel) ⟨Nat.le_of_ble_eq_true rfl, Nat.le_of_ble_eq_true rfl⟩) (prV hP hK hD hO hAO hS (va_recv hK hP (ci := 1) (q0 := 0) rfl gY_0)) rfl rfl hl.1 rfl (lv_room (Nat.le_of_ble_eq_true rfl)) dX1_run_100 ⟨Nat.le_of_ble_eq_true rfl, Nat.le_of_ble_eq_true rfl⟩) hS (fun H locs hP hD hS => ?_)
            refine lv_iload hx hb dX1_run_103 (lv_at hl 0 rfl) ?_
            refine lv_if_ne hx hb dX1_run_105 (tgt := 127) rfl (fun hc => ?_) (fun hc => ?_)
            · have h := br_F hc h
              refine lv_aload_n hx hb dX1_run_127 rfl (lv_at hl 1 rfl) ?_
              refine lv_aload_n hx hb dX1_run_128 rfl (lv_at hl 1 rfl) ?_
              refine va_get (D := D) (ci := 1) (v := .ref (P 43)) (C := RX1) (T := TX1) (N := 76) hx hb hgt iwX1 hown hK hP 0 gY_0 rfl 61 (Nat.le_of_ble_eq_true rfl) (hgt _ wd_5_22) (fun _ h9 => h9) rfl dX1_run_129 ?_
              refine lv_iload_n hx hb dX1_run_132 rfl (lv_at hl 3 rfl) ?_
              refine va_iald hx hb hK hP 43 0 gY_43 rfl (ix_l h) dX1_run_133 ?_
              have h := ix_r h
              obtain ⟨M4, r5, hq, h⟩ := cal_o h
              refine cx_v (va_runV (As := [.int (M2.1 43 (v2 : Int32).toNatClampNeg)]) (rest := []) ⟨hx, hb, hml, hown, hgt⟩ (z_ChipMapModel_doFetch l D cI cZ cC cJ cA P s0 hAO M2 (M2.1 43 (v2 : Int32).toNatClampNeg) M4 r5 hq) (cwV 1 hgt (gV wd_6_170 wd_6_172 sl__ChipMapModel____ChipMapModel___doFetch____I_V_____ChipMapModel___doFetch____I_V__ wd_0_15 wd_6_173) rfl rfl rfl (by decide +kernel) ⟨Nat.le_of_ble_eq_true rfl, Nat.le_of_ble_eq_true rfl⟩) (prV hP hK hD hO hAO hS (va_recv hK hP (ci := 1) (q0 := 0) rfl gY_0)) rfl rfl hl.1 rfl (lv_room (Nat.le_of_ble_eq_true rfl)) dX1_run_134 ⟨Nat.le_of_ble_eq_true rfl, Nat.le_of_ble_eq_true rfl⟩) hS (fun H locs hP hD hS => ?_)
              have hl := lv_sub hl [1, 2, 3, 4, 5] (l' := [(0, .ref (P 0)), (1, .int v1), (2, .int v2), (3, .int v3), (4, .int v4)]) rfl
              exact b_ChipMapModel_run_137 hx hb hml hr hlk hgt hown hK hO hAO ih M4 v1 v2 v3 v4 H _ ls hl hP hD hS h
            · have h := br_T hc h
              refine lv_aload_n hx hb dX1_run_108 rfl (lv_at hl 1 rfl) ?_
              refine lv_aload_n hx hb dX1_run_109 rfl (lv_at hl 1 rfl) ?_
              refine va_get (D := D) (ci := 1) (v := .ref (P 43)) (C := RX1) (T := TX1) (N := 76) hx hb hgt iwX1 hown hK hP 0 gY_0 rfl 61 (Nat.le_of_ble_eq_true rfl) (hgt _ wd_5_22) (fun _ h9 => h9) rfl dX1_run_110 ?_
              refine lv_iload_n hx hb dX1_run_113 rfl (lv_at hl 3 rfl) ?_
              refine va_iald hx hb hK hP 43 0 gY_43 rfl (ix_l h) dX1_run_114 ?_
              have h := ix_r h
              refine lv_aload_n hx hb dX1_run_115 rfl (lv_at hl 1 rfl) ?_
              refine va_get (D := D) (ci := 1) (v := .ref (P 44)) (C := RX1) (T := TX1) (N := 76) hx hb hgt iwX1 hown hK hP 0 gY_0 rfl 62 (Nat.le_of_ble_eq_true rfl) (hgt _ wd_5_23) (fun _ h9 => h9) rfl dX1_run_116 ?_
              refine lv_iload_n hx hb dX1_run_119 rfl (lv_at hl 3 rfl) ?_
              refine va_iald hx hb hK hP 44 0 gY_44 rfl (ix_l h) dX1_run_120 ?_
              have h := ix_r h
              obtain ⟨M4, r5, hq, h⟩ := cal_o h
              refine cx_v (va_runV (As := [.int (M2.1 43 (v2 : Int32).toNatClampNeg), .int (M2.1 44 (v2 : Int32).toNatClampNeg)]) (rest := []) ⟨hx, hb, hml, hown, hgt⟩ (z_ChipMapModel_doPut l D cI cZ cC cJ cA P s0 hAO M2 (M2.1 43 (v2 : Int32).toNatClampNeg) (M2.1 44 (v2 : Int32).toNatClampNeg) M4 r5 hq) (cwV 2 hgt (gV wd_6_138 wd_6_140 sl__ChipMapModel____ChipMapModel___doPut____II_V_____ChipMapModel___doPut____II_V__ wd_0_15 wd_6_141) rfl rfl rfl (by decide +kernel) ⟨Nat.le_of_ble_eq_true rfl, Nat.le_of_ble_eq_true rfl⟩) (prV hP hK hD hO hAO hS (va_recv hK hP (ci := 1) (q0 := 0) rfl gY_0)) rfl rfl hl.1 rfl (lv_room (Nat.le_of_ble_eq_true rfl)) dX1_run_121 ⟨Nat.le_of_ble_eq_true rfl, Nat.le_of_ble_eq_true rfl⟩) hS (fun H locs hP hD hS => ?_)
              refine lv_goto hx hb dX1_run_124 (tgt := 137) rfl ?_
              have hl := lv_sub hl [1, 2, 3, 4, 5] (l' := [(0, .ref (P 0)), (1, .int v1), (2, .int v2), (3, .int v3), (4, .int v4)]) rfl
              exact b_ChipMapModel_run_137 hx hb hml hr hlk hgt hown hK hO hAO ih M4 v1 v2 v3 v4 H _ ls hl hP hD hS h
          · have h := br_T hc h
            refine lv_iload_n hx hb dX1_run_68 rfl (lv_at hl 2 rfl) ?_
            refine lv_iload_n hx hb dX1_run_69 rfl (lv_at hl 4 rfl) ?_
            refine lv_bipush (v := 32) hx hb dX1_run_70 (by decide) ?_
            refine lv_irem hx hb dX1_run_72 (by decide) ?_
            refine lv_ishr hx hb dX1_run_73 ?_
            refine lv_iconst (v := 1) hx hb dX1_run_74 (by decide) ?_
            refine lv_iand hx hb dX1_run_75 ?_
            refine lv_iconst (v := 1) hx hb dX1_run_76 (by decide) ?_
            refine lv_icmp_ne hx hb dX1_run_77 (tgt := 89) rfl (fun hc => ?_) (fun hc => ?_)
            · have h := br_F hc h
              refine lv_iload_n hx hb dX1_run_89 rfl (lv_at hl 3 rfl) ?_
              refine lv_iconst (v := 1) hx hb dX1_run_90 (by decide) ?_
              refine lv_iadd hx hb dX1_run_91 ?_
              have hl := lv_sub hl [1, 2, 4, 5] (l' := [(0, .ref (P 0)), (1, .int v1), (3, .int v3), (4, .int v4)]) rfl
              exact b_ChipMapModel_run_92 hx hb hml hr hlk hgt hown hK hO hAO ih M v1 v3 v4 (v2 + 1) H _ ls hl hP hD hS h
            · have h := br_T hc h
              refine lv_aload_n hx hb dX1_run_80 rfl (lv_at hl 1 rfl) ?_
              refine va_get (D := D) (ci := 1) (v := .ref (P 44)) (C := RX1) (T := TX1) (N := 76) hx hb hgt iwX1 hown hK hP 0 gY_0 rfl 62 (Nat.le_of_ble_eq_true rfl) (hgt _ wd_5_23) (fun _ h9 => h9) rfl dX1_run_81 ?_
              refine lv_iload_n hx hb dX1_run_84 rfl (lv_at hl 3 rfl) ?_
              refine va_iald hx hb hK hP 44 0 gY_44 rfl (ix_l h) dX1_run_85 ?_
              have h := ix_r h
              refine lv_goto hx hb dX1_run_86 (tgt := 92) rfl ?_
              have hl := lv_sub hl [1, 2, 4, 5] (l' := [(0, .ref (P 0)), (1, .int v1), (3, .int v3), (4, .int v4)]) rfl
              exact b_ChipMapModel_run_92 hx hb hml hr hlk hgt hown hK hO hAO ih M v1 v3 v4 (M.1 44 (v2 : Int32).toNatClampNeg) H _ ls hl hP hD hS h
        · have h := br_T hc h
          refine lv_iconst (v := 0) hx hb dX1_run_60 (by decide) ?_
          exact rt_i (w := (wY cI cZ cC cJ cA P)) hx hb hr hlk hP hD hS h dX1_run_61
      · have h := br_F hc h
        refine lv_iconst (v := 0) hx hb dX1_run_44 (by decide) ?_
        exact rt_i (w := (wY cI cZ cC cJ cA P)) hx hb hr hlk hP hD hS h dX1_run_45
set_option maxHeartbeats 4000000 in
set_option maxRecDepth 20000 in
theorem b_ChipMapModel_run_0 {p : Program} {l : Launch} {e : Env} {s s0 : State} {m : MethodId} {args : Array Value} {below : List Frame} {meth : Method} {c : Code} {D : va_G} {cI cZ cC cJ cA : ClassId} {P : Nat → Nat} {M' : Mm} {r' : Int32}  (hx : p.tables.exec = Jvm.exec) (hb : c.code = cX1_run) (hml : c.maxLocals = 6) (hr : meth.sig.returnType = (some .int)) (hlk : meth.locks = false) (hgt : ∀ w ∈ GT, w.before args s = true) (hown : s.vm.findClass RX1 = some m.cls) (hK : va_K D vwCl [(cI, .int), (cZ, .boolean), (cC, .char), (cJ, .long), (cA, .array .int)] s) (hO : Old s0 s) (hAO : ∀ q, (aP P 51) q → s0.heap.size ≤ q)  : ∀ (M : Mm) (a1 : Int32) (H : Heap) (locs : List Loc) (ls : Array Slot), lv_has ls 6 [(0, .ref (P 0)), (1, .int a1)] → va_P D vwCl ((wY cI cZ cC cJ cA P) M) H → va_D (aP P 51) ((wY cI cZ cC cJ cA P) M) → va_S (aP P 51) s.heap H locs → q_ChipMapModel_run M a1 = some (M', r') → W p l e ({ frames := 7, cells := 0, slots := 0, locals := 161 }) s m args below meth c H locs 0 0 (MQ below (gQi D (aP P 51) ((wY cI cZ cC cJ cA P) M') r') args s 0 0 (aP P 51)) (F0 m 0 ls []) := by
  intro M a1 H locs ls hl hP hD hS h
  unfold q_ChipMapModel_run at h
  refine lv_aload_n hx hb dX1_run_0 rfl (lv_at hl 0 rfl) ?_
  refine lv_iconst (v := 0) hx hb dX1_run_1 (by decide) ?_
  refine pm_put (w := (wY cI cZ cC cJ cA P)) (D := D) (ci := 1) (x := 0) (ty := .int) (C := RX1) (T := TX1) (N := 76) hx hb hgt iwX1 tyX1 tyX1_ok nmX1 hown hK hP hD hS 0 gY_0 rfl 0 (Nat.le_of_ble_eq_true rfl) (hgt _ wd_4_201) (fun _ h9 => h9) rfl (by decide +kernel) rfl rfl (Nat.le_of_ble_eq_true rfl) (sY_0_0 _) dX1_run_2 (fun M1 eM1 H locs hP hD hS => ?_)
  have h := lt_o eM1 h
  refine lv_aload_n hx hb dX1_run_5 rfl (lv_at hl 0 rfl) ?_
  refine va_get (D := D) (ci := 1) (v := .int (M1.1 0 27)) (C := RX1) (T := TX1) (N := 76) hx hb hgt iwX1 hown hK hP 0 gY_0 rfl 27 (Nat.le_of_ble_eq_true rfl) (hgt _ wd_4_228) (fun _ h9 => h9) rfl dX1_run_6 ?_
  refine lv_if_eq hx hb dX1_run_9 (tgt := 19) rfl (fun hc => ?_) (fun hc => ?_)
  · have h := br_T hc h
    refine lv_iconst (v := (-1)) hx hb dX1_run_19 (by decide) ?_
    exact rt_i (w := (wY cI cZ cC cJ cA P)) hx hb hr hlk hP hD hS h dX1_run_20
  · have h := br_F hc h
    refine lv_aload_n hx hb dX1_run_12 rfl (lv_at hl 0 rfl) ?_
    refine va_get (D := D) (ci := 1) (v := .int (M1.1 0 52)) (C := RX1) (T := TX1) (N := 76) hx hb hgt iwX1 hown hK hP 0 gY_0 rfl 52 (Nat.le_of_ble_eq_true rfl) (hgt _ wd_5_13) (fun _ h9 => h9) rfl dX1_run_13 ?_
    refine lv_if_le hx hb dX1_run_16 (tgt := 21) rfl (fun hc => ?_) (fun hc => ?_)
    · have h := br_T hc h
      refine lv_iconst (v := 0) hx hb dX1_run_21 (by decide) ?_
      refine lv_istore_n hx hb dX1_run_22 rfl hl (Nat.le_of_ble_eq_true rfl) (lv' := [(2, .int 0), (0, .ref (P 0)), (1, .int a1)]) rfl (fun ls hl => ?_)
      refine lv_iconst (v := 0) hx hb dX1_run_23 (by decide) ?_
      refine lv_istore_n hx hb dX1_run_24 rfl hl (Nat.le_of_ble_eq_true rfl) (lv' := [(3, .int 0), (2, .int 0), (0, .ref (P 0)), (1, .int a1)]) rfl (fun ls hl => ?_)
      refine lv_iconst (v := 0) hx hb dX1_run_25 (by decide) ?_
      refine lv_istore hx hb dX1_run_26 hl (Nat.le_of_ble_eq_true rfl) (lv' := [(4, .int 0), (3, .int 0), (2, .int 0), (0, .ref (P 0)), (1, .int a1)]) rfl (fun ls hl => ?_)
      have hl := lv_sub hl [3, 4, 2, 1, 0] (l' := [(0, .ref (P 0)), (1, .int a1), (2, .int 0), (3, .int 0), (4, .int 0)]) rfl
      exact b_ChipMapModel_run_28 hx hb hml hr hlk hgt hown hK hO hAO 4000 M1 a1 0 0 0 H _ ls hl hP hD hS h
    · have h := br_F hc h
      refine lv_iconst (v := (-1)) hx hb dX1_run_19 (by decide) ?_
      exact rt_i (w := (wY cI cZ cC cJ cA P)) hx hb hr hlk hP hD hS h dX1_run_20
set_option maxHeartbeats 4000000 in
set_option maxRecDepth 20000 in
theorem z_ChipMapModel_run (l : Launch) (D : va_G) (cI cZ cC cJ cA : ClassId) (P : Nat → Nat) (s0 : State) (hAO : ∀ q, (aP P 51) q → s0.heap.size ≤ q) (M : Mm) (a1 : Int32) (M' : Mm) (r' : Int32) (h : q_ChipMapModel_run M a1 = some (M', r')) : Met l yX1_run wsX1_run ({ frames := 7, cells := 0, slots := 0, locals := 161 }) (va_Pc [.ref (P 0), .int a1] (gPre s0 D [(cI, .int), (cZ, .boolean), (cC, .char), (cJ, .long), (cA, .array .int)] (aP P 51) ((wY cI cZ cC cJ cA P) M))) (gQi D (aP P 51) ((wY cI cZ cC cJ cA P) M') r') 0 0 (aP P 51) := by
  refine Met.ofW (cc := cX1_run) (maxL := 6) (ret := (some .int)) (by decide) rfl ?_
  intro p e s m args below meth c s₁ B hml hv
  obtain ⟨rfl, hP, hK, hD, hO⟩ := hv
  have hx := B.exec
  have hb := B.bytes
  have hr := B.returns
  have hlk := B.notSynchronized
  have hgt := fun w (h : w ∈ GT) => atoms_spec (ws := wsX1_run) B.pre w (List.mem_cons_of_mem _ h)
  have hown : s.vm.findClass RX1 = some m.cls := findClass_of_methodNamed B.named
  have hS : va_S (aP P 51) s.heap s.heap [] := va_S.rf
  have hl := lv_entry ([.ref (P 0), .int a1]) (n := 6) (Nat.le_of_ble_eq_true rfl)
  rw [lg_entry_eq]
  generalize (lg_sl ([.ref (P 0), .int a1]) ++ List.replicate (6 - (lg_sl ([.ref (P 0), .int a1])).length) Slot.unset).toArray = ls at hl ⊢
  have hl : lv_has ls 6 [(0, .ref (P 0)), (1, .int a1)] := hl
  exact b_ChipMapModel_run_0 hx hb hml hr hlk hgt hown hK hO hAO M a1 s.heap [] ls hl hP hD hS h
def q_ChipMapModel_state  (M : Mm) (a1 : Int32) : Rs := lt' (stI M 0 (upd (M.1 0) 0 0)) fun M1 => if a1 = 0 then (some (M1, (M1.1 0 47))) else (if a1 = 1 then (some (M1, (M1.1 0 48))) else (if a1 = 2 then (some (M1, (M1.1 0 52))) else (if a1 = 3 then (some (M1, (M1.1 0 59))) else (if a1 = 4 then (some (M1, (M1.1 0 38))) else (some (M1, (-1)))))))
set_option maxHeartbeats 4000000 in
set_option maxRecDepth 20000 in
theorem b_ChipMapModel_state_0 {p : Program} {l : Launch} {e : Env} {s s0 : State} {m : MethodId} {args : Array Value} {below : List Frame} {meth : Method} {c : Code} {D : va_G} {cI cZ cC cJ cA : ClassId} {P : Nat → Nat} {M' : Mm} {r' : Int32}  (hx : p.tables.exec = Jvm.exec) (hb : c.code = cX1_state) (hml : c.maxLocals = 2) (hr : meth.sig.returnType = (some .int)) (hlk : meth.locks = false) (hgt : ∀ w ∈ GT, w.before args s = true) (hown : s.vm.findClass RX1 = some m.cls) (hK : va_K D vwCl [(cI, .int), (cZ, .boolean), (cC, .char), (cJ, .long), (cA, .array .int)] s) (hO : Old s0 s) (hAO : ∀ q, (aP P 51) q → s0.heap.size ≤ q)  : ∀ (M : Mm) (a1 : Int32) (H : Heap) (locs : List Loc) (ls : Array Slot), lv_has ls 2 [(0, .ref (P 0)), (1, .int a1)] → va_P D vwCl ((wY cI cZ cC cJ cA P) M) H → va_D (aP P 51) ((wY cI cZ cC cJ cA P) M) → va_S (aP P 51) s.heap H locs → q_ChipMapModel_state M a1 = some (M', r') → W p l e ({ frames := 0, cells := 0, slots := 0, locals := 0 }) s m args below meth c H locs 0 0 (MQ below (gQi D (aP P 51) ((wY cI cZ cC cJ cA P) M') r') args s 0 0 (aP P 51)) (F0 m 0 ls []) := by
  intro M a1 H locs ls hl hP hD hS h
  unfold q_ChipMapModel_state at h
  refine lv_aload_n hx hb dX1_state_0 rfl (lv_at hl 0 rfl) ?_
  refine lv_iconst (v := 0) hx hb dX1_state_1 (by decide) ?_
  refine pm_put (w := (wY cI cZ cC cJ cA P)) (D := D) (ci := 1) (x := 0) (ty := .int) (C := RX1) (T := TX1) (N := 76) hx hb hgt iwX1 tyX1 tyX1_ok nmX1 hown hK hP hD hS 0 gY_0 rfl 0 (Nat.le_of_ble_eq_true rfl) (hgt _ wd_4_201) (fun _ h9 => h9) rfl (by decide +kernel) rfl rfl (Nat.le_of_ble_eq_true rfl) (sY_0_0 _) dX1_state_2 (fun M1 eM1 H locs hP hD hS => ?_)
  have h := lt_o eM1 h
  refine lv_iload_n hx hb dX1_state_5 rfl (lv_at hl 1 rfl) ?_
  refine lv_if_ne hx hb dX1_state_6 (tgt := 16) rfl (fun hc => ?_) (fun hc => ?_)
  · have h := br_F hc h
    refine lv_iload_n hx hb dX1_state_16 rfl (lv_at hl 1 rfl) ?_
    refine lv_iconst (v := 1) hx hb dX1_state_17 (by decide) ?_
    refine lv_icmp_ne hx hb dX1_state_18 (tgt := 28) rfl (fun hc => ?_) (fun hc => ?_)
    · have h := br_F hc h
      refine lv_iload_n hx hb dX1_state_28 rfl (lv_at hl 1 rfl) ?_
      refine lv_iconst (v := 2) hx hb dX1_state_29 (by decide) ?_
      refine lv_icmp_ne hx hb dX1_state_30 (tgt := 40) rfl (fun hc => ?_) (fun hc => ?_)
      · have h := br_F hc h
        refine lv_iload_n hx hb dX1_state_40 rfl (lv_at hl 1 rfl) ?_
        refine lv_iconst (v := 3) hx hb dX1_state_41 (by decide) ?_
        refine lv_icmp_ne hx hb dX1_state_42 (tgt := 52) rfl (fun hc => ?_) (fun hc => ?_)
        · have h := br_F hc h
          refine lv_iload_n hx hb dX1_state_52 rfl (lv_at hl 1 rfl) ?_
          refine lv_iconst (v := 4) hx hb dX1_state_53 (by decide) ?_
          refine lv_icmp_ne hx hb dX1_state_54 (tgt := 64) rfl (fun hc => ?_) (fun hc => ?_)
          · have h := br_F hc h
            refine lv_iconst (v := (-1)) hx hb dX1_state_64 (by decide) ?_
            exact rt_i (w := (wY cI cZ cC cJ cA P)) hx hb hr hlk hP hD hS h dX1_state_65
          · have h := br_T hc h
            refine lv_aload_n hx hb dX1_state_57 rfl (lv_at hl 0 rfl) ?_
            refine va_get (D := D) (ci := 1) (v := .int (M1.1 0 38)) (C := RX1) (T := TX1) (N := 76) hx hb hgt iwX1 hown hK hP 0 gY_0 rfl 38 (Nat.le_of_ble_eq_true rfl) (hgt _ wd_4_239) (fun _ h9 => h9) rfl dX1_state_58 ?_
            refine lv_goto hx hb dX1_state_61 (tgt := 65) rfl ?_
            exact rt_i (w := (wY cI cZ cC cJ cA P)) hx hb hr hlk hP hD hS h dX1_state_65
        · have h := br_T hc h
          refine lv_aload_n hx hb dX1_state_45 rfl (lv_at hl 0 rfl) ?_
          refine va_get (D := D) (ci := 1) (v := .int (M1.1 0 59)) (C := RX1) (T := TX1) (N := 76) hx hb hgt iwX1 hown hK hP 0 gY_0 rfl 59 (Nat.le_of_ble_eq_true rfl) (hgt _ wd_5_20) (fun _ h9 => h9) rfl dX1_state_46 ?_
          refine lv_goto hx hb dX1_state_49 (tgt := 65) rfl ?_
          exact rt_i (w := (wY cI cZ cC cJ cA P)) hx hb hr hlk hP hD hS h dX1_state_65
      · have h := br_T hc h
        refine lv_aload_n hx hb dX1_state_33 rfl (lv_at hl 0 rfl) ?_
        refine va_get (D := D) (ci := 1) (v := .int (M1.1 0 52)) (C := RX1) (T := TX1) (N := 76) hx hb hgt iwX1 hown hK hP 0 gY_0 rfl 52 (Nat.le_of_ble_eq_true rfl) (hgt _ wd_5_13) (fun _ h9 => h9) rfl dX1_state_34 ?_
        refine lv_goto hx hb dX1_state_37 (tgt := 65) rfl ?_
        exact rt_i (w := (wY cI cZ cC cJ cA P)) hx hb hr hlk hP hD hS h dX1_state_65
    · have h := br_T hc h
      refine lv_aload_n hx hb dX1_state_21 rfl (lv_at hl 0 rfl) ?_
      refine va_get (D := D) (ci := 1) (v := .int (M1.1 0 48)) (C := RX1) (T := TX1) (N := 76) hx hb hgt iwX1 hown hK hP 0 gY_0 rfl 48 (Nat.le_of_ble_eq_true rfl) (hgt _ wd_5_9) (fun _ h9 => h9) rfl dX1_state_22 ?_
      refine lv_goto hx hb dX1_state_25 (tgt := 65) rfl ?_
      exact rt_i (w := (wY cI cZ cC cJ cA P)) hx hb hr hlk hP hD hS h dX1_state_65
  · have h := br_T hc h
    refine lv_aload_n hx hb dX1_state_9 rfl (lv_at hl 0 rfl) ?_
    refine va_get (D := D) (ci := 1) (v := .int (M1.1 0 47)) (C := RX1) (T := TX1) (N := 76) hx hb hgt iwX1 hown hK hP 0 gY_0 rfl 47 (Nat.le_of_ble_eq_true rfl) (hgt _ wd_5_8) (fun _ h9 => h9) rfl dX1_state_10 ?_
    refine lv_goto hx hb dX1_state_13 (tgt := 65) rfl ?_
    exact rt_i (w := (wY cI cZ cC cJ cA P)) hx hb hr hlk hP hD hS h dX1_state_65
set_option maxHeartbeats 4000000 in
set_option maxRecDepth 20000 in
theorem z_ChipMapModel_state (l : Launch) (D : va_G) (cI cZ cC cJ cA : ClassId) (P : Nat → Nat) (s0 : State) (hAO : ∀ q, (aP P 51) q → s0.heap.size ≤ q) (M : Mm) (a1 : Int32) (M' : Mm) (r' : Int32) (h : q_ChipMapModel_state M a1 = some (M', r')) : Met l yX1_state wsX1_state ({ frames := 0, cells := 0, slots := 0, locals := 0 }) (va_Pc [.ref (P 0), .int a1] (gPre s0 D [(cI, .int), (cZ, .boolean), (cC, .char), (cJ, .long), (cA, .array .int)] (aP P 51) ((wY cI cZ cC cJ cA P) M))) (gQi D (aP P 51) ((wY cI cZ cC cJ cA P) M') r') 0 0 (aP P 51) := by
  refine Met.ofW (cc := cX1_state) (maxL := 2) (ret := (some .int)) (by decide) rfl ?_
  intro p e s m args below meth c s₁ B hml hv
  obtain ⟨rfl, hP, hK, hD, hO⟩ := hv
  have hx := B.exec
  have hb := B.bytes
  have hr := B.returns
  have hlk := B.notSynchronized
  have hgt := fun w (h : w ∈ GT) => atoms_spec (ws := wsX1_state) B.pre w (List.mem_cons_of_mem _ h)
  have hown : s.vm.findClass RX1 = some m.cls := findClass_of_methodNamed B.named
  have hS : va_S (aP P 51) s.heap s.heap [] := va_S.rf
  have hl := lv_entry ([.ref (P 0), .int a1]) (n := 2) (Nat.le_of_ble_eq_true rfl)
  rw [lg_entry_eq]
  generalize (lg_sl ([.ref (P 0), .int a1]) ++ List.replicate (2 - (lg_sl ([.ref (P 0), .int a1])).length) Slot.unset).toArray = ls at hl ⊢
  have hl : lv_has ls 2 [(0, .ref (P 0)), (1, .int a1)] := hl
  exact b_ChipMapModel_state_0 hx hb hml hr hlk hgt hown hK hO hAO M a1 s.heap [] ls hl hP hD hS h
