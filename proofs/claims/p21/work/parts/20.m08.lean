section
def q_ChipMapModel_busWrite_79 (kf48 : Mm → Int32 → Int32 → Int32 → Int32 → Rs) (M : Mm) (v3 : Int32) (v4 : Int32) (v5 : Int32) (v6 : Int32) (t0 : Int32) (t1 : Int32) : Rs := lt' (stI M 0 (upd (M.1 0) 48 (t1 + t0))) fun M1 => kf48 M1 v3 v4 v5 (v6 + 1)
def q_ChipMapModel_busWrite_48  : Nat → Mm → Int32 → Int32 → Int32 → Int32 → Rs
  | 0, _, _, _, _, _ => none
  | n' + 1, M, v3, v4, v5, v6 => if (M.1 0 38) ≤ v6 then (cal (q_ChipMapModel_write M v3 v4) fun M1 r2 => some (M1, (v5 + 1))) else (cal (q_ChipMapModel_breaks M v6 v3 v4) fun M1 r2 => if r2 = 0 then (q_ChipMapModel_busWrite_79 (q_ChipMapModel_busWrite_48 n') M1 v3 v4 v5 v6 0 (M.1 0 48)) else (q_ChipMapModel_busWrite_79 (q_ChipMapModel_busWrite_48 n') M1 v3 v4 v5 v6 1 (M.1 0 48)))
def q_ChipMapModel_busWrite_21  (M : Mm) (v2 : Int32) (t0 : Int32) : Rs := if t0 = (-1) then (some (M, (-1))) else (lt' (v2 &&& 65535) fun x1 => cal (q_ChipMapModel_firstBroken M t0 x1) fun M2 r3 => q_ChipMapModel_busWrite_48 4000 M2 t0 x1 r3 0)
def q_ChipMapModel_busWrite  (M : Mm) (a1 : Int32) (a2 : Int32) : Rs := lt' (stI M 0 (upd (M.1 0) 0 0)) fun M1 => if (M1.1 0 27) = 0 then (q_ChipMapModel_busWrite_21 M1 a2 (-1)) else (cal (q_ChipMapModel_registerAt M1 a1) fun M2 r3 => q_ChipMapModel_busWrite_21 M2 a2 r3)
set_option maxHeartbeats 4000000 in
set_option maxRecDepth 20000 in
theorem b_ChipMapModel_busWrite_79 {p : Program} {l : Launch} {e : Env} {s s0 : State} {m : MethodId} {args : Array Value} {below : List Frame} {meth : Method} {c : Code} {D : va_G} {cI cZ cC cJ cA : ClassId} {P : Nat → Nat} {M' : Mm} {r' : Int32} {kf48 : Mm → Int32 → Int32 → Int32 → Int32 → Rs} (hx : p.tables.exec = Jvm.exec) (hb : c.code = cX1_busWrite) (hml : c.maxLocals = 7) (hr : meth.sig.returnType = (some .int)) (hlk : meth.locks = false) (hgt : ∀ w ∈ GT, w.before args s = true) (hown : s.vm.findClass RX1 = some m.cls) (hK : va_K D vwCl [(cI, .int), (cZ, .boolean), (cC, .char), (cJ, .long), (cA, .array .int)] s) (hO : Old s0 s) (hAO : ∀ q, (aP P 51) q → s0.heap.size ≤ q) (kk48 : ∀ (M : Mm) (v3 : Int32) (v4 : Int32) (v5 : Int32) (v6 : Int32) (H : Heap) (locs : List Loc) (ls : Array Slot), lv_has ls 7 [(0, .ref (P 0)), (3, .int v3), (4, .int v4), (5, .int v5), (6, .int v6)] → va_P D vwCl ((wY cI cZ cC cJ cA P) M) H → va_D (aP P 51) ((wY cI cZ cC cJ cA P) M) → va_S (aP P 51) s.heap H locs → kf48 M v3 v4 v5 v6 = some (M', r') → W p l e ({ frames := 4, cells := 0, slots := 0, locals := 94 }) s m args below meth c H locs 0 0 (MQ below (gQi D (aP P 51) ((wY cI cZ cC cJ cA P) M') r') args s 0 0 (aP P 51)) (F0 m 48 ls [])) : ∀ (M : Mm) (v3 : Int32) (v4 : Int32) (v5 : Int32) (v6 : Int32) (t0 : Int32) (t1 : Int32) (H : Heap) (locs : List Loc) (ls : Array Slot), lv_has ls 7 [(0, .ref (P 0)), (3, .int v3), (4, .int v4), (5, .int v5), (6, .int v6)] → va_P D vwCl ((wY cI cZ cC cJ cA P) M) H → va_D (aP P 51) ((wY cI cZ cC cJ cA P) M) → va_S (aP P 51) s.heap H locs → q_ChipMapModel_busWrite_79 kf48 M v3 v4 v5 v6 t0 t1 = some (M', r') → W p l e ({ frames := 4, cells := 0, slots := 0, locals := 94 }) s m args below meth c H locs 0 0 (MQ below (gQi D (aP P 51) ((wY cI cZ cC cJ cA P) M') r') args s 0 0 (aP P 51)) (F0 m 79 ls [.int t0, .int t1, .ref (P 0)]) := by
  intro M v3 v4 v5 v6 t0 t1 H locs ls hl hP hD hS h
  unfold q_ChipMapModel_busWrite_79 at h
  refine lv_iadd hx hb dX1_busWrite_79 ?_
  refine pm_put (w := (wY cI cZ cC cJ cA P)) (D := D) (ci := 1) (x := (t1 + t0)) (ty := .int) (C := RX1) (T := TX1) (N := 76) hx hb hgt iwX1 tyX1 tyX1_ok nmX1 hown hK hP hD hS 0 gY_0 rfl 48 (Nat.le_of_ble_eq_true rfl) (hgt _ wd_5_9) (fun _ h9 => h9) rfl (by decide +kernel) rfl rfl (Nat.le_of_ble_eq_true rfl) (sY_0_48 _) dX1_busWrite_80 (fun M1 eM1 H locs hP hD hS => ?_)
  have h := lt_o eM1 h
  refine lv_iinc (v := (v6 + 1)) hx hb dX1_busWrite_83 hl (k := 4) rfl rfl (Nat.le_of_ble_eq_true rfl) (lv' := [(6, .int (v6 + 1)), (0, .ref (P 0)), (3, .int v3), (4, .int v4), (5, .int v5)]) rfl (fun ls hl => ?_)
  refine lv_goto hx hb dX1_busWrite_86 (tgt := 48) rfl ?_
  have hl := lv_sub hl [1, 2, 3, 4, 0] (l' := [(0, .ref (P 0)), (3, .int v3), (4, .int v4), (5, .int v5), (6, .int (v6 + 1))]) rfl
  exact kk48 M1 v3 v4 v5 (v6 + 1) H locs ls hl hP hD hS h
set_option maxHeartbeats 4000000 in
set_option maxRecDepth 20000 in
theorem b_ChipMapModel_busWrite_48 {p : Program} {l : Launch} {e : Env} {s s0 : State} {m : MethodId} {args : Array Value} {below : List Frame} {meth : Method} {c : Code} {D : va_G} {cI cZ cC cJ cA : ClassId} {P : Nat → Nat} {M' : Mm} {r' : Int32}  (hx : p.tables.exec = Jvm.exec) (hb : c.code = cX1_busWrite) (hml : c.maxLocals = 7) (hr : meth.sig.returnType = (some .int)) (hlk : meth.locks = false) (hgt : ∀ w ∈ GT, w.before args s = true) (hown : s.vm.findClass RX1 = some m.cls) (hK : va_K D vwCl [(cI, .int), (cZ, .boolean), (cC, .char), (cJ, .long), (cA, .array .int)] s) (hO : Old s0 s) (hAO : ∀ q, (aP P 51) q → s0.heap.size ≤ q)  : ∀ (n' : Nat) (M : Mm) (v3 : Int32) (v4 : Int32) (v5 : Int32) (v6 : Int32) (H : Heap) (locs : List Loc) (ls : Array Slot), lv_has ls 7 [(0, .ref (P 0)), (3, .int v3), (4, .int v4), (5, .int v5), (6, .int v6)] → va_P D vwCl ((wY cI cZ cC cJ cA P) M) H → va_D (aP P 51) ((wY cI cZ cC cJ cA P) M) → va_S (aP P 51) s.heap H locs → q_ChipMapModel_busWrite_48 n' M v3 v4 v5 v6 = some (M', r') → W p l e ({ frames := 4, cells := 0, slots := 0, locals := 94 }) s m args below meth c H locs 0 0 (MQ below (gQi D (aP P 51) ((wY cI cZ cC cJ cA P) M') r') args s 0 0 (aP P 51)) (F0 m 48 ls []) := by
  intro n'
  induction n' with
  | zero => exact fun _ _ _ _ _ _ _ _ _ _ _ _ h => (rs_n h).elim
  | succ n' ih =>
    intro M v3 v4 v5 v6 H locs ls hl hP hD hS h
    rw [q_ChipMapModel_busWrite_48] at h
    refine lv_iload hx hb dX1_busWrite_48 (lv_at hl 4 rfl) ?_
    refine lv_aload_n hx hb dX1_busWrite_50 rfl (lv_at hl 0 rfl) ?_
    refine va_get (D := D) (ci := 1) (v := .int (M.1 0 38)) (C := RX1) (T := TX1) (N := 76) hx hb hgt iwX1 hown hK hP 0 gY_0 rfl 38 (Nat.le_of_ble_eq_true rfl) (hgt _ wd_4_239) (fun _ h9 => h9) rfl dX1_busWrite_51 ?_
    refine lv_icmp_ge hx hb dX1_busWrite_54 (tgt := 89) rfl (fun hc => ?_) (fun hc => ?_)
    · have h := br_T hc h
      refine lv_aload_n hx hb dX1_busWrite_89 rfl (lv_at hl 0 rfl) ?_
      refine lv_iload_n hx hb dX1_busWrite_90 rfl (lv_at hl 1 rfl) ?_
      refine lv_iload hx hb dX1_busWrite_91 (lv_at hl 2 rfl) ?_
      obtain ⟨M1, r2, hq, h⟩ := cal_o h
      refine cx_v (va_runV (As := [.int v3, .int v4]) (rest := []) ⟨hx, hb, hml, hown, hgt⟩ (z_ChipMapModel_write l D cI cZ cC cJ cA P s0 hAO M v3 v4 M1 r2 hq) (cwV 2 hgt (gV wd_6_98 wd_6_100 sl__ChipMapModel____ChipMapModel___write____II_V_____ChipMapModel___write____II_V__ wd_0_15 wd_6_101) rfl rfl rfl (by decide +kernel) ⟨Nat.le_of_ble_eq_true rfl, Nat.le_of_ble_eq_true rfl⟩) (prV hP hK hD hO hAO hS (va_recv hK hP (ci := 1) (q0 := 0) rfl gY_0)) rfl rfl hl.1 rfl (lv_room (Nat.le_of_ble_eq_true rfl)) dX1_busWrite_93 ⟨Nat.le_of_ble_eq_true rfl, Nat.le_of_ble_eq_true rfl⟩) hS (fun H locs hP hD hS => ?_)
      refine lv_iload hx hb dX1_busWrite_96 (lv_at hl 3 rfl) ?_
      refine lv_iconst (v := 1) hx hb dX1_busWrite_98 (by decide) ?_
      refine lv_iadd hx hb dX1_busWrite_99 ?_
      exact rt_i (w := (wY cI cZ cC cJ cA P)) hx hb hr hlk hP hD hS h dX1_busWrite_100
    · have h := br_F hc h
      refine lv_aload_n hx hb dX1_busWrite_57 rfl (lv_at hl 0 rfl) ?_
      refine lv_dup hx hb dX1_busWrite_58 rfl ?_
      refine va_get (D := D) (ci := 1) (v := .int (M.1 0 48)) (C := RX1) (T := TX1) (N := 76) hx hb hgt iwX1 hown hK hP 0 gY_0 rfl 48 (Nat.le_of_ble_eq_true rfl) (hgt _ wd_5_9) (fun _ h9 => h9) rfl dX1_busWrite_59 ?_
      refine lv_aload_n hx hb dX1_busWrite_62 rfl (lv_at hl 0 rfl) ?_
      refine lv_iload hx hb dX1_busWrite_63 (lv_at hl 4 rfl) ?_
      refine lv_iload_n hx hb dX1_busWrite_65 rfl (lv_at hl 1 rfl) ?_
      refine lv_iload hx hb dX1_busWrite_66 (lv_at hl 2 rfl) ?_
      obtain ⟨M1, r2, hq, h⟩ := cal_o h
      refine cx_i (va_runV (As := [.int v6, .int v3, .int v4]) (rest := [.int (M.1 0 48), .ref (P 0)]) ⟨hx, hb, hml, hown, hgt⟩ (z_ChipMapModel_breaks l D cI cZ cC cJ cA P s0 hAO M v6 v3 v4 M1 r2 hq) (cwV 3 hgt (gV wd_6_78 wd_6_80 sl__ChipMapModel____ChipMapModel___breaks____III_Z_____ChipMapModel___breaks____III_Z__ wd_0_15 wd_6_81) rfl rfl rfl (by decide +kernel) ⟨Nat.le_of_ble_eq_true rfl, Nat.le_of_ble_eq_true rfl⟩) (prV hP hK hD hO hAO hS (va_recv hK hP (ci := 1) (q0 := 0) rfl gY_0)) rfl rfl hl.1 rfl (lv_room (Nat.le_of_ble_eq_true rfl)) dX1_busWrite_68 ⟨Nat.le_of_ble_eq_true rfl, Nat.le_of_ble_eq_true rfl⟩) hS (fun H locs hP hD hS => ?_)
      refine lv_if_eq hx hb dX1_busWrite_71 (tgt := 78) rfl (fun hc => ?_) (fun hc => ?_)
      · have h := br_T hc h
        refine lv_iconst (v := 0) hx hb dX1_busWrite_78 (by decide) ?_
        have hl := lv_sub hl [0, 1, 2, 3, 4] (l' := [(0, .ref (P 0)), (3, .int v3), (4, .int v4), (5, .int v5), (6, .int v6)]) rfl
        exact b_ChipMapModel_busWrite_79 hx hb hml hr hlk hgt hown hK hO hAO ih M1 v3 v4 v5 v6 0 (M.1 0 48) H _ ls hl hP hD hS h
      · have h := br_F hc h
        refine lv_iconst (v := 1) hx hb dX1_busWrite_74 (by decide) ?_
        refine lv_goto hx hb dX1_busWrite_75 (tgt := 79) rfl ?_
        have hl := lv_sub hl [0, 1, 2, 3, 4] (l' := [(0, .ref (P 0)), (3, .int v3), (4, .int v4), (5, .int v5), (6, .int v6)]) rfl
        exact b_ChipMapModel_busWrite_79 hx hb hml hr hlk hgt hown hK hO hAO ih M1 v3 v4 v5 v6 1 (M.1 0 48) H _ ls hl hP hD hS h
set_option maxHeartbeats 4000000 in
set_option maxRecDepth 20000 in
theorem b_ChipMapModel_busWrite_21 {p : Program} {l : Launch} {e : Env} {s s0 : State} {m : MethodId} {args : Array Value} {below : List Frame} {meth : Method} {c : Code} {D : va_G} {cI cZ cC cJ cA : ClassId} {P : Nat → Nat} {M' : Mm} {r' : Int32}  (hx : p.tables.exec = Jvm.exec) (hb : c.code = cX1_busWrite) (hml : c.maxLocals = 7) (hr : meth.sig.returnType = (some .int)) (hlk : meth.locks = false) (hgt : ∀ w ∈ GT, w.before args s = true) (hown : s.vm.findClass RX1 = some m.cls) (hK : va_K D vwCl [(cI, .int), (cZ, .boolean), (cC, .char), (cJ, .long), (cA, .array .int)] s) (hO : Old s0 s) (hAO : ∀ q, (aP P 51) q → s0.heap.size ≤ q)  : ∀ (M : Mm) (v2 : Int32) (t0 : Int32) (H : Heap) (locs : List Loc) (ls : Array Slot), lv_has ls 7 [(0, .ref (P 0)), (2, .int v2)] → va_P D vwCl ((wY cI cZ cC cJ cA P) M) H → va_D (aP P 51) ((wY cI cZ cC cJ cA P) M) → va_S (aP P 51) s.heap H locs → q_ChipMapModel_busWrite_21 M v2 t0 = some (M', r') → W p l e ({ frames := 4, cells := 0, slots := 0, locals := 94 }) s m args below meth c H locs 0 0 (MQ below (gQi D (aP P 51) ((wY cI cZ cC cJ cA P) M') r') args s 0 0 (aP P 51)) (F0 m 21 ls [.int t0]) := by
  intro M v2 t0 H locs ls hl hP hD hS h
  unfold q_ChipMapModel_busWrite_21 at h
  refine lv_istore_n hx hb dX1_busWrite_21 rfl hl (Nat.le_of_ble_eq_true rfl) (lv' := [(3, .int t0), (0, .ref (P 0)), (2, .int v2)]) rfl (fun ls hl => ?_)
  refine lv_iload_n hx hb dX1_busWrite_22 rfl (lv_at hl 0 rfl) ?_
  refine lv_iconst (v := (-1)) hx hb dX1_busWrite_23 (by decide) ?_
  refine lv_icmp_ne hx hb dX1_busWrite_24 (tgt := 29) rfl (fun hc => ?_) (fun hc => ?_)
  · have h := br_F hc h
    refine lv_iload_n hx hb dX1_busWrite_29 rfl (lv_at hl 2 rfl) ?_
    refine lv_ldcw (v := 65535) hx hb hown (hgt _ wd_6_73) dX1_busWrite_30 ?_
    refine lv_iand hx hb dX1_busWrite_33 ?_
    refine lv_topi (fun x1 ex1 => ?_)
    have h := lt_o ex1 h
    refine lv_istore hx hb dX1_busWrite_34 hl (Nat.le_of_ble_eq_true rfl) (lv' := [(4, .int x1), (3, .int t0), (0, .ref (P 0)), (2, .int v2)]) rfl (fun ls hl => ?_)
    refine lv_aload_n hx hb dX1_busWrite_36 rfl (lv_at hl 2 rfl) ?_
    refine lv_iload_n hx hb dX1_busWrite_37 rfl (lv_at hl 1 rfl) ?_
    refine lv_iload hx hb dX1_busWrite_38 (lv_at hl 0 rfl) ?_
    obtain ⟨M2, r3, hq, h⟩ := cal_o h
    refine cx_i (va_runV (As := [.int t0, .int x1]) (rest := []) ⟨hx, hb, hml, hown, hgt⟩ (z_ChipMapModel_firstBroken l D cI cZ cC cJ cA P s0 hAO M t0 x1 M2 r3 hq) (cwV 2 hgt (gV wd_6_74 wd_6_76 sl__ChipMapModel____ChipMapModel___firstBroken____II_I_____ChipMapModel___firstBroken____II_I__ wd_0_15 wd_6_77) rfl rfl rfl (by decide +kernel) ⟨Nat.le_of_ble_eq_true rfl, Nat.le_of_ble_eq_true rfl⟩) (prV hP hK hD hO hAO hS (va_recv hK hP (ci := 1) (q0 := 0) rfl gY_0)) rfl rfl hl.1 rfl (lv_room (Nat.le_of_ble_eq_true rfl)) dX1_busWrite_40 ⟨Nat.le_of_ble_eq_true rfl, Nat.le_of_ble_eq_true rfl⟩) hS (fun H locs hP hD hS => ?_)
    refine lv_istore hx hb dX1_busWrite_43 hl (Nat.le_of_ble_eq_true rfl) (lv' := [(5, .int r3), (4, .int x1), (3, .int t0), (0, .ref (P 0)), (2, .int v2)]) rfl (fun ls hl => ?_)
    refine lv_iconst (v := 0) hx hb dX1_busWrite_45 (by decide) ?_
    refine lv_istore hx hb dX1_busWrite_46 hl (Nat.le_of_ble_eq_true rfl) (lv' := [(6, .int 0), (5, .int r3), (4, .int x1), (3, .int t0), (0, .ref (P 0)), (2, .int v2)]) rfl (fun ls hl => ?_)
    have hl := lv_sub hl [4, 3, 2, 1, 0] (l' := [(0, .ref (P 0)), (3, .int t0), (4, .int x1), (5, .int r3), (6, .int 0)]) rfl
    exact b_ChipMapModel_busWrite_48 hx hb hml hr hlk hgt hown hK hO hAO 4000 M2 t0 x1 r3 0 H _ ls hl hP hD hS h
  · have h := br_T hc h
    refine lv_iconst (v := (-1)) hx hb dX1_busWrite_27 (by decide) ?_
    exact rt_i (w := (wY cI cZ cC cJ cA P)) hx hb hr hlk hP hD hS h dX1_busWrite_28
set_option maxHeartbeats 4000000 in
set_option maxRecDepth 20000 in
theorem b_ChipMapModel_busWrite_0 {p : Program} {l : Launch} {e : Env} {s s0 : State} {m : MethodId} {args : Array Value} {below : List Frame} {meth : Method} {c : Code} {D : va_G} {cI cZ cC cJ cA : ClassId} {P : Nat → Nat} {M' : Mm} {r' : Int32}  (hx : p.tables.exec = Jvm.exec) (hb : c.code = cX1_busWrite) (hml : c.maxLocals = 7) (hr : meth.sig.returnType = (some .int)) (hlk : meth.locks = false) (hgt : ∀ w ∈ GT, w.before args s = true) (hown : s.vm.findClass RX1 = some m.cls) (hK : va_K D vwCl [(cI, .int), (cZ, .boolean), (cC, .char), (cJ, .long), (cA, .array .int)] s) (hO : Old s0 s) (hAO : ∀ q, (aP P 51) q → s0.heap.size ≤ q)  : ∀ (M : Mm) (a1 : Int32) (a2 : Int32) (H : Heap) (locs : List Loc) (ls : Array Slot), lv_has ls 7 [(0, .ref (P 0)), (1, .int a1), (2, .int a2)] → va_P D vwCl ((wY cI cZ cC cJ cA P) M) H → va_D (aP P 51) ((wY cI cZ cC cJ cA P) M) → va_S (aP P 51) s.heap H locs → q_ChipMapModel_busWrite M a1 a2 = some (M', r') → W p l e ({ frames := 4, cells := 0, slots := 0, locals := 94 }) s m args below meth c H locs 0 0 (MQ below (gQi D (aP P 51) ((wY cI cZ cC cJ cA P) M') r') args s 0 0 (aP P 51)) (F0 m 0 ls []) := by
  intro M a1 a2 H locs ls hl hP hD hS h
  unfold q_ChipMapModel_busWrite at h
  refine lv_aload_n hx hb dX1_busWrite_0 rfl (lv_at hl 0 rfl) ?_
  refine lv_iconst (v := 0) hx hb dX1_busWrite_1 (by decide) ?_
  refine pm_put (w := (wY cI cZ cC cJ cA P)) (D := D) (ci := 1) (x := 0) (ty := .int) (C := RX1) (T := TX1) (N := 76) hx hb hgt iwX1 tyX1 tyX1_ok nmX1 hown hK hP hD hS 0 gY_0 rfl 0 (Nat.le_of_ble_eq_true rfl) (hgt _ wd_4_201) (fun _ h9 => h9) rfl (by decide +kernel) rfl rfl (Nat.le_of_ble_eq_true rfl) (sY_0_0 _) dX1_busWrite_2 (fun M1 eM1 H locs hP hD hS => ?_)
  have h := lt_o eM1 h
  refine lv_aload_n hx hb dX1_busWrite_5 rfl (lv_at hl 0 rfl) ?_
  refine va_get (D := D) (ci := 1) (v := .int (M1.1 0 27)) (C := RX1) (T := TX1) (N := 76) hx hb hgt iwX1 hown hK hP 0 gY_0 rfl 27 (Nat.le_of_ble_eq_true rfl) (hgt _ wd_4_228) (fun _ h9 => h9) rfl dX1_busWrite_6 ?_
  refine lv_if_eq hx hb dX1_busWrite_9 (tgt := 20) rfl (fun hc => ?_) (fun hc => ?_)
  · have h := br_T hc h
    refine lv_iconst (v := (-1)) hx hb dX1_busWrite_20 (by decide) ?_
    have hl := lv_sub hl [0, 2] (l' := [(0, .ref (P 0)), (2, .int a2)]) rfl
    exact b_ChipMapModel_busWrite_21 hx hb hml hr hlk hgt hown hK hO hAO M1 a2 (-1) H _ ls hl hP hD hS h
  · have h := br_F hc h
    refine lv_aload_n hx hb dX1_busWrite_12 rfl (lv_at hl 0 rfl) ?_
    refine lv_iload_n hx hb dX1_busWrite_13 rfl (lv_at hl 1 rfl) ?_
    obtain ⟨M2, r3, hq, h⟩ := cal_o h
    refine cx_i (va_runV (As := [.int a1]) (rest := []) ⟨hx, hb, hml, hown, hgt⟩ (z_ChipMapModel_registerAt l D cI cZ cC cJ cA P s0 hAO M1 a1 M2 r3 hq) (cwV 1 hgt (gV wd_6_65 wd_6_67 sl__ChipMapModel____ChipMapModel___registerAt____I_I_____ChipMapModel___registerAt____I_I__ wd_0_15 wd_6_68) rfl rfl rfl (by decide +kernel) ⟨Nat.le_of_ble_eq_true rfl, Nat.le_of_ble_eq_true rfl⟩) (prV hP hK hD hO hAO hS (va_recv hK hP (ci := 1) (q0 := 0) rfl gY_0)) rfl rfl hl.1 rfl (lv_room (Nat.le_of_ble_eq_true rfl)) dX1_busWrite_14 ⟨Nat.le_of_ble_eq_true rfl, Nat.le_of_ble_eq_true rfl⟩) hS (fun H locs hP hD hS => ?_)
    refine lv_goto hx hb dX1_busWrite_17 (tgt := 21) rfl ?_
    have hl := lv_sub hl [0, 2] (l' := [(0, .ref (P 0)), (2, .int a2)]) rfl
    exact b_ChipMapModel_busWrite_21 hx hb hml hr hlk hgt hown hK hO hAO M2 a2 r3 H _ ls hl hP hD hS h
set_option maxHeartbeats 4000000 in
set_option maxRecDepth 20000 in
theorem z_ChipMapModel_busWrite (l : Launch) (D : va_G) (cI cZ cC cJ cA : ClassId) (P : Nat → Nat) (s0 : State) (hAO : ∀ q, (aP P 51) q → s0.heap.size ≤ q) (M : Mm) (a1 : Int32) (a2 : Int32) (M' : Mm) (r' : Int32) (h : q_ChipMapModel_busWrite M a1 a2 = some (M', r')) : Met l yX1_busWrite wsX1_busWrite ({ frames := 4, cells := 0, slots := 0, locals := 94 }) (va_Pc [.ref (P 0), .int a1, .int a2] (gPre s0 D [(cI, .int), (cZ, .boolean), (cC, .char), (cJ, .long), (cA, .array .int)] (aP P 51) ((wY cI cZ cC cJ cA P) M))) (gQi D (aP P 51) ((wY cI cZ cC cJ cA P) M') r') 0 0 (aP P 51) := by
  refine Met.ofW (cc := cX1_busWrite) (maxL := 7) (ret := (some .int)) (by decide) rfl ?_
  intro p e s m args below meth c s₁ B hml hv
  obtain ⟨rfl, hP, hK, hD, hO⟩ := hv
  have hx := B.exec
  have hb := B.bytes
  have hr := B.returns
  have hlk := B.notSynchronized
  have hgt := fun w (h : w ∈ GT) => atoms_spec (ws := wsX1_busWrite) B.pre w (List.mem_cons_of_mem _ h)
  have hown : s.vm.findClass RX1 = some m.cls := findClass_of_methodNamed B.named
  have hS : va_S (aP P 51) s.heap s.heap [] := va_S.rf
  have hl := lv_entry ([.ref (P 0), .int a1, .int a2]) (n := 7) (Nat.le_of_ble_eq_true rfl)
  rw [lg_entry_eq]
  generalize (lg_sl ([.ref (P 0), .int a1, .int a2]) ++ List.replicate (7 - (lg_sl ([.ref (P 0), .int a1, .int a2])).length) Slot.unset).toArray = ls at hl ⊢
  have hl : lv_has ls 7 [(0, .ref (P 0)), (1, .int a1), (2, .int a2)] := hl
  exact b_ChipMapModel_busWrite_0 hx hb hml hr hlk hgt hown hK hO hAO M a1 a2 s.heap [] ls hl hP hD hS h
def q_ChipMapModel_busRead_21  (M : Mm) (t0 : Int32) : Rs := if t0 = (-1) then (some (M, (-1))) else (cal (q_ChipMapModel_read M t0) fun M1 r2 => some (M1, r2))
def q_ChipMapModel_busRead  (M : Mm) (a1 : Int32) : Rs := lt' (stI M 0 (upd (M.1 0) 0 0)) fun M1 => if (M1.1 0 27) = 0 then (q_ChipMapModel_busRead_21 M1 (-1)) else (cal (q_ChipMapModel_registerAt M1 a1) fun M2 r3 => q_ChipMapModel_busRead_21 M2 r3)
set_option maxHeartbeats 4000000 in
set_option maxRecDepth 20000 in
theorem b_ChipMapModel_busRead_21 {p : Program} {l : Launch} {e : Env} {s s0 : State} {m : MethodId} {args : Array Value} {below : List Frame} {meth : Method} {c : Code} {D : va_G} {cI cZ cC cJ cA : ClassId} {P : Nat → Nat} {M' : Mm} {r' : Int32}  (hx : p.tables.exec = Jvm.exec) (hb : c.code = cX1_busRead) (hml : c.maxLocals = 3) (hr : meth.sig.returnType = (some .int)) (hlk : meth.locks = false) (hgt : ∀ w ∈ GT, w.before args s = true) (hown : s.vm.findClass RX1 = some m.cls) (hK : va_K D vwCl [(cI, .int), (cZ, .boolean), (cC, .char), (cJ, .long), (cA, .array .int)] s) (hO : Old s0 s) (hAO : ∀ q, (aP P 51) q → s0.heap.size ≤ q)  : ∀ (M : Mm) (t0 : Int32) (H : Heap) (locs : List Loc) (ls : Array Slot), lv_has ls 3 [(0, .ref (P 0))] → va_P D vwCl ((wY cI cZ cC cJ cA P) M) H → va_D (aP P 51) ((wY cI cZ cC cJ cA P) M) → va_S (aP P 51) s.heap H locs → q_ChipMapModel_busRead_21 M t0 = some (M', r') → W p l e ({ frames := 2, cells := 0, slots := 0, locals := 47 }) s m args below meth c H locs 0 0 (MQ below (gQi D (aP P 51) ((wY cI cZ cC cJ cA P) M') r') args s 0 0 (aP P 51)) (F0 m 21 ls [.int t0]) := by
  intro M t0 H locs ls hl hP hD hS h
  unfold q_ChipMapModel_busRead_21 at h
  refine lv_istore_n hx hb dX1_busRead_21 rfl hl (Nat.le_of_ble_eq_true rfl) (lv' := [(2, .int t0), (0, .ref (P 0))]) rfl (fun ls hl => ?_)
  refine lv_iload_n hx hb dX1_busRead_22 rfl (lv_at hl 0 rfl) ?_
  refine lv_iconst (v := (-1)) hx hb dX1_busRead_23 (by decide) ?_
  refine lv_icmp_ne hx hb dX1_busRead_24 (tgt := 31) rfl (fun hc => ?_) (fun hc => ?_)
  · have h := br_F hc h
    refine lv_aload_n hx hb dX1_busRead_31 rfl (lv_at hl 1 rfl) ?_
    refine lv_iload_n hx hb dX1_busRead_32 rfl (lv_at hl 0 rfl) ?_
    obtain ⟨M1, r2, hq, h⟩ := cal_o h
    refine cx_i (va_runV (As := [.int t0]) (rest := []) ⟨hx, hb, hml, hown, hgt⟩ (z_ChipMapModel_read l D cI cZ cC cJ cA P s0 hAO M t0 M1 r2 hq) (cwV 1 hgt (gV wd_6_110 wd_6_112 sl__ChipMapModel____ChipMapModel___read____I_I_____ChipMapModel___read____I_I__ wd_0_15 wd_6_113) rfl rfl rfl (by decide +kernel) ⟨Nat.le_of_ble_eq_true rfl, Nat.le_of_ble_eq_true rfl⟩) (prV hP hK hD hO hAO hS (va_recv hK hP (ci := 1) (q0 := 0) rfl gY_0)) rfl rfl hl.1 rfl (lv_room (Nat.le_of_ble_eq_true rfl)) dX1_busRead_33 ⟨Nat.le_of_ble_eq_true rfl, Nat.le_of_ble_eq_true rfl⟩) hS (fun H locs hP hD hS => ?_)
    exact rt_i (w := (wY cI cZ cC cJ cA P)) hx hb hr hlk hP hD hS h dX1_busRead_36
  · have h := br_T hc h
    refine lv_iconst (v := (-1)) hx hb dX1_busRead_27 (by decide) ?_
    refine lv_goto hx hb dX1_busRead_28 (tgt := 36) rfl ?_
    exact rt_i (w := (wY cI cZ cC cJ cA P)) hx hb hr hlk hP hD hS h dX1_busRead_36
set_option maxHeartbeats 4000000 in
set_option maxRecDepth 20000 in
theorem b_ChipMapModel_busRead_0 {p : Program} {l : Launch} {e : Env} {s s0 : State} {m : MethodId} {args : Array Value} {below : List Frame} {meth : Method} {c : Code} {D : va_G} {cI cZ cC cJ cA : ClassId} {P : Nat → Nat} {M' : Mm} {r' : Int32}  (hx : p.tables.exec = Jvm.exec) (hb : c.code = cX1_busRead) (hml : c.maxLocals = 3) (hr : meth.sig.returnType = (some .int)) (hlk : meth.locks = false) (hgt : ∀ w ∈ GT, w.before args s = true) (hown : s.vm.findClass RX1 = some m.cls) (hK : va_K D vwCl [(cI, .int), (cZ, .boolean), (cC, .char), (cJ, .long), (cA, .array .int)] s) (hO : Old s0 s) (hAO : ∀ q, (aP P 51) q → s0.heap.size ≤ q)  : ∀ (M : Mm) (a1 : Int32) (H : Heap) (locs : List Loc) (ls : Array Slot), lv_has ls 3 [(0, .ref (P 0)), (1, .int a1)] → va_P D vwCl ((wY cI cZ cC cJ cA P) M) H → va_D (aP P 51) ((wY cI cZ cC cJ cA P) M) → va_S (aP P 51) s.heap H locs → q_ChipMapModel_busRead M a1 = some (M', r') → W p l e ({ frames := 2, cells := 0, slots := 0, locals := 47 }) s m args below meth c H locs 0 0 (MQ below (gQi D (aP P 51) ((wY cI cZ cC cJ cA P) M') r') args s 0 0 (aP P 51)) (F0 m 0 ls []) := by
  intro M a1 H locs ls hl hP hD hS h
  unfold q_ChipMapModel_busRead at h
  refine lv_aload_n hx hb dX1_busRead_0 rfl (lv_at hl 0 rfl) ?_
  refine lv_iconst (v := 0) hx hb dX1_busRead_1 (by decide) ?_
  refine pm_put (w := (wY cI cZ cC cJ cA P)) (D := D) (ci := 1) (x := 0) (ty := .int) (C := RX1) (T := TX1) (N := 76) hx hb hgt iwX1 tyX1 tyX1_ok nmX1 hown hK hP hD hS 0 gY_0 rfl 0 (Nat.le_of_ble_eq_true rfl) (hgt _ wd_4_201) (fun _ h9 => h9) rfl (by decide +kernel) rfl rfl (Nat.le_of_ble_eq_true rfl) (sY_0_0 _) dX1_busRead_2 (fun M1 eM1 H locs hP hD hS => ?_)
  have h := lt_o eM1 h
  refine lv_aload_n hx hb dX1_busRead_5 rfl (lv_at hl 0 rfl) ?_
  refine va_get (D := D) (ci := 1) (v := .int (M1.1 0 27)) (C := RX1) (T := TX1) (N := 76) hx hb hgt iwX1 hown hK hP 0 gY_0 rfl 27 (Nat.le_of_ble_eq_true rfl) (hgt _ wd_4_228) (fun _ h9 => h9) rfl dX1_busRead_6 ?_
  refine lv_if_eq hx hb dX1_busRead_9 (tgt := 20) rfl (fun hc => ?_) (fun hc => ?_)
  · have h := br_T hc h
    refine lv_iconst (v := (-1)) hx hb dX1_busRead_20 (by decide) ?_
    have hl := lv_sub hl [0] (l' := [(0, .ref (P 0))]) rfl
    exact b_ChipMapModel_busRead_21 hx hb hml hr hlk hgt hown hK hO hAO M1 (-1) H _ ls hl hP hD hS h
  · have h := br_F hc h
    refine lv_aload_n hx hb dX1_busRead_12 rfl (lv_at hl 0 rfl) ?_
    refine lv_iload_n hx hb dX1_busRead_13 rfl (lv_at hl 1 rfl) ?_
    obtain ⟨M2, r3, hq, h⟩ := cal_o h
    refine cx_i (va_runV (As := [.int a1]) (rest := []) ⟨hx, hb, hml, hown, hgt⟩ (z_ChipMapModel_registerAt l D cI cZ cC cJ cA P s0 hAO M1 a1 M2 r3 hq) (cwV 1 hgt (gV wd_6_65 wd_6_67 sl__ChipMapModel____ChipMapModel___registerAt____I_I_____ChipMapModel___registerAt____I_I__ wd_0_15 wd_6_68) rfl rfl rfl (by decide +kernel) ⟨Nat.le_of_ble_eq_true rfl, Nat.le_of_ble_eq_true rfl⟩) (prV hP hK hD hO hAO hS (va_recv hK hP (ci := 1) (q0 := 0) rfl gY_0)) rfl rfl hl.1 rfl (lv_room (Nat.le_of_ble_eq_true rfl)) dX1_busRead_14 ⟨Nat.le_of_ble_eq_true rfl, Nat.le_of_ble_eq_true rfl⟩) hS (fun H locs hP hD hS => ?_)
    refine lv_goto hx hb dX1_busRead_17 (tgt := 21) rfl ?_
    have hl := lv_sub hl [0] (l' := [(0, .ref (P 0))]) rfl
    exact b_ChipMapModel_busRead_21 hx hb hml hr hlk hgt hown hK hO hAO M2 r3 H _ ls hl hP hD hS h
set_option maxHeartbeats 4000000 in
set_option maxRecDepth 20000 in
theorem z_ChipMapModel_busRead (l : Launch) (D : va_G) (cI cZ cC cJ cA : ClassId) (P : Nat → Nat) (s0 : State) (hAO : ∀ q, (aP P 51) q → s0.heap.size ≤ q) (M : Mm) (a1 : Int32) (M' : Mm) (r' : Int32) (h : q_ChipMapModel_busRead M a1 = some (M', r')) : Met l yX1_busRead wsX1_busRead ({ frames := 2, cells := 0, slots := 0, locals := 47 }) (va_Pc [.ref (P 0), .int a1] (gPre s0 D [(cI, .int), (cZ, .boolean), (cC, .char), (cJ, .long), (cA, .array .int)] (aP P 51) ((wY cI cZ cC cJ cA P) M))) (gQi D (aP P 51) ((wY cI cZ cC cJ cA P) M') r') 0 0 (aP P 51) := by
  refine Met.ofW (cc := cX1_busRead) (maxL := 3) (ret := (some .int)) (by decide) rfl ?_
  intro p e s m args below meth c s₁ B hml hv
  obtain ⟨rfl, hP, hK, hD, hO⟩ := hv
  have hx := B.exec
  have hb := B.bytes
  have hr := B.returns
  have hlk := B.notSynchronized
  have hgt := fun w (h : w ∈ GT) => atoms_spec (ws := wsX1_busRead) B.pre w (List.mem_cons_of_mem _ h)
  have hown : s.vm.findClass RX1 = some m.cls := findClass_of_methodNamed B.named
  have hS : va_S (aP P 51) s.heap s.heap [] := va_S.rf
  have hl := lv_entry ([.ref (P 0), .int a1]) (n := 3) (Nat.le_of_ble_eq_true rfl)
  rw [lg_entry_eq]
  generalize (lg_sl ([.ref (P 0), .int a1]) ++ List.replicate (3 - (lg_sl ([.ref (P 0), .int a1])).length) Slot.unset).toArray = ls at hl ⊢
  have hl : lv_has ls 3 [(0, .ref (P 0)), (1, .int a1)] := hl
  exact b_ChipMapModel_busRead_0 hx hb hml hr hlk hgt hown hK hO hAO M a1 s.heap [] ls hl hP hD hS h
def q_ChipMapModel_poke_46  (M : Mm) (v1 : Int32) (v2 : Int32) : Rs := cal (q_ChipMapModel_isFit M v1 v2) fun M1 r2 => if r2 = 0 then (some (M1, 0)) else (ix v1 78 <| lt' (stI M1 33 (upd (M1.1 33) (v1 : Int32).toNatClampNeg v2)) fun M3 => some (M3, 1))
def q_ChipMapModel_poke  (M : Mm) (a1 : Int32) (a2 : Int32) : Rs := lt' (stI M 0 (upd (M.1 0) 0 0)) fun M1 => cal (q_ChipMapModel_isField M1 a1) fun M2 r3 => if r3 = 0 then (some (M2, 0)) else (ix a1 26 <| if (M2.1 24 (a1 : Int32).toNatClampNeg) = 114 then (q_ChipMapModel_poke_46 M2 a1 a2) else (ix a1 26 <| if (M2.1 24 (a1 : Int32).toNatClampNeg) = 99 then (q_ChipMapModel_poke_46 M2 a1 a2) else (ix a1 26 <| if (M2.1 24 (a1 : Int32).toNatClampNeg) = 116 then (q_ChipMapModel_poke_46 M2 a1 a2) else (some (M2, 0)))))
set_option maxHeartbeats 4000000 in
set_option maxRecDepth 20000 in
theorem b_ChipMapModel_poke_46 {p : Program} {l : Launch} {e : Env} {s s0 : State} {m : MethodId} {args : Array Value} {below : List Frame} {meth : Method} {c : Code} {D : va_G} {cI cZ cC cJ cA : ClassId} {P : Nat → Nat} {M' : Mm} {r' : Int32}  (hx : p.tables.exec = Jvm.exec) (hb : c.code = cX1_poke) (hml : c.maxLocals = 3) (hr : meth.sig.returnType = (some .boolean)) (hlk : meth.locks = false) (hgt : ∀ w ∈ GT, w.before args s = true) (hown : s.vm.findClass RX1 = some m.cls) (hK : va_K D vwCl [(cI, .int), (cZ, .boolean), (cC, .char), (cJ, .long), (cA, .array .int)] s) (hO : Old s0 s) (hAO : ∀ q, (aP P 51) q → s0.heap.size ≤ q)  : ∀ (M : Mm) (v1 : Int32) (v2 : Int32) (H : Heap) (locs : List Loc) (ls : Array Slot), lv_has ls 3 [(0, .ref (P 0)), (1, .int v1), (2, .int v2)] → va_P D vwCl ((wY cI cZ cC cJ cA P) M) H → va_D (aP P 51) ((wY cI cZ cC cJ cA P) M) → va_S (aP P 51) s.heap H locs → q_ChipMapModel_poke_46 M v1 v2 = some (M', r') → W p l e ({ frames := 1, cells := 0, slots := 0, locals := 22 }) s m args below meth c H locs 0 0 (MQ below (gQi D (aP P 51) ((wY cI cZ cC cJ cA P) M') r') args s 0 0 (aP P 51)) (F0 m 46 ls []) := by
  intro M v1 v2 H locs ls hl hP hD hS h
  unfold q_ChipMapModel_poke_46 at h
  refine lv_aload_n hx hb dX1_poke_46 rfl (lv_at hl 0 rfl) ?_
  refine lv_iload_n hx hb dX1_poke_47 rfl (lv_at hl 1 rfl) ?_
  refine lv_iload_n hx hb dX1_poke_48 rfl (lv_at hl 2 rfl) ?_
  obtain ⟨M1, r2, hq, h⟩ := cal_o h
  refine cx_i (va_runV (As := [.int v1, .int v2]) (rest := []) ⟨hx, hb, hml, hown, hgt⟩ (z_ChipMapModel_isFit l D cI cZ cC cJ cA P s0 hAO M v1 v2 M1 r2 hq) (cwV 2 hgt (gV wd_6_118 wd_6_120 sl__ChipMapModel____ChipMapModel___isFit____II_Z_____ChipMapModel___isFit____II_Z__ wd_0_15 wd_6_121) rfl rfl rfl (by decide +kernel) ⟨Nat.le_of_ble_eq_true rfl, Nat.le_of_ble_eq_true rfl⟩) (prV hP hK hD hO hAO hS (va_recv hK hP (ci := 1) (q0 := 0) rfl gY_0)) rfl rfl hl.1 rfl (lv_room (Nat.le_of_ble_eq_true rfl)) dX1_poke_49 ⟨Nat.le_of_ble_eq_true rfl, Nat.le_of_ble_eq_true rfl⟩) hS (fun H locs hP hD hS => ?_)
  refine lv_if_ne hx hb dX1_poke_52 (tgt := 57) rfl (fun hc => ?_) (fun hc => ?_)
  · have h := br_F hc h
    refine lv_aload_n hx hb dX1_poke_57 rfl (lv_at hl 0 rfl) ?_
    refine va_get (D := D) (ci := 1) (v := .ref (P 33)) (C := RX1) (T := TX1) (N := 76) hx hb hgt iwX1 hown hK hP 0 gY_0 rfl 43 (Nat.le_of_ble_eq_true rfl) (hgt _ wd_5_4) (fun _ h9 => h9) rfl dX1_poke_58 ?_
    refine lv_iload_n hx hb dX1_poke_61 rfl (lv_at hl 1 rfl) ?_
    refine lv_iload_n hx hb dX1_poke_62 rfl (lv_at hl 2 rfl) ?_
    refine pm_iast (w := (wY cI cZ cC cJ cA P)) hx hb hK hP hD hS 33 0 gY_33 rfl sY_33 (ix_l h) dX1_poke_63 (fun M3 eM3 H locs hP hD hS => ?_)
    have h := ix_r h
    have h := lt_o eM3 h
    refine lv_iconst (v := 1) hx hb dX1_poke_64 (by decide) ?_
    exact rt_z (w := (wY cI cZ cC cJ cA P)) hx hb hr hlk rfl hP hD hS h dX1_poke_65
  · have h := br_T hc h
    refine lv_iconst (v := 0) hx hb dX1_poke_55 (by decide) ?_
    exact rt_z (w := (wY cI cZ cC cJ cA P)) hx hb hr hlk rfl hP hD hS h dX1_poke_56
set_option maxHeartbeats 4000000 in
set_option maxRecDepth 20000 in
theorem b_ChipMapModel_poke_0 {p : Program} {l : Launch} {e : Env} {s s0 : State} {m : MethodId} {args : Array Value} {below : List Frame} {meth : Method} {c : Code} {D : va_G} {cI cZ cC cJ cA : ClassId} {P : Nat → Nat} {M' : Mm} {r' : Int32}  (hx : p.tables.exec = Jvm.exec) (hb : c.code = cX1_poke) (hml : c.maxLocals = 3) (hr : meth.sig.returnType = (some .boolean)) (hlk : meth.locks = false) (hgt : ∀ w ∈ GT, w.before args s = true) (hown : s.vm.findClass RX1 = some m.cls) (hK : va_K D vwCl [(cI, .int), (cZ, .boolean), (cC, .char), (cJ, .long), (cA, .array .int)] s) (hO : Old s0 s) (hAO : ∀ q, (aP P 51) q → s0.heap.size ≤ q)  : ∀ (M : Mm) (a1 : Int32) (a2 : Int32) (H : Heap) (locs : List Loc) (ls : Array Slot), lv_has ls 3 [(0, .ref (P 0)), (1, .int a1), (2, .int a2)] → va_P D vwCl ((wY cI cZ cC cJ cA P) M) H → va_D (aP P 51) ((wY cI cZ cC cJ cA P) M) → va_S (aP P 51) s.heap H locs → q_ChipMapModel_poke M a1 a2 = some (M', r') → W p l e ({ frames := 1, cells := 0, slots := 0, locals := 22 }) s m args below meth c H locs 0 0 (MQ below (gQi D (aP P 51) ((wY cI cZ cC cJ cA P) M') r') args s 0 0 (aP P 51)) (F0 m 0 ls []) := by
  intro M a1 a2 H locs ls hl hP hD hS h
  unfold q_ChipMapModel_poke at h
  refine lv_aload_n hx hb dX1_poke_0 rfl (lv_at hl 0 rfl) ?_
  refine lv_iconst (v := 0) hx hb dX1_poke_1 (by decide) ?_
  refine pm_put (w := (wY cI cZ cC cJ cA P)) (D := D) (ci := 1) (x := 0) (ty := .int) (C := RX1) (T := TX1) (N := 76) hx hb hgt iwX1 tyX1 tyX1_ok nmX1 hown hK hP hD hS 0 gY_0 rfl 0 (Nat.le_of_ble_eq_true rfl) (hgt _ wd_4_201) (fun _ h9 => h9) rfl (by decide +kernel) rfl rfl (Nat.le_of_ble_eq_true rfl) (sY_0_0 _) dX1_poke_2 (fun M1 eM1 H locs hP hD hS => ?_)
  have h := lt_o eM1 h
  refine lv_aload_n hx hb dX1_poke_5 rfl (lv_at hl 0 rfl) ?_
  refine lv_iload_n hx hb dX1_poke_6 rfl (lv_at hl 1 rfl) ?_
  obtain ⟨M2, r3, hq, h⟩ := cal_o h
  refine cx_i (va_runV (As := [.int a1]) (rest := []) ⟨hx, hb, hml, hown, hgt⟩ (z_ChipMapModel_isField l D cI cZ cC cJ cA P s0 hAO M1 a1 M2 r3 hq) (cwV 1 hgt (gV wd_6_53 wd_6_55 sl__ChipMapModel____ChipMapModel___isField____I_Z_____ChipMapModel___isField____I_Z__ wd_0_15 wd_6_56) rfl rfl rfl (by decide +kernel) ⟨Nat.le_of_ble_eq_true rfl, Nat.le_of_ble_eq_true rfl⟩) (prV hP hK hD hO hAO hS (va_recv hK hP (ci := 1) (q0 := 0) rfl gY_0)) rfl rfl hl.1 rfl (lv_room (Nat.le_of_ble_eq_true rfl)) dX1_poke_7 ⟨Nat.le_of_ble_eq_true rfl, Nat.le_of_ble_eq_true rfl⟩) hS (fun H locs hP hD hS => ?_)
  refine lv_if_eq hx hb dX1_poke_10 (tgt := 55) rfl (fun hc => ?_) (fun hc => ?_)
  · have h := br_T hc h
    refine lv_iconst (v := 0) hx hb dX1_poke_55 (by decide) ?_
    exact rt_z (w := (wY cI cZ cC cJ cA P)) hx hb hr hlk rfl hP hD hS h dX1_poke_56
  · have h := br_F hc h
    refine lv_aload_n hx hb dX1_poke_13 rfl (lv_at hl 0 rfl) ?_
    refine va_get (D := D) (ci := 1) (v := .ref (P 24)) (C := RX1) (T := TX1) (N := 76) hx hb hgt iwX1 hown hK hP 0 gY_0 rfl 33 (Nat.le_of_ble_eq_true rfl) (hgt _ wd_4_234) (fun _ h9 => h9) rfl dX1_poke_14 ?_
    refine lv_iload_n hx hb dX1_poke_17 rfl (lv_at hl 1 rfl) ?_
    refine va_iald hx hb hK hP 24 0 gY_24 rfl (ix_l h) dX1_poke_18 ?_
    have h := ix_r h
    refine lv_bipush (v := 114) hx hb dX1_poke_19 (by decide) ?_
    refine lv_icmp_eq hx hb dX1_poke_21 (tgt := 46) rfl (fun hc => ?_) (fun hc => ?_)
    · have h := br_T hc h
      have hl := lv_sub hl [0, 1, 2] (l' := [(0, .ref (P 0)), (1, .int a1), (2, .int a2)]) rfl
      exact b_ChipMapModel_poke_46 hx hb hml hr hlk hgt hown hK hO hAO M2 a1 a2 H _ ls hl hP hD hS h
    · have h := br_F hc h
      refine lv_aload_n hx hb dX1_poke_24 rfl (lv_at hl 0 rfl) ?_
      refine va_get (D := D) (ci := 1) (v := .ref (P 24)) (C := RX1) (T := TX1) (N := 76) hx hb hgt iwX1 hown hK hP 0 gY_0 rfl 33 (Nat.le_of_ble_eq_true rfl) (hgt _ wd_4_234) (fun _ h9 => h9) rfl dX1_poke_25 ?_
      refine lv_iload_n hx hb dX1_poke_28 rfl (lv_at hl 1 rfl) ?_
      refine va_iald hx hb hK hP 24 0 gY_24 rfl (ix_l h) dX1_poke_29 ?_
      have h := ix_r h
      refine lv_bipush (v := 99) hx hb dX1_poke_30 (by decide) ?_
      refine lv_icmp_eq hx hb dX1_poke_32 (tgt := 46) rfl (fun hc => ?_) (fun hc => ?_)
      · have h := br_T hc h
        have hl := lv_sub hl [0, 1, 2] (l' := [(0, .ref (P 0)), (1, .int a1), (2, .int a2)]) rfl
        exact b_ChipMapModel_poke_46 hx hb hml hr hlk hgt hown hK hO hAO M2 a1 a2 H _ ls hl hP hD hS h
      · have h := br_F hc h
        refine lv_aload_n hx hb dX1_poke_35 rfl (lv_at hl 0 rfl) ?_
        refine va_get (D := D) (ci := 1) (v := .ref (P 24)) (C := RX1) (T := TX1) (N := 76) hx hb hgt iwX1 hown hK hP 0 gY_0 rfl 33 (Nat.le_of_ble_eq_true rfl) (hgt _ wd_4_234) (fun _ h9 => h9) rfl dX1_poke_36 ?_
        refine lv_iload_n hx hb dX1_poke_39 rfl (lv_at hl 1 rfl) ?_
        refine va_iald hx hb hK hP 24 0 gY_24 rfl (ix_l h) dX1_poke_40 ?_
        have h := ix_r h
        refine lv_bipush (v := 116) hx hb dX1_poke_41 (by decide) ?_
        refine lv_icmp_ne hx hb dX1_poke_43 (tgt := 55) rfl (fun hc => ?_) (fun hc => ?_)
        · have h := br_F hc h
          refine lv_iconst (v := 0) hx hb dX1_poke_55 (by decide) ?_
          exact rt_z (w := (wY cI cZ cC cJ cA P)) hx hb hr hlk rfl hP hD hS h dX1_poke_56
        · have h := br_T hc h
          have hl := lv_sub hl [0, 1, 2] (l' := [(0, .ref (P 0)), (1, .int a1), (2, .int a2)]) rfl
          exact b_ChipMapModel_poke_46 hx hb hml hr hlk hgt hown hK hO hAO M2 a1 a2 H _ ls hl hP hD hS h
set_option maxHeartbeats 4000000 in
set_option maxRecDepth 20000 in
theorem z_ChipMapModel_poke (l : Launch) (D : va_G) (cI cZ cC cJ cA : ClassId) (P : Nat → Nat) (s0 : State) (hAO : ∀ q, (aP P 51) q → s0.heap.size ≤ q) (M : Mm) (a1 : Int32) (a2 : Int32) (M' : Mm) (r' : Int32) (h : q_ChipMapModel_poke M a1 a2 = some (M', r')) : Met l yX1_poke wsX1_poke ({ frames := 1, cells := 0, slots := 0, locals := 22 }) (va_Pc [.ref (P 0), .int a1, .int a2] (gPre s0 D [(cI, .int), (cZ, .boolean), (cC, .char), (cJ, .long), (cA, .array .int)] (aP P 51) ((wY cI cZ cC cJ cA P) M))) (gQi D (aP P 51) ((wY cI cZ cC cJ cA P) M') r') 0 0 (aP P 51) := by
  refine Met.ofW (cc := cX1_poke) (maxL := 3) (ret := (some .boolean)) (by decide) rfl ?_
  intro p e s m args below meth c s₁ B hml hv
  obtain ⟨rfl, hP, hK, hD, hO⟩ := hv
  have hx := B.exec
  have hb := B.bytes
  have hr := B.returns
  have hlk := B.notSynchronized
  have hgt := fun w (h : w ∈ GT) => atoms_spec (ws := wsX1_poke) B.pre w (List.mem_cons_of_mem _ h)
  have hown : s.vm.findClass RX1 = some m.cls := findClass_of_methodNamed B.named
  have hS : va_S (aP P 51) s.heap s.heap [] := va_S.rf
  have hl := lv_entry ([.ref (P 0), .int a1, .int a2]) (n := 3) (Nat.le_of_ble_eq_true rfl)
  rw [lg_entry_eq]
  generalize (lg_sl ([.ref (P 0), .int a1, .int a2]) ++ List.replicate (3 - (lg_sl ([.ref (P 0), .int a1, .int a2])).length) Slot.unset).toArray = ls at hl ⊢
  have hl : lv_has ls 3 [(0, .ref (P 0)), (1, .int a1), (2, .int a2)] := hl
  exact b_ChipMapModel_poke_0 hx hb hml hr hlk hgt hown hK hO hAO M a1 a2 s.heap [] ls hl hP hD hS h
def q_ChipMapModel_still_45 (kf4 : Mm → Int32 → Int32 → Int32 → Rs) (M : Mm) (v1 : Int32) (v3 : Int32) (t0 : Int32) (t1 : Int32) : Rs := lt' (t1 ||| t0) fun x1 => kf4 M v1 x1 (v3 + 1)
def q_ChipMapModel_still_44 (kf4 : Mm → Int32 → Int32 → Int32 → Rs) (M : Mm) (v1 : Int32) (v3 : Int32) (t0 : Int32) : Rs := q_ChipMapModel_still_45 kf4 M v1 v3 0 t0
def q_ChipMapModel_still_4  : Nat → Mm → Int32 → Int32 → Int32 → Rs
  | 0, _, _, _, _ => none
  | n' + 1, M, v1, v2, v3 => if 26 ≤ v3 then (some (M, v2)) else (cal (q_ChipMapModel_isIn M v3 v1) fun M1 r2 => if r2 = 0 then (q_ChipMapModel_still_44 (q_ChipMapModel_still_4 n') M1 v1 v3 v2) else (cal (q_ChipMapModel_isStored M1 v3) fun M3 r4 => if r4 = 0 then (q_ChipMapModel_still_44 (q_ChipMapModel_still_4 n') M3 v1 v3 v2) else (ix v3 78 <| ix v3 26 <| q_ChipMapModel_still_45 (q_ChipMapModel_still_4 n') M3 v1 v3 (((M3.1 33 (v3 : Int32).toNatClampNeg) : Int32) <<< ((M3.1 26 (v3 : Int32).toNatClampNeg) &&& 31)) v2)))
def q_ChipMapModel_still  (M : Mm) (a1 : Int32) : Rs := q_ChipMapModel_still_4 4000 M a1 0 0
set_option maxHeartbeats 4000000 in
set_option maxRecDepth 20000 in
theorem b_ChipMapModel_still_45 {p : Program} {l : Launch} {e : Env} {s s0 : State} {m : MethodId} {args : Array Value} {below : List Frame} {meth : Method} {c : Code} {D : va_G} {cI cZ cC cJ cA : ClassId} {P : Nat → Nat} {M' : Mm} {r' : Int32} {kf4 : Mm → Int32 → Int32 → Int32 → Rs} (hx : p.tables.exec = Jvm.exec) (hb : c.code = cX1_still) (hml : c.maxLocals = 4) (hr : meth.sig.returnType = (some .int)) (hlk : meth.locks = false) (hgt : ∀ w ∈ GT, w.before args s = true) (hown : s.vm.findClass RX1 = some m.cls) (hK : va_K D vwCl [(cI, .int), (cZ, .boolean), (cC, .char), (cJ, .long), (cA, .array .int)] s) (hO : Old s0 s) (hAO : ∀ q, (aP P 51) q → s0.heap.size ≤ q) (kk4 : ∀ (M : Mm) (v1 : Int32) (v2 : Int32) (v3 : Int32) (H : Heap) (locs : List Loc) (ls : Array Slot), lv_has ls 4 [(0, .ref (P 0)), (1, .int v1), (2, .int v2), (3, .int v3)] → va_P D vwCl ((wY cI cZ cC cJ cA P) M) H → va_D (aP P 51) ((wY cI cZ cC cJ cA P) M) → va_S (aP P 51) s.heap H locs → kf4 M v1 v2 v3 = some (M', r') → W p l e ({ frames := 1, cells := 0, slots := 0, locals := 22 }) s m args below meth c H locs 0 0 (MQ below (gQi D (aP P 51) ((wY cI cZ cC cJ cA P) M') r') args s 0 0 (aP P 51)) (F0 m 4 ls [])) : ∀ (M : Mm) (v1 : Int32) (v3 : Int32) (t0 : Int32) (t1 : Int32) (H : Heap) (locs : List Loc) (ls : Array Slot), lv_has ls 4 [(0, .ref (P 0)), (1, .int v1), (3, .int v3)] → va_P D vwCl ((wY cI cZ cC cJ cA P) M) H → va_D (aP P 51) ((wY cI cZ cC cJ cA P) M) → va_S (aP P 51) s.heap H locs → q_ChipMapModel_still_45 kf4 M v1 v3 t0 t1 = some (M', r') → W p l e ({ frames := 1, cells := 0, slots := 0, locals := 22 }) s m args below meth c H locs 0 0 (MQ below (gQi D (aP P 51) ((wY cI cZ cC cJ cA P) M') r') args s 0 0 (aP P 51)) (F0 m 45 ls [.int t0, .int t1]) := by
  intro M v1 v3 t0 t1 H locs ls hl hP hD hS h
  unfold q_ChipMapModel_still_45 at h
  refine lv_ior hx hb dX1_still_45 ?_
  refine lv_topi (fun x1 ex1 => ?_)
  have h := lt_o ex1 h
  refine lv_istore_n hx hb dX1_still_46 rfl hl (Nat.le_of_ble_eq_true rfl) (lv' := [(2, .int x1), (0, .ref (P 0)), (1, .int v1), (3, .int v3)]) rfl (fun ls hl => ?_)
  refine lv_iinc (v := (v3 + 1)) hx hb dX1_still_47 hl (k := 3) rfl rfl (Nat.le_of_ble_eq_true rfl) (lv' := [(3, .int (v3 + 1)), (2, .int x1), (0, .ref (P 0)), (1, .int v1)]) rfl (fun ls hl => ?_)
  refine lv_goto hx hb dX1_still_50 (tgt := 4) rfl ?_
  have hl := lv_sub hl [2, 3, 1, 0] (l' := [(0, .ref (P 0)), (1, .int v1), (2, .int x1), (3, .int (v3 + 1))]) rfl
  exact kk4 M v1 x1 (v3 + 1) H locs ls hl hP hD hS h
set_option maxHeartbeats 4000000 in
set_option maxRecDepth 20000 in
theorem b_ChipMapModel_still_44 {p : Program} {l : Launch} {e : Env} {s s0 : State} {m : MethodId} {args : Array Value} {below : List Frame} {meth : Method} {c : Code} {D : va_G} {cI cZ cC cJ cA : ClassId} {P : Nat → Nat} {M' : Mm} {r' : Int32} {kf4 : Mm → Int32 → Int32 → Int32 → Rs} (hx : p.tables.exec = Jvm.exec) (hb : c.code = cX1_still) (hml : c.maxLocals = 4) (hr : meth.sig.returnType = (some .int)) (hlk : meth.locks = false) (hgt : ∀ w ∈ GT, w.before args s = true) (hown : s.vm.findClass RX1 = some m.cls) (hK : va_K D vwCl [(cI, .int), (cZ, .boolean), (cC, .char), (cJ, .long), (cA, .array .int)] s) (hO : Old s0 s) (hAO : ∀ q, (aP P 51) q → s0.heap.size ≤ q) (kk4 : ∀ (M : Mm) (v1 : Int32) (v2 : Int32) (v3 : Int32) (H : Heap) (locs : List Loc) (ls : Array Slot), lv_has ls 4 [(0, .ref (P 0)), (1, .int v1), (2, .int v2), (3, .int v3)] → va_P D vwCl ((wY cI cZ cC cJ cA P) M) H → va_D (aP P 51) ((wY cI cZ cC cJ cA P) M) → va_S (aP P 51) s.heap H locs → kf4 M v1 v2 v3 = some (M', r') → W p l e ({ frames := 1, cells := 0, slots := 0, locals := 22 }) s m args below meth c H locs 0 0 (MQ below (gQi D (aP P 51) ((wY cI cZ cC cJ cA P) M') r') args s 0 0 (aP P 51)) (F0 m 4 ls [])) : ∀ (M : Mm) (v1 : Int32) (v3 : Int32) (t0 : Int32) (H : Heap) (locs : List Loc) (ls : Array Slot), lv_has ls 4 [(0, .ref (P 0)), (1, .int v1), (3, .int v3)] → va_P D vwCl ((wY cI cZ cC cJ cA P) M) H → va_D (aP P 51) ((wY cI cZ cC cJ cA P) M) → va_S (aP P 51) s.heap H locs → q_ChipMapModel_still_44 kf4 M v1 v3 t0 = some (M', r') → W p l e ({ frames := 1, cells := 0, slots := 0, locals := 22 }) s m args below meth c H locs 0 0 (MQ below (gQi D (aP P 51) ((wY cI cZ cC cJ cA P) M') r') args s 0 0 (aP P 51)) (F0 m 44 ls [.int t0]) := by
  intro M v1 v3 t0 H locs ls hl hP hD hS h
  unfold q_ChipMapModel_still_44 at h
  refine lv_iconst (v := 0) hx hb dX1_still_44 (by decide) ?_
  have hl := lv_sub hl [0, 1, 2] (l' := [(0, .ref (P 0)), (1, .int v1), (3, .int v3)]) rfl
  exact b_ChipMapModel_still_45 hx hb hml hr hlk hgt hown hK hO hAO kk4 M v1 v3 0 t0 H _ ls hl hP hD hS h
set_option maxHeartbeats 4000000 in
set_option maxRecDepth 20000 in
theorem b_ChipMapModel_still_4 {p : Program} {l : Launch} {e : Env} {s s0 : State} {m : MethodId} {args : Array Value} {below : List Frame} {meth : Method} {c : Code} {D : va_G} {cI cZ cC cJ cA : ClassId} {P : Nat → Nat} {M' : Mm} {r' : Int32}  (hx : p.tables.exec = Jvm.exec) (hb : c.code = cX1_still) (hml : c.maxLocals = 4) (hr : meth.sig.returnType = (some .int)) (hlk : meth.locks = false) (hgt : ∀ w ∈ GT, w.before args s = true) (hown : s.vm.findClass RX1 = some m.cls) (hK : va_K D vwCl [(cI, .int), (cZ, .boolean), (cC, .char), (cJ, .long), (cA, .array .int)] s) (hO : Old s0 s) (hAO : ∀ q, (aP P 51) q → s0.heap.size ≤ q)  : ∀ (n' : Nat) (M : Mm) (v1 : Int32) (v2 : Int32) (v3 : Int32) (H : Heap) (locs : List Loc) (ls : Array Slot), lv_has ls 4 [(0, .ref (P 0)), (1, .int v1), (2, .int v2), (3, .int v3)] → va_P D vwCl ((wY cI cZ cC cJ cA P) M) H → va_D (aP P 51) ((wY cI cZ cC cJ cA P) M) → va_S (aP P 51) s.heap H locs → q_ChipMapModel_still_4 n' M v1 v2 v3 = some (M', r') → W p l e ({ frames := 1, cells := 0, slots := 0, locals := 22 }) s m args below meth c H locs 0 0 (MQ below (gQi D (aP P 51) ((wY cI cZ cC cJ cA P) M') r') args s 0 0 (aP P 51)) (F0 m 4 ls []) := by
  intro n'
  induction n' with
  | zero => exact fun _ _ _ _ _ _ _ _ _ _ _ h => (rs_n h).elim
  | succ n' ih =>
    intro M v1 v2 v3 H locs ls hl hP hD hS h
    rw [q_ChipMapModel_still_4] at h
    refine lv_iload_n hx hb dX1_still_4 rfl (lv_at hl 3 rfl) ?_
    refine lv_bipush (v := 26) hx hb dX1_still_5 (by decide) ?_
    refine lv_icmp_ge hx hb dX1_still_7 (tgt := 53) rfl (fun hc => ?_) (fun hc => ?_)
    · have h := br_T hc h
      refine lv_iload_n hx hb dX1_still_53 rfl (lv_at hl 2 rfl) ?_
      exact rt_i (w := (wY cI cZ cC cJ cA P)) hx hb hr hlk hP hD hS h dX1_still_54
    · have h := br_F hc h
      refine lv_iload_n hx hb dX1_still_10 rfl (lv_at hl 2 rfl) ?_
      refine lv_aload_n hx hb dX1_still_11 rfl (lv_at hl 0 rfl) ?_
      refine lv_iload_n hx hb dX1_still_12 rfl (lv_at hl 3 rfl) ?_
      refine lv_iload_n hx hb dX1_still_13 rfl (lv_at hl 1 rfl) ?_
      obtain ⟨M1, r2, hq, h⟩ := cal_o h
      refine cx_i (va_runV (As := [.int v3, .int v1]) (rest := [.int v2]) ⟨hx, hb, hml, hown, hgt⟩ (z_ChipMapModel_isIn l D cI cZ cC cJ cA P s0 hAO M v3 v1 M1 r2 hq) (cwV 2 hgt (gV wd_6_86 wd_6_88 sl__ChipMapModel____ChipMapModel___isIn____II_Z_____ChipMapModel___isIn____II_Z__ wd_0_15 wd_6_89) rfl rfl rfl (by decide +kernel) ⟨Nat.le_of_ble_eq_true rfl, Nat.le_of_ble_eq_true rfl⟩) (prV hP hK hD hO hAO hS (va_recv hK hP (ci := 1) (q0 := 0) rfl gY_0)) rfl rfl hl.1 rfl (lv_room (Nat.le_of_ble_eq_true rfl)) dX1_still_14 ⟨Nat.le_of_ble_eq_true rfl, Nat.le_of_ble_eq_true rfl⟩) hS (fun H locs hP hD hS => ?_)
      refine lv_if_eq hx hb dX1_still_17 (tgt := 44) rfl (fun hc => ?_) (fun hc => ?_)
      · have h := br_T hc h
        have hl := lv_sub hl [0, 1, 3] (l' := [(0, .ref (P 0)), (1, .int v1), (3, .int v3)]) rfl
        exact b_ChipMapModel_still_44 hx hb hml hr hlk hgt hown hK hO hAO ih M1 v1 v3 v2 H _ ls hl hP hD hS h
      · have h := br_F hc h
        refine lv_aload_n hx hb dX1_still_20 rfl (lv_at hl 0 rfl) ?_
        refine lv_iload_n hx hb dX1_still_21 rfl (lv_at hl 3 rfl) ?_
        obtain ⟨M3, r4, hq, h⟩ := cal_o h
        refine cx_i (va_runV (As := [.int v3]) (rest := [.int v2]) ⟨hx, hb, hml, hown, hgt⟩ (z_ChipMapModel_isStored l D cI cZ cC cJ cA P s0 hAO M1 v3 M3 r4 hq) (cwV 1 hgt (gV wd_6_94 wd_6_96 sl__ChipMapModel____ChipMapModel___isStored____I_Z_____ChipMapModel___isStored____I_Z__ wd_0_15 wd_6_97) rfl rfl rfl (by decide +kernel) ⟨Nat.le_of_ble_eq_true rfl, Nat.le_of_ble_eq_true rfl⟩) (prV hP hK hD hO hAO hS (va_recv hK hP (ci := 1) (q0 := 0) rfl gY_0)) rfl rfl hl.1 rfl (lv_room (Nat.le_of_ble_eq_true rfl)) dX1_still_22 ⟨Nat.le_of_ble_eq_true rfl, Nat.le_of_ble_eq_true rfl⟩) hS (fun H locs hP hD hS => ?_)
        refine lv_if_eq hx hb dX1_still_25 (tgt := 44) rfl (fun hc => ?_) (fun hc => ?_)
        · have h := br_T hc h
          have hl := lv_sub hl [0, 1, 3] (l' := [(0, .ref (P 0)), (1, .int v1), (3, .int v3)]) rfl
          exact b_ChipMapModel_still_44 hx hb hml hr hlk hgt hown hK hO hAO ih M3 v1 v3 v2 H _ ls hl hP hD hS h
        · have h := br_F hc h
          refine lv_aload_n hx hb dX1_still_28 rfl (lv_at hl 0 rfl) ?_
          refine va_get (D := D) (ci := 1) (v := .ref (P 33)) (C := RX1) (T := TX1) (N := 76) hx hb hgt iwX1 hown hK hP 0 gY_0 rfl 43 (Nat.le_of_ble_eq_true rfl) (hgt _ wd_5_4) (fun _ h9 => h9) rfl dX1_still_29 ?_
          refine lv_iload_n hx hb dX1_still_32 rfl (lv_at hl 3 rfl) ?_
          refine va_iald hx hb hK hP 33 0 gY_33 rfl (ix_l h) dX1_still_33 ?_
          have h := ix_r h
          refine lv_aload_n hx hb dX1_still_34 rfl (lv_at hl 0 rfl) ?_
          refine va_get (D := D) (ci := 1) (v := .ref (P 26)) (C := RX1) (T := TX1) (N := 76) hx hb hgt iwX1 hown hK hP 0 gY_0 rfl 35 (Nat.le_of_ble_eq_true rfl) (hgt _ wd_4_236) (fun _ h9 => h9) rfl dX1_still_35 ?_
          refine lv_iload_n hx hb dX1_still_38 rfl (lv_at hl 3 rfl) ?_
          refine va_iald hx hb hK hP 26 0 gY_26 rfl (ix_l h) dX1_still_39 ?_
          have h := ix_r h
          refine lv_ishl hx hb dX1_still_40 ?_
          refine lv_goto hx hb dX1_still_41 (tgt := 45) rfl ?_
          have hl := lv_sub hl [0, 1, 3] (l' := [(0, .ref (P 0)), (1, .int v1), (3, .int v3)]) rfl
          exact b_ChipMapModel_still_45 hx hb hml hr hlk hgt hown hK hO hAO ih M3 v1 v3 (((M3.1 33 (v3 : Int32).toNatClampNeg) : Int32) <<< ((M3.1 26 (v3 : Int32).toNatClampNeg) &&& 31)) v2 H _ ls hl hP hD hS h
set_option maxHeartbeats 4000000 in
set_option maxRecDepth 20000 in
theorem b_ChipMapModel_still_0 {p : Program} {l : Launch} {e : Env} {s s0 : State} {m : MethodId} {args : Array Value} {below : List Frame} {meth : Method} {c : Code} {D : va_G} {cI cZ cC cJ cA : ClassId} {P : Nat → Nat} {M' : Mm} {r' : Int32}  (hx : p.tables.exec = Jvm.exec) (hb : c.code = cX1_still) (hml : c.maxLocals = 4) (hr : meth.sig.returnType = (some .int)) (hlk : meth.locks = false) (hgt : ∀ w ∈ GT, w.before args s = true) (hown : s.vm.findClass RX1 = some m.cls) (hK : va_K D vwCl [(cI, .int), (cZ, .boolean), (cC, .char), (cJ, .long), (cA, .array .int)] s) (hO : Old s0 s) (hAO : ∀ q, (aP P 51) q → s0.heap.size ≤ q)  : ∀ (M : Mm) (a1 : Int32) (H : Heap) (locs : List Loc) (ls : Array Slot), lv_has ls 4 [(0, .ref (P 0)), (1, .int a1)] → va_P D vwCl ((wY cI cZ cC cJ cA P) M) H → va_D (aP P 51) ((wY cI cZ cC cJ cA P) M) → va_S (aP P 51) s.heap H locs → q_ChipMapModel_still M a1 = some (M', r') → W p l e ({ frames := 1, cells := 0, slots := 0, locals := 22 }) s m args below meth c H locs 0 0 (MQ below (gQi D (aP P 51) ((wY cI cZ cC cJ cA P) M') r') args s 0 0 (aP P 51)) (F0 m 0 ls []) := by
  intro M a1 H locs ls hl hP hD hS h
  unfold q_ChipMapModel_still at h
  refine lv_iconst (v := 0) hx hb dX1_still_0 (by decide) ?_
  refine lv_istore_n hx hb dX1_still_1 rfl hl (Nat.le_of_ble_eq_true rfl) (lv' := [(2, .int 0), (0, .ref (P 0)), (1, .int a1)]) rfl (fun ls hl => ?_)
  refine lv_iconst (v := 0) hx hb dX1_still_2 (by decide) ?_
  refine lv_istore_n hx hb dX1_still_3 rfl hl (Nat.le_of_ble_eq_true rfl) (lv' := [(3, .int 0), (2, .int 0), (0, .ref (P 0)), (1, .int a1)]) rfl (fun ls hl => ?_)
  have hl := lv_sub hl [2, 3, 1, 0] (l' := [(0, .ref (P 0)), (1, .int a1), (2, .int 0), (3, .int 0)]) rfl
  exact b_ChipMapModel_still_4 hx hb hml hr hlk hgt hown hK hO hAO 4000 M a1 0 0 H _ ls hl hP hD hS h
set_option maxHeartbeats 4000000 in
set_option maxRecDepth 20000 in
theorem z_ChipMapModel_still (l : Launch) (D : va_G) (cI cZ cC cJ cA : ClassId) (P : Nat → Nat) (s0 : State) (hAO : ∀ q, (aP P 51) q → s0.heap.size ≤ q) (M : Mm) (a1 : Int32) (M' : Mm) (r' : Int32) (h : q_ChipMapModel_still M a1 = some (M', r')) : Met l yX1_still wsX1_still ({ frames := 1, cells := 0, slots := 0, locals := 22 }) (va_Pc [.ref (P 0), .int a1] (gPre s0 D [(cI, .int), (cZ, .boolean), (cC, .char), (cJ, .long), (cA, .array .int)] (aP P 51) ((wY cI cZ cC cJ cA P) M))) (gQi D (aP P 51) ((wY cI cZ cC cJ cA P) M') r') 0 0 (aP P 51) := by
  refine Met.ofW (cc := cX1_still) (maxL := 4) (ret := (some .int)) (by decide) rfl ?_
  intro p e s m args below meth c s₁ B hml hv
  obtain ⟨rfl, hP, hK, hD, hO⟩ := hv
  have hx := B.exec
  have hb := B.bytes
  have hr := B.returns
  have hlk := B.notSynchronized
  have hgt := fun w (h : w ∈ GT) => atoms_spec (ws := wsX1_still) B.pre w (List.mem_cons_of_mem _ h)
  have hown : s.vm.findClass RX1 = some m.cls := findClass_of_methodNamed B.named
  have hS : va_S (aP P 51) s.heap s.heap [] := va_S.rf
  have hl := lv_entry ([.ref (P 0), .int a1]) (n := 4) (Nat.le_of_ble_eq_true rfl)
  rw [lg_entry_eq]
  generalize (lg_sl ([.ref (P 0), .int a1]) ++ List.replicate (4 - (lg_sl ([.ref (P 0), .int a1])).length) Slot.unset).toArray = ls at hl ⊢
  have hl : lv_has ls 4 [(0, .ref (P 0)), (1, .int a1)] := hl
  exact b_ChipMapModel_still_0 hx hb hml hr hlk hgt hown hK hO hAO M a1 s.heap [] ls hl hP hD hS h
def q_ChipMapModel_with  (M : Mm) (a1 : Int32) (a2 : Int32) (a3 : Int32) : Rs := ix a2 26 <| ix a2 26 <| ix a2 26 <| some (M, ((a1 &&& ((((((1 : Int32) <<< ((M.1 27 (a2 : Int32).toNatClampNeg) &&& 31)) - 1) : Int32) <<< ((M.1 26 (a2 : Int32).toNatClampNeg) &&& 31)) ^^^ (-1))) ||| ((a3 : Int32) <<< ((M.1 26 (a2 : Int32).toNatClampNeg) &&& 31))))
set_option maxHeartbeats 4000000 in
set_option maxRecDepth 20000 in
theorem b_ChipMapModel_with_0 {p : Program} {l : Launch} {e : Env} {s s0 : State} {m : MethodId} {args : Array Value} {below : List Frame} {meth : Method} {c : Code} {D : va_G} {cI cZ cC cJ cA : ClassId} {P : Nat → Nat} {M' : Mm} {r' : Int32}  (hx : p.tables.exec = Jvm.exec) (hb : c.code = cX1_with) (hml : c.maxLocals = 4) (hr : meth.sig.returnType = (some .int)) (hlk : meth.locks = false) (hgt : ∀ w ∈ GT, w.before args s = true) (hown : s.vm.findClass RX1 = some m.cls) (hK : va_K D vwCl [(cI, .int), (cZ, .boolean), (cC, .char), (cJ, .long), (cA, .array .int)] s) (hO : Old s0 s) (hAO : ∀ q, (aP P 51) q → s0.heap.size ≤ q)  : ∀ (M : Mm) (a1 : Int32) (a2 : Int32) (a3 : Int32) (H : Heap) (locs : List Loc) (ls : Array Slot), lv_has ls 4 [(0, .ref (P 0)), (1, .int a1), (2, .int a2), (3, .int a3)] → va_P D vwCl ((wY cI cZ cC cJ cA P) M) H → va_D (aP P 51) ((wY cI cZ cC cJ cA P) M) → va_S (aP P 51) s.heap H locs → q_ChipMapModel_with M a1 a2 a3 = some (M', r') → W p l e ({ frames := 0, cells := 0, slots := 0, locals := 0 }) s m args below meth c H locs 0 0 (MQ below (gQi D (aP P 51) ((wY cI cZ cC cJ cA P) M') r') args s 0 0 (aP P 51)) (F0 m 0 ls []) := by
  intro M a1 a2 a3 H locs ls hl hP hD hS h
  unfold q_ChipMapModel_with at h
  refine lv_iload_n hx hb dX1_with_0 rfl (lv_at hl 1 rfl) ?_
  refine lv_iconst (v := 1) hx hb dX1_with_1 (by decide) ?_
  refine lv_aload_n hx hb dX1_with_2 rfl (lv_at hl 0 rfl) ?_
  refine va_get (D := D) (ci := 1) (v := .ref (P 27)) (C := RX1) (T := TX1) (N := 76) hx hb hgt iwX1 hown hK hP 0 gY_0 rfl 36 (Nat.le_of_ble_eq_true rfl) (hgt _ wd_4_237) (fun _ h9 => h9) rfl dX1_with_3 ?_
  refine lv_iload_n hx hb dX1_with_6 rfl (lv_at hl 2 rfl) ?_
  refine va_iald hx hb hK hP 27 0 gY_27 rfl (ix_l h) dX1_with_7 ?_
  have h := ix_r h
  refine lv_ishl hx hb dX1_with_8 ?_
  refine lv_iconst (v := 1) hx hb dX1_with_9 (by decide) ?_
  refine lv_isub hx hb dX1_with_10 ?_
  refine lv_aload_n hx hb dX1_with_11 rfl (lv_at hl 0 rfl) ?_
  refine va_get (D := D) (ci := 1) (v := .ref (P 26)) (C := RX1) (T := TX1) (N := 76) hx hb hgt iwX1 hown hK hP 0 gY_0 rfl 35 (Nat.le_of_ble_eq_true rfl) (hgt _ wd_4_236) (fun _ h9 => h9) rfl dX1_with_12 ?_
  refine lv_iload_n hx hb dX1_with_15 rfl (lv_at hl 2 rfl) ?_
  refine va_iald hx hb hK hP 26 0 gY_26 rfl (ix_l h) dX1_with_16 ?_
  have h := ix_r h
  refine lv_ishl hx hb dX1_with_17 ?_
  refine lv_iconst (v := (-1)) hx hb dX1_with_18 (by decide) ?_
  refine lv_ixor hx hb dX1_with_19 ?_
  refine lv_iand hx hb dX1_with_20 ?_
  refine lv_iload_n hx hb dX1_with_21 rfl (lv_at hl 3 rfl) ?_
  refine lv_aload_n hx hb dX1_with_22 rfl (lv_at hl 0 rfl) ?_
  refine va_get (D := D) (ci := 1) (v := .ref (P 26)) (C := RX1) (T := TX1) (N := 76) hx hb hgt iwX1 hown hK hP 0 gY_0 rfl 35 (Nat.le_of_ble_eq_true rfl) (hgt _ wd_4_236) (fun _ h9 => h9) rfl dX1_with_23 ?_
  refine lv_iload_n hx hb dX1_with_26 rfl (lv_at hl 2 rfl) ?_
  refine va_iald hx hb hK hP 26 0 gY_26 rfl (ix_l h) dX1_with_27 ?_
  have h := ix_r h
  refine lv_ishl hx hb dX1_with_28 ?_
  refine lv_ior hx hb dX1_with_29 ?_
  exact rt_i (w := (wY cI cZ cC cJ cA P)) hx hb hr hlk hP hD hS h dX1_with_30
set_option maxHeartbeats 4000000 in
set_option maxRecDepth 20000 in
theorem z_ChipMapModel_with (l : Launch) (D : va_G) (cI cZ cC cJ cA : ClassId) (P : Nat → Nat) (s0 : State) (hAO : ∀ q, (aP P 51) q → s0.heap.size ≤ q) (M : Mm) (a1 : Int32) (a2 : Int32) (a3 : Int32) (M' : Mm) (r' : Int32) (h : q_ChipMapModel_with M a1 a2 a3 = some (M', r')) : Met l yX1_with wsX1_with ({ frames := 0, cells := 0, slots := 0, locals := 0 }) (va_Pc [.ref (P 0), .int a1, .int a2, .int a3] (gPre s0 D [(cI, .int), (cZ, .boolean), (cC, .char), (cJ, .long), (cA, .array .int)] (aP P 51) ((wY cI cZ cC cJ cA P) M))) (gQi D (aP P 51) ((wY cI cZ cC cJ cA P) M') r') 0 0 (aP P 51) := by
  refine Met.ofW (cc := cX1_with) (maxL := 4) (ret := (some .int)) (by decide) rfl ?_
  intro p e s m args below meth c s₁ B hml hv
  obtain ⟨rfl, hP, hK, hD, hO⟩ := hv
  have hx := B.exec
  have hb := B.bytes
  have hr := B.returns
  have hlk := B.notSynchronized
  have hgt := fun w (h : w ∈ GT) => atoms_spec (ws := wsX1_with) B.pre w (List.mem_cons_of_mem _ h)
  have hown : s.vm.findClass RX1 = some m.cls := findClass_of_methodNamed B.named
  have hS : va_S (aP P 51) s.heap s.heap [] := va_S.rf
  have hl := lv_entry ([.ref (P 0), .int a1, .int a2, .int a3]) (n := 4) (Nat.le_of_ble_eq_true rfl)
  rw [lg_entry_eq]
  generalize (lg_sl ([.ref (P 0), .int a1, .int a2, .int a3]) ++ List.replicate (4 - (lg_sl ([.ref (P 0), .int a1, .int a2, .int a3])).length) Slot.unset).toArray = ls at hl ⊢
  have hl : lv_has ls 4 [(0, .ref (P 0)), (1, .int a1), (2, .int a2), (3, .int a3)] := hl
  exact b_ChipMapModel_with_0 hx hb hml hr hlk hgt hown hK hO hAO M a1 a2 a3 s.heap [] ls hl hP hD hS h
def q_ChipMapModel_operate  (M : Mm) (a1 : Int32) (a2 : Int32) : Rs := if (M.1 0 55) = 0 then (cal (q_ChipMapModel_firstBroken M a1 a2) fun M1 r2 => if r2 = (-1) then (cal (q_ChipMapModel_write M1 a1 a2) fun M3 r4 => some (M3, 0)) else (lt' (stI M1 0 (upd (M1.1 0) 55 1)) fun M3 => lt' (stI M3 0 (upd (M3.1 0) 56 r2)) fun M4 => some (M4, 0))) else (some (M, 0))
set_option maxHeartbeats 4000000 in
set_option maxRecDepth 20000 in
theorem b_ChipMapModel_operate_0 {p : Program} {l : Launch} {e : Env} {s s0 : State} {m : MethodId} {args : Array Value} {below : List Frame} {meth : Method} {c : Code} {D : va_G} {cI cZ cC cJ cA : ClassId} {P : Nat → Nat} {M' : Mm} {r' : Int32}  (hx : p.tables.exec = Jvm.exec) (hb : c.code = cX1_operate) (hml : c.maxLocals = 4) (hr : meth.sig.returnType = none) (hlk : meth.locks = false) (hgt : ∀ w ∈ GT, w.before args s = true) (hown : s.vm.findClass RX1 = some m.cls) (hK : va_K D vwCl [(cI, .int), (cZ, .boolean), (cC, .char), (cJ, .long), (cA, .array .int)] s) (hO : Old s0 s) (hAO : ∀ q, (aP P 51) q → s0.heap.size ≤ q)  : ∀ (M : Mm) (a1 : Int32) (a2 : Int32) (H : Heap) (locs : List Loc) (ls : Array Slot), lv_has ls 4 [(0, .ref (P 0)), (1, .int a1), (2, .int a2)] → va_P D vwCl ((wY cI cZ cC cJ cA P) M) H → va_D (aP P 51) ((wY cI cZ cC cJ cA P) M) → va_S (aP P 51) s.heap H locs → q_ChipMapModel_operate M a1 a2 = some (M', r') → W p l e ({ frames := 4, cells := 0, slots := 0, locals := 94 }) s m args below meth c H locs 0 0 (MQ below (gQv D (aP P 51) ((wY cI cZ cC cJ cA P) M')) args s 0 0 (aP P 51)) (F0 m 0 ls []) := by
  intro M a1 a2 H locs ls hl hP hD hS h
  unfold q_ChipMapModel_operate at h
  refine lv_aload_n hx hb dX1_operate_0 rfl (lv_at hl 0 rfl) ?_
  refine va_get (D := D) (ci := 1) (v := .int (M.1 0 55)) (C := RX1) (T := TX1) (N := 76) hx hb hgt iwX1 hown hK hP 0 gY_0 rfl 55 (Nat.le_of_ble_eq_true rfl) (hgt _ wd_5_16) (fun _ h9 => h9) rfl dX1_operate_1 ?_
  refine lv_if_eq hx hb dX1_operate_4 (tgt := 8) rfl (fun hc => ?_) (fun hc => ?_)
  · have h := br_T hc h
    refine lv_aload_n hx hb dX1_operate_8 rfl (lv_at hl 0 rfl) ?_
    refine lv_iload_n hx hb dX1_operate_9 rfl (lv_at hl 1 rfl) ?_
    refine lv_iload_n hx hb dX1_operate_10 rfl (lv_at hl 2 rfl) ?_
    obtain ⟨M1, r2, hq, h⟩ := cal_o h
    refine cx_i (va_runV (As := [.int a1, .int a2]) (rest := []) ⟨hx, hb, hml, hown, hgt⟩ (z_ChipMapModel_firstBroken l D cI cZ cC cJ cA P s0 hAO M a1 a2 M1 r2 hq) (cwV 2 hgt (gV wd_6_74 wd_6_76 sl__ChipMapModel____ChipMapModel___firstBroken____II_I_____ChipMapModel___firstBroken____II_I__ wd_0_15 wd_6_77) rfl rfl rfl (by decide +kernel) ⟨Nat.le_of_ble_eq_true rfl, Nat.le_of_ble_eq_true rfl⟩) (prV hP hK hD hO hAO hS (va_recv hK hP (ci := 1) (q0 := 0) rfl gY_0)) rfl rfl hl.1 rfl (lv_room (Nat.le_of_ble_eq_true rfl)) dX1_operate_11 ⟨Nat.le_of_ble_eq_true rfl, Nat.le_of_ble_eq_true rfl⟩) hS (fun H locs hP hD hS => ?_)
    refine lv_istore_n hx hb dX1_operate_14 rfl hl (Nat.le_of_ble_eq_true rfl) (lv' := [(3, .int r2), (0, .ref (P 0)), (1, .int a1), (2, .int a2)]) rfl (fun ls hl => ?_)
    refine lv_iload_n hx hb dX1_operate_15 rfl (lv_at hl 0 rfl) ?_
    refine lv_iconst (v := (-1)) hx hb dX1_operate_16 (by decide) ?_
    refine lv_icmp_eq hx hb dX1_operate_17 (tgt := 31) rfl (fun hc => ?_) (fun hc => ?_)
    · have h := br_T hc h
      refine lv_aload_n hx hb dX1_operate_31 rfl (lv_at hl 1 rfl) ?_
      refine lv_iload_n hx hb dX1_operate_32 rfl (lv_at hl 2 rfl) ?_
      refine lv_iload_n hx hb dX1_operate_33 rfl (lv_at hl 3 rfl) ?_
      obtain ⟨M3, r4, hq, h⟩ := cal_o h
      refine cx_v (va_runV (As := [.int a1, .int a2]) (rest := []) ⟨hx, hb, hml, hown, hgt⟩ (z_ChipMapModel_write l D cI cZ cC cJ cA P s0 hAO M1 a1 a2 M3 r4 hq) (cwV 2 hgt (gV wd_6_98 wd_6_100 sl__ChipMapModel____ChipMapModel___write____II_V_____ChipMapModel___write____II_V__ wd_0_15 wd_6_101) rfl rfl rfl (by decide +kernel) ⟨Nat.le_of_ble_eq_true rfl, Nat.le_of_ble_eq_true rfl⟩) (prV hP hK hD hO hAO hS (va_recv hK hP (ci := 1) (q0 := 0) rfl gY_0)) rfl rfl hl.1 rfl (lv_room (Nat.le_of_ble_eq_true rfl)) dX1_operate_34 ⟨Nat.le_of_ble_eq_true rfl, Nat.le_of_ble_eq_true rfl⟩) hS (fun H locs hP hD hS => ?_)
      exact rt_v (w := (wY cI cZ cC cJ cA P)) (r := r') hx hb hr hlk hP hD hS h dX1_operate_37
    · have h := br_F hc h
      refine lv_aload_n hx hb dX1_operate_20 rfl (lv_at hl 1 rfl) ?_
      refine lv_iconst (v := 1) hx hb dX1_operate_21 (by decide) ?_
      refine pm_put (w := (wY cI cZ cC cJ cA P)) (D := D) (ci := 1) (x := 1) (ty := .boolean) (C := RX1) (T := TX1) (N := 76) hx hb hgt iwX1 tyX1 tyX1_ok nmX1 hown hK hP hD hS 0 gY_0 rfl 55 (Nat.le_of_ble_eq_true rfl) (hgt _ wd_5_16) (fun _ h9 => h9) rfl (by decide +kernel) rfl rfl (Nat.le_of_ble_eq_true rfl) (sY_0_55 _) dX1_operate_22 (fun M3 eM3 H locs hP hD hS => ?_)
      have h := lt_o eM3 h
      refine lv_aload_n hx hb dX1_operate_25 rfl (lv_at hl 1 rfl) ?_
      refine lv_iload_n hx hb dX1_operate_26 rfl (lv_at hl 0 rfl) ?_
      refine pm_put (w := (wY cI cZ cC cJ cA P)) (D := D) (ci := 1) (x := r2) (ty := .int) (C := RX1) (T := TX1) (N := 76) hx hb hgt iwX1 tyX1 tyX1_ok nmX1 hown hK hP hD hS 0 gY_0 rfl 56 (Nat.le_of_ble_eq_true rfl) (hgt _ wd_5_17) (fun _ h9 => h9) rfl (by decide +kernel) rfl rfl (Nat.le_of_ble_eq_true rfl) (sY_0_56 _) dX1_operate_27 (fun M4 eM4 H locs hP hD hS => ?_)
      have h := lt_o eM4 h
      exact rt_v (w := (wY cI cZ cC cJ cA P)) (r := r') hx hb hr hlk hP hD hS h dX1_operate_30
  · have h := br_F hc h
    exact rt_v (w := (wY cI cZ cC cJ cA P)) (r := r') hx hb hr hlk hP hD hS h dX1_operate_7
set_option maxHeartbeats 4000000 in
set_option maxRecDepth 20000 in
theorem z_ChipMapModel_operate (l : Launch) (D : va_G) (cI cZ cC cJ cA : ClassId) (P : Nat → Nat) (s0 : State) (hAO : ∀ q, (aP P 51) q → s0.heap.size ≤ q) (M : Mm) (a1 : Int32) (a2 : Int32) (M' : Mm) (r' : Int32) (h : q_ChipMapModel_operate M a1 a2 = some (M', r')) : Met l yX1_operate wsX1_operate ({ frames := 4, cells := 0, slots := 0, locals := 94 }) (va_Pc [.ref (P 0), .int a1, .int a2] (gPre s0 D [(cI, .int), (cZ, .boolean), (cC, .char), (cJ, .long), (cA, .array .int)] (aP P 51) ((wY cI cZ cC cJ cA P) M))) (gQv D (aP P 51) ((wY cI cZ cC cJ cA P) M')) 0 0 (aP P 51) := by
  refine Met.ofW (cc := cX1_operate) (maxL := 4) (ret := none) (by decide) rfl ?_
  intro p e s m args below meth c s₁ B hml hv
  obtain ⟨rfl, hP, hK, hD, hO⟩ := hv
  have hx := B.exec
  have hb := B.bytes
  have hr := B.returns
  have hlk := B.notSynchronized
  have hgt := fun w (h : w ∈ GT) => atoms_spec (ws := wsX1_operate) B.pre w (List.mem_cons_of_mem _ h)
  have hown : s.vm.findClass RX1 = some m.cls := findClass_of_methodNamed B.named
  have hS : va_S (aP P 51) s.heap s.heap [] := va_S.rf
  have hl := lv_entry ([.ref (P 0), .int a1, .int a2]) (n := 4) (Nat.le_of_ble_eq_true rfl)
  rw [lg_entry_eq]
  generalize (lg_sl ([.ref (P 0), .int a1, .int a2]) ++ List.replicate (4 - (lg_sl ([.ref (P 0), .int a1, .int a2])).length) Slot.unset).toArray = ls at hl ⊢
  have hl : lv_has ls 4 [(0, .ref (P 0)), (1, .int a1), (2, .int a2)] := hl
  exact b_ChipMapModel_operate_0 hx hb hml hr hlk hgt hown hK hO hAO M a1 a2 s.heap [] ls hl hP hD hS h
end
section
def q_ChipMapModel_reach  (M : Mm) (a1 : Int32) : Rs := cal (q_ChipMapModel_isThere M a1) fun M1 r2 => if r2 = 0 then (ix a1 16 <| lt' (M1.1 21 (a1 : Int32).toNatClampNeg) fun x3 => ix x3 26 <| ix x3 26 <| cal (q_ChipMapModel_still M1 (M1.1 25 (x3 : Int32).toNatClampNeg)) fun M4 r5 => ix a1 16 <| cal (q_ChipMapModel_with M4 r5 x3 (M4.1 22 (a1 : Int32).toNatClampNeg)) fun M6 r7 => cal (q_ChipMapModel_operate M6 (M1.1 25 (x3 : Int32).toNatClampNeg) r7) fun M8 r9 => some (M8, 0)) else (some (M1, 0))
set_option maxHeartbeats 4000000 in
set_option maxRecDepth 20000 in
theorem b_ChipMapModel_reach_0 {p : Program} {l : Launch} {e : Env} {s s0 : State} {m : MethodId} {args : Array Value} {below : List Frame} {meth : Method} {c : Code} {D : va_G} {cI cZ cC cJ cA : ClassId} {P : Nat → Nat} {M' : Mm} {r' : Int32}  (hx : p.tables.exec = Jvm.exec) (hb : c.code = cX1_reach) (hml : c.maxLocals = 3) (hr : meth.sig.returnType = none) (hlk : meth.locks = false) (hgt : ∀ w ∈ GT, w.before args s = true) (hown : s.vm.findClass RX1 = some m.cls) (hK : va_K D vwCl [(cI, .int), (cZ, .boolean), (cC, .char), (cJ, .long), (cA, .array .int)] s) (hO : Old s0 s) (hAO : ∀ q, (aP P 51) q → s0.heap.size ≤ q)  : ∀ (M : Mm) (a1 : Int32) (H : Heap) (locs : List Loc) (ls : Array Slot), lv_has ls 3 [(0, .ref (P 0)), (1, .int a1)] → va_P D vwCl ((wY cI cZ cC cJ cA P) M) H → va_D (aP P 51) ((wY cI cZ cC cJ cA P) M) → va_S (aP P 51) s.heap H locs → q_ChipMapModel_reach M a1 = some (M', r') → W p l e ({ frames := 5, cells := 0, slots := 0, locals := 117 }) s m args below meth c H locs 0 0 (MQ below (gQv D (aP P 51) ((wY cI cZ cC cJ cA P) M')) args s 0 0 (aP P 51)) (F0 m 0 ls []) := by
  intro M a1 H locs ls hl hP hD hS h
  unfold q_ChipMapModel_reach at h
  refine lv_aload_n hx hb dX1_reach_0 rfl (lv_at hl 0 rfl) ?_
  refine lv_iload_n hx hb dX1_reach_1 rfl (lv_at hl 1 rfl) ?_
  obtain ⟨M1, r2, hq, h⟩ := cal_o h
  refine cx_i (va_runV (As := [.int a1]) (rest := []) ⟨hx, hb, hml, hown, hgt⟩ (z_ChipMapModel_isThere l D cI cZ cC cJ cA P s0 hAO M a1 M1 r2 hq) (cwV 1 hgt (gV wd_6_69 wd_6_71 sl__ChipMapModel____ChipMapModel___isThere____I_Z_____ChipMapModel___isThere____I_Z__ wd_0_15 wd_6_72) rfl rfl rfl (by decide +kernel) ⟨Nat.le_of_ble_eq_true rfl, Nat.le_of_ble_eq_true rfl⟩) (prV hP hK hD hO hAO hS (va_recv hK hP (ci := 1) (q0 := 0) rfl gY_0)) rfl rfl hl.1 rfl (lv_room (Nat.le_of_ble_eq_true rfl)) dX1_reach_2 ⟨Nat.le_of_ble_eq_true rfl, Nat.le_of_ble_eq_true rfl⟩) hS (fun H locs hP hD hS => ?_)
  refine lv_if_eq hx hb dX1_reach_5 (tgt := 9) rfl (fun hc => ?_) (fun hc => ?_)
  · have h := br_T hc h
    refine lv_aload_n hx hb dX1_reach_9 rfl (lv_at hl 0 rfl) ?_
    refine va_get (D := D) (ci := 1) (v := .ref (P 21)) (C := RX1) (T := TX1) (N := 76) hx hb hgt iwX1 hown hK hP 0 gY_0 rfl 30 (Nat.le_of_ble_eq_true rfl) (hgt _ wd_4_231) (fun _ h9 => h9) rfl dX1_reach_10 ?_
    refine lv_iload_n hx hb dX1_reach_13 rfl (lv_at hl 1 rfl) ?_
    refine va_iald hx hb hK hP 21 0 gY_21 rfl (ix_l h) dX1_reach_14 ?_
    have h := ix_r h
    refine lv_topi (fun x3 ex3 => ?_)
    have h := lt_o ex3 h
    refine lv_istore_n hx hb dX1_reach_15 rfl hl (Nat.le_of_ble_eq_true rfl) (lv' := [(2, .int x3), (0, .ref (P 0)), (1, .int a1)]) rfl (fun ls hl => ?_)
    refine lv_aload_n hx hb dX1_reach_16 rfl (lv_at hl 1 rfl) ?_
    refine lv_aload_n hx hb dX1_reach_17 rfl (lv_at hl 1 rfl) ?_
    refine va_get (D := D) (ci := 1) (v := .ref (P 25)) (C := RX1) (T := TX1) (N := 76) hx hb hgt iwX1 hown hK hP 0 gY_0 rfl 34 (Nat.le_of_ble_eq_true rfl) (hgt _ wd_4_235) (fun _ h9 => h9) rfl dX1_reach_18 ?_
    refine lv_iload_n hx hb dX1_reach_21 rfl (lv_at hl 0 rfl) ?_
    refine va_iald hx hb hK hP 25 0 gY_25 rfl (ix_l h) dX1_reach_22 ?_
    have h := ix_r h
    refine lv_aload_n hx hb dX1_reach_23 rfl (lv_at hl 1 rfl) ?_
    refine lv_aload_n hx hb dX1_reach_24 rfl (lv_at hl 1 rfl) ?_
    refine lv_aload_n hx hb dX1_reach_25 rfl (lv_at hl 1 rfl) ?_
    refine va_get (D := D) (ci := 1) (v := .ref (P 25)) (C := RX1) (T := TX1) (N := 76) hx hb hgt iwX1 hown hK hP 0 gY_0 rfl 34 (Nat.le_of_ble_eq_true rfl) (hgt _ wd_4_235) (fun _ h9 => h9) rfl dX1_reach_26 ?_
    refine lv_iload_n hx hb dX1_reach_29 rfl (lv_at hl 0 rfl) ?_
    refine va_iald hx hb hK hP 25 0 gY_25 rfl (ix_l h) dX1_reach_30 ?_
    have h := ix_r h
    obtain ⟨M4, r5, hq, h⟩ := cal_o h
    refine cx_i (va_runV (As := [.int (M1.1 25 (x3 : Int32).toNatClampNeg)]) (rest := [.ref (P 0), .int (M1.1 25 (x3 : Int32).toNatClampNeg), .ref (P 0)]) ⟨hx, hb, hml, hown, hgt⟩ (z_ChipMapModel_still l D cI cZ cC cJ cA P s0 hAO M1 (M1.1 25 (x3 : Int32).toNatClampNeg) M4 r5 hq) (cwV 1 hgt (gV wd_6_146 wd_6_148 sl__ChipMapModel____ChipMapModel___still____I_I_____ChipMapModel___still____I_I__ wd_0_15 wd_6_149) rfl rfl rfl (by decide +kernel) ⟨Nat.le_of_ble_eq_true rfl, Nat.le_of_ble_eq_true rfl⟩) (prV hP hK hD hO hAO hS (va_recv hK hP (ci := 1) (q0 := 0) rfl gY_0)) rfl rfl hl.1 rfl (lv_room (Nat.le_of_ble_eq_true rfl)) dX1_reach_31 ⟨Nat.le_of_ble_eq_true rfl, Nat.le_of_ble_eq_true rfl⟩) hS (fun H locs hP hD hS => ?_)
    refine lv_iload_n hx hb dX1_reach_34 rfl (lv_at hl 0 rfl) ?_
    refine lv_aload_n hx hb dX1_reach_35 rfl (lv_at hl 1 rfl) ?_
    refine va_get (D := D) (ci := 1) (v := .ref (P 22)) (C := RX1) (T := TX1) (N := 76) hx hb hgt iwX1 hown hK hP 0 gY_0 rfl 31 (Nat.le_of_ble_eq_true rfl) (hgt _ wd_4_232) (fun _ h9 => h9) rfl dX1_reach_36 ?_
    refine lv_iload_n hx hb dX1_reach_39 rfl (lv_at hl 2 rfl) ?_
    refine va_iald hx hb hK hP 22 0 gY_22 rfl (ix_l h) dX1_reach_40 ?_
    have h := ix_r h
    obtain ⟨M6, r7, hq, h⟩ := cal_o h
    refine cx_i (va_runV (As := [.int r5, .int x3, .int (M4.1 22 (a1 : Int32).toNatClampNeg)]) (rest := [.int (M1.1 25 (x3 : Int32).toNatClampNeg), .ref (P 0)]) ⟨hx, hb, hml, hown, hgt⟩ (z_ChipMapModel_with l D cI cZ cC cJ cA P s0 hAO M4 r5 x3 (M4.1 22 (a1 : Int32).toNatClampNeg) M6 r7 hq) (cwV 3 hgt (gV wd_6_150 wd_6_152 sl__ChipMapModel____ChipMapModel___with____III_I_____ChipMapModel___with____III_I__ wd_0_15 wd_6_153) rfl rfl rfl (by decide +kernel) ⟨Nat.le_of_ble_eq_true rfl, Nat.le_of_ble_eq_true rfl⟩) (prV hP hK hD hO hAO hS (va_recv hK hP (ci := 1) (q0 := 0) rfl gY_0)) rfl rfl hl.1 rfl (lv_room (Nat.le_of_ble_eq_true rfl)) dX1_reach_41 ⟨Nat.le_of_ble_eq_true rfl, Nat.le_of_ble_eq_true rfl⟩) hS (fun H locs hP hD hS => ?_)
    obtain ⟨M8, r9, hq, h⟩ := cal_o h
    refine cx_v (va_runV (As := [.int (M1.1 25 (x3 : Int32).toNatClampNeg), .int r7]) (rest := []) ⟨hx, hb, hml, hown, hgt⟩ (z_ChipMapModel_operate l D cI cZ cC cJ cA P s0 hAO M6 (M1.1 25 (x3 : Int32).toNatClampNeg) r7 M8 r9 hq) (cwV 2 hgt (gV wd_6_154 wd_6_156 sl__ChipMapModel____ChipMapModel___operate____II_V_____ChipMapModel___operate____II_V__ wd_0_15 wd_6_157) rfl rfl rfl (by decide +kernel) ⟨Nat.le_of_ble_eq_true rfl, Nat.le_of_ble_eq_true rfl⟩) (prV hP hK hD hO hAO hS (va_recv hK hP (ci := 1) (q0 := 0) rfl gY_0)) rfl rfl hl.1 rfl (lv_room (Nat.le_of_ble_eq_true rfl)) dX1_reach_44 ⟨Nat.le_of_ble_eq_true rfl, Nat.le_of_ble_eq_true rfl⟩) hS (fun H locs hP hD hS => ?_)
    exact rt_v (w := (wY cI cZ cC cJ cA P)) (r := r') hx hb hr hlk hP hD hS h dX1_reach_47
  · have h := br_F hc h
    exact rt_v (w := (wY cI cZ cC cJ cA P)) (r := r') hx hb hr hlk hP hD hS h dX1_reach_8
set_option maxHeartbeats 4000000 in
set_option maxRecDepth 20000 in
theorem z_ChipMapModel_reach (l : Launch) (D : va_G) (cI cZ cC cJ cA : ClassId) (P : Nat → Nat) (s0 : State) (hAO : ∀ q, (aP P 51) q → s0.heap.size ≤ q) (M : Mm) (a1 : Int32) (M' : Mm) (r' : Int32) (h : q_ChipMapModel_reach M a1 = some (M', r')) : Met l yX1_reach wsX1_reach ({ frames := 5, cells := 0, slots := 0, locals := 117 }) (va_Pc [.ref (P 0), .int a1] (gPre s0 D [(cI, .int), (cZ, .boolean), (cC, .char), (cJ, .long), (cA, .array .int)] (aP P 51) ((wY cI cZ cC cJ cA P) M))) (gQv D (aP P 51) ((wY cI cZ cC cJ cA P) M')) 0 0 (aP P 51) := by
  refine Met.ofW (cc := cX1_reach) (maxL := 3) (ret := none) (by decide) rfl ?_
  intro p e s m args below meth c s₁ B hml hv
  obtain ⟨rfl, hP, hK, hD, hO⟩ := hv
  have hx := B.exec
  have hb := B.bytes
  have hr := B.returns
  have hlk := B.notSynchronized
  have hgt := fun w (h : w ∈ GT) => atoms_spec (ws := wsX1_reach) B.pre w (List.mem_cons_of_mem _ h)
  have hown : s.vm.findClass RX1 = some m.cls := findClass_of_methodNamed B.named
  have hS : va_S (aP P 51) s.heap s.heap [] := va_S.rf
  have hl := lv_entry ([.ref (P 0), .int a1]) (n := 3) (Nat.le_of_ble_eq_true rfl)
  rw [lg_entry_eq]
  generalize (lg_sl ([.ref (P 0), .int a1]) ++ List.replicate (3 - (lg_sl ([.ref (P 0), .int a1])).length) Slot.unset).toArray = ls at hl ⊢
  have hl : lv_has ls 3 [(0, .ref (P 0)), (1, .int a1)] := hl
  exact b_ChipMapModel_reach_0 hx hb hml hr hlk hgt hown hK hO hAO M a1 s.heap [] ls hl hP hD hS h
def q_ChipMapModel_isPut  (M : Mm) (a1 : Int32) (a2 : Int32) : Rs := cal (q_ChipMapModel_isField M a1) fun M1 r2 => if r2 = 0 then (some (M1, 0)) else (ix a1 26 <| if (M1.1 24 (a1 : Int32).toNatClampNeg) = 114 then (some (M1, 0)) else (ix a1 26 <| if (M1.1 24 (a1 : Int32).toNatClampNeg) = 99 then (some (M1, 0)) else (cal (q_ChipMapModel_isFit M1 a1 a2) fun M3 r4 => if r4 = 0 then (some (M3, 0)) else (some (M3, 1)))))
set_option maxHeartbeats 4000000 in
set_option maxRecDepth 20000 in
theorem b_ChipMapModel_isPut_0 {p : Program} {l : Launch} {e : Env} {s s0 : State} {m : MethodId} {args : Array Value} {below : List Frame} {meth : Method} {c : Code} {D : va_G} {cI cZ cC cJ cA : ClassId} {P : Nat → Nat} {M' : Mm} {r' : Int32}  (hx : p.tables.exec = Jvm.exec) (hb : c.code = cX1_isPut) (hml : c.maxLocals = 3) (hr : meth.sig.returnType = (some .boolean)) (hlk : meth.locks = false) (hgt : ∀ w ∈ GT, w.before args s = true) (hown : s.vm.findClass RX1 = some m.cls) (hK : va_K D vwCl [(cI, .int), (cZ, .boolean), (cC, .char), (cJ, .long), (cA, .array .int)] s) (hO : Old s0 s) (hAO : ∀ q, (aP P 51) q → s0.heap.size ≤ q)  : ∀ (M : Mm) (a1 : Int32) (a2 : Int32) (H : Heap) (locs : List Loc) (ls : Array Slot), lv_has ls 3 [(0, .ref (P 0)), (1, .int a1), (2, .int a2)] → va_P D vwCl ((wY cI cZ cC cJ cA P) M) H → va_D (aP P 51) ((wY cI cZ cC cJ cA P) M) → va_S (aP P 51) s.heap H locs → q_ChipMapModel_isPut M a1 a2 = some (M', r') → W p l e ({ frames := 1, cells := 0, slots := 0, locals := 22 }) s m args below meth c H locs 0 0 (MQ below (gQi D (aP P 51) ((wY cI cZ cC cJ cA P) M') r') args s 0 0 (aP P 51)) (F0 m 0 ls []) := by
  intro M a1 a2 H locs ls hl hP hD hS h
  unfold q_ChipMapModel_isPut at h
  refine lv_aload_n hx hb dX1_isPut_0 rfl (lv_at hl 0 rfl) ?_
  refine lv_iload_n hx hb dX1_isPut_1 rfl (lv_at hl 1 rfl) ?_
  obtain ⟨M1, r2, hq, h⟩ := cal_o h
  refine cx_i (va_runV (As := [.int a1]) (rest := []) ⟨hx, hb, hml, hown, hgt⟩ (z_ChipMapModel_isField l D cI cZ cC cJ cA P s0 hAO M a1 M1 r2 hq) (cwV 1 hgt (gV wd_6_53 wd_6_55 sl__ChipMapModel____ChipMapModel___isField____I_Z_____ChipMapModel___isField____I_Z__ wd_0_15 wd_6_56) rfl rfl rfl (by decide +kernel) ⟨Nat.le_of_ble_eq_true rfl, Nat.le_of_ble_eq_true rfl⟩) (prV hP hK hD hO hAO hS (va_recv hK hP (ci := 1) (q0 := 0) rfl gY_0)) rfl rfl hl.1 rfl (lv_room (Nat.le_of_ble_eq_true rfl)) dX1_isPut_2 ⟨Nat.le_of_ble_eq_true rfl, Nat.le_of_ble_eq_true rfl⟩) hS (fun H locs hP hD hS => ?_)
  refine lv_if_eq hx hb dX1_isPut_5 (tgt := 43) rfl (fun hc => ?_) (fun hc => ?_)
  · have h := br_T hc h
    refine lv_iconst (v := 0) hx hb dX1_isPut_43 (by decide) ?_
    exact rt_z (w := (wY cI cZ cC cJ cA P)) hx hb hr hlk rfl hP hD hS h dX1_isPut_44
  · have h := br_F hc h
    refine lv_aload_n hx hb dX1_isPut_8 rfl (lv_at hl 0 rfl) ?_
    refine va_get (D := D) (ci := 1) (v := .ref (P 24)) (C := RX1) (T := TX1) (N := 76) hx hb hgt iwX1 hown hK hP 0 gY_0 rfl 33 (Nat.le_of_ble_eq_true rfl) (hgt _ wd_4_234) (fun _ h9 => h9) rfl dX1_isPut_9 ?_
    refine lv_iload_n hx hb dX1_isPut_12 rfl (lv_at hl 1 rfl) ?_
    refine va_iald hx hb hK hP 24 0 gY_24 rfl (ix_l h) dX1_isPut_13 ?_
    have h := ix_r h
    refine lv_bipush (v := 114) hx hb dX1_isPut_14 (by decide) ?_
    refine lv_icmp_eq hx hb dX1_isPut_16 (tgt := 43) rfl (fun hc => ?_) (fun hc => ?_)
    · have h := br_T hc h
      refine lv_iconst (v := 0) hx hb dX1_isPut_43 (by decide) ?_
      exact rt_z (w := (wY cI cZ cC cJ cA P)) hx hb hr hlk rfl hP hD hS h dX1_isPut_44
    · have h := br_F hc h
      refine lv_aload_n hx hb dX1_isPut_19 rfl (lv_at hl 0 rfl) ?_
      refine va_get (D := D) (ci := 1) (v := .ref (P 24)) (C := RX1) (T := TX1) (N := 76) hx hb hgt iwX1 hown hK hP 0 gY_0 rfl 33 (Nat.le_of_ble_eq_true rfl) (hgt _ wd_4_234) (fun _ h9 => h9) rfl dX1_isPut_20 ?_
      refine lv_iload_n hx hb dX1_isPut_23 rfl (lv_at hl 1 rfl) ?_
      refine va_iald hx hb hK hP 24 0 gY_24 rfl (ix_l h) dX1_isPut_24 ?_
      have h := ix_r h
      refine lv_bipush (v := 99) hx hb dX1_isPut_25 (by decide) ?_
      refine lv_icmp_eq hx hb dX1_isPut_27 (tgt := 43) rfl (fun hc => ?_) (fun hc => ?_)
      · have h := br_T hc h
        refine lv_iconst (v := 0) hx hb dX1_isPut_43 (by decide) ?_
        exact rt_z (w := (wY cI cZ cC cJ cA P)) hx hb hr hlk rfl hP hD hS h dX1_isPut_44
      · have h := br_F hc h
        refine lv_aload_n hx hb dX1_isPut_30 rfl (lv_at hl 0 rfl) ?_
        refine lv_iload_n hx hb dX1_isPut_31 rfl (lv_at hl 1 rfl) ?_
        refine lv_iload_n hx hb dX1_isPut_32 rfl (lv_at hl 2 rfl) ?_
        obtain ⟨M3, r4, hq, h⟩ := cal_o h
        refine cx_i (va_runV (As := [.int a1, .int a2]) (rest := []) ⟨hx, hb, hml, hown, hgt⟩ (z_ChipMapModel_isFit l D cI cZ cC cJ cA P s0 hAO M1 a1 a2 M3 r4 hq) (cwV 2 hgt (gV wd_6_118 wd_6_120 sl__ChipMapModel____ChipMapModel___isFit____II_Z_____ChipMapModel___isFit____II_Z__ wd_0_15 wd_6_121) rfl rfl rfl (by decide +kernel) ⟨Nat.le_of_ble_eq_true rfl, Nat.le_of_ble_eq_true rfl⟩) (prV hP hK hD hO hAO hS (va_recv hK hP (ci := 1) (q0 := 0) rfl gY_0)) rfl rfl hl.1 rfl (lv_room (Nat.le_of_ble_eq_true rfl)) dX1_isPut_33 ⟨Nat.le_of_ble_eq_true rfl, Nat.le_of_ble_eq_true rfl⟩) hS (fun H locs hP hD hS => ?_)
        refine lv_if_eq hx hb dX1_isPut_36 (tgt := 43) rfl (fun hc => ?_) (fun hc => ?_)
        · have h := br_T hc h
          refine lv_iconst (v := 0) hx hb dX1_isPut_43 (by decide) ?_
          exact rt_z (w := (wY cI cZ cC cJ cA P)) hx hb hr hlk rfl hP hD hS h dX1_isPut_44
        · have h := br_F hc h
          refine lv_iconst (v := 1) hx hb dX1_isPut_39 (by decide) ?_
          refine lv_goto hx hb dX1_isPut_40 (tgt := 44) rfl ?_
          exact rt_z (w := (wY cI cZ cC cJ cA P)) hx hb hr hlk rfl hP hD hS h dX1_isPut_44
set_option maxHeartbeats 4000000 in
set_option maxRecDepth 20000 in
theorem z_ChipMapModel_isPut (l : Launch) (D : va_G) (cI cZ cC cJ cA : ClassId) (P : Nat → Nat) (s0 : State) (hAO : ∀ q, (aP P 51) q → s0.heap.size ≤ q) (M : Mm) (a1 : Int32) (a2 : Int32) (M' : Mm) (r' : Int32) (h : q_ChipMapModel_isPut M a1 a2 = some (M', r')) : Met l yX1_isPut wsX1_isPut ({ frames := 1, cells := 0, slots := 0, locals := 22 }) (va_Pc [.ref (P 0), .int a1, .int a2] (gPre s0 D [(cI, .int), (cZ, .boolean), (cC, .char), (cJ, .long), (cA, .array .int)] (aP P 51) ((wY cI cZ cC cJ cA P) M))) (gQi D (aP P 51) ((wY cI cZ cC cJ cA P) M') r') 0 0 (aP P 51) := by
  refine Met.ofW (cc := cX1_isPut) (maxL := 3) (ret := (some .boolean)) (by decide) rfl ?_
  intro p e s m args below meth c s₁ B hml hv
  obtain ⟨rfl, hP, hK, hD, hO⟩ := hv
  have hx := B.exec
  have hb := B.bytes
  have hr := B.returns
  have hlk := B.notSynchronized
  have hgt := fun w (h : w ∈ GT) => atoms_spec (ws := wsX1_isPut) B.pre w (List.mem_cons_of_mem _ h)
  have hown : s.vm.findClass RX1 = some m.cls := findClass_of_methodNamed B.named
  have hS : va_S (aP P 51) s.heap s.heap [] := va_S.rf
  have hl := lv_entry ([.ref (P 0), .int a1, .int a2]) (n := 3) (Nat.le_of_ble_eq_true rfl)
  rw [lg_entry_eq]
  generalize (lg_sl ([.ref (P 0), .int a1, .int a2]) ++ List.replicate (3 - (lg_sl ([.ref (P 0), .int a1, .int a2])).length) Slot.unset).toArray = ls at hl ⊢
  have hl : lv_has ls 3 [(0, .ref (P 0)), (1, .int a1), (2, .int a2)] := hl
  exact b_ChipMapModel_isPut_0 hx hb hml hr hlk hgt hown hK hO hAO M a1 a2 s.heap [] ls hl hP hD hS h
def q_ChipMapModel_doPut_19  (M : Mm) (v1 : Int32) (v2 : Int32) : Rs := ix v1 26 <| cal (q_ChipMapModel_reach M (M.1 25 (v1 : Int32).toNatClampNeg)) fun M1 r2 => ix v1 26 <| ix v1 26 <| cal (q_ChipMapModel_still M1 (M1.1 25 (v1 : Int32).toNatClampNeg)) fun M3 r4 => cal (q_ChipMapModel_with M3 r4 v1 v2) fun M5 r6 => cal (q_ChipMapModel_operate M5 (M1.1 25 (v1 : Int32).toNatClampNeg) r6) fun M7 r8 => some (M7, 0)
def q_ChipMapModel_doPut  (M : Mm) (a1 : Int32) (a2 : Int32) : Rs := cal (q_ChipMapModel_isStored M a1) fun M1 r2 => if r2 = 0 then (q_ChipMapModel_doPut_19 M1 a1 a2) else (ix a1 78 <| if (M1.1 33 (a1 : Int32).toNatClampNeg) = a2 then (some (M1, 0)) else (q_ChipMapModel_doPut_19 M1 a1 a2))
set_option maxHeartbeats 4000000 in
set_option maxRecDepth 20000 in
theorem b_ChipMapModel_doPut_19 {p : Program} {l : Launch} {e : Env} {s s0 : State} {m : MethodId} {args : Array Value} {below : List Frame} {meth : Method} {c : Code} {D : va_G} {cI cZ cC cJ cA : ClassId} {P : Nat → Nat} {M' : Mm} {r' : Int32}  (hx : p.tables.exec = Jvm.exec) (hb : c.code = cX1_doPut) (hml : c.maxLocals = 3) (hr : meth.sig.returnType = none) (hlk : meth.locks = false) (hgt : ∀ w ∈ GT, w.before args s = true) (hown : s.vm.findClass RX1 = some m.cls) (hK : va_K D vwCl [(cI, .int), (cZ, .boolean), (cC, .char), (cJ, .long), (cA, .array .int)] s) (hO : Old s0 s) (hAO : ∀ q, (aP P 51) q → s0.heap.size ≤ q)  : ∀ (M : Mm) (v1 : Int32) (v2 : Int32) (H : Heap) (locs : List Loc) (ls : Array Slot), lv_has ls 3 [(0, .ref (P 0)), (1, .int v1), (2, .int v2)] → va_P D vwCl ((wY cI cZ cC cJ cA P) M) H → va_D (aP P 51) ((wY cI cZ cC cJ cA P) M) → va_S (aP P 51) s.heap H locs → q_ChipMapModel_doPut_19 M v1 v2 = some (M', r') → W p l e ({ frames := 6, cells := 0, slots := 0, locals := 139 }) s m args below meth c H locs 0 0 (MQ below (gQv D (aP P 51) ((wY cI cZ cC cJ cA P) M')) args s 0 0 (aP P 51)) (F0 m 19 ls []) := by
  intro M v1 v2 H locs ls hl hP hD hS h
  unfold q_ChipMapModel_doPut_19 at h
  refine lv_aload_n hx hb dX1_doPut_19 rfl (lv_at hl 0 rfl) ?_
  refine lv_aload_n hx hb dX1_doPut_20 rfl (lv_at hl 0 rfl) ?_
  refine va_get (D := D) (ci := 1) (v := .ref (P 25)) (C := RX1) (T := TX1) (N := 76) hx hb hgt iwX1 hown hK hP 0 gY_0 rfl 34 (Nat.le_of_ble_eq_true rfl) (hgt _ wd_4_235) (fun _ h9 => h9) rfl dX1_doPut_21 ?_
  refine lv_iload_n hx hb dX1_doPut_24 rfl (lv_at hl 1 rfl) ?_
  refine va_iald hx hb hK hP 25 0 gY_25 rfl (ix_l h) dX1_doPut_25 ?_
  have h := ix_r h
  obtain ⟨M1, r2, hq, h⟩ := cal_o h
  refine cx_v (va_runV (As := [.int (M.1 25 (v1 : Int32).toNatClampNeg)]) (rest := []) ⟨hx, hb, hml, hown, hgt⟩ (z_ChipMapModel_reach l D cI cZ cC cJ cA P s0 hAO M (M.1 25 (v1 : Int32).toNatClampNeg) M1 r2 hq) (cwV 1 hgt (gV wd_6_142 wd_6_144 sl__ChipMapModel____ChipMapModel___reach____I_V_____ChipMapModel___reach____I_V__ wd_0_15 wd_6_145) rfl rfl rfl (by decide +kernel) ⟨Nat.le_of_ble_eq_true rfl, Nat.le_of_ble_eq_true rfl⟩) (prV hP hK hD hO hAO hS (va_recv hK hP (ci := 1) (q0 := 0) rfl gY_0)) rfl rfl hl.1 rfl (lv_room (Nat.le_of_ble_eq_true rfl)) dX1_doPut_26 ⟨Nat.le_of_ble_eq_true rfl, Nat.le_of_ble_eq_true rfl⟩) hS (fun H locs hP hD hS => ?_)
  refine lv_aload_n hx hb dX1_doPut_29 rfl (lv_at hl 0 rfl) ?_
  refine lv_aload_n hx hb dX1_doPut_30 rfl (lv_at hl 0 rfl) ?_
  refine va_get (D := D) (ci := 1) (v := .ref (P 25)) (C := RX1) (T := TX1) (N := 76) hx hb hgt iwX1 hown hK hP 0 gY_0 rfl 34 (Nat.le_of_ble_eq_true rfl) (hgt _ wd_4_235) (fun _ h9 => h9) rfl dX1_doPut_31 ?_
  refine lv_iload_n hx hb dX1_doPut_34 rfl (lv_at hl 1 rfl) ?_
  refine va_iald hx hb hK hP 25 0 gY_25 rfl (ix_l h) dX1_doPut_35 ?_
  have h := ix_r h
  refine lv_aload_n hx hb dX1_doPut_36 rfl (lv_at hl 0 rfl) ?_
  refine lv_aload_n hx hb dX1_doPut_37 rfl (lv_at hl 0 rfl) ?_
  refine lv_aload_n hx hb dX1_doPut_38 rfl (lv_at hl 0 rfl) ?_
  refine va_get (D := D) (ci := 1) (v := .ref (P 25)) (C := RX1) (T := TX1) (N := 76) hx hb hgt iwX1 hown hK hP 0 gY_0 rfl 34 (Nat.le_of_ble_eq_true rfl) (hgt _ wd_4_235) (fun _ h9 => h9) rfl dX1_doPut_39 ?_
  refine lv_iload_n hx hb dX1_doPut_42 rfl (lv_at hl 1 rfl) ?_
  refine va_iald hx hb hK hP 25 0 gY_25 rfl (ix_l h) dX1_doPut_43 ?_
  have h := ix_r h
  obtain ⟨M3, r4, hq, h⟩ := cal_o h
  refine cx_i (va_runV (As := [.int (M1.1 25 (v1 : Int32).toNatClampNeg)]) (rest := [.ref (P 0), .int (M1.1 25 (v1 : Int32).toNatClampNeg), .ref (P 0)]) ⟨hx, hb, hml, hown, hgt⟩ (z_ChipMapModel_still l D cI cZ cC cJ cA P s0 hAO M1 (M1.1 25 (v1 : Int32).toNatClampNeg) M3 r4 hq) (cwV 1 hgt (gV wd_6_146 wd_6_148 sl__ChipMapModel____ChipMapModel___still____I_I_____ChipMapModel___still____I_I__ wd_0_15 wd_6_149) rfl rfl rfl (by decide +kernel) ⟨Nat.le_of_ble_eq_true rfl, Nat.le_of_ble_eq_true rfl⟩) (prV hP hK hD hO hAO hS (va_recv hK hP (ci := 1) (q0 := 0) rfl gY_0)) rfl rfl hl.1 rfl (lv_room (Nat.le_of_ble_eq_true rfl)) dX1_doPut_44 ⟨Nat.le_of_ble_eq_true rfl, Nat.le_of_ble_eq_true rfl⟩) hS (fun H locs hP hD hS => ?_)
  refine lv_iload_n hx hb dX1_doPut_47 rfl (lv_at hl 1 rfl) ?_
  refine lv_iload_n hx hb dX1_doPut_48 rfl (lv_at hl 2 rfl) ?_
  obtain ⟨M5, r6, hq, h⟩ := cal_o h
  refine cx_i (va_runV (As := [.int r4, .int v1, .int v2]) (rest := [.int (M1.1 25 (v1 : Int32).toNatClampNeg), .ref (P 0)]) ⟨hx, hb, hml, hown, hgt⟩ (z_ChipMapModel_with l D cI cZ cC cJ cA P s0 hAO M3 r4 v1 v2 M5 r6 hq) (cwV 3 hgt (gV wd_6_150 wd_6_152 sl__ChipMapModel____ChipMapModel___with____III_I_____ChipMapModel___with____III_I__ wd_0_15 wd_6_153) rfl rfl rfl (by decide +kernel) ⟨Nat.le_of_ble_eq_true rfl, Nat.le_of_ble_eq_true rfl⟩) (prV hP hK hD hO hAO hS (va_recv hK hP (ci := 1) (q0 := 0) rfl gY_0)) rfl rfl hl.1 rfl (lv_room (Nat.le_of_ble_eq_true rfl)) dX1_doPut_49 ⟨Nat.le_of_ble_eq_true rfl, Nat.le_of_ble_eq_true rfl⟩) hS (fun H locs hP hD hS => ?_)
  obtain ⟨M7, r8, hq, h⟩ := cal_o h
  refine cx_v (va_runV (As := [.int (M1.1 25 (v1 : Int32).toNatClampNeg), .int r6]) (rest := []) ⟨hx, hb, hml, hown, hgt⟩ (z_ChipMapModel_operate l D cI cZ cC cJ cA P s0 hAO M5 (M1.1 25 (v1 : Int32).toNatClampNeg) r6 M7 r8 hq) (cwV 2 hgt (gV wd_6_154 wd_6_156 sl__ChipMapModel____ChipMapModel___operate____II_V_____ChipMapModel___operate____II_V__ wd_0_15 wd_6_157) rfl rfl rfl (by decide +kernel) ⟨Nat.le_of_ble_eq_true rfl, Nat.le_of_ble_eq_true rfl⟩) (prV hP hK hD hO hAO hS (va_recv hK hP (ci := 1) (q0 := 0) rfl gY_0)) rfl rfl hl.1 rfl (lv_room (Nat.le_of_ble_eq_true rfl)) dX1_doPut_52 ⟨Nat.le_of_ble_eq_true rfl, Nat.le_of_ble_eq_true rfl⟩) hS (fun H locs hP hD hS => ?_)
  exact rt_v (w := (wY cI cZ cC cJ cA P)) (r := r') hx hb hr hlk hP hD hS h dX1_doPut_55
set_option maxHeartbeats 4000000 in
set_option maxRecDepth 20000 in
theorem b_ChipMapModel_doPut_0 {p : Program} {l : Launch} {e : Env} {s s0 : State} {m : MethodId} {args : Array Value} {below : List Frame} {meth : Method} {c : Code} {D : va_G} {cI cZ cC cJ cA : ClassId} {P : Nat → Nat} {M' : Mm} {r' : Int32}  (hx : p.tables.exec = Jvm.exec) (hb : c.code = cX1_doPut) (hml : c.maxLocals = 3) (hr : meth.sig.returnType = none) (hlk : meth.locks = false) (hgt : ∀ w ∈ GT, w.before args s = true) (hown : s.vm.findClass RX1 = some m.cls) (hK : va_K D vwCl [(cI, .int), (cZ, .boolean), (cC, .char), (cJ, .long), (cA, .array .int)] s) (hO : Old s0 s) (hAO : ∀ q, (aP P 51) q → s0.heap.size ≤ q)  : ∀ (M : Mm) (a1 : Int32) (a2 : Int32) (H : Heap) (locs : List Loc) (ls : Array Slot), lv_has ls 3 [(0, .ref (P 0)), (1, .int a1), (2, .int a2)] → va_P D vwCl ((wY cI cZ cC cJ cA P) M) H → va_D (aP P 51) ((wY cI cZ cC cJ cA P) M) → va_S (aP P 51) s.heap H locs → q_ChipMapModel_doPut M a1 a2 = some (M', r') → W p l e ({ frames := 6, cells := 0, slots := 0, locals := 139 }) s m args below meth c H locs 0 0 (MQ below (gQv D (aP P 51) ((wY cI cZ cC cJ cA P) M')) args s 0 0 (aP P 51)) (F0 m 0 ls []) := by
  intro M a1 a2 H locs ls hl hP hD hS h
  unfold q_ChipMapModel_doPut at h
  refine lv_aload_n hx hb dX1_doPut_0 rfl (lv_at hl 0 rfl) ?_
  refine lv_iload_n hx hb dX1_doPut_1 rfl (lv_at hl 1 rfl) ?_
  obtain ⟨M1, r2, hq, h⟩ := cal_o h
  refine cx_i (va_runV (As := [.int a1]) (rest := []) ⟨hx, hb, hml, hown, hgt⟩ (z_ChipMapModel_isStored l D cI cZ cC cJ cA P s0 hAO M a1 M1 r2 hq) (cwV 1 hgt (gV wd_6_94 wd_6_96 sl__ChipMapModel____ChipMapModel___isStored____I_Z_____ChipMapModel___isStored____I_Z__ wd_0_15 wd_6_97) rfl rfl rfl (by decide +kernel) ⟨Nat.le_of_ble_eq_true rfl, Nat.le_of_ble_eq_true rfl⟩) (prV hP hK hD hO hAO hS (va_recv hK hP (ci := 1) (q0 := 0) rfl gY_0)) rfl rfl hl.1 rfl (lv_room (Nat.le_of_ble_eq_true rfl)) dX1_doPut_2 ⟨Nat.le_of_ble_eq_true rfl, Nat.le_of_ble_eq_true rfl⟩) hS (fun H locs hP hD hS => ?_)
  refine lv_if_eq hx hb dX1_doPut_5 (tgt := 19) rfl (fun hc => ?_) (fun hc => ?_)
  · have h := br_T hc h
    have hl := lv_sub hl [0, 1, 2] (l' := [(0, .ref (P 0)), (1, .int a1), (2, .int a2)]) rfl
    exact b_ChipMapModel_doPut_19 hx hb hml hr hlk hgt hown hK hO hAO M1 a1 a2 H _ ls hl hP hD hS h
  · have h := br_F hc h
    refine lv_aload_n hx hb dX1_doPut_8 rfl (lv_at hl 0 rfl) ?_
    refine va_get (D := D) (ci := 1) (v := .ref (P 33)) (C := RX1) (T := TX1) (N := 76) hx hb hgt iwX1 hown hK hP 0 gY_0 rfl 43 (Nat.le_of_ble_eq_true rfl) (hgt _ wd_5_4) (fun _ h9 => h9) rfl dX1_doPut_9 ?_
    refine lv_iload_n hx hb dX1_doPut_12 rfl (lv_at hl 1 rfl) ?_
    refine va_iald hx hb hK hP 33 0 gY_33 rfl (ix_l h) dX1_doPut_13 ?_
    have h := ix_r h
    refine lv_iload_n hx hb dX1_doPut_14 rfl (lv_at hl 2 rfl) ?_
    refine lv_icmp_ne hx hb dX1_doPut_15 (tgt := 19) rfl (fun hc => ?_) (fun hc => ?_)
    · have h := br_F hc h
      have hl := lv_sub hl [0, 1, 2] (l' := [(0, .ref (P 0)), (1, .int a1), (2, .int a2)]) rfl
      exact b_ChipMapModel_doPut_19 hx hb hml hr hlk hgt hown hK hO hAO M1 a1 a2 H _ ls hl hP hD hS h
    · have h := br_T hc h
      exact rt_v (w := (wY cI cZ cC cJ cA P)) (r := r') hx hb hr hlk hP hD hS h dX1_doPut_18
set_option maxHeartbeats 4000000 in
set_option maxRecDepth 20000 in
theorem z_ChipMapModel_doPut (l : Launch) (D : va_G) (cI cZ cC cJ cA : ClassId) (P : Nat → Nat) (s0 : State) (hAO : ∀ q, (aP P 51) q → s0.heap.size ≤ q) (M : Mm) (a1 : Int32) (a2 : Int32) (M' : Mm) (r' : Int32) (h : q_ChipMapModel_doPut M a1 a2 = some (M', r')) : Met l yX1_doPut wsX1_doPut ({ frames := 6, cells := 0, slots := 0, locals := 139 }) (va_Pc [.ref (P 0), .int a1, .int a2] (gPre s0 D [(cI, .int), (cZ, .boolean), (cC, .char), (cJ, .long), (cA, .array .int)] (aP P 51) ((wY cI cZ cC cJ cA P) M))) (gQv D (aP P 51) ((wY cI cZ cC cJ cA P) M')) 0 0 (aP P 51) := by
  refine Met.ofW (cc := cX1_doPut) (maxL := 3) (ret := none) (by decide) rfl ?_
  intro p e s m args below meth c s₁ B hml hv
  obtain ⟨rfl, hP, hK, hD, hO⟩ := hv
  have hx := B.exec
  have hb := B.bytes
  have hr := B.returns
  have hlk := B.notSynchronized
  have hgt := fun w (h : w ∈ GT) => atoms_spec (ws := wsX1_doPut) B.pre w (List.mem_cons_of_mem _ h)
  have hown : s.vm.findClass RX1 = some m.cls := findClass_of_methodNamed B.named
  have hS : va_S (aP P 51) s.heap s.heap [] := va_S.rf
  have hl := lv_entry ([.ref (P 0), .int a1, .int a2]) (n := 3) (Nat.le_of_ble_eq_true rfl)
  rw [lg_entry_eq]
  generalize (lg_sl ([.ref (P 0), .int a1, .int a2]) ++ List.replicate (3 - (lg_sl ([.ref (P 0), .int a1, .int a2])).length) Slot.unset).toArray = ls at hl ⊢
  have hl : lv_has ls 3 [(0, .ref (P 0)), (1, .int a1), (2, .int a2)] := hl
  exact b_ChipMapModel_doPut_0 hx hb hml hr hlk hgt hown hK hO hAO M a1 a2 s.heap [] ls hl hP hD hS h
def q_ChipMapModel_isFetch  (M : Mm) (a1 : Int32) : Rs := cal (q_ChipMapModel_isField M a1) fun M1 r2 => if r2 = 0 then (some (M1, 0)) else (ix a1 26 <| if (M1.1 24 (a1 : Int32).toNatClampNeg) = 111 then (some (M1, 0)) else (some (M1, 1)))
set_option maxHeartbeats 4000000 in
set_option maxRecDepth 20000 in
theorem b_ChipMapModel_isFetch_0 {p : Program} {l : Launch} {e : Env} {s s0 : State} {m : MethodId} {args : Array Value} {below : List Frame} {meth : Method} {c : Code} {D : va_G} {cI cZ cC cJ cA : ClassId} {P : Nat → Nat} {M' : Mm} {r' : Int32}  (hx : p.tables.exec = Jvm.exec) (hb : c.code = cX1_isFetch) (hml : c.maxLocals = 2) (hr : meth.sig.returnType = (some .boolean)) (hlk : meth.locks = false) (hgt : ∀ w ∈ GT, w.before args s = true) (hown : s.vm.findClass RX1 = some m.cls) (hK : va_K D vwCl [(cI, .int), (cZ, .boolean), (cC, .char), (cJ, .long), (cA, .array .int)] s) (hO : Old s0 s) (hAO : ∀ q, (aP P 51) q → s0.heap.size ≤ q)  : ∀ (M : Mm) (a1 : Int32) (H : Heap) (locs : List Loc) (ls : Array Slot), lv_has ls 2 [(0, .ref (P 0)), (1, .int a1)] → va_P D vwCl ((wY cI cZ cC cJ cA P) M) H → va_D (aP P 51) ((wY cI cZ cC cJ cA P) M) → va_S (aP P 51) s.heap H locs → q_ChipMapModel_isFetch M a1 = some (M', r') → W p l e ({ frames := 1, cells := 0, slots := 0, locals := 21 }) s m args below meth c H locs 0 0 (MQ below (gQi D (aP P 51) ((wY cI cZ cC cJ cA P) M') r') args s 0 0 (aP P 51)) (F0 m 0 ls []) := by
  intro M a1 H locs ls hl hP hD hS h
  unfold q_ChipMapModel_isFetch at h
  refine lv_aload_n hx hb dX1_isFetch_0 rfl (lv_at hl 0 rfl) ?_
  refine lv_iload_n hx hb dX1_isFetch_1 rfl (lv_at hl 1 rfl) ?_
  obtain ⟨M1, r2, hq, h⟩ := cal_o h
  refine cx_i (va_runV (As := [.int a1]) (rest := []) ⟨hx, hb, hml, hown, hgt⟩ (z_ChipMapModel_isField l D cI cZ cC cJ cA P s0 hAO M a1 M1 r2 hq) (cwV 1 hgt (gV wd_6_53 wd_6_55 sl__ChipMapModel____ChipMapModel___isField____I_Z_____ChipMapModel___isField____I_Z__ wd_0_15 wd_6_56) rfl rfl rfl (by decide +kernel) ⟨Nat.le_of_ble_eq_true rfl, Nat.le_of_ble_eq_true rfl⟩) (prV hP hK hD hO hAO hS (va_recv hK hP (ci := 1) (q0 := 0) rfl gY_0)) rfl rfl hl.1 rfl (lv_room (Nat.le_of_ble_eq_true rfl)) dX1_isFetch_2 ⟨Nat.le_of_ble_eq_true rfl, Nat.le_of_ble_eq_true rfl⟩) hS (fun H locs hP hD hS => ?_)
  refine lv_if_eq hx hb dX1_isFetch_5 (tgt := 23) rfl (fun hc => ?_) (fun hc => ?_)
  · have h := br_T hc h
    refine lv_iconst (v := 0) hx hb dX1_isFetch_23 (by decide) ?_
    exact rt_z (w := (wY cI cZ cC cJ cA P)) hx hb hr hlk rfl hP hD hS h dX1_isFetch_24
  · have h := br_F hc h
    refine lv_aload_n hx hb dX1_isFetch_8 rfl (lv_at hl 0 rfl) ?_
    refine va_get (D := D) (ci := 1) (v := .ref (P 24)) (C := RX1) (T := TX1) (N := 76) hx hb hgt iwX1 hown hK hP 0 gY_0 rfl 33 (Nat.le_of_ble_eq_true rfl) (hgt _ wd_4_234) (fun _ h9 => h9) rfl dX1_isFetch_9 ?_
    refine lv_iload_n hx hb dX1_isFetch_12 rfl (lv_at hl 1 rfl) ?_
    refine va_iald hx hb hK hP 24 0 gY_24 rfl (ix_l h) dX1_isFetch_13 ?_
    have h := ix_r h
    refine lv_bipush (v := 111) hx hb dX1_isFetch_14 (by decide) ?_
    refine lv_icmp_eq hx hb dX1_isFetch_16 (tgt := 23) rfl (fun hc => ?_) (fun hc => ?_)
    · have h := br_T hc h
      refine lv_iconst (v := 0) hx hb dX1_isFetch_23 (by decide) ?_
      exact rt_z (w := (wY cI cZ cC cJ cA P)) hx hb hr hlk rfl hP hD hS h dX1_isFetch_24
    · have h := br_F hc h
      refine lv_iconst (v := 1) hx hb dX1_isFetch_19 (by decide) ?_
      refine lv_goto hx hb dX1_isFetch_20 (tgt := 24) rfl ?_
      exact rt_z (w := (wY cI cZ cC cJ cA P)) hx hb hr hlk rfl hP hD hS h dX1_isFetch_24
set_option maxHeartbeats 4000000 in
set_option maxRecDepth 20000 in
theorem z_ChipMapModel_isFetch (l : Launch) (D : va_G) (cI cZ cC cJ cA : ClassId) (P : Nat → Nat) (s0 : State) (hAO : ∀ q, (aP P 51) q → s0.heap.size ≤ q) (M : Mm) (a1 : Int32) (M' : Mm) (r' : Int32) (h : q_ChipMapModel_isFetch M a1 = some (M', r')) : Met l yX1_isFetch wsX1_isFetch ({ frames := 1, cells := 0, slots := 0, locals := 21 }) (va_Pc [.ref (P 0), .int a1] (gPre s0 D [(cI, .int), (cZ, .boolean), (cC, .char), (cJ, .long), (cA, .array .int)] (aP P 51) ((wY cI cZ cC cJ cA P) M))) (gQi D (aP P 51) ((wY cI cZ cC cJ cA P) M') r') 0 0 (aP P 51) := by
  refine Met.ofW (cc := cX1_isFetch) (maxL := 2) (ret := (some .boolean)) (by decide) rfl ?_
  intro p e s m args below meth c s₁ B hml hv
  obtain ⟨rfl, hP, hK, hD, hO⟩ := hv
  have hx := B.exec
  have hb := B.bytes
  have hr := B.returns
  have hlk := B.notSynchronized
  have hgt := fun w (h : w ∈ GT) => atoms_spec (ws := wsX1_isFetch) B.pre w (List.mem_cons_of_mem _ h)
  have hown : s.vm.findClass RX1 = some m.cls := findClass_of_methodNamed B.named
  have hS : va_S (aP P 51) s.heap s.heap [] := va_S.rf
  have hl := lv_entry ([.ref (P 0), .int a1]) (n := 2) (Nat.le_of_ble_eq_true rfl)
  rw [lg_entry_eq]
  generalize (lg_sl ([.ref (P 0), .int a1]) ++ List.replicate (2 - (lg_sl ([.ref (P 0), .int a1])).length) Slot.unset).toArray = ls at hl ⊢
  have hl : lv_has ls 2 [(0, .ref (P 0)), (1, .int a1)] := hl
  exact b_ChipMapModel_isFetch_0 hx hb hml hr hlk hgt hown hK hO hAO M a1 s.heap [] ls hl hP hD hS h
def q_ChipMapModel_doFetch  (M : Mm) (a1 : Int32) : Rs := ix a1 78 <| lt' (stI M 0 (upd (M.1 0) 57 (M.1 33 (a1 : Int32).toNatClampNeg))) fun M1 => ix a1 26 <| if (M1.1 24 (a1 : Int32).toNatClampNeg) = 119 then (some (M1, 0)) else (ix a1 26 <| cal (q_ChipMapModel_reach M1 (M1.1 25 (a1 : Int32).toNatClampNeg)) fun M2 r3 => if (M2.1 0 55) = 0 then (ix a1 78 <| lt' (stI M2 0 (upd (M2.1 0) 57 (M2.1 33 (a1 : Int32).toNatClampNeg))) fun M4 => ix a1 26 <| cal (q_ChipMapModel_read M4 (M4.1 25 (a1 : Int32).toNatClampNeg)) fun M5 r6 => ix a1 26 <| if (M5.1 24 (a1 : Int32).toNatClampNeg) = 99 then (ix a1 78 <| lt' (stI M5 0 (upd (M5.1 0) 57 (M5.1 35 (a1 : Int32).toNatClampNeg))) fun M7 => ix a1 78 <| lt' (stI M7 35 (upd (M7.1 35) (a1 : Int32).toNatClampNeg 0)) fun M8 => some (M8, 0)) else (some (M5, 0))) else (some (M2, 0)))
set_option maxHeartbeats 4000000 in
set_option maxRecDepth 20000 in
theorem b_ChipMapModel_doFetch_0 {p : Program} {l : Launch} {e : Env} {s s0 : State} {m : MethodId} {args : Array Value} {below : List Frame} {meth : Method} {c : Code} {D : va_G} {cI cZ cC cJ cA : ClassId} {P : Nat → Nat} {M' : Mm} {r' : Int32}  (hx : p.tables.exec = Jvm.exec) (hb : c.code = cX1_doFetch) (hml : c.maxLocals = 2) (hr : meth.sig.returnType = none) (hlk : meth.locks = false) (hgt : ∀ w ∈ GT, w.before args s = true) (hown : s.vm.findClass RX1 = some m.cls) (hK : va_K D vwCl [(cI, .int), (cZ, .boolean), (cC, .char), (cJ, .long), (cA, .array .int)] s) (hO : Old s0 s) (hAO : ∀ q, (aP P 51) q → s0.heap.size ≤ q)  : ∀ (M : Mm) (a1 : Int32) (H : Heap) (locs : List Loc) (ls : Array Slot), lv_has ls 2 [(0, .ref (P 0)), (1, .int a1)] → va_P D vwCl ((wY cI cZ cC cJ cA P) M) H → va_D (aP P 51) ((wY cI cZ cC cJ cA P) M) → va_S (aP P 51) s.heap H locs → q_ChipMapModel_doFetch M a1 = some (M', r') → W p l e ({ frames := 6, cells := 0, slots := 0, locals := 139 }) s m args below meth c H locs 0 0 (MQ below (gQv D (aP P 51) ((wY cI cZ cC cJ cA P) M')) args s 0 0 (aP P 51)) (F0 m 0 ls []) := by
  intro M a1 H locs ls hl hP hD hS h
  unfold q_ChipMapModel_doFetch at h
  refine lv_aload_n hx hb dX1_doFetch_0 rfl (lv_at hl 0 rfl) ?_
  refine lv_aload_n hx hb dX1_doFetch_1 rfl (lv_at hl 0 rfl) ?_
  refine va_get (D := D) (ci := 1) (v := .ref (P 33)) (C := RX1) (T := TX1) (N := 76) hx hb hgt iwX1 hown hK hP 0 gY_0 rfl 43 (Nat.le_of_ble_eq_true rfl) (hgt _ wd_5_4) (fun _ h9 => h9) rfl dX1_doFetch_2 ?_
  refine lv_iload_n hx hb dX1_doFetch_5 rfl (lv_at hl 1 rfl) ?_
  refine va_iald hx hb hK hP 33 0 gY_33 rfl (ix_l h) dX1_doFetch_6 ?_
  have h := ix_r h
  refine pm_put (w := (wY cI cZ cC cJ cA P)) (D := D) (ci := 1) (x := (M.1 33 (a1 : Int32).toNatClampNeg)) (ty := .int) (C := RX1) (T := TX1) (N := 76) hx hb hgt iwX1 tyX1 tyX1_ok nmX1 hown hK hP hD hS 0 gY_0 rfl 57 (Nat.le_of_ble_eq_true rfl) (hgt _ wd_5_18) (fun _ h9 => h9) rfl (by decide +kernel) rfl rfl (Nat.le_of_ble_eq_true rfl) (sY_0_57 _) dX1_doFetch_7 (fun M1 eM1 H locs hP hD hS => ?_)
  have h := lt_o eM1 h
  refine lv_aload_n hx hb dX1_doFetch_10 rfl (lv_at hl 0 rfl) ?_
  refine va_get (D := D) (ci := 1) (v := .ref (P 24)) (C := RX1) (T := TX1) (N := 76) hx hb hgt iwX1 hown hK hP 0 gY_0 rfl 33 (Nat.le_of_ble_eq_true rfl) (hgt _ wd_4_234) (fun _ h9 => h9) rfl dX1_doFetch_11 ?_
  refine lv_iload_n hx hb dX1_doFetch_14 rfl (lv_at hl 1 rfl) ?_
  refine va_iald hx hb hK hP 24 0 gY_24 rfl (ix_l h) dX1_doFetch_15 ?_
  have h := ix_r h
  refine lv_bipush (v := 119) hx hb dX1_doFetch_16 (by decide) ?_
  refine lv_icmp_ne hx hb dX1_doFetch_18 (tgt := 22) rfl (fun hc => ?_) (fun hc => ?_)
  · have h := br_F hc h
    refine lv_aload_n hx hb dX1_doFetch_22 rfl (lv_at hl 0 rfl) ?_
    refine lv_aload_n hx hb dX1_doFetch_23 rfl (lv_at hl 0 rfl) ?_
    refine va_get (D := D) (ci := 1) (v := .ref (P 25)) (C := RX1) (T := TX1) (N := 76) hx hb hgt iwX1 hown hK hP 0 gY_0 rfl 34 (Nat.le_of_ble_eq_true rfl) (hgt _ wd_4_235) (fun _ h9 => h9) rfl dX1_doFetch_24 ?_
    refine lv_iload_n hx hb dX1_doFetch_27 rfl (lv_at hl 1 rfl) ?_
    refine va_iald hx hb hK hP 25 0 gY_25 rfl (ix_l h) dX1_doFetch_28 ?_
    have h := ix_r h
    obtain ⟨M2, r3, hq, h⟩ := cal_o h
    refine cx_v (va_runV (As := [.int (M1.1 25 (a1 : Int32).toNatClampNeg)]) (rest := []) ⟨hx, hb, hml, hown, hgt⟩ (z_ChipMapModel_reach l D cI cZ cC cJ cA P s0 hAO M1 (M1.1 25 (a1 : Int32).toNatClampNeg) M2 r3 hq) (cwV 1 hgt (gV wd_6_142 wd_6_144 sl__ChipMapModel____ChipMapModel___reach____I_V_____ChipMapModel___reach____I_V__ wd_0_15 wd_6_145) rfl rfl rfl (by decide +kernel) ⟨Nat.le_of_ble_eq_true rfl, Nat.le_of_ble_eq_true rfl⟩) (prV hP hK hD hO hAO hS (va_recv hK hP (ci := 1) (q0 := 0) rfl gY_0)) rfl rfl hl.1 rfl (lv_room (Nat.le_of_ble_eq_true rfl)) dX1_doFetch_29 ⟨Nat.le_of_ble_eq_true rfl, Nat.le_of_ble_eq_true rfl⟩) hS (fun H locs hP hD hS => ?_)
    refine lv_aload_n hx hb dX1_doFetch_32 rfl (lv_at hl 0 rfl) ?_
    refine va_get (D := D) (ci := 1) (v := .int (M2.1 0 55)) (C := RX1) (T := TX1) (N := 76) hx hb hgt iwX1 hown hK hP 0 gY_0 rfl 55 (Nat.le_of_ble_eq_true rfl) (hgt _ wd_5_16) (fun _ h9 => h9) rfl dX1_doFetch_33 ?_
    refine lv_if_eq hx hb dX1_doFetch_36 (tgt := 40) rfl (fun hc => ?_) (fun hc => ?_)
    · have h := br_T hc h
      refine lv_aload_n hx hb dX1_doFetch_40 rfl (lv_at hl 0 rfl) ?_
      refine lv_aload_n hx hb dX1_doFetch_41 rfl (lv_at hl 0 rfl) ?_
      refine va_get (D := D) (ci := 1) (v := .ref (P 33)) (C := RX1) (T := TX1) (N := 76) hx hb hgt iwX1 hown hK hP 0 gY_0 rfl 43 (Nat.le_of_ble_eq_true rfl) (hgt _ wd_5_4) (fun _ h9 => h9) rfl dX1_doFetch_42 ?_
      refine lv_iload_n hx hb dX1_doFetch_45 rfl (lv_at hl 1 rfl) ?_
      refine va_iald hx hb hK hP 33 0 gY_33 rfl (ix_l h) dX1_doFetch_46 ?_
      have h := ix_r h
      refine pm_put (w := (wY cI cZ cC cJ cA P)) (D := D) (ci := 1) (x := (M2.1 33 (a1 : Int32).toNatClampNeg)) (ty := .int) (C := RX1) (T := TX1) (N := 76) hx hb hgt iwX1 tyX1 tyX1_ok nmX1 hown hK hP hD hS 0 gY_0 rfl 57 (Nat.le_of_ble_eq_true rfl) (hgt _ wd_5_18) (fun _ h9 => h9) rfl (by decide +kernel) rfl rfl (Nat.le_of_ble_eq_true rfl) (sY_0_57 _) dX1_doFetch_47 (fun M4 eM4 H locs hP hD hS => ?_)
      have h := lt_o eM4 h
      refine lv_aload_n hx hb dX1_doFetch_50 rfl (lv_at hl 0 rfl) ?_
      refine lv_aload_n hx hb dX1_doFetch_51 rfl (lv_at hl 0 rfl) ?_
      refine va_get (D := D) (ci := 1) (v := .ref (P 25)) (C := RX1) (T := TX1) (N := 76) hx hb hgt iwX1 hown hK hP 0 gY_0 rfl 34 (Nat.le_of_ble_eq_true rfl) (hgt _ wd_4_235) (fun _ h9 => h9) rfl dX1_doFetch_52 ?_
      refine lv_iload_n hx hb dX1_doFetch_55 rfl (lv_at hl 1 rfl) ?_
      refine va_iald hx hb hK hP 25 0 gY_25 rfl (ix_l h) dX1_doFetch_56 ?_
      have h := ix_r h
      obtain ⟨M5, r6, hq, h⟩ := cal_o h
      refine cx_i (va_runV (As := [.int (M4.1 25 (a1 : Int32).toNatClampNeg)]) (rest := []) ⟨hx, hb, hml, hown, hgt⟩ (z_ChipMapModel_read l D cI cZ cC cJ cA P s0 hAO M4 (M4.1 25 (a1 : Int32).toNatClampNeg) M5 r6 hq) (cwV 1 hgt (gV wd_6_110 wd_6_112 sl__ChipMapModel____ChipMapModel___read____I_I_____ChipMapModel___read____I_I__ wd_0_15 wd_6_113) rfl rfl rfl (by decide +kernel) ⟨Nat.le_of_ble_eq_true rfl, Nat.le_of_ble_eq_true rfl⟩) (prV hP hK hD hO hAO hS (va_recv hK hP (ci := 1) (q0 := 0) rfl gY_0)) rfl rfl hl.1 rfl (lv_room (Nat.le_of_ble_eq_true rfl)) dX1_doFetch_57 ⟨Nat.le_of_ble_eq_true rfl, Nat.le_of_ble_eq_true rfl⟩) hS (fun H locs hP hD hS => ?_)
      refine lv_pop hx hb dX1_doFetch_60 rfl ?_
      refine lv_aload_n hx hb dX1_doFetch_61 rfl (lv_at hl 0 rfl) ?_
      refine va_get (D := D) (ci := 1) (v := .ref (P 24)) (C := RX1) (T := TX1) (N := 76) hx hb hgt iwX1 hown hK hP 0 gY_0 rfl 33 (Nat.le_of_ble_eq_true rfl) (hgt _ wd_4_234) (fun _ h9 => h9) rfl dX1_doFetch_62 ?_
      refine lv_iload_n hx hb dX1_doFetch_65 rfl (lv_at hl 1 rfl) ?_
      refine va_iald hx hb hK hP 24 0 gY_24 rfl (ix_l h) dX1_doFetch_66 ?_
      have h := ix_r h
      refine lv_bipush (v := 99) hx hb dX1_doFetch_67 (by decide) ?_
      refine lv_icmp_ne hx hb dX1_doFetch_69 (tgt := 89) rfl (fun hc => ?_) (fun hc => ?_)
      · have h := br_F hc h
        exact rt_v (w := (wY cI cZ cC cJ cA P)) (r := r') hx hb hr hlk hP hD hS h dX1_doFetch_89
      · have h := br_T hc h
        refine lv_aload_n hx hb dX1_doFetch_72 rfl (lv_at hl 0 rfl) ?_
        refine lv_aload_n hx hb dX1_doFetch_73 rfl (lv_at hl 0 rfl) ?_
        refine va_get (D := D) (ci := 1) (v := .ref (P 35)) (C := RX1) (T := TX1) (N := 76) hx hb hgt iwX1 hown hK hP 0 gY_0 rfl 45 (Nat.le_of_ble_eq_true rfl) (hgt _ wd_5_6) (fun _ h9 => h9) rfl dX1_doFetch_74 ?_
        refine lv_iload_n hx hb dX1_doFetch_77 rfl (lv_at hl 1 rfl) ?_
        refine va_iald hx hb hK hP 35 0 gY_35 rfl (ix_l h) dX1_doFetch_78 ?_
        have h := ix_r h
        refine pm_put (w := (wY cI cZ cC cJ cA P)) (D := D) (ci := 1) (x := (M5.1 35 (a1 : Int32).toNatClampNeg)) (ty := .int) (C := RX1) (T := TX1) (N := 76) hx hb hgt iwX1 tyX1 tyX1_ok nmX1 hown hK hP hD hS 0 gY_0 rfl 57 (Nat.le_of_ble_eq_true rfl) (hgt _ wd_5_18) (fun _ h9 => h9) rfl (by decide +kernel) rfl rfl (Nat.le_of_ble_eq_true rfl) (sY_0_57 _) dX1_doFetch_79 (fun M7 eM7 H locs hP hD hS => ?_)
        have h := lt_o eM7 h
        refine lv_aload_n hx hb dX1_doFetch_82 rfl (lv_at hl 0 rfl) ?_
        refine va_get (D := D) (ci := 1) (v := .ref (P 35)) (C := RX1) (T := TX1) (N := 76) hx hb hgt iwX1 hown hK hP 0 gY_0 rfl 45 (Nat.le_of_ble_eq_true rfl) (hgt _ wd_5_6) (fun _ h9 => h9) rfl dX1_doFetch_83 ?_
        refine lv_iload_n hx hb dX1_doFetch_86 rfl (lv_at hl 1 rfl) ?_
        refine lv_iconst (v := 0) hx hb dX1_doFetch_87 (by decide) ?_
        refine pm_iast (w := (wY cI cZ cC cJ cA P)) hx hb hK hP hD hS 35 0 gY_35 rfl sY_35 (ix_l h) dX1_doFetch_88 (fun M8 eM8 H locs hP hD hS => ?_)
        have h := ix_r h
        have h := lt_o eM8 h
        exact rt_v (w := (wY cI cZ cC cJ cA P)) (r := r') hx hb hr hlk hP hD hS h dX1_doFetch_89
    · have h := br_F hc h
      exact rt_v (w := (wY cI cZ cC cJ cA P)) (r := r') hx hb hr hlk hP hD hS h dX1_doFetch_39
  · have h := br_T hc h
    exact rt_v (w := (wY cI cZ cC cJ cA P)) (r := r') hx hb hr hlk hP hD hS h dX1_doFetch_21
set_option maxHeartbeats 4000000 in
set_option maxRecDepth 20000 in
theorem z_ChipMapModel_doFetch (l : Launch) (D : va_G) (cI cZ cC cJ cA : ClassId) (P : Nat → Nat) (s0 : State) (hAO : ∀ q, (aP P 51) q → s0.heap.size ≤ q) (M : Mm) (a1 : Int32) (M' : Mm) (r' : Int32) (h : q_ChipMapModel_doFetch M a1 = some (M', r')) : Met l yX1_doFetch wsX1_doFetch ({ frames := 6, cells := 0, slots := 0, locals := 139 }) (va_Pc [.ref (P 0), .int a1] (gPre s0 D [(cI, .int), (cZ, .boolean), (cC, .char), (cJ, .long), (cA, .array .int)] (aP P 51) ((wY cI cZ cC cJ cA P) M))) (gQv D (aP P 51) ((wY cI cZ cC cJ cA P) M')) 0 0 (aP P 51) := by
  refine Met.ofW (cc := cX1_doFetch) (maxL := 2) (ret := none) (by decide) rfl ?_
  intro p e s m args below meth c s₁ B hml hv
  obtain ⟨rfl, hP, hK, hD, hO⟩ := hv
  have hx := B.exec
  have hb := B.bytes
  have hr := B.returns
  have hlk := B.notSynchronized
  have hgt := fun w (h : w ∈ GT) => atoms_spec (ws := wsX1_doFetch) B.pre w (List.mem_cons_of_mem _ h)
  have hown : s.vm.findClass RX1 = some m.cls := findClass_of_methodNamed B.named
  have hS : va_S (aP P 51) s.heap s.heap [] := va_S.rf
  have hl := lv_entry ([.ref (P 0), .int a1]) (n := 2) (Nat.le_of_ble_eq_true rfl)
  rw [lg_entry_eq]
  generalize (lg_sl ([.ref (P 0), .int a1]) ++ List.replicate (2 - (lg_sl ([.ref (P 0), .int a1])).length) Slot.unset).toArray = ls at hl ⊢
  have hl : lv_has ls 2 [(0, .ref (P 0)), (1, .int a1)] := hl
  exact b_ChipMapModel_doFetch_0 hx hb hml hr hlk hgt hown hK hO hAO M a1 s.heap [] ls hl hP hD hS h
def q_ChipMapModel_begin_21  : Nat → Mm → Int32 → Rs
  | 0, _, _ => none
  | n' + 1, M, v1 => if 64 ≤ v1 then (some (M, 0)) else (ix v1 64 <| ix v1 64 <| lt' (stI M 48 (upd (M.1 48) (v1 : Int32).toNatClampNeg (M.1 37 (v1 : Int32).toNatClampNeg))) fun M1 => ix v1 64 <| ix v1 64 <| lt' (stI M1 49 (upd (M1.1 49) (v1 : Int32).toNatClampNeg (M1.1 38 (v1 : Int32).toNatClampNeg))) fun M2 => ix v1 64 <| ix v1 64 <| lt' (stI M2 50 (upd (M2.1 50) (v1 : Int32).toNatClampNeg (M2.1 39 (v1 : Int32).toNatClampNeg))) fun M3 => q_ChipMapModel_begin_21 n' M3 (v1 + 1))
def q_ChipMapModel_begin  (M : Mm)  : Rs := lt' (stI M 0 (upd (M.1 0) 55 0)) fun M1 => cal (q_ChipMapModel_copyDevice M1 0 1) fun M2 r3 => lt' (stI M2 0 (upd (M2.1 0) 71 (M2.1 0 47))) fun M4 => q_ChipMapModel_begin_21 4000 M4 0
set_option maxHeartbeats 4000000 in
set_option maxRecDepth 20000 in
theorem b_ChipMapModel_begin_21 {p : Program} {l : Launch} {e : Env} {s s0 : State} {m : MethodId} {args : Array Value} {below : List Frame} {meth : Method} {c : Code} {D : va_G} {cI cZ cC cJ cA : ClassId} {P : Nat → Nat} {M' : Mm} {r' : Int32}  (hx : p.tables.exec = Jvm.exec) (hb : c.code = cX1_begin) (hml : c.maxLocals = 2) (hr : meth.sig.returnType = none) (hlk : meth.locks = false) (hgt : ∀ w ∈ GT, w.before args s = true) (hown : s.vm.findClass RX1 = some m.cls) (hK : va_K D vwCl [(cI, .int), (cZ, .boolean), (cC, .char), (cJ, .long), (cA, .array .int)] s) (hO : Old s0 s) (hAO : ∀ q, (aP P 51) q → s0.heap.size ≤ q)  : ∀ (n' : Nat) (M : Mm) (v1 : Int32) (H : Heap) (locs : List Loc) (ls : Array Slot), lv_has ls 2 [(0, .ref (P 0)), (1, .int v1)] → va_P D vwCl ((wY cI cZ cC cJ cA P) M) H → va_D (aP P 51) ((wY cI cZ cC cJ cA P) M) → va_S (aP P 51) s.heap H locs → q_ChipMapModel_begin_21 n' M v1 = some (M', r') → W p l e ({ frames := 1, cells := 0, slots := 0, locals := 23 }) s m args below meth c H locs 0 0 (MQ below (gQv D (aP P 51) ((wY cI cZ cC cJ cA P) M')) args s 0 0 (aP P 51)) (F0 m 21 ls []) := by
  intro n'
  induction n' with
  | zero => exact fun _ _ _ _ _ _ _ _ _ h => (rs_n h).elim
  | succ n' ih =>
    intro M v1 H locs ls hl hP hD hS h
    rw [q_ChipMapModel_begin_21] at h
    refine lv_iload_n hx hb dX1_begin_21 rfl (lv_at hl 1 rfl) ?_
    refine lv_bipush (v := 64) hx hb dX1_begin_22 (by decide) ?_
    refine lv_icmp_ge hx hb dX1_begin_24 (tgt := 69) rfl (fun hc => ?_) (fun hc => ?_)
    · have h := br_T hc h
      exact rt_v (w := (wY cI cZ cC cJ cA P)) (r := r') hx hb hr hlk hP hD hS h dX1_begin_69
    · have h := br_F hc h
      refine lv_aload_n hx hb dX1_begin_27 rfl (lv_at hl 0 rfl) ?_
      refine va_get (D := D) (ci := 1) (v := .ref (P 48)) (C := RX1) (T := TX1) (N := 76) hx hb hgt iwX1 hown hK hP 0 gY_0 rfl 72 (Nat.le_of_ble_eq_true rfl) (hgt _ wd_5_33) (fun _ h9 => h9) rfl dX1_begin_28 ?_
      refine lv_iload_n hx hb dX1_begin_31 rfl (lv_at hl 1 rfl) ?_
      refine lv_aload_n hx hb dX1_begin_32 rfl (lv_at hl 0 rfl) ?_
      refine va_get (D := D) (ci := 1) (v := .ref (P 37)) (C := RX1) (T := TX1) (N := 76) hx hb hgt iwX1 hown hK hP 0 gY_0 rfl 49 (Nat.le_of_ble_eq_true rfl) (hgt _ wd_5_10) (fun _ h9 => h9) rfl dX1_begin_33 ?_
      refine lv_iload_n hx hb dX1_begin_36 rfl (lv_at hl 1 rfl) ?_
      refine va_iald hx hb hK hP 37 0 gY_37 rfl (ix_l h) dX1_begin_37 ?_
      have h := ix_r h
      refine pm_iast (w := (wY cI cZ cC cJ cA P)) hx hb hK hP hD hS 48 0 gY_48 rfl sY_48 (ix_l h) dX1_begin_38 (fun M1 eM1 H locs hP hD hS => ?_)
      have h := ix_r h
      have h := lt_o eM1 h
      refine lv_aload_n hx hb dX1_begin_39 rfl (lv_at hl 0 rfl) ?_
      refine va_get (D := D) (ci := 1) (v := .ref (P 49)) (C := RX1) (T := TX1) (N := 76) hx hb hgt iwX1 hown hK hP 0 gY_0 rfl 73 (Nat.le_of_ble_eq_true rfl) (hgt _ wd_5_34) (fun _ h9 => h9) rfl dX1_begin_40 ?_
      refine lv_iload_n hx hb dX1_begin_43 rfl (lv_at hl 1 rfl) ?_
      refine lv_aload_n hx hb dX1_begin_44 rfl (lv_at hl 0 rfl) ?_
      refine va_get (D := D) (ci := 1) (v := .ref (P 38)) (C := RX1) (T := TX1) (N := 76) hx hb hgt iwX1 hown hK hP 0 gY_0 rfl 50 (Nat.le_of_ble_eq_true rfl) (hgt _ wd_5_11) (fun _ h9 => h9) rfl dX1_begin_45 ?_
      refine lv_iload_n hx hb dX1_begin_48 rfl (lv_at hl 1 rfl) ?_
      refine va_iald hx hb hK hP 38 0 gY_38 rfl (ix_l h) dX1_begin_49 ?_
      have h := ix_r h
      refine pm_iast (w := (wY cI cZ cC cJ cA P)) hx hb hK hP hD hS 49 0 gY_49 rfl sY_49 (ix_l h) dX1_begin_50 (fun M2 eM2 H locs hP hD hS => ?_)
      have h := ix_r h
      have h := lt_o eM2 h
      refine lv_aload_n hx hb dX1_begin_51 rfl (lv_at hl 0 rfl) ?_
      refine va_get (D := D) (ci := 1) (v := .ref (P 50)) (C := RX1) (T := TX1) (N := 76) hx hb hgt iwX1 hown hK hP 0 gY_0 rfl 74 (Nat.le_of_ble_eq_true rfl) (hgt _ wd_5_35) (fun _ h9 => h9) rfl dX1_begin_52 ?_
      refine lv_iload_n hx hb dX1_begin_55 rfl (lv_at hl 1 rfl) ?_
      refine lv_aload_n hx hb dX1_begin_56 rfl (lv_at hl 0 rfl) ?_
      refine va_get (D := D) (ci := 1) (v := .ref (P 39)) (C := RX1) (T := TX1) (N := 76) hx hb hgt iwX1 hown hK hP 0 gY_0 rfl 51 (Nat.le_of_ble_eq_true rfl) (hgt _ wd_5_12) (fun _ h9 => h9) rfl dX1_begin_57 ?_
      refine lv_iload_n hx hb dX1_begin_60 rfl (lv_at hl 1 rfl) ?_
      refine va_iald hx hb hK hP 39 0 gY_39 rfl (ix_l h) dX1_begin_61 ?_
      have h := ix_r h
      refine pm_iast (w := (wY cI cZ cC cJ cA P)) hx hb hK hP hD hS 50 0 gY_50 rfl sY_50 (ix_l h) dX1_begin_62 (fun M3 eM3 H locs hP hD hS => ?_)
      have h := ix_r h
      have h := lt_o eM3 h
      refine lv_iinc (v := (v1 + 1)) hx hb dX1_begin_63 hl (k := 1) rfl rfl (Nat.le_of_ble_eq_true rfl) (lv' := [(1, .int (v1 + 1)), (0, .ref (P 0))]) rfl (fun ls hl => ?_)
      refine lv_goto hx hb dX1_begin_66 (tgt := 21) rfl ?_
      have hl := lv_sub hl [1, 0] (l' := [(0, .ref (P 0)), (1, .int (v1 + 1))]) rfl
      exact ih M3 (v1 + 1) H locs ls hl hP hD hS h
set_option maxHeartbeats 4000000 in
set_option maxRecDepth 20000 in
theorem b_ChipMapModel_begin_0 {p : Program} {l : Launch} {e : Env} {s s0 : State} {m : MethodId} {args : Array Value} {below : List Frame} {meth : Method} {c : Code} {D : va_G} {cI cZ cC cJ cA : ClassId} {P : Nat → Nat} {M' : Mm} {r' : Int32}  (hx : p.tables.exec = Jvm.exec) (hb : c.code = cX1_begin) (hml : c.maxLocals = 2) (hr : meth.sig.returnType = none) (hlk : meth.locks = false) (hgt : ∀ w ∈ GT, w.before args s = true) (hown : s.vm.findClass RX1 = some m.cls) (hK : va_K D vwCl [(cI, .int), (cZ, .boolean), (cC, .char), (cJ, .long), (cA, .array .int)] s) (hO : Old s0 s) (hAO : ∀ q, (aP P 51) q → s0.heap.size ≤ q)  : ∀ (M : Mm)  (H : Heap) (locs : List Loc) (ls : Array Slot), lv_has ls 2 [(0, .ref (P 0))] → va_P D vwCl ((wY cI cZ cC cJ cA P) M) H → va_D (aP P 51) ((wY cI cZ cC cJ cA P) M) → va_S (aP P 51) s.heap H locs → q_ChipMapModel_begin M = some (M', r') → W p l e ({ frames := 1, cells := 0, slots := 0, locals := 23 }) s m args below meth c H locs 0 0 (MQ below (gQv D (aP P 51) ((wY cI cZ cC cJ cA P) M')) args s 0 0 (aP P 51)) (F0 m 0 ls []) := by
  intro M H locs ls hl hP hD hS h
  unfold q_ChipMapModel_begin at h
  refine lv_aload_n hx hb dX1_begin_0 rfl (lv_at hl 0 rfl) ?_
  refine lv_iconst (v := 0) hx hb dX1_begin_1 (by decide) ?_
  refine pm_put (w := (wY cI cZ cC cJ cA P)) (D := D) (ci := 1) (x := 0) (ty := .boolean) (C := RX1) (T := TX1) (N := 76) hx hb hgt iwX1 tyX1 tyX1_ok nmX1 hown hK hP hD hS 0 gY_0 rfl 55 (Nat.le_of_ble_eq_true rfl) (hgt _ wd_5_16) (fun _ h9 => h9) rfl (by decide +kernel) rfl rfl (Nat.le_of_ble_eq_true rfl) (sY_0_55 _) dX1_begin_2 (fun M1 eM1 H locs hP hD hS => ?_)
  have h := lt_o eM1 h
  refine lv_aload_n hx hb dX1_begin_5 rfl (lv_at hl 0 rfl) ?_
  refine lv_iconst (v := 0) hx hb dX1_begin_6 (by decide) ?_
  refine lv_iconst (v := 1) hx hb dX1_begin_7 (by decide) ?_
  obtain ⟨M2, r3, hq, h⟩ := cal_o h
  refine cx_v (va_runV (As := [.int 0, .int 1]) (rest := []) ⟨hx, hb, hml, hown, hgt⟩ (z_ChipMapModel_copyDevice l D cI cZ cC cJ cA P s0 hAO M1 0 1 M2 r3 hq) (cwV 2 hgt (gV wd_6_134 wd_6_136 sl__ChipMapModel____ChipMapModel___copyDevice____II_V_____ChipMapModel___copyDevice____II_V__ wd_0_15 wd_6_137) rfl rfl rfl (by decide +kernel) ⟨Nat.le_of_ble_eq_true rfl, Nat.le_of_ble_eq_true rfl⟩) (prV hP hK hD hO hAO hS (va_recv hK hP (ci := 1) (q0 := 0) rfl gY_0)) rfl rfl hl.1 rfl (lv_room (Nat.le_of_ble_eq_true rfl)) dX1_begin_8 ⟨Nat.le_of_ble_eq_true rfl, Nat.le_of_ble_eq_true rfl⟩) hS (fun H locs hP hD hS => ?_)
  refine lv_aload_n hx hb dX1_begin_11 rfl (lv_at hl 0 rfl) ?_
  refine lv_aload_n hx hb dX1_begin_12 rfl (lv_at hl 0 rfl) ?_
  refine va_get (D := D) (ci := 1) (v := .int (M2.1 0 47)) (C := RX1) (T := TX1) (N := 76) hx hb hgt iwX1 hown hK hP 0 gY_0 rfl 47 (Nat.le_of_ble_eq_true rfl) (hgt _ wd_5_8) (fun _ h9 => h9) rfl dX1_begin_13 ?_
  refine pm_put (w := (wY cI cZ cC cJ cA P)) (D := D) (ci := 1) (x := (M2.1 0 47)) (ty := .int) (C := RX1) (T := TX1) (N := 76) hx hb hgt iwX1 tyX1 tyX1_ok nmX1 hown hK hP hD hS 0 gY_0 rfl 71 (Nat.le_of_ble_eq_true rfl) (hgt _ wd_5_32) (fun _ h9 => h9) rfl (by decide +kernel) rfl rfl (Nat.le_of_ble_eq_true rfl) (sY_0_71 _) dX1_begin_16 (fun M4 eM4 H locs hP hD hS => ?_)
  have h := lt_o eM4 h
  refine lv_iconst (v := 0) hx hb dX1_begin_19 (by decide) ?_
  refine lv_istore_n hx hb dX1_begin_20 rfl hl (Nat.le_of_ble_eq_true rfl) (lv' := [(1, .int 0), (0, .ref (P 0))]) rfl (fun ls hl => ?_)
  have hl := lv_sub hl [1, 0] (l' := [(0, .ref (P 0)), (1, .int 0)]) rfl
  exact b_ChipMapModel_begin_21 hx hb hml hr hlk hgt hown hK hO hAO 4000 M4 0 H _ ls hl hP hD hS h
set_option maxHeartbeats 4000000 in
set_option maxRecDepth 20000 in
theorem z_ChipMapModel_begin (l : Launch) (D : va_G) (cI cZ cC cJ cA : ClassId) (P : Nat → Nat) (s0 : State) (hAO : ∀ q, (aP P 51) q → s0.heap.size ≤ q) (M : Mm)  (M' : Mm) (r' : Int32) (h : q_ChipMapModel_begin M = some (M', r')) : Met l yX1_begin wsX1_begin ({ frames := 1, cells := 0, slots := 0, locals := 23 }) (va_Pc [.ref (P 0)] (gPre s0 D [(cI, .int), (cZ, .boolean), (cC, .char), (cJ, .long), (cA, .array .int)] (aP P 51) ((wY cI cZ cC cJ cA P) M))) (gQv D (aP P 51) ((wY cI cZ cC cJ cA P) M')) 0 0 (aP P 51) := by
  refine Met.ofW (cc := cX1_begin) (maxL := 2) (ret := none) (by decide) rfl ?_
  intro p e s m args below meth c s₁ B hml hv
  obtain ⟨rfl, hP, hK, hD, hO⟩ := hv
  have hx := B.exec
  have hb := B.bytes
  have hr := B.returns
  have hlk := B.notSynchronized
  have hgt := fun w (h : w ∈ GT) => atoms_spec (ws := wsX1_begin) B.pre w (List.mem_cons_of_mem _ h)
  have hown : s.vm.findClass RX1 = some m.cls := findClass_of_methodNamed B.named
  have hS : va_S (aP P 51) s.heap s.heap [] := va_S.rf
  have hl := lv_entry ([.ref (P 0)]) (n := 2) (Nat.le_of_ble_eq_true rfl)
  rw [lg_entry_eq]
  generalize (lg_sl ([.ref (P 0)]) ++ List.replicate (2 - (lg_sl ([.ref (P 0)])).length) Slot.unset).toArray = ls at hl ⊢
  have hl : lv_has ls 2 [(0, .ref (P 0))] := hl
  exact b_ChipMapModel_begin_0 hx hb hml hr hlk hgt hown hK hO hAO M s.heap [] ls hl hP hD hS h
def q_ChipMapModel_end_33  : Nat → Mm → Int32 → Rs
  | 0, _, _ => none
  | n' + 1, M, v1 => if 64 ≤ v1 then (some (M, (-2))) else (ix v1 64 <| ix v1 64 <| lt' (stI M 37 (upd (M.1 37) (v1 : Int32).toNatClampNeg (M.1 48 (v1 : Int32).toNatClampNeg))) fun M1 => ix v1 64 <| ix v1 64 <| lt' (stI M1 38 (upd (M1.1 38) (v1 : Int32).toNatClampNeg (M1.1 49 (v1 : Int32).toNatClampNeg))) fun M2 => ix v1 64 <| ix v1 64 <| lt' (stI M2 39 (upd (M2.1 39) (v1 : Int32).toNatClampNeg (M2.1 50 (v1 : Int32).toNatClampNeg))) fun M3 => q_ChipMapModel_end_33 n' M3 (v1 + 1))
def q_ChipMapModel_end  (M : Mm)  : Rs := if (M.1 0 55) = 0 then (some (M, ((M.1 0 47) - (M.1 0 71)))) else (cal (q_ChipMapModel_copyDevice M 1 0) fun M1 r2 => lt' (stI M1 0 (upd (M1.1 0) 47 (M1.1 0 71))) fun M3 => q_ChipMapModel_end_33 4000 M3 0)
set_option maxHeartbeats 4000000 in
set_option maxRecDepth 20000 in
theorem b_ChipMapModel_end_33 {p : Program} {l : Launch} {e : Env} {s s0 : State} {m : MethodId} {args : Array Value} {below : List Frame} {meth : Method} {c : Code} {D : va_G} {cI cZ cC cJ cA : ClassId} {P : Nat → Nat} {M' : Mm} {r' : Int32}  (hx : p.tables.exec = Jvm.exec) (hb : c.code = cX1_end) (hml : c.maxLocals = 2) (hr : meth.sig.returnType = (some .int)) (hlk : meth.locks = false) (hgt : ∀ w ∈ GT, w.before args s = true) (hown : s.vm.findClass RX1 = some m.cls) (hK : va_K D vwCl [(cI, .int), (cZ, .boolean), (cC, .char), (cJ, .long), (cA, .array .int)] s) (hO : Old s0 s) (hAO : ∀ q, (aP P 51) q → s0.heap.size ≤ q)  : ∀ (n' : Nat) (M : Mm) (v1 : Int32) (H : Heap) (locs : List Loc) (ls : Array Slot), lv_has ls 2 [(0, .ref (P 0)), (1, .int v1)] → va_P D vwCl ((wY cI cZ cC cJ cA P) M) H → va_D (aP P 51) ((wY cI cZ cC cJ cA P) M) → va_S (aP P 51) s.heap H locs → q_ChipMapModel_end_33 n' M v1 = some (M', r') → W p l e ({ frames := 1, cells := 0, slots := 0, locals := 23 }) s m args below meth c H locs 0 0 (MQ below (gQi D (aP P 51) ((wY cI cZ cC cJ cA P) M') r') args s 0 0 (aP P 51)) (F0 m 33 ls []) := by
  intro n'
  induction n' with
  | zero => exact fun _ _ _ _ _ _ _ _ _ h => (rs_n h).elim
  | succ n' ih =>
    intro M v1 H locs ls hl hP hD hS h
    rw [q_ChipMapModel_end_33] at h
    refine lv_iload_n hx hb dX1_end_33 rfl (lv_at hl 1 rfl) ?_
    refine lv_bipush (v := 64) hx hb dX1_end_34 (by decide) ?_
    refine lv_icmp_ge hx hb dX1_end_36 (tgt := 81) rfl (fun hc => ?_) (fun hc => ?_)
    · have h := br_T hc h
      refine lv_bipush (v := (-2)) hx hb dX1_end_81 (by decide) ?_
      exact rt_i (w := (wY cI cZ cC cJ cA P)) hx hb hr hlk hP hD hS h dX1_end_83
    · have h := br_F hc h
      refine lv_aload_n hx hb dX1_end_39 rfl (lv_at hl 0 rfl) ?_
      refine va_get (D := D) (ci := 1) (v := .ref (P 37)) (C := RX1) (T := TX1) (N := 76) hx hb hgt iwX1 hown hK hP 0 gY_0 rfl 49 (Nat.le_of_ble_eq_true rfl) (hgt _ wd_5_10) (fun _ h9 => h9) rfl dX1_end_40 ?_
      refine lv_iload_n hx hb dX1_end_43 rfl (lv_at hl 1 rfl) ?_
      refine lv_aload_n hx hb dX1_end_44 rfl (lv_at hl 0 rfl) ?_
      refine va_get (D := D) (ci := 1) (v := .ref (P 48)) (C := RX1) (T := TX1) (N := 76) hx hb hgt iwX1 hown hK hP 0 gY_0 rfl 72 (Nat.le_of_ble_eq_true rfl) (hgt _ wd_5_33) (fun _ h9 => h9) rfl dX1_end_45 ?_
      refine lv_iload_n hx hb dX1_end_48 rfl (lv_at hl 1 rfl) ?_
      refine va_iald hx hb hK hP 48 0 gY_48 rfl (ix_l h) dX1_end_49 ?_
      have h := ix_r h
      refine pm_iast (w := (wY cI cZ cC cJ cA P)) hx hb hK hP hD hS 37 0 gY_37 rfl sY_37 (ix_l h) dX1_end_50 (fun M1 eM1 H locs hP hD hS => ?_)
      have h := ix_r h
      have h := lt_o eM1 h
      refine lv_aload_n hx hb dX1_end_51 rfl (lv_at hl 0 rfl) ?_
      refine va_get (D := D) (ci := 1) (v := .ref (P 38)) (C := RX1) (T := TX1) (N := 76) hx hb hgt iwX1 hown hK hP 0 gY_0 rfl 50 (Nat.le_of_ble_eq_true rfl) (hgt _ wd_5_11) (fun _ h9 => h9) rfl dX1_end_52 ?_
      refine lv_iload_n hx hb dX1_end_55 rfl (lv_at hl 1 rfl) ?_
      refine lv_aload_n hx hb dX1_end_56 rfl (lv_at hl 0 rfl) ?_
      refine va_get (D := D) (ci := 1) (v := .ref (P 49)) (C := RX1) (T := TX1) (N := 76) hx hb hgt iwX1 hown hK hP 0 gY_0 rfl 73 (Nat.le_of_ble_eq_true rfl) (hgt _ wd_5_34) (fun _ h9 => h9) rfl dX1_end_57 ?_
      refine lv_iload_n hx hb dX1_end_60 rfl (lv_at hl 1 rfl) ?_
      refine va_iald hx hb hK hP 49 0 gY_49 rfl (ix_l h) dX1_end_61 ?_
      have h := ix_r h
      refine pm_iast (w := (wY cI cZ cC cJ cA P)) hx hb hK hP hD hS 38 0 gY_38 rfl sY_38 (ix_l h) dX1_end_62 (fun M2 eM2 H locs hP hD hS => ?_)
      have h := ix_r h
      have h := lt_o eM2 h
      refine lv_aload_n hx hb dX1_end_63 rfl (lv_at hl 0 rfl) ?_
      refine va_get (D := D) (ci := 1) (v := .ref (P 39)) (C := RX1) (T := TX1) (N := 76) hx hb hgt iwX1 hown hK hP 0 gY_0 rfl 51 (Nat.le_of_ble_eq_true rfl) (hgt _ wd_5_12) (fun _ h9 => h9) rfl dX1_end_64 ?_
      refine lv_iload_n hx hb dX1_end_67 rfl (lv_at hl 1 rfl) ?_
      refine lv_aload_n hx hb dX1_end_68 rfl (lv_at hl 0 rfl) ?_
      refine va_get (D := D) (ci := 1) (v := .ref (P 50)) (C := RX1) (T := TX1) (N := 76) hx hb hgt iwX1 hown hK hP 0 gY_0 rfl 74 (Nat.le_of_ble_eq_true rfl) (hgt _ wd_5_35) (fun _ h9 => h9) rfl dX1_end_69 ?_
      refine lv_iload_n hx hb dX1_end_72 rfl (lv_at hl 1 rfl) ?_
      refine va_iald hx hb hK hP 50 0 gY_50 rfl (ix_l h) dX1_end_73 ?_
      have h := ix_r h
      refine pm_iast (w := (wY cI cZ cC cJ cA P)) hx hb hK hP hD hS 39 0 gY_39 rfl sY_39 (ix_l h) dX1_end_74 (fun M3 eM3 H locs hP hD hS => ?_)
      have h := ix_r h
      have h := lt_o eM3 h
      refine lv_iinc (v := (v1 + 1)) hx hb dX1_end_75 hl (k := 1) rfl rfl (Nat.le_of_ble_eq_true rfl) (lv' := [(1, .int (v1 + 1)), (0, .ref (P 0))]) rfl (fun ls hl => ?_)
      refine lv_goto hx hb dX1_end_78 (tgt := 33) rfl ?_
      have hl := lv_sub hl [1, 0] (l' := [(0, .ref (P 0)), (1, .int (v1 + 1))]) rfl
      exact ih M3 (v1 + 1) H locs ls hl hP hD hS h
set_option maxHeartbeats 4000000 in
set_option maxRecDepth 20000 in
theorem b_ChipMapModel_end_0 {p : Program} {l : Launch} {e : Env} {s s0 : State} {m : MethodId} {args : Array Value} {below : List Frame} {meth : Method} {c : Code} {D : va_G} {cI cZ cC cJ cA : ClassId} {P : Nat → Nat} {M' : Mm} {r' : Int32}  (hx : p.tables.exec = Jvm.exec) (hb : c.code = cX1_end) (hml : c.maxLocals = 2) (hr : meth.sig.returnType = (some .int)) (hlk : meth.locks = false) (hgt : ∀ w ∈ GT, w.before args s = true) (hown : s.vm.findClass RX1 = some m.cls) (hK : va_K D vwCl [(cI, .int), (cZ, .boolean), (cC, .char), (cJ, .long), (cA, .array .int)] s) (hO : Old s0 s) (hAO : ∀ q, (aP P 51) q → s0.heap.size ≤ q)  : ∀ (M : Mm)  (H : Heap) (locs : List Loc) (ls : Array Slot), lv_has ls 2 [(0, .ref (P 0))] → va_P D vwCl ((wY cI cZ cC cJ cA P) M) H → va_D (aP P 51) ((wY cI cZ cC cJ cA P) M) → va_S (aP P 51) s.heap H locs → q_ChipMapModel_end M = some (M', r') → W p l e ({ frames := 1, cells := 0, slots := 0, locals := 23 }) s m args below meth c H locs 0 0 (MQ below (gQi D (aP P 51) ((wY cI cZ cC cJ cA P) M') r') args s 0 0 (aP P 51)) (F0 m 0 ls []) := by
  intro M H locs ls hl hP hD hS h
  unfold q_ChipMapModel_end at h
  refine lv_aload_n hx hb dX1_end_0 rfl (lv_at hl 0 rfl) ?_
  refine va_get (D := D) (ci := 1) (v := .int (M.1 0 55)) (C := RX1) (T := TX1) (N := 76) hx hb hgt iwX1 hown hK hP 0 gY_0 rfl 55 (Nat.le_of_ble_eq_true rfl) (hgt _ wd_5_16) (fun _ h9 => h9) rfl dX1_end_1 ?_
  refine lv_if_ne hx hb dX1_end_4 (tgt := 17) rfl (fun hc => ?_) (fun hc => ?_)
  · have h := br_F hc h
    refine lv_aload_n hx hb dX1_end_17 rfl (lv_at hl 0 rfl) ?_
    refine lv_iconst (v := 1) hx hb dX1_end_18 (by decide) ?_
    refine lv_iconst (v := 0) hx hb dX1_end_19 (by decide) ?_
    obtain ⟨M1, r2, hq, h⟩ := cal_o h
    refine cx_v (va_runV (As := [.int 1, .int 0]) (rest := []) ⟨hx, hb, hml, hown, hgt⟩ (z_ChipMapModel_copyDevice l D cI cZ cC cJ cA P s0 hAO M 1 0 M1 r2 hq) (cwV 2 hgt (gV wd_6_134 wd_6_136 sl__ChipMapModel____ChipMapModel___copyDevice____II_V_____ChipMapModel___copyDevice____II_V__ wd_0_15 wd_6_137) rfl rfl rfl (by decide +kernel) ⟨Nat.le_of_ble_eq_true rfl, Nat.le_of_ble_eq_true rfl⟩) (prV hP hK hD hO hAO hS (va_recv hK hP (ci := 1) (q0 := 0) rfl gY_0)) rfl rfl hl.1 rfl (lv_room (Nat.le_of_ble_eq_true rfl)) dX1_end_20 ⟨Nat.le_of_ble_eq_true rfl, Nat.le_of_ble_eq_true rfl⟩) hS (fun H locs hP hD hS => ?_)
    refine lv_aload_n hx hb dX1_end_23 rfl (lv_at hl 0 rfl) ?_
    refine lv_aload_n hx hb dX1_end_24 rfl (lv_at hl 0 rfl) ?_
    refine va_get (D := D) (ci := 1) (v := .int (M1.1 0 71)) (C := RX1) (T := TX1) (N := 76) hx hb hgt iwX1 hown hK hP 0 gY_0 rfl 71 (Nat.le_of_ble_eq_true rfl) (hgt _ wd_5_32) (fun _ h9 => h9) rfl dX1_end_25 ?_
    refine pm_put (w := (wY cI cZ cC cJ cA P)) (D := D) (ci := 1) (x := (M1.1 0 71)) (ty := .int) (C := RX1) (T := TX1) (N := 76) hx hb hgt iwX1 tyX1 tyX1_ok nmX1 hown hK hP hD hS 0 gY_0 rfl 47 (Nat.le_of_ble_eq_true rfl) (hgt _ wd_5_8) (fun _ h9 => h9) rfl (by decide +kernel) rfl rfl (Nat.le_of_ble_eq_true rfl) (sY_0_47 _) dX1_end_28 (fun M3 eM3 H locs hP hD hS => ?_)
    have h := lt_o eM3 h
    refine lv_iconst (v := 0) hx hb dX1_end_31 (by decide) ?_
    refine lv_istore_n hx hb dX1_end_32 rfl hl (Nat.le_of_ble_eq_true rfl) (lv' := [(1, .int 0), (0, .ref (P 0))]) rfl (fun ls hl => ?_)
    have hl := lv_sub hl [1, 0] (l' := [(0, .ref (P 0)), (1, .int 0)]) rfl
    exact b_ChipMapModel_end_33 hx hb hml hr hlk hgt hown hK hO hAO 4000 M3 0 H _ ls hl hP hD hS h
  · have h := br_T hc h
    refine lv_aload_n hx hb dX1_end_7 rfl (lv_at hl 0 rfl) ?_
    refine va_get (D := D) (ci := 1) (v := .int (M.1 0 47)) (C := RX1) (T := TX1) (N := 76) hx hb hgt iwX1 hown hK hP 0 gY_0 rfl 47 (Nat.le_of_ble_eq_true rfl) (hgt _ wd_5_8) (fun _ h9 => h9) rfl dX1_end_8 ?_
    refine lv_aload_n hx hb dX1_end_11 rfl (lv_at hl 0 rfl) ?_
    refine va_get (D := D) (ci := 1) (v := .int (M.1 0 71)) (C := RX1) (T := TX1) (N := 76) hx hb hgt iwX1 hown hK hP 0 gY_0 rfl 71 (Nat.le_of_ble_eq_true rfl) (hgt _ wd_5_32) (fun _ h9 => h9) rfl dX1_end_12 ?_
    refine lv_isub hx hb dX1_end_15 ?_
    exact rt_i (w := (wY cI cZ cC cJ cA P)) hx hb hr hlk hP hD hS h dX1_end_16
set_option maxHeartbeats 4000000 in
set_option maxRecDepth 20000 in
theorem z_ChipMapModel_end (l : Launch) (D : va_G) (cI cZ cC cJ cA : ClassId) (P : Nat → Nat) (s0 : State) (hAO : ∀ q, (aP P 51) q → s0.heap.size ≤ q) (M : Mm)  (M' : Mm) (r' : Int32) (h : q_ChipMapModel_end M = some (M', r')) : Met l yX1_end wsX1_end ({ frames := 1, cells := 0, slots := 0, locals := 23 }) (va_Pc [.ref (P 0)] (gPre s0 D [(cI, .int), (cZ, .boolean), (cC, .char), (cJ, .long), (cA, .array .int)] (aP P 51) ((wY cI cZ cC cJ cA P) M))) (gQi D (aP P 51) ((wY cI cZ cC cJ cA P) M') r') 0 0 (aP P 51) := by
  refine Met.ofW (cc := cX1_end) (maxL := 2) (ret := (some .int)) (by decide) rfl ?_
  intro p e s m args below meth c s₁ B hml hv
  obtain ⟨rfl, hP, hK, hD, hO⟩ := hv
  have hx := B.exec
  have hb := B.bytes
  have hr := B.returns
  have hlk := B.notSynchronized
  have hgt := fun w (h : w ∈ GT) => atoms_spec (ws := wsX1_end) B.pre w (List.mem_cons_of_mem _ h)
  have hown : s.vm.findClass RX1 = some m.cls := findClass_of_methodNamed B.named
  have hS : va_S (aP P 51) s.heap s.heap [] := va_S.rf
  have hl := lv_entry ([.ref (P 0)]) (n := 2) (Nat.le_of_ble_eq_true rfl)
  rw [lg_entry_eq]
  generalize (lg_sl ([.ref (P 0)]) ++ List.replicate (2 - (lg_sl ([.ref (P 0)])).length) Slot.unset).toArray = ls at hl ⊢
  have hl : lv_has ls 2 [(0, .ref (P 0))] := hl
  exact b_ChipMapModel_end_0 hx hb hml hr hlk hgt hown hK hO hAO M s.heap [] ls hl hP hD hS h
end
