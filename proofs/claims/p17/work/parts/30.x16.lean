def q_Checker_makeKey_10  : Nat → Mm → Int32 → Int32 → Rs
  | 0, _, _, _ => none
  | n' + 1, M, v1, v2 => if (M.1 24 0) ≤ v2 then (lt' (stJ M 75 (vp_updL (M.2 75) (4 : Int32).toNatClampNeg (((((M.1 61 2) : Int32).toInt64) <<< ((8 : Int32).toInt64 &&& 63)) ||| ((v1 : Int32).toInt64)))) fun M1 => some (M1, 0)) else (ix ((v2 : Int32) >>> (2 &&& 31)) 5 <| ix v2 16 <| ix ((v2 : Int32) >>> (2 &&& 31)) 5 <| lt' (stJ M 75 (vp_updL (M.2 75) (((v2 : Int32) >>> (2 &&& 31)) : Int32).toNatClampNeg ((M.2 75 (((v2 : Int32) >>> (2 &&& 31)) : Int32).toNatClampNeg) ||| ((((M.1 62 (v2 : Int32).toNatClampNeg) : Int32).toInt64) <<< ((((v2 &&& 3) * 16) : Int32).toInt64 &&& 63))))) fun M1 => q_Checker_makeKey_10 n' M1 v1 (v2 + 1))
def q_Checker_makeKey  (M : Mm) (a1 : Int32) : Rs := lt' (stJ M 75 (fun _ => 0)) fun M1 => q_Checker_makeKey_10 4000 M1 a1 0
set_option maxHeartbeats 4000000 in
set_option maxRecDepth 20000 in
theorem b_Checker_makeKey_10 {p : Program} {l : Launch} {e : Env} {s s0 : State} {m : MethodId} {args : Array Value} {below : List Frame} {meth : Method} {c : Code} {D : va_G} {cI cZ cC cJ cA : ClassId} {P : Nat → Nat} {M' : Mm} {r' : Int32}  (hx : p.tables.exec = Jvm.exec) (hb : c.code = cX2_makeKey) (hml : c.maxLocals = 3) (hr : meth.sig.returnType = none) (hlk : meth.locks = false) (hgt : ∀ w ∈ GT, w.before args s = true) (hown : s.vm.findClass RX2 = some m.cls) (hK : va_K D vwCl [(cI, .int), (cZ, .boolean), (cC, .char), (cJ, .long), (cA, .array .int)] s) (hO : Old s0 s) (hAO : ∀ q, (aP P 77) q → s0.heap.size ≤ q)  : ∀ (n' : Nat) (M : Mm) (v1 : Int32) (v2 : Int32) (H : Heap) (locs : List Loc) (ls : Array Slot), lv_has ls 3 [(0, .ref (P 73)), (1, .int v1), (2, .int v2)] → va_P D vwCl ((wX cI cZ cC cJ cA P) M) H → va_D (aP P 77) ((wX cI cZ cC cJ cA P) M) → va_S (aP P 77) s.heap H locs → q_Checker_makeKey_10 n' M v1 v2 = some (M', r') → W p l e ({ frames := 1, cells := 0, slots := 0, locals := 24 }) s m args below meth c H locs 0 0 (MQ below (gQv D (aP P 77) ((wX cI cZ cC cJ cA P) M')) args s 0 0 (aP P 77)) (F0 m 10 ls []) := by
  intro n'
  induction n' with
  | zero => exact fun _ _ _ _ _ _ _ _ _ _ h => (rs_n h).elim
  | succ n' ih =>
    intro M v1 v2 H locs ls hl hP hD hS h
    rw [q_Checker_makeKey_10] at h
    refine lv_iload_n hx hb dX2_makeKey_10 rfl (lv_at hl 2 rfl) ?_
    refine lv_aload_n hx hb dX2_makeKey_11 rfl (lv_at hl 0 rfl) ?_
    refine va_get (D := D) (ci := 2) (v := .ref (P 24)) (C := RX2) (T := TX2) (N := 10) hx hb hgt iwX2 hown hK hP 73 gX_73 rfl 0 (Nat.le_of_ble_eq_true rfl) (hgt _ wd_1_221) (fun _ h9 => h9) rfl dX2_makeKey_12 ?_
    refine va_get (D := D) (ci := 6) (v := .int (M.1 24 0)) (C := RX6) (T := TX6) (N := 13) hx hb hgt iwX6 hown hK hP 24 gX_24 rfl 0 (Nat.le_of_ble_eq_true rfl) (hgt _ wd_1_7) (fun _ h9 => h9) rfl dX2_makeKey_15 ?_
    refine lv_icmp_ge hx hb dX2_makeKey_18 (tgt := 58) rfl (fun hc => ?_) (fun hc => ?_)
    · have h := br_T hc h
      refine lv_aload_n hx hb dX2_makeKey_58 rfl (lv_at hl 0 rfl) ?_
      refine va_get (D := D) (ci := 2) (v := .ref (P 75)) (C := RX2) (T := TX2) (N := 10) hx hb hgt iwX2 hown hK hP 73 gX_73 rfl 4 (Nat.le_of_ble_eq_true rfl) (hgt _ wd_1_225) (fun _ h9 => h9) rfl dX2_makeKey_59 ?_
      refine lv_iconst (v := 4) hx hb dX2_makeKey_62 (by decide) ?_
      refine lv_aload_n hx hb dX2_makeKey_63 rfl (lv_at hl 0 rfl) ?_
      refine va_get (D := D) (ci := 2) (v := .ref (P 60)) (C := RX2) (T := TX2) (N := 10) hx hb hgt iwX2 hown hK hP 73 gX_73 rfl 2 (Nat.le_of_ble_eq_true rfl) (hgt _ wd_1_223) (fun _ h9 => h9) rfl dX2_makeKey_64 ?_
      refine va_get (D := D) (ci := 9) (v := .ref (P 61)) (C := RX9) (T := TX9) (N := 6) hx hb hgt iwX9 hown hK hP 60 gX_60 rfl 1 (Nat.le_of_ble_eq_true rfl) (hgt _ wd_1_162) (fun _ h9 => h9) rfl dX2_makeKey_67 ?_
      refine va_get (D := D) (ci := 8) (v := .int (M.1 61 2)) (C := RX8) (T := TX8) (N := 3) hx hb hgt iwX8 hown hK hP 61 gX_61 rfl 2 (Nat.le_of_ble_eq_true rfl) (hgt _ wd_1_118) (fun _ h9 => h9) rfl dX2_makeKey_70 ?_
      refine lv_i2l (v := ((M.1 61 2) : Int32).toInt64) hx hb dX2_makeKey_73 rfl ?_
      refine lv_bipush (v := 8) hx hb dX2_makeKey_74 (by decide) ?_
      refine lv_lshl (v := ((((M.1 61 2) : Int32).toInt64) <<< ((8 : Int32).toInt64 &&& 63))) hx hb dX2_makeKey_76 rfl ?_
      refine lv_iload_n hx hb dX2_makeKey_77 rfl (lv_at hl 1 rfl) ?_
      refine lv_i2l (v := (v1 : Int32).toInt64) hx hb dX2_makeKey_78 rfl ?_
      refine lv_lor hx hb dX2_makeKey_79 ?_
      refine pm_last (w := (wX cI cZ cC cJ cA P)) hx hb hK hP hD hS 75 3 gX_75 rfl sX_75 (by unfold vp_in; decide) dX2_makeKey_80 (fun M1 eM1 H locs hP hD hS => ?_)
      have h := lt_o eM1 h
      exact rt_v (w := (wX cI cZ cC cJ cA P)) (r := r') hx hb hr hlk hP hD hS h dX2_makeKey_81
    · have h := br_F hc h
      refine lv_aload_n hx hb dX2_makeKey_21 rfl (lv_at hl 0 rfl) ?_
      refine va_get (D := D) (ci := 2) (v := .ref (P 75)) (C := RX2) (T := TX2) (N := 10) hx hb hgt iwX2 hown hK hP 73 gX_73 rfl 4 (Nat.le_of_ble_eq_true rfl) (hgt _ wd_1_225) (fun _ h9 => h9) rfl dX2_makeKey_22 ?_
      refine lv_iload_n hx hb dX2_makeKey_25 rfl (lv_at hl 2 rfl) ?_
      refine lv_iconst (v := 2) hx hb dX2_makeKey_26 (by decide) ?_
      refine lv_ishr hx hb dX2_makeKey_27 ?_
      refine lv_dup2_11 hx hb dX2_makeKey_28 rfl rfl ?_
      refine va_lald hx hb hK hP 75 3 gX_75 rfl (ix_l h) dX2_makeKey_29 ?_
      have h := ix_r h
      refine lv_aload_n hx hb dX2_makeKey_30 rfl (lv_at hl 0 rfl) ?_
      refine va_get (D := D) (ci := 2) (v := .ref (P 60)) (C := RX2) (T := TX2) (N := 10) hx hb hgt iwX2 hown hK hP 73 gX_73 rfl 2 (Nat.le_of_ble_eq_true rfl) (hgt _ wd_1_223) (fun _ h9 => h9) rfl dX2_makeKey_31 ?_
      refine va_get (D := D) (ci := 9) (v := .ref (P 61)) (C := RX9) (T := TX9) (N := 6) hx hb hgt iwX9 hown hK hP 60 gX_60 rfl 1 (Nat.le_of_ble_eq_true rfl) (hgt _ wd_1_162) (fun _ h9 => h9) rfl dX2_makeKey_34 ?_
      refine va_get (D := D) (ci := 8) (v := .ref (P 62)) (C := RX8) (T := TX8) (N := 3) hx hb hgt iwX8 hown hK hP 61 gX_61 rfl 1 (Nat.le_of_ble_eq_true rfl) (hgt _ wd_1_115) (fun _ h9 => h9) rfl dX2_makeKey_37 ?_
      refine lv_iload_n hx hb dX2_makeKey_40 rfl (lv_at hl 2 rfl) ?_
      refine va_iald hx hb hK hP 62 0 gX_62 rfl (ix_l h) dX2_makeKey_41 ?_
      have h := ix_r h
      refine lv_i2l (v := ((M.1 62 (v2 : Int32).toNatClampNeg) : Int32).toInt64) hx hb dX2_makeKey_42 rfl ?_
      refine lv_iload_n hx hb dX2_makeKey_43 rfl (lv_at hl 2 rfl) ?_
      refine lv_iconst (v := 3) hx hb dX2_makeKey_44 (by decide) ?_
      refine lv_iand hx hb dX2_makeKey_45 ?_
      refine lv_bipush (v := 16) hx hb dX2_makeKey_46 (by decide) ?_
      refine lv_imul hx hb dX2_makeKey_48 ?_
      refine lv_lshl (v := ((((M.1 62 (v2 : Int32).toNatClampNeg) : Int32).toInt64) <<< ((((v2 &&& 3) * 16) : Int32).toInt64 &&& 63))) hx hb dX2_makeKey_49 rfl ?_
      refine lv_lor hx hb dX2_makeKey_50 ?_
      refine pm_last (w := (wX cI cZ cC cJ cA P)) hx hb hK hP hD hS 75 3 gX_75 rfl sX_75 (ix_l h) dX2_makeKey_51 (fun M1 eM1 H locs hP hD hS => ?_)
      have h := ix_r h
      have h := lt_o eM1 h
      refine lv_iinc (v := (v2 + 1)) hx hb dX2_makeKey_52 hl (k := 2) rfl rfl (Nat.le_of_ble_eq_true rfl) (lv' := [(2, .int (v2 + 1)), (0, .ref (P 73)), (1, .int v1)]) rfl (fun ls hl => ?_)
      refine lv_goto hx hb dX2_makeKey_55 (tgt := 10) rfl ?_
      have hl := lv_sub hl [1, 2, 0] (l' := [(0, .ref (P 73)), (1, .int v1), (2, .int (v2 + 1))]) rfl
      exact ih M1 v1 (v2 + 1) H locs ls hl hP hD hS h
set_option maxHeartbeats 4000000 in
set_option maxRecDepth 20000 in
theorem b_Checker_makeKey_0 {p : Program} {l : Launch} {e : Env} {s s0 : State} {m : MethodId} {args : Array Value} {below : List Frame} {meth : Method} {c : Code} {D : va_G} {cI cZ cC cJ cA : ClassId} {P : Nat → Nat} {M' : Mm} {r' : Int32}  (hx : p.tables.exec = Jvm.exec) (hb : c.code = cX2_makeKey) (hml : c.maxLocals = 3) (hr : meth.sig.returnType = none) (hlk : meth.locks = false) (hgt : ∀ w ∈ GT, w.before args s = true) (hown : s.vm.findClass RX2 = some m.cls) (hK : va_K D vwCl [(cI, .int), (cZ, .boolean), (cC, .char), (cJ, .long), (cA, .array .int)] s) (hO : Old s0 s) (hAO : ∀ q, (aP P 77) q → s0.heap.size ≤ q)  : ∀ (M : Mm) (a1 : Int32) (H : Heap) (locs : List Loc) (ls : Array Slot), lv_has ls 3 [(0, .ref (P 73)), (1, .int a1)] → va_P D vwCl ((wX cI cZ cC cJ cA P) M) H → va_D (aP P 77) ((wX cI cZ cC cJ cA P) M) → va_S (aP P 77) s.heap H locs → q_Checker_makeKey M a1 = some (M', r') → W p l e ({ frames := 1, cells := 0, slots := 0, locals := 24 }) s m args below meth c H locs 0 0 (MQ below (gQv D (aP P 77) ((wX cI cZ cC cJ cA P) M')) args s 0 0 (aP P 77)) (F0 m 0 ls []) := by
  intro M a1 H locs ls hl hP hD hS h
  unfold q_Checker_makeKey at h
  refine lv_aload_n hx hb dX2_makeKey_0 rfl (lv_at hl 0 rfl) ?_
  refine va_get (D := D) (ci := 2) (v := .ref (P 75)) (C := RX2) (T := TX2) (N := 10) hx hb hgt iwX2 hown hK hP 73 gX_73 rfl 4 (Nat.le_of_ble_eq_true rfl) (hgt _ wd_1_225) (fun _ h9 => h9) rfl dX2_makeKey_1 ?_
  refine lv_lconst (v := 0) hx hb dX2_makeKey_4 (by decide) ?_
  refine cx_v (va_runS (As := [.ref (P 75), .long 0]) (rest := []) ⟨hx, hb, hml, hown, hgt⟩ (z_fillJ 5 l D cI cZ cC cJ cA (wX cI cZ cC cJ cA P) (aP P 77) s0 P 75 (fun _ => gX_75) (fun _ => sX_75) rfl 0 M) (va_cwS 2 hgt (gS wd_3_65 wd_3_66 wd_0_8 wd_3_67) rfl rfl rfl (by decide +kernel) ⟨Nat.le_of_ble_eq_true rfl, Nat.le_of_ble_eq_true rfl⟩) (prS hP hK hD hO hAO hS) rfl rfl hl.1 rfl (lv_room (Nat.le_of_ble_eq_true rfl)) dX2_makeKey_5 ⟨Nat.le_of_ble_eq_true rfl, Nat.le_of_ble_eq_true rfl⟩) hS (fun H locs hP hD hS => ?_)
  obtain ⟨M1, eM1⟩ : ∃ M1, M1 = stJ M 75 (fun _ => 0) := ⟨_, rfl⟩
  rw [← eM1] at hP hD
  have h := lt_o eM1 h
  refine lv_iconst (v := 0) hx hb dX2_makeKey_8 (by decide) ?_
  refine lv_istore_n hx hb dX2_makeKey_9 rfl hl (Nat.le_of_ble_eq_true rfl) (lv' := [(2, .int 0), (0, .ref (P 73)), (1, .int a1)]) rfl (fun ls hl => ?_)
  have hl := lv_sub hl [1, 2, 0] (l' := [(0, .ref (P 73)), (1, .int a1), (2, .int 0)]) rfl
  exact b_Checker_makeKey_10 hx hb hml hr hlk hgt hown hK hO hAO 4000 M1 a1 0 H _ ls hl hP hD hS h
set_option maxHeartbeats 4000000 in
set_option maxRecDepth 20000 in
theorem z_Checker_makeKey (l : Launch) (D : va_G) (cI cZ cC cJ cA : ClassId) (P : Nat → Nat) (s0 : State) (hAO : ∀ q, (aP P 77) q → s0.heap.size ≤ q) (M : Mm) (a1 : Int32) (M' : Mm) (r' : Int32) (h : q_Checker_makeKey M a1 = some (M', r')) : Met l yX2_makeKey wsX2_makeKey ({ frames := 1, cells := 0, slots := 0, locals := 24 }) (va_Pc [.ref (P 73), .int a1] (gPre s0 D [(cI, .int), (cZ, .boolean), (cC, .char), (cJ, .long), (cA, .array .int)] (aP P 77) ((wX cI cZ cC cJ cA P) M))) (gQv D (aP P 77) ((wX cI cZ cC cJ cA P) M')) 0 0 (aP P 77) := by
  refine Met.ofW (cc := cX2_makeKey) (maxL := 3) (ret := none) (by decide) rfl ?_
  intro p e s m args below meth c s₁ B hml hv
  obtain ⟨rfl, hP, hK, hD, hO⟩ := hv
  have hx := B.exec
  have hb := B.bytes
  have hr := B.returns
  have hlk := B.notSynchronized
  have hgt := fun w (h : w ∈ GT) => atoms_spec (ws := wsX2_makeKey) B.pre w (List.mem_cons_of_mem _ h)
  have hown : s.vm.findClass RX2 = some m.cls := findClass_of_methodNamed B.named
  have hS : va_S (aP P 77) s.heap s.heap [] := va_S.rf
  have hl := lv_entry ([.ref (P 73), .int a1]) (n := 3) (Nat.le_of_ble_eq_true rfl)
  rw [lg_entry_eq]
  generalize (lg_sl ([.ref (P 73), .int a1]) ++ List.replicate (3 - (lg_sl ([.ref (P 73), .int a1])).length) Slot.unset).toArray = ls at hl ⊢
  have hl : lv_has ls 3 [(0, .ref (P 73)), (1, .int a1)] := hl
  exact b_Checker_makeKey_0 hx hb hml hr hlk hgt hown hK hO hAO M a1 s.heap [] ls hl hP hD hS h
def q_Checker_hashOfKey_4  : Nat → Mm → Int64 → Int32 → Rs
  | 0, _, _, _ => none
  | n' + 1, M, v1, v3 => if 5 ≤ v3 then (some (M, ((((((v1 : Int64).toUInt64 >>> ((32 : Int32).toInt64.toUInt64 &&& Int64.toUInt64 63)).toInt64) : Int64).toInt32) &&& 2047))) else (ix v3 5 <| lt' ((v1 ^^^ (M.2 75 (v3 : Int32).toNatClampNeg)) * (-7046029254386353131)) fun x1 => lt' (x1 ^^^ (((x1 : Int64).toUInt64 >>> ((29 : Int32).toInt64.toUInt64 &&& Int64.toUInt64 63)).toInt64)) fun x2 => q_Checker_hashOfKey_4 n' M x2 (v3 + 1))
def q_Checker_hashOfKey  (M : Mm)  : Rs := q_Checker_hashOfKey_4 4000 M 0 0
set_option maxHeartbeats 4000000 in
set_option maxRecDepth 20000 in
theorem b_Checker_hashOfKey_4 {p : Program} {l : Launch} {e : Env} {s s0 : State} {m : MethodId} {args : Array Value} {below : List Frame} {meth : Method} {c : Code} {D : va_G} {cI cZ cC cJ cA : ClassId} {P : Nat → Nat} {M' : Mm} {r' : Int32}  (hx : p.tables.exec = Jvm.exec) (hb : c.code = cX2_hashOfKey) (hml : c.maxLocals = 4) (hr : meth.sig.returnType = (some .int)) (hlk : meth.locks = false) (hgt : ∀ w ∈ GT, w.before args s = true) (hown : s.vm.findClass RX2 = some m.cls) (hK : va_K D vwCl [(cI, .int), (cZ, .boolean), (cC, .char), (cJ, .long), (cA, .array .int)] s) (hO : Old s0 s) (hAO : ∀ q, (aP P 77) q → s0.heap.size ≤ q)  : ∀ (n' : Nat) (M : Mm) (v1 : Int64) (v3 : Int32) (H : Heap) (locs : List Loc) (ls : Array Slot), lv_has ls 4 [(0, .ref (P 73)), (1, .long v1), (3, .int v3)] → va_P D vwCl ((wX cI cZ cC cJ cA P) M) H → va_D (aP P 77) ((wX cI cZ cC cJ cA P) M) → va_S (aP P 77) s.heap H locs → q_Checker_hashOfKey_4 n' M v1 v3 = some (M', r') → W p l e ({ frames := 0, cells := 0, slots := 0, locals := 0 }) s m args below meth c H locs 0 0 (MQ below (gQi D (aP P 77) ((wX cI cZ cC cJ cA P) M') r') args s 0 0 (aP P 77)) (F0 m 4 ls []) := by
  intro n'
  induction n' with
  | zero => exact fun _ _ _ _ _ _ _ _ _ _ h => (rs_n h).elim
  | succ n' ih =>
    intro M v1 v3 H locs ls hl hP hD hS h
    rw [q_Checker_hashOfKey_4] at h
    refine lv_iload_n hx hb dX2_hashOfKey_4 rfl (lv_at hl 2 rfl) ?_
    refine lv_iconst (v := 5) hx hb dX2_hashOfKey_5 (by decide) ?_
    refine lv_icmp_ge hx hb dX2_hashOfKey_6 (tgt := 35) rfl (fun hc => ?_) (fun hc => ?_)
    · have h := br_T hc h
      refine lv_lload_n hx hb dX2_hashOfKey_35 rfl (lv_at hl 1 rfl) ?_
      refine lv_bipush (v := 32) hx hb dX2_hashOfKey_36 (by decide) ?_
      refine lv_lushr (v := (((v1 : Int64).toUInt64 >>> ((32 : Int32).toInt64.toUInt64 &&& Int64.toUInt64 63)).toInt64)) hx hb dX2_hashOfKey_38 rfl ?_
      refine lv_l2i (v := ((((v1 : Int64).toUInt64 >>> ((32 : Int32).toInt64.toUInt64 &&& Int64.toUInt64 63)).toInt64) : Int64).toInt32) hx hb dX2_hashOfKey_39 rfl ?_
      refine lv_sipush (v := 2047) hx hb dX2_hashOfKey_40 (by decide) ?_
      refine lv_iand hx hb dX2_hashOfKey_43 ?_
      exact rt_i (w := (wX cI cZ cC cJ cA P)) hx hb hr hlk hP hD hS h dX2_hashOfKey_44
    · have h := br_F hc h
      refine lv_lload_n hx hb dX2_hashOfKey_9 rfl (lv_at hl 1 rfl) ?_
      refine lv_aload_n hx hb dX2_hashOfKey_10 rfl (lv_at hl 0 rfl) ?_
      refine va_get (D := D) (ci := 2) (v := .ref (P 75)) (C := RX2) (T := TX2) (N := 10) hx hb hgt iwX2 hown hK hP 73 gX_73 rfl 4 (Nat.le_of_ble_eq_true rfl) (hgt _ wd_1_225) (fun _ h9 => h9) rfl dX2_hashOfKey_11 ?_
      refine lv_iload_n hx hb dX2_hashOfKey_14 rfl (lv_at hl 2 rfl) ?_
      refine va_lald hx hb hK hP 75 3 gX_75 rfl (ix_l h) dX2_hashOfKey_15 ?_
      have h := ix_r h
      refine lv_lxor hx hb dX2_hashOfKey_16 ?_
      refine lv_ldc2 (v := (-7046029254386353131)) hx hb hown (hgt _ wd_3_72) dX2_hashOfKey_17 ?_
      refine lv_lmul hx hb dX2_hashOfKey_20 ?_
      refine lv_topl (fun x1 ex1 => ?_)
      have h := lt_o ex1 h
      refine lv_lstore_n hx hb dX2_hashOfKey_21 rfl hl (Nat.le_of_ble_eq_true rfl) (lv' := [(1, .long x1), (0, .ref (P 73)), (3, .int v3)]) rfl (fun ls hl => ?_)
      refine lv_lload_n hx hb dX2_hashOfKey_22 rfl (lv_at hl 0 rfl) ?_
      refine lv_lload_n hx hb dX2_hashOfKey_23 rfl (lv_at hl 0 rfl) ?_
      refine lv_bipush (v := 29) hx hb dX2_hashOfKey_24 (by decide) ?_
      refine lv_lushr (v := (((x1 : Int64).toUInt64 >>> ((29 : Int32).toInt64.toUInt64 &&& Int64.toUInt64 63)).toInt64)) hx hb dX2_hashOfKey_26 rfl ?_
      refine lv_lxor hx hb dX2_hashOfKey_27 ?_
      refine lv_topl (fun x2 ex2 => ?_)
      have h := lt_o ex2 h
      refine lv_lstore_n hx hb dX2_hashOfKey_28 rfl hl (Nat.le_of_ble_eq_true rfl) (lv' := [(1, .long x2), (0, .ref (P 73)), (3, .int v3)]) rfl (fun ls hl => ?_)
      refine lv_iinc (v := (v3 + 1)) hx hb dX2_hashOfKey_29 hl (k := 2) rfl rfl (Nat.le_of_ble_eq_true rfl) (lv' := [(3, .int (v3 + 1)), (1, .long x2), (0, .ref (P 73))]) rfl (fun ls hl => ?_)
      refine lv_goto hx hb dX2_hashOfKey_32 (tgt := 4) rfl ?_
      have hl := lv_sub hl [2, 1, 0] (l' := [(0, .ref (P 73)), (1, .long x2), (3, .int (v3 + 1))]) rfl
      exact ih M x2 (v3 + 1) H locs ls hl hP hD hS h
set_option maxHeartbeats 4000000 in
set_option maxRecDepth 20000 in
theorem b_Checker_hashOfKey_0 {p : Program} {l : Launch} {e : Env} {s s0 : State} {m : MethodId} {args : Array Value} {below : List Frame} {meth : Method} {c : Code} {D : va_G} {cI cZ cC cJ cA : ClassId} {P : Nat → Nat} {M' : Mm} {r' : Int32}  (hx : p.tables.exec = Jvm.exec) (hb : c.code = cX2_hashOfKey) (hml : c.maxLocals = 4) (hr : meth.sig.returnType = (some .int)) (hlk : meth.locks = false) (hgt : ∀ w ∈ GT, w.before args s = true) (hown : s.vm.findClass RX2 = some m.cls) (hK : va_K D vwCl [(cI, .int), (cZ, .boolean), (cC, .char), (cJ, .long), (cA, .array .int)] s) (hO : Old s0 s) (hAO : ∀ q, (aP P 77) q → s0.heap.size ≤ q)  : ∀ (M : Mm)  (H : Heap) (locs : List Loc) (ls : Array Slot), lv_has ls 4 [(0, .ref (P 73))] → va_P D vwCl ((wX cI cZ cC cJ cA P) M) H → va_D (aP P 77) ((wX cI cZ cC cJ cA P) M) → va_S (aP P 77) s.heap H locs → q_Checker_hashOfKey M = some (M', r') → W p l e ({ frames := 0, cells := 0, slots := 0, locals := 0 }) s m args below meth c H locs 0 0 (MQ below (gQi D (aP P 77) ((wX cI cZ cC cJ cA P) M') r') args s 0 0 (aP P 77)) (F0 m 0 ls []) := by
  intro M H locs ls hl hP hD hS h
  unfold q_Checker_hashOfKey at h
  refine lv_lconst (v := 0) hx hb dX2_hashOfKey_0 (by decide) ?_
  refine lv_lstore_n hx hb dX2_hashOfKey_1 rfl hl (Nat.le_of_ble_eq_true rfl) (lv' := [(1, .long 0), (0, .ref (P 73))]) rfl (fun ls hl => ?_)
  refine lv_iconst (v := 0) hx hb dX2_hashOfKey_2 (by decide) ?_
  refine lv_istore_n hx hb dX2_hashOfKey_3 rfl hl (Nat.le_of_ble_eq_true rfl) (lv' := [(3, .int 0), (1, .long 0), (0, .ref (P 73))]) rfl (fun ls hl => ?_)
  have hl := lv_sub hl [2, 1, 0] (l' := [(0, .ref (P 73)), (1, .long 0), (3, .int 0)]) rfl
  exact b_Checker_hashOfKey_4 hx hb hml hr hlk hgt hown hK hO hAO 4000 M 0 0 H _ ls hl hP hD hS h
set_option maxHeartbeats 4000000 in
set_option maxRecDepth 20000 in
theorem z_Checker_hashOfKey (l : Launch) (D : va_G) (cI cZ cC cJ cA : ClassId) (P : Nat → Nat) (s0 : State) (hAO : ∀ q, (aP P 77) q → s0.heap.size ≤ q) (M : Mm)  (M' : Mm) (r' : Int32) (h : q_Checker_hashOfKey M = some (M', r')) : Met l yX2_hashOfKey wsX2_hashOfKey ({ frames := 0, cells := 0, slots := 0, locals := 0 }) (va_Pc [.ref (P 73)] (gPre s0 D [(cI, .int), (cZ, .boolean), (cC, .char), (cJ, .long), (cA, .array .int)] (aP P 77) ((wX cI cZ cC cJ cA P) M))) (gQi D (aP P 77) ((wX cI cZ cC cJ cA P) M') r') 0 0 (aP P 77) := by
  refine Met.ofW (cc := cX2_hashOfKey) (maxL := 4) (ret := (some .int)) (by decide) rfl ?_
  intro p e s m args below meth c s₁ B hml hv
  obtain ⟨rfl, hP, hK, hD, hO⟩ := hv
  have hx := B.exec
  have hb := B.bytes
  have hr := B.returns
  have hlk := B.notSynchronized
  have hgt := fun w (h : w ∈ GT) => atoms_spec (ws := wsX2_hashOfKey) B.pre w (List.mem_cons_of_mem _ h)
  have hown : s.vm.findClass RX2 = some m.cls := findClass_of_methodNamed B.named
  have hS : va_S (aP P 77) s.heap s.heap [] := va_S.rf
  have hl := lv_entry ([.ref (P 73)]) (n := 4) (Nat.le_of_ble_eq_true rfl)
  rw [lg_entry_eq]
  generalize (lg_sl ([.ref (P 73)]) ++ List.replicate (4 - (lg_sl ([.ref (P 73)])).length) Slot.unset).toArray = ls at hl ⊢
  have hl : lv_has ls 4 [(0, .ref (P 73))] := hl
  exact b_Checker_hashOfKey_0 hx hb hml hr hlk hgt hown hK hO hAO M s.heap [] ls hl hP hD hS h
def q_Checker_isKey_2  : Nat → Mm → Int32 → Int32 → Rs
  | 0, _, _, _ => none
  | n' + 1, M, v1, v2 => if 5 ≤ v2 then (some (M, 1)) else (ix (v1 + v2) 5000 <| ix v2 5 <| if (lg_cmp (M.2 74 ((v1 + v2) : Int32).toNatClampNeg) (M.2 75 (v2 : Int32).toNatClampNeg)) = 0 then (q_Checker_isKey_2 n' M v1 (v2 + 1)) else (some (M, 0)))
def q_Checker_isKey  (M : Mm) (a1 : Int32) : Rs := q_Checker_isKey_2 4000 M a1 0
set_option maxHeartbeats 4000000 in
set_option maxRecDepth 20000 in
theorem b_Checker_isKey_2 {p : Program} {l : Launch} {e : Env} {s s0 : State} {m : MethodId} {args : Array Value} {below : List Frame} {meth : Method} {c : Code} {D : va_G} {cI cZ cC cJ cA : ClassId} {P : Nat → Nat} {M' : Mm} {r' : Int32}  (hx : p.tables.exec = Jvm.exec) (hb : c.code = cX2_isKey) (hml : c.maxLocals = 3) (hr : meth.sig.returnType = (some .boolean)) (hlk : meth.locks = false) (hgt : ∀ w ∈ GT, w.before args s = true) (hown : s.vm.findClass RX2 = some m.cls) (hK : va_K D vwCl [(cI, .int), (cZ, .boolean), (cC, .char), (cJ, .long), (cA, .array .int)] s) (hO : Old s0 s) (hAO : ∀ q, (aP P 77) q → s0.heap.size ≤ q)  : ∀ (n' : Nat) (M : Mm) (v1 : Int32) (v2 : Int32) (H : Heap) (locs : List Loc) (ls : Array Slot), lv_has ls 3 [(0, .ref (P 73)), (1, .int v1), (2, .int v2)] → va_P D vwCl ((wX cI cZ cC cJ cA P) M) H → va_D (aP P 77) ((wX cI cZ cC cJ cA P) M) → va_S (aP P 77) s.heap H locs → q_Checker_isKey_2 n' M v1 v2 = some (M', r') → W p l e ({ frames := 0, cells := 0, slots := 0, locals := 0 }) s m args below meth c H locs 0 0 (MQ below (gQi D (aP P 77) ((wX cI cZ cC cJ cA P) M') r') args s 0 0 (aP P 77)) (F0 m 2 ls []) := by
  intro n'
  induction n' with
  | zero => exact fun _ _ _ _ _ _ _ _ _ _ h => (rs_n h).elim
  | succ n' ih =>
    intro M v1 v2 H locs ls hl hP hD hS h
    rw [q_Checker_isKey_2] at h
    refine lv_iload_n hx hb dX2_isKey_2 rfl (lv_at hl 2 rfl) ?_
    refine lv_iconst (v := 5) hx hb dX2_isKey_3 (by decide) ?_
    refine lv_icmp_ge hx hb dX2_isKey_4 (tgt := 33) rfl (fun hc => ?_) (fun hc => ?_)
    · have h := br_T hc h
      refine lv_iconst (v := 1) hx hb dX2_isKey_33 (by decide) ?_
      exact rt_z (w := (wX cI cZ cC cJ cA P)) hx hb hr hlk rfl hP hD hS h dX2_isKey_34
    · have h := br_F hc h
      refine lv_aload_n hx hb dX2_isKey_7 rfl (lv_at hl 0 rfl) ?_
      refine va_get (D := D) (ci := 2) (v := .ref (P 74)) (C := RX2) (T := TX2) (N := 10) hx hb hgt iwX2 hown hK hP 73 gX_73 rfl 3 (Nat.le_of_ble_eq_true rfl) (hgt _ wd_1_224) (fun _ h9 => h9) rfl dX2_isKey_8 ?_
      refine lv_iload_n hx hb dX2_isKey_11 rfl (lv_at hl 1 rfl) ?_
      refine lv_iload_n hx hb dX2_isKey_12 rfl (lv_at hl 2 rfl) ?_
      refine lv_iadd hx hb dX2_isKey_13 ?_
      refine va_lald hx hb hK hP 74 3 gX_74 rfl (ix_l h) dX2_isKey_14 ?_
      have h := ix_r h
      refine lv_aload_n hx hb dX2_isKey_15 rfl (lv_at hl 0 rfl) ?_
      refine va_get (D := D) (ci := 2) (v := .ref (P 75)) (C := RX2) (T := TX2) (N := 10) hx hb hgt iwX2 hown hK hP 73 gX_73 rfl 4 (Nat.le_of_ble_eq_true rfl) (hgt _ wd_1_225) (fun _ h9 => h9) rfl dX2_isKey_16 ?_
      refine lv_iload_n hx hb dX2_isKey_19 rfl (lv_at hl 2 rfl) ?_
      refine va_lald hx hb hK hP 75 3 gX_75 rfl (ix_l h) dX2_isKey_20 ?_
      have h := ix_r h
      refine W.lcmp hx hb dX2_isKey_21 ?_
      refine lv_if_eq hx hb dX2_isKey_22 (tgt := 27) rfl (fun hc => ?_) (fun hc => ?_)
      · have h := br_T hc h
        refine lv_iinc (v := (v2 + 1)) hx hb dX2_isKey_27 hl (k := 2) rfl rfl (Nat.le_of_ble_eq_true rfl) (lv' := [(2, .int (v2 + 1)), (0, .ref (P 73)), (1, .int v1)]) rfl (fun ls hl => ?_)
        refine lv_goto hx hb dX2_isKey_30 (tgt := 2) rfl ?_
        have hl := lv_sub hl [1, 2, 0] (l' := [(0, .ref (P 73)), (1, .int v1), (2, .int (v2 + 1))]) rfl
        exact ih M v1 (v2 + 1) H locs ls hl hP hD hS h
      · have h := br_F hc h
        refine lv_iconst (v := 0) hx hb dX2_isKey_25 (by decide) ?_
        exact rt_z (w := (wX cI cZ cC cJ cA P)) hx hb hr hlk rfl hP hD hS h dX2_isKey_26
set_option maxHeartbeats 4000000 in
set_option maxRecDepth 20000 in
theorem b_Checker_isKey_0 {p : Program} {l : Launch} {e : Env} {s s0 : State} {m : MethodId} {args : Array Value} {below : List Frame} {meth : Method} {c : Code} {D : va_G} {cI cZ cC cJ cA : ClassId} {P : Nat → Nat} {M' : Mm} {r' : Int32}  (hx : p.tables.exec = Jvm.exec) (hb : c.code = cX2_isKey) (hml : c.maxLocals = 3) (hr : meth.sig.returnType = (some .boolean)) (hlk : meth.locks = false) (hgt : ∀ w ∈ GT, w.before args s = true) (hown : s.vm.findClass RX2 = some m.cls) (hK : va_K D vwCl [(cI, .int), (cZ, .boolean), (cC, .char), (cJ, .long), (cA, .array .int)] s) (hO : Old s0 s) (hAO : ∀ q, (aP P 77) q → s0.heap.size ≤ q)  : ∀ (M : Mm) (a1 : Int32) (H : Heap) (locs : List Loc) (ls : Array Slot), lv_has ls 3 [(0, .ref (P 73)), (1, .int a1)] → va_P D vwCl ((wX cI cZ cC cJ cA P) M) H → va_D (aP P 77) ((wX cI cZ cC cJ cA P) M) → va_S (aP P 77) s.heap H locs → q_Checker_isKey M a1 = some (M', r') → W p l e ({ frames := 0, cells := 0, slots := 0, locals := 0 }) s m args below meth c H locs 0 0 (MQ below (gQi D (aP P 77) ((wX cI cZ cC cJ cA P) M') r') args s 0 0 (aP P 77)) (F0 m 0 ls []) := by
  intro M a1 H locs ls hl hP hD hS h
  unfold q_Checker_isKey at h
  refine lv_iconst (v := 0) hx hb dX2_isKey_0 (by decide) ?_
  refine lv_istore_n hx hb dX2_isKey_1 rfl hl (Nat.le_of_ble_eq_true rfl) (lv' := [(2, .int 0), (0, .ref (P 73)), (1, .int a1)]) rfl (fun ls hl => ?_)
  have hl := lv_sub hl [1, 2, 0] (l' := [(0, .ref (P 73)), (1, .int a1), (2, .int 0)]) rfl
  exact b_Checker_isKey_2 hx hb hml hr hlk hgt hown hK hO hAO 4000 M a1 0 H _ ls hl hP hD hS h
set_option maxHeartbeats 4000000 in
set_option maxRecDepth 20000 in
theorem z_Checker_isKey (l : Launch) (D : va_G) (cI cZ cC cJ cA : ClassId) (P : Nat → Nat) (s0 : State) (hAO : ∀ q, (aP P 77) q → s0.heap.size ≤ q) (M : Mm) (a1 : Int32) (M' : Mm) (r' : Int32) (h : q_Checker_isKey M a1 = some (M', r')) : Met l yX2_isKey wsX2_isKey ({ frames := 0, cells := 0, slots := 0, locals := 0 }) (va_Pc [.ref (P 73), .int a1] (gPre s0 D [(cI, .int), (cZ, .boolean), (cC, .char), (cJ, .long), (cA, .array .int)] (aP P 77) ((wX cI cZ cC cJ cA P) M))) (gQi D (aP P 77) ((wX cI cZ cC cJ cA P) M') r') 0 0 (aP P 77) := by
  refine Met.ofW (cc := cX2_isKey) (maxL := 3) (ret := (some .boolean)) (by decide) rfl ?_
  intro p e s m args below meth c s₁ B hml hv
  obtain ⟨rfl, hP, hK, hD, hO⟩ := hv
  have hx := B.exec
  have hb := B.bytes
  have hr := B.returns
  have hlk := B.notSynchronized
  have hgt := fun w (h : w ∈ GT) => atoms_spec (ws := wsX2_isKey) B.pre w (List.mem_cons_of_mem _ h)
  have hown : s.vm.findClass RX2 = some m.cls := findClass_of_methodNamed B.named
  have hS : va_S (aP P 77) s.heap s.heap [] := va_S.rf
  have hl := lv_entry ([.ref (P 73), .int a1]) (n := 3) (Nat.le_of_ble_eq_true rfl)
  rw [lg_entry_eq]
  generalize (lg_sl ([.ref (P 73), .int a1]) ++ List.replicate (3 - (lg_sl ([.ref (P 73), .int a1])).length) Slot.unset).toArray = ls at hl ⊢
  have hl : lv_has ls 3 [(0, .ref (P 73)), (1, .int a1)] := hl
  exact b_Checker_isKey_0 hx hb hml hr hlk hgt hown hK hO hAO M a1 s.heap [] ls hl hP hD hS h
def q_Checker_add  (M : Mm) (a1 : Int32) : Rs := if (M.1 73 6) < 1000 then (cpk 0 ((M.1 73 6) * 5) 5 5 5000 <| lt' (stJ M 74 (va_cpy (M.2 75) (M.2 74) (0 : Int32).toNatClampNeg (((M.1 73 6) * 5) : Int32).toNatClampNeg (5 : Int32).toNatClampNeg)) fun M1 => lt' (stI M1 73 (upd (M1.1 73) 6 ((M1.1 73 6) + 1))) fun M2 => ix a1 2048 <| lt' (stI M2 76 (upd (M2.1 76) (a1 : Int32).toNatClampNeg (M2.1 73 6))) fun M3 => some (M3, 0)) else (lt' (stI M 73 (upd (M.1 73) 7 1)) fun M1 => some (M1, 0))
set_option maxHeartbeats 4000000 in
set_option maxRecDepth 20000 in
theorem b_Checker_add_0 {p : Program} {l : Launch} {e : Env} {s s0 : State} {m : MethodId} {args : Array Value} {below : List Frame} {meth : Method} {c : Code} {D : va_G} {cI cZ cC cJ cA : ClassId} {P : Nat → Nat} {M' : Mm} {r' : Int32}  (hx : p.tables.exec = Jvm.exec) (hb : c.code = cX2_add) (hml : c.maxLocals = 2) (hr : meth.sig.returnType = none) (hlk : meth.locks = false) (hgt : ∀ w ∈ GT, w.before args s = true) (hown : s.vm.findClass RX2 = some m.cls) (hK : va_K D vwCl [(cI, .int), (cZ, .boolean), (cC, .char), (cJ, .long), (cA, .array .int)] s) (hO : Old s0 s) (hAO : ∀ q, (aP P 77) q → s0.heap.size ≤ q)  : ∀ (M : Mm) (a1 : Int32) (H : Heap) (locs : List Loc) (ls : Array Slot), lv_has ls 2 [(0, .ref (P 73)), (1, .int a1)] → va_P D vwCl ((wX cI cZ cC cJ cA P) M) H → va_D (aP P 77) ((wX cI cZ cC cJ cA P) M) → va_S (aP P 77) s.heap H locs → q_Checker_add M a1 = some (M', r') → W p l e ({ frames := 1, cells := 0, slots := 0, locals := 64 }) s m args below meth c H locs 0 0 (MQ below (gQv D (aP P 77) ((wX cI cZ cC cJ cA P) M')) args s 0 0 (aP P 77)) (F0 m 0 ls []) := by
  intro M a1 H locs ls hl hP hD hS h
  unfold q_Checker_add at h
  refine lv_aload_n hx hb dX2_add_0 rfl (lv_at hl 0 rfl) ?_
  refine va_get (D := D) (ci := 2) (v := .int (M.1 73 6)) (C := RX2) (T := TX2) (N := 10) hx hb hgt iwX2 hown hK hP 73 gX_73 rfl 6 (Nat.le_of_ble_eq_true rfl) (hgt _ wd_1_227) (fun _ h9 => h9) rfl dX2_add_1 ?_
  refine lv_sipush (v := 1000) hx hb dX2_add_4 (by decide) ?_
  refine lv_icmp_lt hx hb dX2_add_7 (tgt := 16) rfl (fun hc => ?_) (fun hc => ?_)
  · have h := br_T hc h
    refine lv_aload_n hx hb dX2_add_16 rfl (lv_at hl 0 rfl) ?_
    refine va_get (D := D) (ci := 2) (v := .ref (P 75)) (C := RX2) (T := TX2) (N := 10) hx hb hgt iwX2 hown hK hP 73 gX_73 rfl 4 (Nat.le_of_ble_eq_true rfl) (hgt _ wd_1_225) (fun _ h9 => h9) rfl dX2_add_17 ?_
    refine lv_iconst (v := 0) hx hb dX2_add_20 (by decide) ?_
    refine lv_aload_n hx hb dX2_add_21 rfl (lv_at hl 0 rfl) ?_
    refine va_get (D := D) (ci := 2) (v := .ref (P 74)) (C := RX2) (T := TX2) (N := 10) hx hb hgt iwX2 hown hK hP 73 gX_73 rfl 3 (Nat.le_of_ble_eq_true rfl) (hgt _ wd_1_224) (fun _ h9 => h9) rfl dX2_add_22 ?_
    refine lv_aload_n hx hb dX2_add_25 rfl (lv_at hl 0 rfl) ?_
    refine va_get (D := D) (ci := 2) (v := .int (M.1 73 6)) (C := RX2) (T := TX2) (N := 10) hx hb hgt iwX2 hown hK hP 73 gX_73 rfl 6 (Nat.le_of_ble_eq_true rfl) (hgt _ wd_1_227) (fun _ h9 => h9) rfl dX2_add_26 ?_
    refine lv_iconst (v := 5) hx hb dX2_add_29 (by decide) ?_
    refine lv_imul hx hb dX2_add_30 ?_
    refine lv_iconst (v := 5) hx hb dX2_add_31 (by decide) ?_
    refine pm_cpyl (w := (wX cI cZ cC cJ cA P)) hx hb (hml.trans hl.1.symm) hown (hgt _ wd_3_77) (hgt _ wd_2_194) (hgt _ wd_2_193) (hgt _ wd_0_25) hK hP hD hS 75 74 3 gX_75 gX_74 rfl sX_74 (cpk_l h) (Nat.le_of_ble_eq_true rfl) (by decide) dX2_add_32 (fun M1 eM1 H locs hP hD hS => ?_)
    have h := lt_o eM1 (cpk_r h)
    refine lv_aload_n hx hb dX2_add_35 rfl (lv_at hl 0 rfl) ?_
    refine lv_dup hx hb dX2_add_36 rfl ?_
    refine va_get (D := D) (ci := 2) (v := .int (M1.1 73 6)) (C := RX2) (T := TX2) (N := 10) hx hb hgt iwX2 hown hK hP 73 gX_73 rfl 6 (Nat.le_of_ble_eq_true rfl) (hgt _ wd_1_227) (fun _ h9 => h9) rfl dX2_add_37 ?_
    refine lv_iconst (v := 1) hx hb dX2_add_40 (by decide) ?_
    refine lv_iadd hx hb dX2_add_41 ?_
    refine pm_put (w := (wX cI cZ cC cJ cA P)) (D := D) (ci := 2) (x := ((M1.1 73 6) + 1)) (ty := .int) (C := RX2) (T := TX2) (N := 10) hx hb hgt iwX2 tyX2 tyX2_ok nmX2 hown hK hP hD hS 73 gX_73 rfl 6 (Nat.le_of_ble_eq_true rfl) (hgt _ wd_1_227) (fun _ h9 => h9) rfl (by decide +kernel) rfl rfl (Nat.le_of_ble_eq_true rfl) (sX_73_6 _) dX2_add_42 (fun M2 eM2 H locs hP hD hS => ?_)
    have h := lt_o eM2 h
    refine lv_aload_n hx hb dX2_add_45 rfl (lv_at hl 0 rfl) ?_
    refine va_get (D := D) (ci := 2) (v := .ref (P 76)) (C := RX2) (T := TX2) (N := 10) hx hb hgt iwX2 hown hK hP 73 gX_73 rfl 5 (Nat.le_of_ble_eq_true rfl) (hgt _ wd_1_226) (fun _ h9 => h9) rfl dX2_add_46 ?_
    refine lv_iload_n hx hb dX2_add_49 rfl (lv_at hl 1 rfl) ?_
    refine lv_aload_n hx hb dX2_add_50 rfl (lv_at hl 0 rfl) ?_
    refine va_get (D := D) (ci := 2) (v := .int (M2.1 73 6)) (C := RX2) (T := TX2) (N := 10) hx hb hgt iwX2 hown hK hP 73 gX_73 rfl 6 (Nat.le_of_ble_eq_true rfl) (hgt _ wd_1_227) (fun _ h9 => h9) rfl dX2_add_51 ?_
    refine pm_iast (w := (wX cI cZ cC cJ cA P)) hx hb hK hP hD hS 76 0 gX_76 rfl sX_76 (ix_l h) dX2_add_54 (fun M3 eM3 H locs hP hD hS => ?_)
    have h := ix_r h
    have h := lt_o eM3 h
    exact rt_v (w := (wX cI cZ cC cJ cA P)) (r := r') hx hb hr hlk hP hD hS h dX2_add_55
  · have h := br_F hc h
    refine lv_aload_n hx hb dX2_add_10 rfl (lv_at hl 0 rfl) ?_
    refine lv_iconst (v := 1) hx hb dX2_add_11 (by decide) ?_
    refine pm_put (w := (wX cI cZ cC cJ cA P)) (D := D) (ci := 2) (x := 1) (ty := .boolean) (C := RX2) (T := TX2) (N := 10) hx hb hgt iwX2 tyX2 tyX2_ok nmX2 hown hK hP hD hS 73 gX_73 rfl 7 (Nat.le_of_ble_eq_true rfl) (hgt _ wd_1_229) (fun _ h9 => h9) rfl (by decide +kernel) rfl rfl (Nat.le_of_ble_eq_true rfl) (sX_73_7 _) dX2_add_12 (fun M1 eM1 H locs hP hD hS => ?_)
    have h := lt_o eM1 h
    exact rt_v (w := (wX cI cZ cC cJ cA P)) (r := r') hx hb hr hlk hP hD hS h dX2_add_15
set_option maxHeartbeats 4000000 in
set_option maxRecDepth 20000 in
theorem z_Checker_add (l : Launch) (D : va_G) (cI cZ cC cJ cA : ClassId) (P : Nat → Nat) (s0 : State) (hAO : ∀ q, (aP P 77) q → s0.heap.size ≤ q) (M : Mm) (a1 : Int32) (M' : Mm) (r' : Int32) (h : q_Checker_add M a1 = some (M', r')) : Met l yX2_add wsX2_add ({ frames := 1, cells := 0, slots := 0, locals := 64 }) (va_Pc [.ref (P 73), .int a1] (gPre s0 D [(cI, .int), (cZ, .boolean), (cC, .char), (cJ, .long), (cA, .array .int)] (aP P 77) ((wX cI cZ cC cJ cA P) M))) (gQv D (aP P 77) ((wX cI cZ cC cJ cA P) M')) 0 0 (aP P 77) := by
  refine Met.ofW (cc := cX2_add) (maxL := 2) (ret := none) (by decide) rfl ?_
  intro p e s m args below meth c s₁ B hml hv
  obtain ⟨rfl, hP, hK, hD, hO⟩ := hv
  have hx := B.exec
  have hb := B.bytes
  have hr := B.returns
  have hlk := B.notSynchronized
  have hgt := fun w (h : w ∈ GT) => atoms_spec (ws := wsX2_add) B.pre w (List.mem_cons_of_mem _ h)
  have hown : s.vm.findClass RX2 = some m.cls := findClass_of_methodNamed B.named
  have hS : va_S (aP P 77) s.heap s.heap [] := va_S.rf
  have hl := lv_entry ([.ref (P 73), .int a1]) (n := 2) (Nat.le_of_ble_eq_true rfl)
  rw [lg_entry_eq]
  generalize (lg_sl ([.ref (P 73), .int a1]) ++ List.replicate (2 - (lg_sl ([.ref (P 73), .int a1])).length) Slot.unset).toArray = ls at hl ⊢
  have hl : lv_has ls 2 [(0, .ref (P 73)), (1, .int a1)] := hl
  exact b_Checker_add_0 hx hb hml hr hlk hgt hown hK hO hAO M a1 s.heap [] ls hl hP hD hS h
def q_Checker_meet_22  : Nat → Mm → Int32 → Int32 → Rs
  | 0, _, _, _ => none
  | n' + 1, M, v2, v3 => if 2048 ≤ v3 then (some (M, 0)) else (lt' ((v2 + v3) &&& 2047) fun x1 => ix x1 2048 <| if (M.1 76 (x1 : Int32).toNatClampNeg) = 0 then (cal (q_Checker_add M x1) fun M2 r3 => some (M2, 0)) else (ix x1 2048 <| cal (q_Checker_isKey M (((M.1 76 (x1 : Int32).toNatClampNeg) - 1) * 5)) fun M2 r3 => if r3 = 0 then (q_Checker_meet_22 n' M2 v2 (v3 + 1)) else (some (M2, 0))))
def q_Checker_meet  (M : Mm) (a1 : Int32) : Rs := lt' (if ((M.1 69 0) : Int32) < a1 then (M.1 69 0) else a1) fun x1 => cal (q_Checker_makeKey M x1) fun M2 r3 => cal (q_Checker_hashOfKey M2) fun M4 r5 => q_Checker_meet_22 4000 M4 r5 0
set_option maxHeartbeats 4000000 in
set_option maxRecDepth 20000 in
theorem b_Checker_meet_22 {p : Program} {l : Launch} {e : Env} {s s0 : State} {m : MethodId} {args : Array Value} {below : List Frame} {meth : Method} {c : Code} {D : va_G} {cI cZ cC cJ cA : ClassId} {P : Nat → Nat} {M' : Mm} {r' : Int32}  (hx : p.tables.exec = Jvm.exec) (hb : c.code = cX2_meet) (hml : c.maxLocals = 5) (hr : meth.sig.returnType = none) (hlk : meth.locks = false) (hgt : ∀ w ∈ GT, w.before args s = true) (hown : s.vm.findClass RX2 = some m.cls) (hK : va_K D vwCl [(cI, .int), (cZ, .boolean), (cC, .char), (cJ, .long), (cA, .array .int)] s) (hO : Old s0 s) (hAO : ∀ q, (aP P 77) q → s0.heap.size ≤ q)  : ∀ (n' : Nat) (M : Mm) (v2 : Int32) (v3 : Int32) (H : Heap) (locs : List Loc) (ls : Array Slot), lv_has ls 5 [(0, .ref (P 73)), (2, .int v2), (3, .int v3)] → va_P D vwCl ((wX cI cZ cC cJ cA P) M) H → va_D (aP P 77) ((wX cI cZ cC cJ cA P) M) → va_S (aP P 77) s.heap H locs → q_Checker_meet_22 n' M v2 v3 = some (M', r') → W p l e ({ frames := 2, cells := 0, slots := 0, locals := 85 }) s m args below meth c H locs 0 0 (MQ below (gQv D (aP P 77) ((wX cI cZ cC cJ cA P) M')) args s 0 0 (aP P 77)) (F0 m 22 ls []) := by
  intro n'
  induction n' with
  | zero => exact fun _ _ _ _ _ _ _ _ _ _ h => (rs_n h).elim
  | succ n' ih =>
    intro M v2 v3 H locs ls hl hP hD hS h
    rw [q_Checker_meet_22] at h
    refine lv_iload_n hx hb dX2_meet_22 rfl (lv_at hl 2 rfl) ?_
    refine lv_sipush (v := 2048) hx hb dX2_meet_23 (by decide) ?_
    refine lv_icmp_ge hx hb dX2_meet_26 (tgt := 80) rfl (fun hc => ?_) (fun hc => ?_)
    · have h := br_T hc h
      exact rt_v (w := (wX cI cZ cC cJ cA P)) (r := r') hx hb hr hlk hP hD hS h dX2_meet_80
    · have h := br_F hc h
      refine lv_iload_n hx hb dX2_meet_29 rfl (lv_at hl 1 rfl) ?_
      refine lv_iload_n hx hb dX2_meet_30 rfl (lv_at hl 2 rfl) ?_
      refine lv_iadd hx hb dX2_meet_31 ?_
      refine lv_sipush (v := 2047) hx hb dX2_meet_32 (by decide) ?_
      refine lv_iand hx hb dX2_meet_35 ?_
      refine lv_topi (fun x1 ex1 => ?_)
      have h := lt_o ex1 h
      refine lv_istore hx hb dX2_meet_36 hl (Nat.le_of_ble_eq_true rfl) (lv' := [(4, .int x1), (0, .ref (P 73)), (2, .int v2), (3, .int v3)]) rfl (fun ls hl => ?_)
      refine lv_aload_n hx hb dX2_meet_38 rfl (lv_at hl 1 rfl) ?_
      refine va_get (D := D) (ci := 2) (v := .ref (P 76)) (C := RX2) (T := TX2) (N := 10) hx hb hgt iwX2 hown hK hP 73 gX_73 rfl 5 (Nat.le_of_ble_eq_true rfl) (hgt _ wd_1_226) (fun _ h9 => h9) rfl dX2_meet_39 ?_
      refine lv_iload hx hb dX2_meet_42 (lv_at hl 0 rfl) ?_
      refine va_iald hx hb hK hP 76 0 gX_76 rfl (ix_l h) dX2_meet_44 ?_
      have h := ix_r h
      refine lv_if_ne hx hb dX2_meet_45 (tgt := 55) rfl (fun hc => ?_) (fun hc => ?_)
      · have h := br_F hc h
        refine lv_aload_n hx hb dX2_meet_55 rfl (lv_at hl 1 rfl) ?_
        refine lv_aload_n hx hb dX2_meet_56 rfl (lv_at hl 1 rfl) ?_
        refine va_get (D := D) (ci := 2) (v := .ref (P 76)) (C := RX2) (T := TX2) (N := 10) hx hb hgt iwX2 hown hK hP 73 gX_73 rfl 5 (Nat.le_of_ble_eq_true rfl) (hgt _ wd_1_226) (fun _ h9 => h9) rfl dX2_meet_57 ?_
        refine lv_iload hx hb dX2_meet_60 (lv_at hl 0 rfl) ?_
        refine va_iald hx hb hK hP 76 0 gX_76 rfl (ix_l h) dX2_meet_62 ?_
        have h := ix_r h
        refine lv_iconst (v := 1) hx hb dX2_meet_63 (by decide) ?_
        refine lv_isub hx hb dX2_meet_64 ?_
        refine lv_iconst (v := 5) hx hb dX2_meet_65 (by decide) ?_
        refine lv_imul hx hb dX2_meet_66 ?_
        obtain ⟨M2, r3, hq, h⟩ := cal_o h
        refine cx_i (va_runV (As := [.int (((M.1 76 (x1 : Int32).toNatClampNeg) - 1) * 5)]) (rest := []) ⟨hx, hb, hml, hown, hgt⟩ (z_Checker_isKey l D cI cZ cC cJ cA P s0 hAO M (((M.1 76 (x1 : Int32).toNatClampNeg) - 1) * 5) M2 r3 hq) (cwV 1 hgt (gV wd_3_78 wd_3_80 sl__ChipMap_Checker____ChipMap_Checker___isKey____I_Z_____ChipMap_Checker___isKey____I_Z__ wd_0_14 wd_3_81) rfl rfl rfl (by decide +kernel) ⟨Nat.le_of_ble_eq_true rfl, Nat.le_of_ble_eq_true rfl⟩) (prV hP hK hD hO hAO hS (va_recv hK hP (ci := 2) (q0 := 73) rfl gX_73)) rfl rfl hl.1 rfl (lv_room (Nat.le_of_ble_eq_true rfl)) dX2_meet_67 ⟨Nat.le_of_ble_eq_true rfl, Nat.le_of_ble_eq_true rfl⟩) hS (fun H locs hP hD hS => ?_)
        refine lv_if_eq hx hb dX2_meet_70 (tgt := 74) rfl (fun hc => ?_) (fun hc => ?_)
        · have h := br_T hc h
          refine lv_iinc (v := (v3 + 1)) hx hb dX2_meet_74 hl (k := 3) rfl rfl (Nat.le_of_ble_eq_true rfl) (lv' := [(3, .int (v3 + 1)), (4, .int x1), (0, .ref (P 73)), (2, .int v2)]) rfl (fun ls hl => ?_)
          refine lv_goto hx hb dX2_meet_77 (tgt := 22) rfl ?_
          have hl := lv_sub hl [2, 3, 0] (l' := [(0, .ref (P 73)), (2, .int v2), (3, .int (v3 + 1))]) rfl
          exact ih M2 v2 (v3 + 1) H locs ls hl hP hD hS h
        · have h := br_F hc h
          exact rt_v (w := (wX cI cZ cC cJ cA P)) (r := r') hx hb hr hlk hP hD hS h dX2_meet_73
      · have h := br_T hc h
        refine lv_aload_n hx hb dX2_meet_48 rfl (lv_at hl 1 rfl) ?_
        refine lv_iload hx hb dX2_meet_49 (lv_at hl 0 rfl) ?_
        obtain ⟨M2, r3, hq, h⟩ := cal_o h
        refine cx_v (va_runV (As := [.int x1]) (rest := []) ⟨hx, hb, hml, hown, hgt⟩ (z_Checker_add l D cI cZ cC cJ cA P s0 hAO M x1 M2 r3 hq) (cwV 1 hgt (gV wd_3_73 wd_3_75 sl__ChipMap_Checker____ChipMap_Checker___add____I_V_____ChipMap_Checker___add____I_V__ wd_0_14 wd_3_76) rfl rfl rfl (by decide +kernel) ⟨Nat.le_of_ble_eq_true rfl, Nat.le_of_ble_eq_true rfl⟩) (prV hP hK hD hO hAO hS (va_recv hK hP (ci := 2) (q0 := 73) rfl gX_73)) rfl rfl hl.1 rfl (lv_room (Nat.le_of_ble_eq_true rfl)) dX2_meet_51 ⟨Nat.le_of_ble_eq_true rfl, Nat.le_of_ble_eq_true rfl⟩) hS (fun H locs hP hD hS => ?_)
        exact rt_v (w := (wX cI cZ cC cJ cA P)) (r := r') hx hb hr hlk hP hD hS h dX2_meet_54
set_option maxHeartbeats 4000000 in
set_option maxRecDepth 20000 in
theorem b_Checker_meet_0 {p : Program} {l : Launch} {e : Env} {s s0 : State} {m : MethodId} {args : Array Value} {below : List Frame} {meth : Method} {c : Code} {D : va_G} {cI cZ cC cJ cA : ClassId} {P : Nat → Nat} {M' : Mm} {r' : Int32}  (hx : p.tables.exec = Jvm.exec) (hb : c.code = cX2_meet) (hml : c.maxLocals = 5) (hr : meth.sig.returnType = none) (hlk : meth.locks = false) (hgt : ∀ w ∈ GT, w.before args s = true) (hown : s.vm.findClass RX2 = some m.cls) (hK : va_K D vwCl [(cI, .int), (cZ, .boolean), (cC, .char), (cJ, .long), (cA, .array .int)] s) (hO : Old s0 s) (hAO : ∀ q, (aP P 77) q → s0.heap.size ≤ q)  : ∀ (M : Mm) (a1 : Int32) (H : Heap) (locs : List Loc) (ls : Array Slot), lv_has ls 5 [(0, .ref (P 73)), (1, .int a1)] → va_P D vwCl ((wX cI cZ cC cJ cA P) M) H → va_D (aP P 77) ((wX cI cZ cC cJ cA P) M) → va_S (aP P 77) s.heap H locs → q_Checker_meet M a1 = some (M', r') → W p l e ({ frames := 2, cells := 0, slots := 0, locals := 85 }) s m args below meth c H locs 0 0 (MQ below (gQv D (aP P 77) ((wX cI cZ cC cJ cA P) M')) args s 0 0 (aP P 77)) (F0 m 0 ls []) := by
  intro M a1 H locs ls hl hP hD hS h
  unfold q_Checker_meet at h
  refine lv_aload_n hx hb dX2_meet_0 rfl (lv_at hl 0 rfl) ?_
  refine lv_iload_n hx hb dX2_meet_1 rfl (lv_at hl 1 rfl) ?_
  refine lv_aload_n hx hb dX2_meet_2 rfl (lv_at hl 0 rfl) ?_
  refine va_get (D := D) (ci := 2) (v := .ref (P 69)) (C := RX2) (T := TX2) (N := 10) hx hb hgt iwX2 hown hK hP 73 gX_73 rfl 1 (Nat.le_of_ble_eq_true rfl) (hgt _ wd_1_222) (fun _ h9 => h9) rfl dX2_meet_3 ?_
  refine va_get (D := D) (ci := 12) (v := .int (M.1 69 0)) (C := RX12) (T := TX12) (N := 4) hx hb hgt iwX12 hown hK hP 69 gX_69 rfl 0 (Nat.le_of_ble_eq_true rfl) (hgt _ wd_1_192) (fun _ h9 => h9) rfl dX2_meet_6 ?_
  refine va_mmin hx hb (hml.trans hl.1.symm) hown (hgt _ wd_3_58) (hgt _ wd_3_59) (hgt _ wd_0_17) (hgt _ wd_3_60) (Nat.le_of_ble_eq_true rfl) (Nat.le_of_ble_eq_true rfl) (Nat.zero_le _) (Nat.zero_le _) dX2_meet_9 ?_
  refine lv_topi (fun x1 ex1 => ?_)
  have h := lt_o ex1 h
  obtain ⟨M2, r3, hq, h⟩ := cal_o h
  refine cx_v (va_runV (As := [.int x1]) (rest := []) ⟨hx, hb, hml, hown, hgt⟩ (z_Checker_makeKey l D cI cZ cC cJ cA P s0 hAO M x1 M2 r3 hq) (cwV 1 hgt (gV wd_3_61 wd_3_63 sl__ChipMap_Checker____ChipMap_Checker___makeKey____I_V_____ChipMap_Checker___makeKey____I_V__ wd_0_14 wd_3_64) rfl rfl rfl (by decide +kernel) ⟨Nat.le_of_ble_eq_true rfl, Nat.le_of_ble_eq_true rfl⟩) (prV hP hK hD hO hAO hS (va_recv hK hP (ci := 2) (q0 := 73) rfl gX_73)) rfl rfl hl.1 rfl (lv_room (Nat.le_of_ble_eq_true rfl)) dX2_meet_12 ⟨Nat.le_of_ble_eq_true rfl, Nat.le_of_ble_eq_true rfl⟩) hS (fun H locs hP hD hS => ?_)
  refine lv_aload_n hx hb dX2_meet_15 rfl (lv_at hl 0 rfl) ?_
  obtain ⟨M4, r5, hq, h⟩ := cal_o h
  refine cx_i (va_runV (As := []) (rest := []) ⟨hx, hb, hml, hown, hgt⟩ (z_Checker_hashOfKey l D cI cZ cC cJ cA P s0 hAO M2 M4 r5 hq) (cwV 0 hgt (gV wd_3_68 wd_3_70 sl__ChipMap_Checker____ChipMap_Checker___hashOfKey_____I_____ChipMap_Checker___hashOfKey_____I__ wd_0_14 wd_3_71) rfl rfl rfl (by decide +kernel) ⟨Nat.le_of_ble_eq_true rfl, Nat.le_of_ble_eq_true rfl⟩) (prV hP hK hD hO hAO hS (va_recv hK hP (ci := 2) (q0 := 73) rfl gX_73)) rfl rfl hl.1 rfl (lv_room (Nat.le_of_ble_eq_true rfl)) dX2_meet_16 ⟨Nat.le_of_ble_eq_true rfl, Nat.le_of_ble_eq_true rfl⟩) hS (fun H locs hP hD hS => ?_)
  refine lv_istore_n hx hb dX2_meet_19 rfl hl (Nat.le_of_ble_eq_true rfl) (lv' := [(2, .int r5), (0, .ref (P 73)), (1, .int a1)]) rfl (fun ls hl => ?_)
  refine lv_iconst (v := 0) hx hb dX2_meet_20 (by decide) ?_
  refine lv_istore_n hx hb dX2_meet_21 rfl hl (Nat.le_of_ble_eq_true rfl) (lv' := [(3, .int 0), (2, .int r5), (0, .ref (P 73)), (1, .int a1)]) rfl (fun ls hl => ?_)
  have hl := lv_sub hl [2, 1, 0] (l' := [(0, .ref (P 73)), (2, .int r5), (3, .int 0)]) rfl
  exact b_Checker_meet_22 hx hb hml hr hlk hgt hown hK hO hAO 4000 M4 r5 0 H _ ls hl hP hD hS h
set_option maxHeartbeats 4000000 in
set_option maxRecDepth 20000 in
theorem z_Checker_meet (l : Launch) (D : va_G) (cI cZ cC cJ cA : ClassId) (P : Nat → Nat) (s0 : State) (hAO : ∀ q, (aP P 77) q → s0.heap.size ≤ q) (M : Mm) (a1 : Int32) (M' : Mm) (r' : Int32) (h : q_Checker_meet M a1 = some (M', r')) : Met l yX2_meet wsX2_meet ({ frames := 2, cells := 0, slots := 0, locals := 85 }) (va_Pc [.ref (P 73), .int a1] (gPre s0 D [(cI, .int), (cZ, .boolean), (cC, .char), (cJ, .long), (cA, .array .int)] (aP P 77) ((wX cI cZ cC cJ cA P) M))) (gQv D (aP P 77) ((wX cI cZ cC cJ cA P) M')) 0 0 (aP P 77) := by
  refine Met.ofW (cc := cX2_meet) (maxL := 5) (ret := none) (by decide) rfl ?_
  intro p e s m args below meth c s₁ B hml hv
  obtain ⟨rfl, hP, hK, hD, hO⟩ := hv
  have hx := B.exec
  have hb := B.bytes
  have hr := B.returns
  have hlk := B.notSynchronized
  have hgt := fun w (h : w ∈ GT) => atoms_spec (ws := wsX2_meet) B.pre w (List.mem_cons_of_mem _ h)
  have hown : s.vm.findClass RX2 = some m.cls := findClass_of_methodNamed B.named
  have hS : va_S (aP P 77) s.heap s.heap [] := va_S.rf
  have hl := lv_entry ([.ref (P 73), .int a1]) (n := 5) (Nat.le_of_ble_eq_true rfl)
  rw [lg_entry_eq]
  generalize (lg_sl ([.ref (P 73), .int a1]) ++ List.replicate (5 - (lg_sl ([.ref (P 73), .int a1])).length) Slot.unset).toArray = ls at hl ⊢
  have hl : lv_has ls 5 [(0, .ref (P 73)), (1, .int a1)] := hl
  exact b_Checker_meet_0 hx hb hml hr hlk hgt hown hK hO hAO M a1 s.heap [] ls hl hP hD hS h
def q_Checker_begin  (M : Mm)  : Rs := lt' (stI M 76 (fun _ => 0)) fun M1 => lt' (stI M1 73 (upd (M1.1 73) 6 0)) fun M2 => lt' (stI M2 73 (upd (M2.1 73) 7 0)) fun M3 => lt' (stI M3 73 (upd (M3.1 73) 8 (-1))) fun M4 => lt' (stI M4 73 (upd (M4.1 73) 9 0)) fun M5 => cal (q_Mind_restart_1 M5) fun M6 r7 => cal (q_Checker_meet M6 0) fun M8 r9 => some (M8, 0)
set_option maxHeartbeats 4000000 in
set_option maxRecDepth 20000 in
theorem b_Checker_begin_0 {p : Program} {l : Launch} {e : Env} {s s0 : State} {m : MethodId} {args : Array Value} {below : List Frame} {meth : Method} {c : Code} {D : va_G} {cI cZ cC cJ cA : ClassId} {P : Nat → Nat} {M' : Mm} {r' : Int32}  (hx : p.tables.exec = Jvm.exec) (hb : c.code = cX2_begin) (hml : c.maxLocals = 1) (hr : meth.sig.returnType = none) (hlk : meth.locks = false) (hgt : ∀ w ∈ GT, w.before args s = true) (hown : s.vm.findClass RX2 = some m.cls) (hK : va_K D vwCl [(cI, .int), (cZ, .boolean), (cC, .char), (cJ, .long), (cA, .array .int)] s) (hO : Old s0 s) (hAO : ∀ q, (aP P 77) q → s0.heap.size ≤ q)  : ∀ (M : Mm)  (H : Heap) (locs : List Loc) (ls : Array Slot), lv_has ls 1 [(0, .ref (P 73))] → va_P D vwCl ((wX cI cZ cC cJ cA P) M) H → va_D (aP P 77) ((wX cI cZ cC cJ cA P) M) → va_S (aP P 77) s.heap H locs → q_Checker_begin M = some (M', r') → W p l e ({ frames := 3, cells := 0, slots := 0, locals := 109 }) s m args below meth c H locs 0 0 (MQ below (gQv D (aP P 77) ((wX cI cZ cC cJ cA P) M')) args s 0 0 (aP P 77)) (F0 m 0 ls []) := by
  intro M H locs ls hl hP hD hS h
  unfold q_Checker_begin at h
  refine lv_aload_n hx hb dX2_begin_0 rfl (lv_at hl 0 rfl) ?_
  refine va_get (D := D) (ci := 2) (v := .ref (P 76)) (C := RX2) (T := TX2) (N := 10) hx hb hgt iwX2 hown hK hP 73 gX_73 rfl 5 (Nat.le_of_ble_eq_true rfl) (hgt _ wd_1_226) (fun _ h9 => h9) rfl dX2_begin_1 ?_
  refine lv_iconst (v := 0) hx hb dX2_begin_4 (by decide) ?_
  refine cx_v (va_runS (As := [.ref (P 76), .int 0]) (rest := []) ⟨hx, hb, hml, hown, hgt⟩ (z_fill 2048 l D cI cZ cC cJ cA (wX cI cZ cC cJ cA P) (aP P 77) s0 P 76 (fun _ => gX_76) (fun _ => sX_76) rfl 0 M) (va_cwS 2 hgt (gS wd_3_52 wd_1_2 wd_0_8 wd_1_3) rfl rfl rfl (by decide +kernel) ⟨Nat.le_of_ble_eq_true rfl, Nat.le_of_ble_eq_true rfl⟩) (prS hP hK hD hO hAO hS) rfl rfl hl.1 rfl (lv_room (Nat.le_of_ble_eq_true rfl)) dX2_begin_5 ⟨Nat.le_of_ble_eq_true rfl, Nat.le_of_ble_eq_true rfl⟩) hS (fun H locs hP hD hS => ?_)
  obtain ⟨M1, eM1⟩ : ∃ M1, M1 = stI M 76 (fun _ => 0) := ⟨_, rfl⟩
  rw [← eM1] at hP hD
  have h := lt_o eM1 h
  refine lv_aload_n hx hb dX2_begin_8 rfl (lv_at hl 0 rfl) ?_
  refine lv_iconst (v := 0) hx hb dX2_begin_9 (by decide) ?_
  refine pm_put (w := (wX cI cZ cC cJ cA P)) (D := D) (ci := 2) (x := 0) (ty := .int) (C := RX2) (T := TX2) (N := 10) hx hb hgt iwX2 tyX2 tyX2_ok nmX2 hown hK hP hD hS 73 gX_73 rfl 6 (Nat.le_of_ble_eq_true rfl) (hgt _ wd_1_227) (fun _ h9 => h9) rfl (by decide +kernel) rfl rfl (Nat.le_of_ble_eq_true rfl) (sX_73_6 _) dX2_begin_10 (fun M2 eM2 H locs hP hD hS => ?_)
  have h := lt_o eM2 h
  refine lv_aload_n hx hb dX2_begin_13 rfl (lv_at hl 0 rfl) ?_
  refine lv_iconst (v := 0) hx hb dX2_begin_14 (by decide) ?_
  refine pm_put (w := (wX cI cZ cC cJ cA P)) (D := D) (ci := 2) (x := 0) (ty := .boolean) (C := RX2) (T := TX2) (N := 10) hx hb hgt iwX2 tyX2 tyX2_ok nmX2 hown hK hP hD hS 73 gX_73 rfl 7 (Nat.le_of_ble_eq_true rfl) (hgt _ wd_1_229) (fun _ h9 => h9) rfl (by decide +kernel) rfl rfl (Nat.le_of_ble_eq_true rfl) (sX_73_7 _) dX2_begin_15 (fun M3 eM3 H locs hP hD hS => ?_)
  have h := lt_o eM3 h
  refine lv_aload_n hx hb dX2_begin_18 rfl (lv_at hl 0 rfl) ?_
  refine lv_iconst (v := (-1)) hx hb dX2_begin_19 (by decide) ?_
  refine pm_put (w := (wX cI cZ cC cJ cA P)) (D := D) (ci := 2) (x := (-1)) (ty := .int) (C := RX2) (T := TX2) (N := 10) hx hb hgt iwX2 tyX2 tyX2_ok nmX2 hown hK hP hD hS 73 gX_73 rfl 8 (Nat.le_of_ble_eq_true rfl) (hgt _ wd_1_231) (fun _ h9 => h9) rfl (by decide +kernel) rfl rfl (Nat.le_of_ble_eq_true rfl) (sX_73_8 _) dX2_begin_20 (fun M4 eM4 H locs hP hD hS => ?_)
  have h := lt_o eM4 h
  refine lv_aload_n hx hb dX2_begin_23 rfl (lv_at hl 0 rfl) ?_
  refine lv_iconst (v := 0) hx hb dX2_begin_24 (by decide) ?_
  refine pm_put (w := (wX cI cZ cC cJ cA P)) (D := D) (ci := 2) (x := 0) (ty := .int) (C := RX2) (T := TX2) (N := 10) hx hb hgt iwX2 tyX2 tyX2_ok nmX2 hown hK hP hD hS 73 gX_73 rfl 9 (Nat.le_of_ble_eq_true rfl) (hgt _ wd_1_233) (fun _ h9 => h9) rfl (by decide +kernel) rfl rfl (Nat.le_of_ble_eq_true rfl) (sX_73_9 _) dX2_begin_25 (fun M5 eM5 H locs hP hD hS => ?_)
  have h := lt_o eM5 h
  refine lv_aload_n hx hb dX2_begin_28 rfl (lv_at hl 0 rfl) ?_
  refine va_get (D := D) (ci := 2) (v := .ref (P 60)) (C := RX2) (T := TX2) (N := 10) hx hb hgt iwX2 hown hK hP 73 gX_73 rfl 2 (Nat.le_of_ble_eq_true rfl) (hgt _ wd_1_223) (fun _ h9 => h9) rfl dX2_begin_29 ?_
  refine va_get (D := D) (ci := 9) (v := .ref (P 61)) (C := RX9) (T := TX9) (N := 6) hx hb hgt iwX9 hown hK hP 60 gX_60 rfl 1 (Nat.le_of_ble_eq_true rfl) (hgt _ wd_1_162) (fun _ h9 => h9) rfl dX2_begin_32 ?_
  obtain ⟨M6, r7, hq, h⟩ := cal_o h
  refine cx_v (va_runV (As := []) (rest := []) ⟨hx, hb, hml, hown, hgt⟩ (z_Mind_restart_1 l D cI cZ cC cJ cA P s0 hAO M5 M6 r7 hq) (cwV 0 hgt (gV wd_3_53 wd_2_94 wd_2_95 wd_0_11 wd_2_96) rfl rfl rfl (by decide +kernel) ⟨Nat.le_of_ble_eq_true rfl, Nat.le_of_ble_eq_true rfl⟩) (prV hP hK hD hO hAO hS (va_recv hK hP (ci := 8) (q0 := 61) rfl gX_61)) rfl rfl hl.1 rfl (lv_room (Nat.le_of_ble_eq_true rfl)) dX2_begin_35 ⟨Nat.le_of_ble_eq_true rfl, Nat.le_of_ble_eq_true rfl⟩) hS (fun H locs hP hD hS => ?_)
  refine lv_aload_n hx hb dX2_begin_38 rfl (lv_at hl 0 rfl) ?_
  refine lv_iconst (v := 0) hx hb dX2_begin_39 (by decide) ?_
  obtain ⟨M8, r9, hq, h⟩ := cal_o h
  refine cx_v (va_runV (As := [.int 0]) (rest := []) ⟨hx, hb, hml, hown, hgt⟩ (z_Checker_meet l D cI cZ cC cJ cA P s0 hAO M6 0 M8 r9 hq) (cwV 1 hgt (gV wd_3_54 wd_3_56 sl__ChipMap_Checker____ChipMap_Checker___meet____I_V_____ChipMap_Checker___meet____I_V__ wd_0_14 wd_3_57) rfl rfl rfl (by decide +kernel) ⟨Nat.le_of_ble_eq_true rfl, Nat.le_of_ble_eq_true rfl⟩) (prV hP hK hD hO hAO hS (va_recv hK hP (ci := 2) (q0 := 73) rfl gX_73)) rfl rfl hl.1 rfl (lv_room (Nat.le_of_ble_eq_true rfl)) dX2_begin_40 ⟨Nat.le_of_ble_eq_true rfl, Nat.le_of_ble_eq_true rfl⟩) hS (fun H locs hP hD hS => ?_)
  exact rt_v (w := (wX cI cZ cC cJ cA P)) (r := r') hx hb hr hlk hP hD hS h dX2_begin_43
set_option maxHeartbeats 4000000 in
set_option maxRecDepth 20000 in
theorem z_Checker_begin (l : Launch) (D : va_G) (cI cZ cC cJ cA : ClassId) (P : Nat → Nat) (s0 : State) (hAO : ∀ q, (aP P 77) q → s0.heap.size ≤ q) (M : Mm)  (M' : Mm) (r' : Int32) (h : q_Checker_begin M = some (M', r')) : Met l yX2_begin wsX2_begin ({ frames := 3, cells := 0, slots := 0, locals := 109 }) (va_Pc [.ref (P 73)] (gPre s0 D [(cI, .int), (cZ, .boolean), (cC, .char), (cJ, .long), (cA, .array .int)] (aP P 77) ((wX cI cZ cC cJ cA P) M))) (gQv D (aP P 77) ((wX cI cZ cC cJ cA P) M')) 0 0 (aP P 77) := by
  refine Met.ofW (cc := cX2_begin) (maxL := 1) (ret := none) (by decide) rfl ?_
  intro p e s m args below meth c s₁ B hml hv
  obtain ⟨rfl, hP, hK, hD, hO⟩ := hv
  have hx := B.exec
  have hb := B.bytes
  have hr := B.returns
  have hlk := B.notSynchronized
  have hgt := fun w (h : w ∈ GT) => atoms_spec (ws := wsX2_begin) B.pre w (List.mem_cons_of_mem _ h)
  have hown : s.vm.findClass RX2 = some m.cls := findClass_of_methodNamed B.named
  have hS : va_S (aP P 77) s.heap s.heap [] := va_S.rf
  have hl := lv_entry ([.ref (P 73)]) (n := 1) (Nat.le_of_ble_eq_true rfl)
  rw [lg_entry_eq]
  generalize (lg_sl ([.ref (P 73)]) ++ List.replicate (1 - (lg_sl ([.ref (P 73)])).length) Slot.unset).toArray = ls at hl ⊢
  have hl : lv_has ls 1 [(0, .ref (P 73))] := hl
  exact b_Checker_begin_0 hx hb hml hr hlk hgt hown hK hO hAO M s.heap [] ls hl hP hD hS h
def q_Checker_load_6  : Nat → Mm → Int32 → Int32 → Rs
  | 0, _, _, _ => none
  | n' + 1, M, v2, v3 => if (M.1 24 0) ≤ v3 then (ix (v2 + 4) 5000 <| lt' (M.2 74 ((v2 + 4) : Int32).toNatClampNeg) fun x1 => lt' (stI M 61 (upd (M.1 61) 2 (((((x1 : Int64).toUInt64 >>> ((8 : Int32).toInt64.toUInt64 &&& Int64.toUInt64 63)).toInt64) : Int64).toInt32))) fun M2 => some (M2, (((x1 : Int64).toInt32) &&& 255))) else (ix (v2 + ((v3 : Int32) >>> (2 &&& 31))) 5000 <| ix v3 16 <| lt' (stI M 62 (upd (M.1 62) (v3 : Int32).toNatClampNeg (((((((M.2 74 ((v2 + ((v3 : Int32) >>> (2 &&& 31))) : Int32).toNatClampNeg) : Int64).toUInt64 >>> ((((v3 &&& 3) * 16) : Int32).toInt64.toUInt64 &&& Int64.toUInt64 63)).toInt64) : Int64).toInt32) &&& 65535))) fun M1 => q_Checker_load_6 n' M1 v2 (v3 + 1))
def q_Checker_load  (M : Mm) (a1 : Int32) : Rs := lt' (a1 * 5) fun x1 => q_Checker_load_6 4000 M x1 0
set_option maxHeartbeats 4000000 in
set_option maxRecDepth 20000 in
theorem b_Checker_load_6 {p : Program} {l : Launch} {e : Env} {s s0 : State} {m : MethodId} {args : Array Value} {below : List Frame} {meth : Method} {c : Code} {D : va_G} {cI cZ cC cJ cA : ClassId} {P : Nat → Nat} {M' : Mm} {r' : Int32}  (hx : p.tables.exec = Jvm.exec) (hb : c.code = cX2_load) (hml : c.maxLocals = 5) (hr : meth.sig.returnType = (some .int)) (hlk : meth.locks = false) (hgt : ∀ w ∈ GT, w.before args s = true) (hown : s.vm.findClass RX2 = some m.cls) (hK : va_K D vwCl [(cI, .int), (cZ, .boolean), (cC, .char), (cJ, .long), (cA, .array .int)] s) (hO : Old s0 s) (hAO : ∀ q, (aP P 77) q → s0.heap.size ≤ q)  : ∀ (n' : Nat) (M : Mm) (v2 : Int32) (v3 : Int32) (H : Heap) (locs : List Loc) (ls : Array Slot), lv_has ls 5 [(0, .ref (P 73)), (2, .int v2), (3, .int v3)] → va_P D vwCl ((wX cI cZ cC cJ cA P) M) H → va_D (aP P 77) ((wX cI cZ cC cJ cA P) M) → va_S (aP P 77) s.heap H locs → q_Checker_load_6 n' M v2 v3 = some (M', r') → W p l e ({ frames := 0, cells := 0, slots := 0, locals := 0 }) s m args below meth c H locs 0 0 (MQ below (gQi D (aP P 77) ((wX cI cZ cC cJ cA P) M') r') args s 0 0 (aP P 77)) (F0 m 6 ls []) := by
  intro n'
  induction n' with
  | zero => exact fun _ _ _ _ _ _ _ _ _ _ h => (rs_n h).elim
  | succ n' ih =>
    intro M v2 v3 H locs ls hl hP hD hS h
    rw [q_Checker_load_6] at h
    refine lv_iload_n hx hb dX2_load_6 rfl (lv_at hl 2 rfl) ?_
    refine lv_aload_n hx hb dX2_load_7 rfl (lv_at hl 0 rfl) ?_
    refine va_get (D := D) (ci := 2) (v := .ref (P 24)) (C := RX2) (T := TX2) (N := 10) hx hb hgt iwX2 hown hK hP 73 gX_73 rfl 0 (Nat.le_of_ble_eq_true rfl) (hgt _ wd_1_221) (fun _ h9 => h9) rfl dX2_load_8 ?_
    refine va_get (D := D) (ci := 6) (v := .int (M.1 24 0)) (C := RX6) (T := TX6) (N := 13) hx hb hgt iwX6 hown hK hP 24 gX_24 rfl 0 (Nat.le_of_ble_eq_true rfl) (hgt _ wd_1_7) (fun _ h9 => h9) rfl dX2_load_11 ?_
    refine lv_icmp_ge hx hb dX2_load_14 (tgt := 56) rfl (fun hc => ?_) (fun hc => ?_)
    · have h := br_T hc h
      refine lv_aload_n hx hb dX2_load_56 rfl (lv_at hl 0 rfl) ?_
      refine va_get (D := D) (ci := 2) (v := .ref (P 74)) (C := RX2) (T := TX2) (N := 10) hx hb hgt iwX2 hown hK hP 73 gX_73 rfl 3 (Nat.le_of_ble_eq_true rfl) (hgt _ wd_1_224) (fun _ h9 => h9) rfl dX2_load_57 ?_
      refine lv_iload_n hx hb dX2_load_60 rfl (lv_at hl 1 rfl) ?_
      refine lv_iconst (v := 4) hx hb dX2_load_61 (by decide) ?_
      refine lv_iadd hx hb dX2_load_62 ?_
      refine va_lald hx hb hK hP 74 3 gX_74 rfl (ix_l h) dX2_load_63 ?_
      have h := ix_r h
      refine lv_topl (fun x1 ex1 => ?_)
      have h := lt_o ex1 h
      refine lv_lstore_n hx hb dX2_load_64 rfl hl (Nat.le_of_ble_eq_true rfl) (lv' := [(3, .long x1), (0, .ref (P 73)), (2, .int v2)]) rfl (fun ls hl => ?_)
      refine lv_aload_n hx hb dX2_load_65 rfl (lv_at hl 1 rfl) ?_
      refine va_get (D := D) (ci := 2) (v := .ref (P 60)) (C := RX2) (T := TX2) (N := 10) hx hb hgt iwX2 hown hK hP 73 gX_73 rfl 2 (Nat.le_of_ble_eq_true rfl) (hgt _ wd_1_223) (fun _ h9 => h9) rfl dX2_load_66 ?_
      refine va_get (D := D) (ci := 9) (v := .ref (P 61)) (C := RX9) (T := TX9) (N := 6) hx hb hgt iwX9 hown hK hP 60 gX_60 rfl 1 (Nat.le_of_ble_eq_true rfl) (hgt _ wd_1_162) (fun _ h9 => h9) rfl dX2_load_69 ?_
      refine lv_lload_n hx hb dX2_load_72 rfl (lv_at hl 0 rfl) ?_
      refine lv_bipush (v := 8) hx hb dX2_load_73 (by decide) ?_
      refine lv_lushr (v := (((x1 : Int64).toUInt64 >>> ((8 : Int32).toInt64.toUInt64 &&& Int64.toUInt64 63)).toInt64)) hx hb dX2_load_75 rfl ?_
      refine lv_l2i (v := ((((x1 : Int64).toUInt64 >>> ((8 : Int32).toInt64.toUInt64 &&& Int64.toUInt64 63)).toInt64) : Int64).toInt32) hx hb dX2_load_76 rfl ?_
      refine pm_put (w := (wX cI cZ cC cJ cA P)) (D := D) (ci := 8) (x := (((((x1 : Int64).toUInt64 >>> ((8 : Int32).toInt64.toUInt64 &&& Int64.toUInt64 63)).toInt64) : Int64).toInt32)) (ty := .int) (C := RX8) (T := TX8) (N := 3) hx hb hgt iwX8 tyX8 tyX8_ok nmX8 hown hK hP hD hS 61 gX_61 rfl 2 (Nat.le_of_ble_eq_true rfl) (hgt _ wd_1_118) (fun _ h9 => h9) rfl (by decide +kernel) rfl rfl (Nat.le_of_ble_eq_true rfl) (sX_61_2 _) dX2_load_77 (fun M2 eM2 H locs hP hD hS => ?_)
      have h := lt_o eM2 h
      refine lv_lload_n hx hb dX2_load_80 rfl (lv_at hl 0 rfl) ?_
      refine lv_l2i (v := (x1 : Int64).toInt32) hx hb dX2_load_81 rfl ?_
      refine lv_sipush (v := 255) hx hb dX2_load_82 (by decide) ?_
      refine lv_iand hx hb dX2_load_85 ?_
      exact rt_i (w := (wX cI cZ cC cJ cA P)) hx hb hr hlk hP hD hS h dX2_load_86
    · have h := br_F hc h
      refine lv_aload_n hx hb dX2_load_17 rfl (lv_at hl 0 rfl) ?_
      refine va_get (D := D) (ci := 2) (v := .ref (P 60)) (C := RX2) (T := TX2) (N := 10) hx hb hgt iwX2 hown hK hP 73 gX_73 rfl 2 (Nat.le_of_ble_eq_true rfl) (hgt _ wd_1_223) (fun _ h9 => h9) rfl dX2_load_18 ?_
      refine va_get (D := D) (ci := 9) (v := .ref (P 61)) (C := RX9) (T := TX9) (N := 6) hx hb hgt iwX9 hown hK hP 60 gX_60 rfl 1 (Nat.le_of_ble_eq_true rfl) (hgt _ wd_1_162) (fun _ h9 => h9) rfl dX2_load_21 ?_
      refine va_get (D := D) (ci := 8) (v := .ref (P 62)) (C := RX8) (T := TX8) (N := 3) hx hb hgt iwX8 hown hK hP 61 gX_61 rfl 1 (Nat.le_of_ble_eq_true rfl) (hgt _ wd_1_115) (fun _ h9 => h9) rfl dX2_load_24 ?_
      refine lv_iload_n hx hb dX2_load_27 rfl (lv_at hl 2 rfl) ?_
      refine lv_aload_n hx hb dX2_load_28 rfl (lv_at hl 0 rfl) ?_
      refine va_get (D := D) (ci := 2) (v := .ref (P 74)) (C := RX2) (T := TX2) (N := 10) hx hb hgt iwX2 hown hK hP 73 gX_73 rfl 3 (Nat.le_of_ble_eq_true rfl) (hgt _ wd_1_224) (fun _ h9 => h9) rfl dX2_load_29 ?_
      refine lv_iload_n hx hb dX2_load_32 rfl (lv_at hl 1 rfl) ?_
      refine lv_iload_n hx hb dX2_load_33 rfl (lv_at hl 2 rfl) ?_
      refine lv_iconst (v := 2) hx hb dX2_load_34 (by decide) ?_
      refine lv_ishr hx hb dX2_load_35 ?_
      refine lv_iadd hx hb dX2_load_36 ?_
      refine va_lald hx hb hK hP 74 3 gX_74 rfl (ix_l h) dX2_load_37 ?_
      have h := ix_r h
      refine lv_iload_n hx hb dX2_load_38 rfl (lv_at hl 2 rfl) ?_
      refine lv_iconst (v := 3) hx hb dX2_load_39 (by decide) ?_
      refine lv_iand hx hb dX2_load_40 ?_
      refine lv_bipush (v := 16) hx hb dX2_load_41 (by decide) ?_
      refine lv_imul hx hb dX2_load_43 ?_
      refine lv_lushr (v := ((((M.2 74 ((v2 + ((v3 : Int32) >>> (2 &&& 31))) : Int32).toNatClampNeg) : Int64).toUInt64 >>> ((((v3 &&& 3) * 16) : Int32).toInt64.toUInt64 &&& Int64.toUInt64 63)).toInt64)) hx hb dX2_load_44 rfl ?_
      refine lv_l2i (v := (((((M.2 74 ((v2 + ((v3 : Int32) >>> (2 &&& 31))) : Int32).toNatClampNeg) : Int64).toUInt64 >>> ((((v3 &&& 3) * 16) : Int32).toInt64.toUInt64 &&& Int64.toUInt64 63)).toInt64) : Int64).toInt32) hx hb dX2_load_45 rfl ?_
      refine lv_ldc (v := 65535) hx hb hown (hgt _ wd_3_90) dX2_load_46 ?_
      refine lv_iand hx hb dX2_load_48 ?_
      refine pm_iast (w := (wX cI cZ cC cJ cA P)) hx hb hK hP hD hS 62 0 gX_62 rfl sX_62 (ix_l h) dX2_load_49 (fun M1 eM1 H locs hP hD hS => ?_)
      have h := ix_r h
      have h := lt_o eM1 h
      refine lv_iinc (v := (v3 + 1)) hx hb dX2_load_50 hl (k := 2) rfl rfl (Nat.le_of_ble_eq_true rfl) (lv' := [(3, .int (v3 + 1)), (0, .ref (P 73)), (2, .int v2)]) rfl (fun ls hl => ?_)
      refine lv_goto hx hb dX2_load_53 (tgt := 6) rfl ?_
      have hl := lv_sub hl [1, 2, 0] (l' := [(0, .ref (P 73)), (2, .int v2), (3, .int (v3 + 1))]) rfl
      exact ih M1 v2 (v3 + 1) H locs ls hl hP hD hS h
set_option maxHeartbeats 4000000 in
set_option maxRecDepth 20000 in
theorem b_Checker_load_0 {p : Program} {l : Launch} {e : Env} {s s0 : State} {m : MethodId} {args : Array Value} {below : List Frame} {meth : Method} {c : Code} {D : va_G} {cI cZ cC cJ cA : ClassId} {P : Nat → Nat} {M' : Mm} {r' : Int32}  (hx : p.tables.exec = Jvm.exec) (hb : c.code = cX2_load) (hml : c.maxLocals = 5) (hr : meth.sig.returnType = (some .int)) (hlk : meth.locks = false) (hgt : ∀ w ∈ GT, w.before args s = true) (hown : s.vm.findClass RX2 = some m.cls) (hK : va_K D vwCl [(cI, .int), (cZ, .boolean), (cC, .char), (cJ, .long), (cA, .array .int)] s) (hO : Old s0 s) (hAO : ∀ q, (aP P 77) q → s0.heap.size ≤ q)  : ∀ (M : Mm) (a1 : Int32) (H : Heap) (locs : List Loc) (ls : Array Slot), lv_has ls 5 [(0, .ref (P 73)), (1, .int a1)] → va_P D vwCl ((wX cI cZ cC cJ cA P) M) H → va_D (aP P 77) ((wX cI cZ cC cJ cA P) M) → va_S (aP P 77) s.heap H locs → q_Checker_load M a1 = some (M', r') → W p l e ({ frames := 0, cells := 0, slots := 0, locals := 0 }) s m args below meth c H locs 0 0 (MQ below (gQi D (aP P 77) ((wX cI cZ cC cJ cA P) M') r') args s 0 0 (aP P 77)) (F0 m 0 ls []) := by
  intro M a1 H locs ls hl hP hD hS h
  unfold q_Checker_load at h
  refine lv_iload_n hx hb dX2_load_0 rfl (lv_at hl 1 rfl) ?_
  refine lv_iconst (v := 5) hx hb dX2_load_1 (by decide) ?_
  refine lv_imul hx hb dX2_load_2 ?_
  refine lv_topi (fun x1 ex1 => ?_)
  have h := lt_o ex1 h
  refine lv_istore_n hx hb dX2_load_3 rfl hl (Nat.le_of_ble_eq_true rfl) (lv' := [(2, .int x1), (0, .ref (P 73)), (1, .int a1)]) rfl (fun ls hl => ?_)
  refine lv_iconst (v := 0) hx hb dX2_load_4 (by decide) ?_
  refine lv_istore_n hx hb dX2_load_5 rfl hl (Nat.le_of_ble_eq_true rfl) (lv' := [(3, .int 0), (2, .int x1), (0, .ref (P 73)), (1, .int a1)]) rfl (fun ls hl => ?_)
  have hl := lv_sub hl [2, 1, 0] (l' := [(0, .ref (P 73)), (2, .int x1), (3, .int 0)]) rfl
  exact b_Checker_load_6 hx hb hml hr hlk hgt hown hK hO hAO 4000 M x1 0 H _ ls hl hP hD hS h
set_option maxHeartbeats 4000000 in
set_option maxRecDepth 20000 in
theorem z_Checker_load (l : Launch) (D : va_G) (cI cZ cC cJ cA : ClassId) (P : Nat → Nat) (s0 : State) (hAO : ∀ q, (aP P 77) q → s0.heap.size ≤ q) (M : Mm) (a1 : Int32) (M' : Mm) (r' : Int32) (h : q_Checker_load M a1 = some (M', r')) : Met l yX2_load wsX2_load ({ frames := 0, cells := 0, slots := 0, locals := 0 }) (va_Pc [.ref (P 73), .int a1] (gPre s0 D [(cI, .int), (cZ, .boolean), (cC, .char), (cJ, .long), (cA, .array .int)] (aP P 77) ((wX cI cZ cC cJ cA P) M))) (gQi D (aP P 77) ((wX cI cZ cC cJ cA P) M') r') 0 0 (aP P 77) := by
  refine Met.ofW (cc := cX2_load) (maxL := 5) (ret := (some .int)) (by decide) rfl ?_
  intro p e s m args below meth c s₁ B hml hv
  obtain ⟨rfl, hP, hK, hD, hO⟩ := hv
  have hx := B.exec
  have hb := B.bytes
  have hr := B.returns
  have hlk := B.notSynchronized
  have hgt := fun w (h : w ∈ GT) => atoms_spec (ws := wsX2_load) B.pre w (List.mem_cons_of_mem _ h)
  have hown : s.vm.findClass RX2 = some m.cls := findClass_of_methodNamed B.named
  have hS : va_S (aP P 77) s.heap s.heap [] := va_S.rf
  have hl := lv_entry ([.ref (P 73), .int a1]) (n := 5) (Nat.le_of_ble_eq_true rfl)
  rw [lg_entry_eq]
  generalize (lg_sl ([.ref (P 73), .int a1]) ++ List.replicate (5 - (lg_sl ([.ref (P 73), .int a1])).length) Slot.unset).toArray = ls at hl ⊢
  have hl : lv_has ls 5 [(0, .ref (P 73)), (1, .int a1)] := hl
  exact b_Checker_load_0 hx hb hml hr hlk hgt hown hK hO hAO M a1 s.heap [] ls hl hP hD hS h
