section
def q_Checker_makeKey_10  : Nat → Mm → Int32 → Int32 → Rs
  | 0, _, _, _ => none
  | n' + 1, M, v1, v2 => if (M.1 24 0) ≤ v2 then (lt' (stJ M 75 (vp_updL (M.2 75) (4 : Int32).toNatClampNeg (((((M.1 61 2) : Int32).toInt64) <<< ((8 : Int32).toInt64 &&& 63)) ||| ((v1 : Int32).toInt64)))) fun M1 => some (M1, 0)) else (ix ((v2 : Int32) >>> (2 &&& 31)) 5 <| ix v2 16 <| ix ((v2 : Int32) >>> (2 &&& 31)) 5 <| lt' (stJ M 75 (vp_updL (M.2 75) (((v2 : Int32) >>> (2 &&& 31)) : Int32).toNatClampNeg ((M.2 75 (((v2 : Int32) >>> (2 &&& 31)) : Int32).toNatClampNeg) ||| ((((M.1 62 (v2 : Int32).toNatClampNeg) : Int32).toInt64) <<< ((((v2 &&& 3) * 16) : Int32).toInt64 &&& 63))))) fun M1 => q_Checker_makeKey_10 n' M1 v1 (v2 + 1))
def q_Checker_makeKey  (M : Mm) (a1 : Int32) : Rs := lt' (stJ M 75 (fun _ => 0)) fun M1 => q_Checker_makeKey_10 4000 M1 a1 0
set_option maxHeartbeats 4000000 in
set_option maxRecDepth 20000 in
theorem b_Checker_makeKey_10 {p : Program} {l : Launch} {e : Env} {s s0 : State} {m : MethodId} {args : Array Value} {below : List Frame} {meth : Method} {c : Code} {D : va_G} {cI cZ cC cJ cA : ClassId} {P : Nat → Nat} {M' : Mm} {r' : Int32}  (hx : p.tables.exec = Jvm.exec) (hb : c.code = cX2_makeKey) (hml : c.maxLocals = 3) (hr : meth.sig.returnType = none) (hlk : meth.locks = false) (hgt : ∀ w ∈ GT, w.before args s = true) (hown : s.vm.findClass RX2 = some m.cls) (hK : va_K D vwCl [(cI, .int), (cZ, .boolean), (cC, .char), (cJ, .long), (cA, .array .int)] s) (hO : Old s0 s) (hAO : ∀ q, (aP P 77) q → s0.heap.size ≤ q)  : ∀ (n' : Nat) (M : Mm) (v1 : Int32) (v2 : Int32) (H : Heap) (locs : List Loc) (ls : Array Slot), lv_has ls 3 [(0, .ref (P 73)), (1, .int v1), (2, .int v2)] → va_P D vwCl ((wX cI cZ cC cJ cA P) M) H → va_D (aP P 77) ((wX cI cZ cC cJ cA P) M) → va_S (aP P 77) s.heap H locs → q_Checker_makeKey_10 n' M v1 v2 = some (M', r') → W p l e ({ frames := 1, cells := 0, slots := 0, locals := 24 }) s m args below meth c H locs 0 0 (MQ below (gQv D (aP P 77) ((wX cI cZ cC cJ cA P) M')) args s 0 0 (aP P 77)) (F0 m 10 ls []) := by
  intro n'
  induction n' with
  | zero => exact fun _ _ _ _ _ _ _ _ _ _ h => (rs_n h).elim
  | succ n' ih =>
    intro M v1 v2 H locs ls hl hP hD hS h
    rw [q_Checker_makeKey_10] at h
    refine lv_iload_n hx hb dX2_makeKey_10 rfl (lv_at hl 2 rfl) ?_
    refine lv_aload_n hx hb dX2_makeKey_11 rfl (lv_at hl 0 rfl) ?_
    refine va_get (D := D) (ci := 2) (v := .ref (P 24)) (C := RX2) (T := TX2) (N := 10) hx hb hgt iwX2 hown hK hP 73 gX_73 rfl 0 (Nat.le_of_ble_eq_true rfl) (hgt _ wd_1_221) (fun _ h9 => h9) rfl dX2_makeKey_12 ?_
    refine va_get (D := D) (ci := 6) (v := .int (M.1 24 0)) (C := RX6) (T := TX6) (N := 13) hx hb hgt iwX6 hown hK hP 24 gX_24 rfl 0 (Nat.le_of_ble_eq_true rfl) (hgt _ wd_1_7) (fun _ h9 => h9) rfl dX2_makeKey_15 ?_
    refine lv_icmp_ge hx hb dX2_makeKey_18 (tgt := 58) rfl (fun hc => ?_) (fun hc => ?_)
    · have h := br_T hc h
      refine lv_aload_n hx hb dX2_makeKey_58 rfl (lv_at hl 0 rfl) ?_
      refine va_get (D := D) (ci := 2) (v := .ref (P 75)) (C := RX2) (T := TX2) (N := 10) hx hb hgt iwX2 hown hK hP 73 gX_73 rfl 4 (Nat.le_of_ble_eq_true rfl) (hgt _ wd_1_225) (fun _ h9 => h9) rfl dX2_makeKey_59 ?_
      refine lv_iconst (v := 4) hx hb dX2_makeKey_62 (by decide) ?_
      refine lv_aload_n hx hb dX2_makeKey_63 rfl (lv_at hl 0 rfl) ?_
      refine va_get (D := D) (ci := 2) (v := .ref (P 60)) (C := RX2) (T := TX2) (N := 10) hx hb hgt iwX2 hown hK hP 73 gX_73 rfl 2 (Nat.le_of_ble_eq_true rfl) (hgt _ wd_1_223) (fun _ h9 => h9) rfl dX2_makeKey_64 ?_
      refine va_get (D := D) (ci := 9) (v := .ref (P 61)) (C := RX9) (T := TX9) (N := 6) hx hb hgt iwX9 hown hK hP 60 gX_60 rfl 1 (Nat.le_of_ble_eq_true rfl) (hgt _ wd_1_162) (fun _ h9 => h9) rfl dX2_makeKey_67 ?_
      refine va_get (D := D) (ci := 8) (v := .int (M.1 61 2)) (C := RX8) (T := TX8) (N := 3) hx hb hgt iwX8 hown hK hP 61 gX_61 rfl 2 (Nat.le_of_ble_eq_true rfl) (hgt _ wd_1_118) (fun _ h9 => h9) rfl dX2_makeKey_70 ?_
      refine lv_i2l (v := ((M.1 61 2) : Int32).toInt64) hx hb dX2_makeKey_73 rfl ?_
      refine lv_bipush (v := 8) hx hb dX2_makeKey_74 (by decide) ?_
      refine lv_lshl (v := ((((M.1 61 2) : Int32).toInt64) <<< ((8 : Int32).toInt64 &&& 63))) hx hb dX2_makeKey_76 rfl ?_
      refine lv_iload_n hx hb dX2_makeKey_77 rfl (lv_at hl 1 rfl) ?_
      refine lv_i2l (v := (v1 : Int32).toInt64) hx hb dX2_makeKey_78 rfl ?_
      refine lv_lor hx hb dX2_makeKey_79 ?_
      refine pm_last (w := (wX cI cZ cC cJ cA P)) hx hb hK hP hD hS 75 3 gX_75 rfl sX_75 (by unfold vp_in; decide) dX2_makeKey_80 (fun M1 eM1 H locs hP hD hS => ?_)
      have h := lt_o eM1 h
      exact rt_v (w := (wX cI cZ cC cJ cA P)) (r := r') hx hb hr hlk hP hD hS h dX2_makeKey_81
    · have h := br_F hc h
      refine lv_aload_n hx hb dX2_makeKey_21 rfl (lv_at hl 0 rfl) ?_
      refine va_get (D := D) (ci := 2) (v := .ref (P 75)) (C := RX2) (T := TX2) (N := 10) hx hb hgt iwX2 hown hK hP 73 gX_73 rfl 4 (Nat.le_of_ble_eq_true rfl) (hgt _ wd_1_225) (fun _ h9 => h9) rfl dX2_makeKey_22 ?_
      refine lv_iload_n hx hb dX2_makeKey_25 rfl (lv_at hl 2 rfl) ?_
      refine lv_iconst (v := 2) hx hb dX2_makeKey_26 (by decide) ?_
      refine lv_ishr hx hb dX2_makeKey_27 ?_
      refine lv_dup2_11 hx hb dX2_makeKey_28 rfl rfl ?_
      refine va_lald hx hb hK hP 75 3 gX_75 rfl (ix_l h) dX2_makeKey_29 ?_
      have h := ix_r h
      refine lv_aload_n hx hb dX2_makeKey_30 rfl (lv_at hl 0 rfl) ?_
      refine va_get (D := D) (ci := 2) (v := .ref (P 60)) (C := RX2) (T := TX2) (N := 10) hx hb hgt iwX2 hown hK hP 73 gX_73 rfl 2 (Nat.le_of_ble_eq_true rfl) (hgt _ wd_1_223) (fun _ h9 => h9) rfl dX2_makeKey_31 ?_
      refine va_get (D := D) (ci := 9) (v := .ref (P 61)) (C := RX9) (T := TX9) (N := 6) hx hb hgt iwX9 hown hK hP 60 gX_60 rfl 1 (Nat.le_of_ble_eq_true rfl) (hgt _ wd_1_162) (fun _ h9 => h9) rfl dX2_makeKey_34 ?_
      refine va_get (D := D) (ci := 8) (v := .ref (P 62)) (C := RX8) (T := TX8) (N := 3) hx hb hgt iwX8 hown hK hP 61 gX_61 rfl 1 (Nat.le_of_ble_eq_true rfl) (hgt _ wd_1_115) (fun _ h9 => h9) rfl dX2_makeKey_37 ?_
      refine lv_iload_n hx hb dX2_makeKey_40 rfl (lv_at hl 2 rfl) ?_
      refine va_iald hx hb hK hP 62 0 gX_62 rfl (ix_l h) dX2_makeKey_41 ?_
      have h := ix_r h
      refine lv_i2l (v := ((M.1 62 (v2 : Int32).toNatClampNeg) : Int32).toInt64) hx hb dX2_makeKey_42 rfl ?_
      refine lv_iload_n hx hb dX2_makeKey_43 rfl (lv_at hl 2 rfl) ?_
      refine lv_iconst (v := 3) hx hb dX2_makeKey_44 (by decide) ?_
      refine lv_iand hx hb dX2_makeKey_45 ?_
      refine lv_bipush (v := 16) hx hb dX2_makeKey_46 (by decide) ?_
      refine lv_imul hx hb dX2_makeKey_48 ?_
      refine lv_lshl (v := ((((M.1 62 (v2 : Int32).toNatClampNeg) : Int32).toInt64) <<< ((((v2 &&& 3) * 16) : Int32).toInt64 &&& 63))) hx hb dX2_makeKey_49 rfl ?_
      refine lv_lor hx hb dX2_makeKey_50 ?_
      refine pm_last (w := (wX cI cZ cC cJ cA P)) hx hb hK hP hD hS 75 3 gX_75 rfl sX_75 (ix_l h) dX2_makeKey_51 (fun M1 eM1 H locs hP hD hS => ?_)
      have h := ix_r h
      have h := lt_o eM1 h
      refine lv_iinc (v := (v2 + 1)) hx hb dX2_makeKey_52 hl (k := 2) rfl rfl (Nat.le_of_ble_eq_true rfl) (lv' := [(2, .int (v2 + 1)), (0, .ref (P 73)), (1, .int v1)]) rfl (fun ls hl => ?_)
      refine lv_goto hx hb dX2_makeKey_55 (tgt := 10) rfl ?_
      have hl := lv_sub hl [1, 2, 0] (l' := [(0, .ref (P 73)), (1, .int v1), (2, .int (v2 + 1))]) rfl
      exact ih M1 v1 (v2 + 1) H locs ls hl hP hD hS h
set_option maxHeartbeats 4000000 in
set_option maxRecDepth 20000 in
theorem b_Checker_makeKey_0 {p : Program} {l : Launch} {e : Env} {s s0 : State} {m : MethodId} {args : Array Value} {below : List Frame} {meth : Method} {c : Code} {D : va_G} {cI cZ cC cJ cA : ClassId} {P : Nat → Nat} {M' : Mm} {r' : Int32}  (hx : p.tables.exec = Jvm.exec) (hb : c.code = cX2_makeKey) (hml : c.maxLocals = 3) (hr : meth.sig.returnType = none) (hlk : meth.locks = false) (hgt : ∀ w ∈ GT, w.before args s = true) (hown : s.vm.findClass RX2 = some m.cls) (hK : va_K D vwCl [(cI, .int), (cZ, .boolean), (cC, .char), (cJ, .long), (cA, .array .int)] s) (hO : Old s0 s) (hAO : ∀ q, (aP P 77) q → s0.heap.size ≤ q)  : ∀ (M : Mm) (a1 : Int32) (H : Heap) (locs : List Loc) (ls : Array Slot), lv_has ls 3 [(0, .ref (P 73)), (1, .int a1)] → va_P D vwCl ((wX cI cZ cC cJ cA P) M) H → va_D (aP P 77) ((wX cI cZ cC cJ cA P) M) → va_S (aP P 77) s.heap H locs → q_Checker_makeKey M a1 = some (M', r') → W p l e ({ frames := 1, cells := 0, slots := 0, locals := 24 }) s m args below meth c H locs 0 0 (MQ below (gQv D (aP P 77) ((wX cI cZ cC cJ cA P) M')) args s 0 0 (aP P 77)) (F0 m 0 ls []) := by
  intro M a1 H locs ls hl hP hD hS h
  unfold q_Checker_makeKey at h
  refine lv_aload_n hx hb dX2_makeKey_0 rfl (lv_at hl 0 rfl) ?_
  refine va_get (D := D) (ci := 2) (v := .ref (P 75)) (C := RX2) (T := TX2) (N := 10) hx hb hgt iwX2 hown hK hP 73 gX_73 rfl 4 (Nat.le_of_ble_eq_true rfl) (hgt _ wd_1_225) (fun _ h9 => h9) rfl dX2_makeKey_1 ?_
  refine lv_lconst (v := 0) hx hb dX2_makeKey_4 (by decide) ?_
  refine cx_v (va_runS (As := [.ref (P 75), .long 0]) (rest := []) ⟨hx, hb, hml, hown, hgt⟩ (z_fillJ 5 l D cI cZ cC cJ cA (wX cI cZ cC cJ cA P) (aP P 77) s0 P 75 (fun _ => gX_75) (fun _ => sX_75) rfl 0 M) (va_cwS 2 hgt (gS wd_3_65 wd_3_66 wd_0_8 wd_3_67) rfl rfl rfl (by decide +kernel) ⟨Nat.le_of_ble_eq_true rfl, Nat.le_of_ble_eq_true rfl⟩) (prS hP hK hD hO hAO hS) rfl rfl hl.1 rfl (lv_room (Nat.le_of_ble_eq_true rfl)) dX2_makeKey_5 ⟨Nat.le_of_ble_eq_true rfl, Nat.le_of_ble_eq_true rfl⟩) hS (fun H locs hP hD hS => ?_)
  obtain ⟨M1, eM1⟩ : ∃ M1, M1 = stJ M 75 (fun _ => 0) := ⟨_, rfl⟩
  rw [← eM1] at hP hD
  have h := lt_o eM1 h
  refine lv_iconst (v := 0) hx hb dX2_makeKey_8 (by decide) ?_
  refine lv_istore_n hx hb dX2_makeKey_9 rfl hl (Nat.le_of_ble_eq_true rfl) (lv' := [(2, .int 0), (0, .ref (P 73)), (1, .int a1)]) rfl (fun ls hl => ?_)
  have hl := lv_sub hl [1, 2, 0] (l' := [(0, .ref (P 73)), (1, .int a1), (2, .int 0)]) rfl
  exact b_Checker_makeKey_10 hx hb hml hr hlk hgt hown hK hO hAO 4000 M1 a1 0 H _ ls hl hP hD hS h
set_option maxHeartbeats 4000000 in
set_option maxRecDepth 20000 in
theorem z_Checker_makeKey (l : Launch) (D : va_G) (cI cZ cC cJ cA : ClassId) (P : Nat → Nat) (s0 : State) (hAO : ∀ q, (aP P 77) q → s0.heap.size ≤ q) (M : Mm) (a1 : Int32) (M' : Mm) (r' : Int32) (h : q_Checker_makeKey M a1 = some (M', r')) : Met l yX2_makeKey wsX2_makeKey ({ frames := 1, cells := 0, slots := 0, locals := 24 }) (va_Pc [.ref (P 73), .int a1] (gPre s0 D [(cI, .int), (cZ, .boolean), (cC, .char), (cJ, .long), (cA, .array .int)] (aP P 77) ((wX cI cZ cC cJ cA P) M))) (gQv D (aP P 77) ((wX cI cZ cC cJ cA P) M')) 0 0 (aP P 77) := by
  refine Met.ofW (cc := cX2_makeKey) (maxL := 3) (ret := none) (by decide) rfl ?_
  intro p e s m args below meth c s₁ B hml hv
  obtain ⟨rfl, hP, hK, hD, hO⟩ := hv
  have hx := B.exec
  have hb := B.bytes
  have hr := B.returns
  have hlk := B.notSynchronized
  have hgt := fun w (h : w ∈ GT) => atoms_spec (ws := wsX2_makeKey) B.pre w (List.mem_cons_of_mem _ h)
  have hown : s.vm.findClass RX2 = some m.cls := findClass_of_methodNamed B.named
  have hS : va_S (aP P 77) s.heap s.heap [] := va_S.rf
  have hl := lv_entry ([.ref (P 73), .int a1]) (n := 3) (Nat.le_of_ble_eq_true rfl)
  rw [lg_entry_eq]
  generalize (lg_sl ([.ref (P 73), .int a1]) ++ List.replicate (3 - (lg_sl ([.ref (P 73), .int a1])).length) Slot.unset).toArray = ls at hl ⊢
  have hl : lv_has ls 3 [(0, .ref (P 73)), (1, .int a1)] := hl
  exact b_Checker_makeKey_0 hx hb hml hr hlk hgt hown hK hO hAO M a1 s.heap [] ls hl hP hD hS h
def q_Checker_hashOfKey_4  : Nat → Mm → Int64 → Int32 → Rs
  | 0, _, _, _ => none
  | n' + 1, M, v1, v3 => if 5 ≤ v3 then (some (M, ((((((v1 : Int64).toUInt64 >>> ((32 : Int32).toInt64.toUInt64 &&& Int64.toUInt64 63)).toInt64) : Int64).toInt32) &&& 2047))) else (ix v3 5 <| lt' ((v1 ^^^ (M.2 75 (v3 : Int32).toNatClampNeg)) * (-7046029254386353131)) fun x1 => lt' (x1 ^^^ (((x1 : Int64).toUInt64 >>> ((29 : Int32).toInt64.toUInt64 &&& Int64.toUInt64 63)).toInt64)) fun x2 => q_Checker_hashOfKey_4 n' M x2 (v3 + 1))
def q_Checker_hashOfKey  (M : Mm)  : Rs := q_Checker_hashOfKey_4 4000 M 0 0
set_option maxHeartbeats 4000000 in
set_option maxRecDepth 20000 in
theorem b_Checker_hashOfKey_4 {p : Program} {l : Launch} {e : Env} {s s0 : State} {m : MethodId} {args : Array Value} {below : List Frame} {meth : Method} {c : Code} {D : va_G} {cI cZ cC cJ cA : ClassId} {P : Nat → Nat} {M' : Mm} {r' : Int32}  (hx : p.tables.exec = Jvm.exec) (hb : c.code = cX2_hashOfKey) (hml : c.maxLocals = 4) (hr : meth.sig.returnType = (some .int)) (hlk : meth.locks = false) (hgt : ∀ w ∈ GT, w.before args s = true) (hown : s.vm.findClass RX2 = some m.cls) (hK : va_K D vwCl [(cI, .int), (cZ, .boolean), (cC, .char), (cJ, .long), (cA, .array .int)] s) (hO : Old s0 s) (hAO : ∀ q, (aP P 77) q → s0.heap.size ≤ q)  : ∀ (n' : Nat) (M : Mm) (v1 : Int64) (v3 : Int32) (H : Heap) (locs : List Loc) (ls : Array Slot), lv_has ls 4 [(0, .ref (P 73)), (1, .long v1), (3, .int v3)] → va_P D vwCl ((wX cI cZ cC cJ cA P) M) H → va_D (aP P 77) ((wX cI cZ cC cJ cA P) M) → va_S (aP P 77) s.heap H locs → q_Checker_hashOfKey_4 n' M v1 v3 = some (M', r') → W p l e ({ frames := 0, cells := 0, slots := 0, locals := 0 }) s m args below meth c H locs 0 0 (MQ below (gQi D (aP P 77) ((wX cI cZ cC cJ cA P) M') r') args s 0 0 (aP P 77)) (F0 m 4 ls []) := by
  intro n'
  induction n' with
  | zero => exact fun _ _ _ _ _ _ _ _ _ _ h => (rs_n h).elim
  | succ n' ih =>
    intro M v1 v3 H locs ls hl hP hD hS h
    rw [q_Checker_hashOfKey_4] at h
    refine lv_iload_n hx hb dX2_hashOfKey_4 rfl (lv_at hl 2 rfl) ?_
    refine lv_iconst (v := 5) hx hb dX2_hashOfKey_5 (by decide) ?_
    refine lv_icmp_ge hx hb dX2_hashOfKey_6 (tgt := 35) rfl (fun hc => ?_) (fun hc => ?_)
    · have h := br_T hc h
      refine lv_lload_n hx hb dX2_hashOfKey_35 rfl (lv_at hl 1 rfl) ?_
      refine lv_bipush (v := 32) hx hb dX2_hashOfKey_36 (by decide) ?_
      refine lv_lushr (v := (((v1 : Int64).toUInt64 >>> ((32 : Int32).toInt64.toUInt64 &&& Int64.toUInt64 63)).toInt64)) hx hb dX2_hashOfKey_38 rfl ?_
      refine lv_l2i (v := ((((v1 : Int64).toUInt64 >>> ((32 : Int32).toInt64.toUInt64 &&& Int64.toUInt64 63)).toInt64) : Int64).toInt32) hx hb dX2_hashOfKey_39 rfl ?_
      refine lv_sipush (v := 2047) hx hb dX2_hashOfKey_40 (by decide) ?_
      refine lv_iand hx hb dX2_hashOfKey_43 ?_
      exact rt_i (w := (wX cI cZ cC cJ cA P)) hx hb hr hlk hP hD hS h dX2_hashOfKey_44
    · have h := br_F hc h
      refine lv_lload_n hx hb dX2_hashOfKey_9 rfl (lv_at hl 1 rfl) ?_
      refine lv_aload_n hx hb dX2_hashOfKey_10 rfl (lv_at hl 0 rfl) ?_
      refine va_get (D := D) (ci := 2) (v := .ref (P 75)) (C := RX2) (T := TX2) (N := 10) hx hb hgt iwX2 hown hK hP 73 gX_73 rfl 4 (Nat.le_of_ble_eq_true rfl) (hgt _ wd_1_225) (fun _ h9 => h9) rfl dX2_hashOfKey_11 ?_
      refine lv_iload_n hx hb dX2_hashOfKey_14 rfl (lv_at hl 2 rfl) ?_
      refine va_lald hx hb hK hP 75 3 gX_75 rfl (ix_l h) dX2_hashOfKey_15 ?_
      have h := ix_r h
      refine lv_lxor hx hb dX2_hashOfKey_16 ?_
      refine lv_ldc2 (v := (-7046029254386353131)) hx hb hown (hgt _ wd_3_72) dX2_hashOfKey_17 ?_
      refine lv_lmul hx hb dX2_hashOfKey_20 ?_
      refine lv_topl (fun x1 ex1 => ?_)
      have h := lt_o ex1 h
      refine lv_lstore_n hx hb dX2_hashOfKey_21 rfl hl (Nat.le_of_ble_eq_true rfl) (lv' := [(1, .long x1), (0, .ref (P 73)), (3, .int v3)]) rfl (fun ls hl => ?_)
      refine lv_lload_n hx hb dX2_hashOfKey_22 rfl (lv_at hl 0 rfl) ?_
      refine lv_lload_n hx hb dX2_hashOfKey_23 rfl (lv_at hl 0 rfl) ?_
      refine lv_bipush (v := 29) hx hb dX2_hashOfKey_24 (by decide) ?_
      refine lv_lushr (v := (((x1 : Int64).toUInt64 >>> ((29 : Int32).toInt64.toUInt64 &&& Int64.toUInt64 63)).toInt64)) hx hb dX2_hashOfKey_26 rfl ?_
      refine lv_lxor hx hb dX2_hashOfKey_27 ?_
      refine lv_topl (fun x2 ex2 => ?_)
      have h := lt_o ex2 h
      refine lv_lstore_n hx hb dX2_hashOfKey_28 rfl hl (Nat.le_of_ble_eq_true rfl) (lv' := [(1, .long x2), (0, .ref (P 73)), (3, .int v3)]) rfl (fun ls hl => ?_)
      refine lv_iinc (v := (v3 + 1)) hx hb dX2_hashOfKey_29 hl (k := 2) rfl rfl (Nat.le_of_ble_eq_true rfl) (lv' := [(3, .int (v3 + 1)), (1, .long x2), (0, .ref (P 73))]) rfl (fun ls hl => ?_)
      refine lv_goto hx hb dX2_hashOfKey_32 (tgt := 4) rfl ?_
      have hl := lv_sub hl [2, 1, 0] (l' := [(0, .ref (P 73)), (1, .long x2), (3, .int (v3 + 1))]) rfl
      exact ih M x2 (v3 + 1) H locs ls hl hP hD hS h
set_option maxHeartbeats 4000000 in
set_option maxRecDepth 20000 in
theorem b_Checker_hashOfKey_0 {p : Program} {l : Launch} {e : Env} {s s0 : State} {m : MethodId} {args : Array Value} {below : List Frame} {meth : Method} {c : Code} {D : va_G} {cI cZ cC cJ cA : ClassId} {P : Nat → Nat} {M' : Mm} {r' : Int32}  (hx : p.tables.exec = Jvm.exec) (hb : c.code = cX2_hashOfKey) (hml : c.maxLocals = 4) (hr : meth.sig.returnType = (some .int)) (hlk : meth.locks = false) (hgt : ∀ w ∈ GT, w.before args s = true) (hown : s.vm.findClass RX2 = some m.cls) (hK : va_K D vwCl [(cI, .int), (cZ, .boolean), (cC, .char), (cJ, .long), (cA, .array .int)] s) (hO : Old s0 s) (hAO : ∀ q, (aP P 77) q → s0.heap.size ≤ q)  : ∀ (M : Mm)  (H : Heap) (locs : List Loc) (ls : Array Slot), lv_has ls 4 [(0, .ref (P 73))] → va_P D vwCl ((wX cI cZ cC cJ cA P) M) H → va_D (aP P 77) ((wX cI cZ cC cJ cA P) M) → va_S (aP P 77) s.heap H locs → q_Checker_hashOfKey M = some (M', r') → W p l e ({ frames := 0, cells := 0, slots := 0, locals := 0 }) s m args below meth c H locs 0 0 (MQ below (gQi D (aP P 77) ((wX cI cZ cC cJ cA P) M') r') args s 0 0 (aP P 77)) (F0 m 0 ls []) := by
  intro M H locs ls hl hP hD hS h
  unfold q_Checker_hashOfKey at h
  refine lv_lconst (v := 0) hx hb dX2_hashOfKey_0 (by decide) ?_
  refine lv_lstore_n hx hb dX2_hashOfKey_1 rfl hl (Nat.le_of_ble_eq_true rfl) (lv' := [(1, .long 0), (0, .ref (P 73))]) rfl (fun ls hl => ?_)
  refine lv_iconst (v := 0) hx hb dX2_hashOfKey_2 (by decide) ?_
  refine lv_istore_n hx hb dX2_hashOfKey_3 rfl hl (Nat.le_of_ble_eq_true rfl) (lv' := [(3, .int 0), (1, .long 0), (0, .ref (P 73))]) rfl (fun ls hl => ?_)
  have hl := lv_sub hl [2, 1, 0] (l' := [(0, .ref (P 73)), (1, .long 0), (3, .int 0)]) rfl
  exact b_Checker_hashOfKey_4 hx hb hml hr hlk hgt hown hK hO hAO 4000 M 0 0 H _ ls hl hP hD hS h
set_option maxHeartbeats 4000000 in
set_option maxRecDepth 20000 in
theorem z_Checker_hashOfKey (l : Launch) (D : va_G) (cI cZ cC cJ cA : ClassId) (P : Nat → Nat) (s0 : State) (hAO : ∀ q, (aP P 77) q → s0.heap.size ≤ q) (M : Mm)  (M' : Mm) (r' : Int32) (h : q_Checker_hashOfKey M = some (M', r')) : Met l yX2_hashOfKey wsX2_hashOfKey ({ frames := 0, cells := 0, slots := 0, locals := 0 }) (va_Pc [.ref (P 73)] (gPre s0 D [(cI, .int), (cZ, .boolean), (cC, .char), (cJ, .long), (cA, .array .int)] (aP P 77) ((wX cI cZ cC cJ cA P) M))) (gQi D (aP P 77) ((wX cI cZ cC cJ cA P) M') r') 0 0 (aP P 77) := by
  refine Met.ofW (cc := cX2_hashOfKey) (maxL := 4) (ret := (some .int)) (by decide) rfl ?_
  intro p e s m args below meth c s₁ B hml hv
  obtain ⟨rfl, hP, hK, hD, hO⟩ := hv
  have hx := B.exec
  have hb := B.bytes
  have hr := B.returns
  have hlk := B.notSynchronized
  have hgt := fun w (h : w ∈ GT) => atoms_spec (ws := wsX2_hashOfKey) B.pre w (List.mem_cons_of_mem _ h)
  have hown : s.vm.findClass RX2 = some m.cls := findClass_of_methodNamed B.named
  have hS : va_S (aP P 77) s.heap s.heap [] := va_S.rf
  have hl := lv_entry ([.ref (P 73)]) (n := 4) (Nat.le_of_ble_eq_true rfl)
  rw [lg_entry_eq]
  generalize (lg_sl ([.ref (P 73)]) ++ List.replicate (4 - (lg_sl ([.ref (P 73)])).length) Slot.unset).toArray = ls at hl ⊢
  have hl : lv_has ls 4 [(0, .ref (P 73))] := hl
  exact b_Checker_hashOfKey_0 hx hb hml hr hlk hgt hown hK hO hAO M s.heap [] ls hl hP hD hS h
def q_Checker_isKey_2  : Nat → Mm → Int32 → Int32 → Rs
  | 0, _, _, _ => none
  | n' + 1, M, v1, v2 => if 5 ≤ v2 then (some (M, 1)) else (ix (v1 + v2) 5000 <| ix v2 5 <| if (lg_cmp (M.2 74 ((v1 + v2) : Int32).toNatClampNeg) (M.2 75 (v2 : Int32).toNatClampNeg)) = 0 then (q_Checker_isKey_2 n' M v1 (v2 + 1)) else (some (M, 0)))
def q_Checker_isKey  (M : Mm) (a1 : Int32) : Rs := q_Checker_isKey_2 4000 M a1 0
set_option maxHeartbeats 4000000 in
set_option maxRecDepth 20000 in
theorem b_Checker_isKey_2 {p : Program} {l : Launch} {e : Env} {s s0 : State} {m : MethodId} {args : Array Value} {below : List Frame} {meth : Method} {c : Code} {D : va_G} {cI cZ cC cJ cA : ClassId} {P : Nat → Nat} {M' : Mm} {r' : Int32}  (hx : p.tables.exec = Jvm.exec) (hb : c.code = cX2_isKey) (hml : c.maxLocals = 3) (hr : meth.sig.returnType = (some .boolean)) (hlk : meth.locks = false) (hgt : ∀ w ∈ GT, w.before args s = true) (hown : s.vm.findClass RX2 = some m.cls) (hK : va_K D vwCl [(cI, .int), (cZ, .boolean), (cC, .char), (cJ, .long), (cA, .array .int)] s) (hO : Old s0 s) (hAO : ∀ q, (aP P 77) q → s0.heap.size ≤ q)  : ∀ (n' : Nat) (M : Mm) (v1 : Int32) (v2 : Int32) (H : Heap) (locs : List Loc) (ls : Array Slot), lv_has ls 3 [(0, .ref (P 73)), (1, .int v1), (2, .int v2)] → va_P D vwCl ((wX cI cZ cC cJ cA P) M) H → va_D (aP P 77) ((wX cI cZ cC cJ cA P) M) → va_S (aP P 77) s.heap H locs → q_Checker_isKey_2 n' M v1 v2 = some (M', r') → W p l e ({ frames := 0, cells := 0, slots := 0, locals := 0 }) s m args below meth c H locs 0 0 (MQ below (gQi D (aP P 77) ((wX cI cZ cC cJ cA P) M') r') args s 0 0 (aP P 77)) (F0 m 2 ls []) := by
  intro n'
  induction n' with
  | zero => exact fun _ _ _ _ _ _ _ _ _ _ h => (rs_n h).elim
  | succ n' ih =>
    intro M v1 v2 H locs ls hl hP hD hS h
    rw [q_Checker_isKey_2] at h
    refine lv_iload_n hx hb dX2_isKey_2 rfl (lv_at hl 2 rfl) ?_
    refine lv_iconst (v := 5) hx hb dX2_isKey_3 (by decide) ?_
    refine lv_icmp_ge hx hb dX2_isKey_4 (tgt := 33) rfl (fun hc => ?_) (fun hc => ?_)
    · have h := br_T hc h
      refine lv_iconst (v := 1) hx hb dX2_isKey_33 (by decide) ?_
      exact rt_z (w := (wX cI cZ cC cJ cA P)) hx hb hr hlk rfl hP hD hS h dX2_isKey_34
    · have h := br_F hc h
      refine lv_aload_n hx hb dX2_isKey_7 rfl (lv_at hl 0 rfl) ?_
      refine va_get (D := D) (ci := 2) (v := .ref (P 74)) (C := RX2) (T := TX2) (N := 10) hx hb hgt iwX2 hown hK hP 73 gX_73 rfl 3 (Nat.le_of_ble_eq_true rfl) (hgt _ wd_1_224) (fun _ h9 => h9) rfl dX2_isKey_8 ?_
      refine lv_iload_n hx hb dX2_isKey_11 rfl (lv_at hl 1 rfl) ?_
      refine lv_iload_n hx hb dX2_isKey_12 rfl (lv_at hl 2 rfl) ?_
      refine lv_iadd hx hb dX2_isKey_13 ?_
      refine va_lald hx hb hK hP 74 3 gX_74 rfl (ix_l h) dX2_isKey_14 ?_
      have h := ix_r h
      refine lv_aload_n hx hb dX2_isKey_15 rfl (lv_at hl 0 rfl) ?_
      refine va_get (D := D) (ci := 2) (v := .ref (P 75)) (C := RX2) (T := TX2) (N := 10) hx hb hgt iwX2 hown hK hP 73 gX_73 rfl 4 (Nat.le_of_ble_eq_true rfl) (hgt _ wd_1_225) (fun _ h9 => h9) rfl dX2_isKey_16 ?_
      refine lv_iload_n hx hb dX2_isKey_19 rfl (lv_at hl 2 rfl) ?_
      refine va_lald hx hb hK hP 75 3 gX_75 rfl (ix_l h) dX2_isKey_20 ?_
      have h := ix_r h
      refine W.lcmp hx hb dX2_isKey_21 ?_
      refine lv_if_eq hx hb dX2_isKey_22 (tgt := 27) rfl (fun hc => ?_) (fun hc => ?_)
      · have h := br_T hc h
        refine lv_iinc (v := (v2 + 1)) hx hb dX2_isKey_27 hl (k := 2) rfl rfl (Nat.le_of_ble_eq_true rfl) (lv' := [(2, .int (v2 + 1)), (0, .ref (P 73)), (1, .int v1)]) rfl (fun ls hl => ?_)
        refine lv_goto hx hb dX2_isKey_30 (tgt := 2) rfl ?_
        have hl := lv_sub hl [1, 2, 0] (l' := [(0, .ref (P 73)), (1, .int v1), (2, .int (v2 + 1))]) rfl
        exact ih M v1 (v2 + 1) H locs ls hl hP hD hS h
      · have h := br_F hc h
        refine lv_iconst (v := 0) hx hb dX2_isKey_25 (by decide) ?_
        exact rt_z (w := (wX cI cZ cC cJ cA P)) hx hb hr hlk rfl hP hD hS h dX2_isKey_26
set_option maxHeartbeats 4000000 in
set_option maxRecDepth 20000 in
theorem b_Checker_isKey_0 {p : Program} {l : Launch} {e : Env} {s s0 : State} {m : MethodId} {args : Array Value} {below : List Frame} {meth : Method} {c : Code} {D : va_G} {cI cZ cC cJ cA : ClassId} {P : Nat → Nat} {M' : Mm} {r' : Int32}  (hx : p.tables.exec = Jvm.exec) (hb : c.code = cX2_isKey) (hml : c.maxLocals = 3) (hr : meth.sig.returnType = (some .boolean)) (hlk : meth.locks = false) (hgt : ∀ w ∈ GT, w.before args s = true) (hown : s.vm.findClass RX2 = some m.cls) (hK : va_K D vwCl [(cI, .int), (cZ, .boolean), (cC, .char), (cJ, .long), (cA, .array .int)] s) (hO : Old s0 s) (hAO : ∀ q, (aP P 77) q → s0.heap.size ≤ q)  : ∀ (M : Mm) (a1 : Int32) (H : Heap) (locs : List Loc) (ls : Array Slot), lv_has ls 3 [(0, .ref (P 73)), (1, .int a1)] → va_P D vwCl ((wX cI cZ cC cJ cA P) M) H → va_D (aP P 77) ((wX cI cZ cC cJ cA P) M) → va_S (aP P 77) s.heap H locs → q_Checker_isKey M a1 = some (M', r') → W p l e ({ frames := 0, cells := 0, slots := 0, locals := 0 }) s m args below meth c H locs 0 0 (MQ below (gQi D (aP P 77) ((wX cI cZ cC cJ cA P) M') r') args s 0 0 (aP P 77)) (F0 m 0 ls []) := by
  intro M a1 H locs ls hl hP hD hS h
  unfold q_Checker_isKey at h
  refine lv_iconst (v := 0) hx hb dX2_isKey_0 (by decide) ?_
  refine lv_istore_n hx hb dX2_isKey_1 rfl hl (Nat.le_of_ble_eq_true rfl) (lv' := [(2, .int 0), (0, .ref (P 73)), (1, .int a1)]) rfl (fun ls hl => ?_)
  have hl := lv_sub hl [1, 2, 0] (l' := [(0, .ref (P 73)), (1, .int a1), (2, .int 0)]) rfl
  exact b_Checker_isKey_2 hx hb hml hr hlk hgt hown hK hO hAO 4000 M a1 0 H _ ls hl hP hD hS h
set_option maxHeartbeats 4000000 in
set_option maxRecDepth 20000 in
theorem z_Checker_isKey (l : Launch) (D : va_G) (cI cZ cC cJ cA : ClassId) (P : Nat → Nat) (s0 : State) (hAO : ∀ q, (aP P 77) q → s0.heap.size ≤ q) (M : Mm) (a1 : Int32) (M' : Mm) (r' : Int32) (h : q_Checker_isKey M a1 = some (M', r')) : Met l yX2_isKey wsX2_isKey ({ frames := 0, cells := 0, slots := 0, locals := 0 }) (va_Pc [.ref (P 73), .int a1] (gPre s0 D [(cI, .int), (cZ, .boolean), (cC, .char), (cJ, .long), (cA, .array .int)] (aP P 77) ((wX cI cZ cC cJ cA P) M))) (gQi D (aP P 77) ((wX cI cZ cC cJ cA P) M') r') 0 0 (aP P 77) := by
  refine Met.ofW (cc := cX2_isKey) (maxL := 3) (ret := (some .boolean)) (by decide) rfl ?_
  intro p e s m args below meth c s₁ B hml hv
  obtain ⟨rfl, hP, hK, hD, hO⟩ := hv
  have hx := B.exec
  have hb := B.bytes
  have hr := B.returns
  have hlk := B.notSynchronized
  have hgt := fun w (h : w ∈ GT) => atoms_spec (ws := wsX2_isKey) B.pre w (List.mem_cons_of_mem _ h)
  have hown : s.vm.findClass RX2 = some m.cls := findClass_of_methodNamed B.named
  have hS : va_S (aP P 77) s.heap s.heap [] := va_S.rf
  have hl := lv_entry ([.ref (P 73), .int a1]) (n := 3) (Nat.le_of_ble_eq_true rfl)
  rw [lg_entry_eq]
  generalize (lg_sl ([.ref (P 73), .int a1]) ++ List.replicate (3 - (lg_sl ([.ref (P 73), .int a1])).length) Slot.unset).toArray = ls at hl ⊢
  have hl : lv_has ls 3 [(0, .ref (P 73)), (1, .int a1)] := hl
  exact b_Checker_isKey_0 hx hb hml hr hlk hgt hown hK hO hAO M a1 s.heap [] ls hl hP hD hS h
def q_Checker_add  (M : Mm) (a1 : Int32) : Rs := if (M.1 73 6) < 1000 then (cpk 0 ((M.1 73 6) * 5) 5 5 5000 <| lt' (stJ M 74 (va_cpy (M.2 75) (M.2 74) (0 : Int32).toNatClampNeg (((M.1 73 6) * 5) : Int32).toNatClampNeg (5 : Int32).toNatClampNeg)) fun M1 => lt' (stI M1 73 (upd (M1.1 73) 6 ((M1.1 73 6) + 1))) fun M2 => ix a1 2048 <| lt' (stI M2 76 (upd (M2.1 76) (a1 : Int32).toNatClampNeg (M2.1 73 6))) fun M3 => some (M3, 0)) else (lt' (stI M 73 (upd (M.1 73) 7 1)) fun M1 => some (M1, 0))
set_option maxHeartbeats 4000000 in
set_option maxRecDepth 20000 in
theorem b_Checker_add_0 {p : Program} {l : Launch} {e : Env} {s s0 : State} {m : MethodId} {args : Array Value} {below : List Frame} {meth : Method} {c : Code} {D : va_G} {cI cZ cC cJ cA : ClassId} {P : Nat → Nat} {M' : Mm} {r' : Int32}  (hx : p.tables.exec = Jvm.exec) (hb : c.code = cX2_add) (hml : c.maxLocals = 2) (hr : meth.sig.returnType = none) (hlk : meth.locks = false) (hgt : ∀ w ∈ GT, w.before args s = true) (hown : s.vm.findClass RX2 = some m.cls) (hK : va_K D vwCl [(cI, .int), (cZ, .boolean), (cC, .char), (cJ, .long), (cA, .array .int)] s) (hO : Old s0 s) (hAO : ∀ q, (aP P 77) q → s0.heap.size ≤ q)  : ∀ (M : Mm) (a1 : Int32) (H : Heap) (locs : List Loc) (ls : Array Slot), lv_has ls 2 [(0, .ref (P 73)), (1, .int a1)] → va_P D vwCl ((wX cI cZ cC cJ cA P) M) H → va_D (aP P 77) ((wX cI cZ cC cJ cA P) M) → va_S (aP P 77) s.heap H locs → q_Checker_add M a1 = some (M', r') → W p l e ({ frames := 1, cells := 0, slots := 0, locals := 64 }) s m args below meth c H locs 0 0 (MQ below (gQv D (aP P 77) ((wX cI cZ cC cJ cA P) M')) args s 0 0 (aP P 77)) (F0 m 0 ls []) := by
  intro M a1 H locs ls hl hP hD hS h
  unfold q_Checker_add at h
  refine lv_aload_n hx hb dX2_add_0 rfl (lv_at hl 0 rfl) ?_
  refine va_get (D := D) (ci := 2) (v := .int (M.1 73 6)) (C := RX2) (T := TX2) (N := 10) hx hb hgt iwX2 hown hK hP 73 gX_73 rfl 6 (Nat.le_of_ble_eq_true rfl) (hgt _ wd_1_227) (fun _ h9 => h9) rfl dX2_add_1 ?_
  refine lv_sipush (v := 1000) hx hb dX2_add_4 (by decide) ?_
  refine lv_icmp_lt hx hb dX2_add_7 (tgt := 16) rfl (fun hc => ?_) (fun hc => ?_)
  · have h := br_T hc h
    refine lv_aload_n hx hb dX2_add_16 rfl (lv_at hl 0 rfl) ?_
    refine va_get (D := D) (ci := 2) (v := .ref (P 75)) (C := RX2) (T := TX2) (N := 10) hx hb hgt iwX2 hown hK hP 73 gX_73 rfl 4 (Nat.le_of_ble_eq_true rfl) (hgt _ wd_1_225) (fun _ h9 => h9) rfl dX2_add_17 ?_
    refine lv_iconst (v := 0) hx hb dX2_add_20 (by decide) ?_
    refine lv_aload_n hx hb dX2_add_21 rfl (lv_at hl 0 rfl) ?_
    refine va_get (D := D) (ci := 2) (v := .ref (P 74)) (C := RX2) (T := TX2) (N := 10) hx hb hgt iwX2 hown hK hP 73 gX_73 rfl 3 (Nat.le_of_ble_eq_true rfl) (hgt _ wd_1_224) (fun _ h9 => h9) rfl dX2_add_22 ?_
    refine lv_aload_n hx hb dX2_add_25 rfl (lv_at hl 0 rfl) ?_
    refine va_get (D := D) (ci := 2) (v := .int (M.1 73 6)) (C := RX2) (T := TX2) (N := 10) hx hb hgt iwX2 hown hK hP 73 gX_73 rfl 6 (Nat.le_of_ble_eq_true rfl) (hgt _ wd_1_227) (fun _ h9 => h9) rfl dX2_add_26 ?_
    refine lv_iconst (v := 5) hx hb dX2_add_29 (by decide) ?_
    refine lv_imul hx hb dX2_add_30 ?_
    refine lv_iconst (v := 5) hx hb dX2_add_31 (by decide) ?_
    refine pm_cpyl (w := (wX cI cZ cC cJ cA P)) hx hb (hml.trans hl.1.symm) hown (hgt _ wd_3_77) (hgt _ wd_2_194) (hgt _ wd_2_193) (hgt _ wd_0_25) hK hP hD hS 75 74 3 gX_75 gX_74 rfl sX_74 (cpk_l h) (Nat.le_of_ble_eq_true rfl) (by decide) dX2_add_32 (fun M1 eM1 H locs hP hD hS => ?_)
    have h := lt_o eM1 (cpk_r h)
    refine lv_aload_n hx hb dX2_add_35 rfl (lv_at hl 0 rfl) ?_
    refine lv_dup hx hb dX2_add_36 rfl ?_
    refine va_get (D := D) (ci := 2) (v := .int (M1.1 73 6)) (C := RX2) (T := TX2) (N := 10) hx hb hgt iwX2 hown hK hP 73 gX_73 rfl 6 (Nat.le_of_ble_eq_true rfl) (hgt _ wd_1_227) (fun _ h9 => h9) rfl dX2_add_37 ?_
    refine lv_iconst (v := 1) hx hb dX2_add_40 (by decide) ?_
    refine lv_iadd hx hb dX2_add_41 ?_
    refine pm_put (w := (wX cI cZ cC cJ cA P)) (D := D) (ci := 2) (x := ((M1.1 73 6) + 1)) (ty := .int) (C := RX2) (T := TX2) (N := 10) hx hb hgt iwX2 tyX2 tyX2_ok nmX2 hown hK hP hD hS 73 gX_73 rfl 6 (Nat.le_of_ble_eq_true rfl) (hgt _ wd_1_227) (fun _ h9 => h9) rfl (by decide +kernel) rfl rfl (Nat.le_of_ble_eq_true rfl) (sX_73_6 _) dX2_add_42 (fun M2 eM2 H locs hP hD hS => ?_)
    have h := lt_o eM2 h
    refine lv_aload_n hx hb dX2_add_45 rfl (lv_at hl 0 rfl) ?_
    refine va_get (D := D) (ci := 2) (v := .ref (P 76)) (C := RX2) (T := TX2) (N := 10) hx hb hgt iwX2 hown hK hP 73 gX_73 rfl 5 (Nat.le_of_ble_eq_true rfl) (hgt _ wd_1_226) (fun _ h9 => h9) rfl dX2_add_46 ?_
    refine lv_iload_n hx hb dX2_add_49 rfl (lv_at hl 1 rfl) ?_
    refine lv_aload_n hx hb dX2_add_50 rfl (lv_at hl 0 rfl) ?_
    refine va_get (D := D) (ci := 2) (v := .int (M2.1 73 6)) (C := RX2) (T := TX2) (N := 10) hx hb hgt iwX2 hown hK hP 73 gX_73 rfl 6 (Nat.le_of_ble_eq_true rfl) (hgt _ wd_1_227) (fun _ h9 => h9) rfl dX2_add_51 ?_
    refine pm_iast (w := (wX cI cZ cC cJ cA P)) hx hb hK hP hD hS 76 0 gX_76 rfl sX_76 (ix_l h) dX2_add_54 (fun M3 eM3 H locs hP hD hS => ?_)
    have h := ix_r h
    have h := lt_o eM3 h
    exact rt_v (w := (wX cI cZ cC cJ cA P)) (r := r') hx hb hr hlk hP hD hS h dX2_add_55
  · have h := br_F hc h
    refine lv_aload_n hx hb dX2_add_10 rfl (lv_at hl 0 rfl) ?_
    refine lv_iconst (v := 1) hx hb dX2_add_11 (by decide) ?_
    refine pm_put (w := (wX cI cZ cC cJ cA P)) (D := D) (ci := 2) (x := 1) (ty := .boolean) (C := RX2) (T := TX2) (N := 10) hx hb hgt iwX2 tyX2 tyX2_ok nmX2 hown hK hP hD hS 73 gX_73 rfl 7 (Nat.le_of_ble_eq_true rfl) (hgt _ wd_1_229) (fun _ h9 => h9) rfl (by decide +kernel) rfl rfl (Nat.le_of_ble_eq_true rfl) (sX_73_7 _) dX2_add_12 (fun M1 eM1 H locs hP hD hS => ?_)
    have h := lt_o eM1 h
    exact rt_v (w := (wX cI cZ cC cJ cA P)) (r := r') hx hb hr hlk hP hD hS h dX2_add_15
set_option maxHeartbeats 4000000 in
set_option maxRecDepth 20000 in
theorem z_Checker_add (l : Launch) (D : va_G) (cI cZ cC cJ cA : ClassId) (P : Nat → Nat) (s0 : State) (hAO : ∀ q, (aP P 77) q → s0.heap.size ≤ q) (M : Mm) (a1 : Int32) (M' : Mm) (r' : Int32) (h : q_Checker_add M a1 = some (M', r')) : Met l yX2_add wsX2_add ({ frames := 1, cells := 0, slots := 0, locals := 64 }) (va_Pc [.ref (P 73), .int a1] (gPre s0 D [(cI, .int), (cZ, .boolean), (cC, .char), (cJ, .long), (cA, .array .int)] (aP P 77) ((wX cI cZ cC cJ cA P) M))) (gQv D (aP P 77) ((wX cI cZ cC cJ cA P) M')) 0 0 (aP P 77) := by
  refine Met.ofW (cc := cX2_add) (maxL := 2) (ret := none) (by decide) rfl ?_
  intro p e s m args below meth c s₁ B hml hv
  obtain ⟨rfl, hP, hK, hD, hO⟩ := hv
  have hx := B.exec
  have hb := B.bytes
  have hr := B.returns
  have hlk := B.notSynchronized
  have hgt := fun w (h : w ∈ GT) => atoms_spec (ws := wsX2_add) B.pre w (List.mem_cons_of_mem _ h)
  have hown : s.vm.findClass RX2 = some m.cls := findClass_of_methodNamed B.named
  have hS : va_S (aP P 77) s.heap s.heap [] := va_S.rf
  have hl := lv_entry ([.ref (P 73), .int a1]) (n := 2) (Nat.le_of_ble_eq_true rfl)
  rw [lg_entry_eq]
  generalize (lg_sl ([.ref (P 73), .int a1]) ++ List.replicate (2 - (lg_sl ([.ref (P 73), .int a1])).length) Slot.unset).toArray = ls at hl ⊢
  have hl : lv_has ls 2 [(0, .ref (P 73)), (1, .int a1)] := hl
  exact b_Checker_add_0 hx hb hml hr hlk hgt hown hK hO hAO M a1 s.heap [] ls hl hP hD hS h
def q_Checker_meet_22  : Nat → Mm → Int32 → Int32 → Rs
  | 0, _, _, _ => none
  | n' + 1, M, v2, v3 => if 2048 ≤ v3 then (some (M, 0)) else (lt' ((v2 + v3) &&& 2047) fun x1 => ix x1 2048 <| if (M.1 76 (x1 : Int32).toNatClampNeg) = 0 then (cal (q_Checker_add M x1) fun M2 r3 => some (M2, 0)) else (ix x1 2048 <| cal (q_Checker_isKey M (((M.1 76 (x1 : Int32).toNatClampNeg) - 1) * 5)) fun M2 r3 => if r3 = 0 then (q_Checker_meet_22 n' M2 v2 (v3 + 1)) else (some (M2, 0))))
def q_Checker_meet  (M : Mm) (a1 : Int32) : Rs := lt' (if ((M.1 69 0) : Int32) < a1 then (M.1 69 0) else a1) fun x1 => cal (q_Checker_makeKey M x1) fun M2 r3 => cal (q_Checker_hashOfKey M2) fun M4 r5 => q_Checker_meet_22 4000 M4 r5 0
set_option maxHeartbeats 4000000 in
set_option maxRecDepth 20000 in
theorem b_Checker_meet_22 {p : Program} {l : Launch} {e : Env} {s s0 : State} {m : MethodId} {args : Array Value} {below : List Frame} {meth : Method} {c : Code} {D : va_G} {cI cZ cC cJ cA : ClassId} {P : Nat → Nat} {M' : Mm} {r' : Int32}  (hx : p.tables.exec = Jvm.exec) (hb : c.code = cX2_meet) (hml : c.maxLocals = 5) (hr : meth.sig.returnType = none) (hlk : meth.locks = false) (hgt : ∀ w ∈ GT, w.before args s = true) (hown : s.vm.findClass RX2 = some m.cls) (hK : va_K D vwCl [(cI, .int), (cZ, .boolean), (cC, .char), (cJ, .long), (cA, .array .int)] s) (hO : Old s0 s) (hAO : ∀ q, (aP P 77) q → s0.heap.size ≤ q)  : ∀ (n' : Nat) (M : Mm) (v2 : Int32) (v3 : Int32) (H : Heap) (locs : List Loc) (ls : Array Slot), lv_has ls 5 [(0, .ref (P 73)), (2, .int v2), (3, .int v3)] → va_P D vwCl ((wX cI cZ cC cJ cA P) M) H → va_D (aP P 77) ((wX cI cZ cC cJ cA P) M) → va_S (aP P 77) s.heap H locs → q_Checker_meet_22 n' M v2 v3 = some (M', r') → W p l e ({ frames := 2, cells := 0, slots := 0, locals := 85 }) s m args below meth c H locs 0 0 (MQ below (gQv D (aP P 77) ((wX cI cZ cC cJ cA P) M')) args s 0 0 (aP P 77)) (F0 m 22 ls []) := by
  intro n'
  induction n' with
  | zero => exact fun _ _ _ _ _ _ _ _ _ _ h => (rs_n h).elim
  | succ n' ih =>
    intro M v2 v3 H locs ls hl hP hD hS h
    rw [q_Checker_meet_22] at h
    refine lv_iload_n hx hb dX2_meet_22 rfl (lv_at hl 2 rfl) ?_
    refine lv_sipush (v := 2048) hx hb dX2_meet_23 (by decide) ?_
    refine lv_icmp_ge hx hb dX2_meet_26 (tgt := 80) rfl (fun hc => ?_) (fun hc => ?_)
    · have h := br_T hc h
      exact rt_v (w := (wX cI cZ cC cJ cA P)) (r := r') hx hb hr hlk hP hD hS h dX2_meet_80
    · have h := br_F hc h
      refine lv_iload_n hx hb dX2_meet_29 rfl (lv_at hl 1 rfl) ?_
      refine lv_iload_n hx hb dX2_meet_30 rfl (lv_at hl 2 rfl) ?_
      refine lv_iadd hx hb dX2_meet_31 ?_
      refine lv_sipush (v := 2047) hx hb dX2_meet_32 (by decide) ?_
      refine lv_iand hx hb dX2_meet_35 ?_
      refine lv_topi (fun x1 ex1 => ?_)
      have h := lt_o ex1 h
      refine lv_istore hx hb dX2_meet_36 hl (Nat.le_of_ble_eq_true rfl) (lv' := [(4, .int x1), (0, .ref (P 73)), (2, .int v2), (3, .int v3)]) rfl (fun ls hl => ?_)
      refine lv_aload_n hx hb dX2_meet_38 rfl (lv_at hl 1 rfl) ?_
      refine va_get (D := D) (ci := 2) (v := .ref (P 76)) (C := RX2) (T := TX2) (N := 10) hx hb hgt iwX2 hown hK hP 73 gX_73 rfl 5 (Nat.le_of_ble_eq_true rfl) (hgt _ wd_1_226) (fun _ h9 => h9) rfl dX2_meet_39 ?_
      refine lv_iload hx hb dX2_meet_42 (lv_at hl 0 rfl) ?_
      refine va_iald hx hb hK hP 76 0 gX_76 rfl (ix_l h) dX2_meet_44 ?_
      have h := ix_r h
      refine lv_if_ne hx hb dX2_meet_45 (tgt := 55) rfl (fun hc => ?_) (fun hc => ?_)
      · have h := br_F hc h
        refine lv_aload_n hx hb dX2_meet_55 rfl (lv_at hl 1 rfl) ?_
        refine lv_aload_n hx hb dX2_meet_56 rfl (lv_at hl 1 rfl) ?_
        refine va_get (D := D) (ci := 2) (v := .ref (P 76)) (C := RX2) (T := TX2) (N := 10) hx hb hgt iwX2 hown hK hP 73 gX_73 rfl 5 (Nat.le_of_ble_eq_true rfl) (hgt _ wd_1_226) (fun _ h9 => h9) rfl dX2_meet_57 ?_
        refine lv_iload hx hb dX2_meet_60 (lv_at hl 0 rfl) ?_
        refine va_iald hx hb hK hP 76 0 gX_76 rfl (ix_l h) dX2_meet_62 ?_
        have h := ix_r h
        refine lv_iconst (v := 1) hx hb dX2_meet_63 (by decide) ?_
        refine lv_isub hx hb dX2_meet_64 ?_
        refine lv_iconst (v := 5) hx hb dX2_meet_65 (by decide) ?_
        refine lv_imul hx hb dX2_meet_66 ?_
        obtain ⟨M2, r3, hq, h⟩ := cal_o h
        refine cx_i (va_runV (As := [.int (((M.1 76 (x1 : Int32).toNatClampNeg) - 1) * 5)]) (rest := []) ⟨hx, hb, hml, hown, hgt⟩ (z_Checker_isKey l D cI cZ cC cJ cA P s0 hAO M (((M.1 76 (x1 : Int32).toNatClampNeg) - 1) * 5) M2 r3 hq) (cwV 1 hgt (gV wd_3_78 wd_3_80 sl__ChipMap_Checker____ChipMap_Checker___isKey____I_Z_____ChipMap_Checker___isKey____I_Z__ wd_0_14 wd_3_81) rfl rfl rfl (by decide +kernel) ⟨Nat.le_of_ble_eq_true rfl, Nat.le_of_ble_eq_true rfl⟩) (prV hP hK hD hO hAO hS (va_recv hK hP (ci := 2) (q0 := 73) rfl gX_73)) rfl rfl hl.1 rfl (lv_room (Nat.le_of_ble_eq_true rfl)) dX2_meet_67 ⟨Nat.le_of_ble_eq_true rfl, Nat.le_of_ble_eq_true rfl⟩) hS (fun H locs hP hD hS => ?_)
        refine lv_if_eq hx hb dX2_meet_70 (tgt := 74) rfl (fun hc => ?_) (fun hc => ?_)
        · have h := br_T hc h
          refine lv_iinc (v := (v3 + 1)) hx hb dX2_meet_74 hl (k := 3) rfl rfl (Nat.le_of_ble_eq_true rfl) (lv' := [(3, .int (v3 + 1)), (4, .int x1), (0, .ref (P 73)), (2, .int v2)]) rfl (fun ls hl => ?_)
          refine lv_goto hx hb dX2_meet_77 (tgt := 22) rfl ?_
          have hl := lv_sub hl [2, 3, 0] (l' := [(0, .ref (P 73)), (2, .int v2), (3, .int (v3 + 1))]) rfl
          exact ih M2 v2 (v3 + 1) H locs ls hl hP hD hS h
        · have h := br_F hc h
          exact rt_v (w := (wX cI cZ cC cJ cA P)) (r := r') hx hb hr hlk hP hD hS h dX2_meet_73
      · have h := br_T hc h
        refine lv_aload_n hx hb dX2_meet_48 rfl (lv_at hl 1 rfl) ?_
        refine lv_iload hx hb dX2_meet_49 (lv_at hl 0 rfl) ?_
        obtain ⟨M2, r3, hq, h⟩ := cal_o h
        refine cx_v (va_runV (As := [.int x1]) (rest := []) ⟨hx, hb, hml, hown, hgt⟩ (z_Checker_add l D cI cZ cC cJ cA P s0 hAO M x1 M2 r3 hq) (cwV 1 hgt (gV wd_3_73 wd_3_75 sl__ChipMap_Checker____ChipMap_Checker___add____I_V_____ChipMap_Checker___add____I_V__ wd_0_14 wd_3_76) rfl rfl rfl (by decide +kernel) ⟨Nat.le_of_ble_eq_true rfl, Nat.le_of_ble_eq_true rfl⟩) (prV hP hK hD hO hAO hS (va_recv hK hP (ci := 2) (q0 := 73) rfl gX_73)) rfl rfl hl.1 rfl (lv_room (Nat.le_of_ble_eq_true rfl)) dX2_meet_51 ⟨Nat.le_of_ble_eq_true rfl, Nat.le_of_ble_eq_true rfl⟩) hS (fun H locs hP hD hS => ?_)
        exact rt_v (w := (wX cI cZ cC cJ cA P)) (r := r') hx hb hr hlk hP hD hS h dX2_meet_54
set_option maxHeartbeats 4000000 in
set_option maxRecDepth 20000 in
theorem b_Checker_meet_0 {p : Program} {l : Launch} {e : Env} {s s0 : State} {m : MethodId} {args : Array Value} {below : List Frame} {meth : Method} {c : Code} {D : va_G} {cI cZ cC cJ cA : ClassId} {P : Nat → Nat} {M' : Mm} {r' : Int32}  (hx : p.tables.exec = Jvm.exec) (hb : c.code = cX2_meet) (hml : c.maxLocals = 5) (hr : meth.sig.returnType = none) (hlk : meth.locks = false) (hgt : ∀ w ∈ GT, w.before args s = true) (hown : s.vm.findClass RX2 = some m.cls) (hK : va_K D vwCl [(cI, .int), (cZ, .boolean), (cC, .char), (cJ, .long), (cA, .array .int)] s) (hO : Old s0 s) (hAO : ∀ q, (aP P 77) q → s0.heap.size ≤ q)  : ∀ (M : Mm) (a1 : Int32) (H : Heap) (locs : List Loc) (ls : Array Slot), lv_has ls 5 [(0, .ref (P 73)), (1, .int a1)] → va_P D vwCl ((wX cI cZ cC cJ cA P) M) H → va_D (aP P 77) ((wX cI cZ cC cJ cA P) M) → va_S (aP P 77) s.heap H locs → q_Checker_meet M a1 = some (M', r') → W p l e ({ frames := 2, cells := 0, slots := 0, locals := 85 }) s m args below meth c H locs 0 0 (MQ below (gQv D (aP P 77) ((wX cI cZ cC cJ cA P) M')) args s 0 0 (aP P 77)) (F0 m 0 ls []) := by
  intro M a1 H locs ls hl hP hD hS h
  unfold q_Checker_meet at h
  refine lv_aload_n hx hb dX2_meet_0 rfl (lv_at hl 0 rfl) ?_
  refine lv_iload_n hx hb dX2_meet_1 rfl (lv_at hl 1 rfl) ?_
  refine lv_aload_n hx hb dX2_meet_2 rfl (lv_at hl 0 rfl) ?_
  refine va_get (D := D) (ci := 2) (v := .ref (P 69)) (C := RX2) (T := TX2) (N := 10) hx hb hgt iwX2 hown hK hP 73 gX_73 rfl 1 (Nat.le_of_ble_eq_true rfl) (hgt _ wd_1_222) (fun _ h9 => h9) rfl dX2_meet_3 ?_
  refine va_get (D := D) (ci := 12) (v := .int (M.1 69 0)) (C := RX12) (T := TX12) (N := 4) hx hb hgt iwX12 hown hK hP 69 gX_69 rfl 0 (Nat.le_of_ble_eq_true rfl) (hgt _ wd_1_192) (fun _ h9 => h9) rfl dX2_meet_6 ?_
  refine va_mmin hx hb (hml.trans hl.1.symm) hown (hgt _ wd_3_58) (hgt _ wd_3_59) (hgt _ wd_0_17) (hgt _ wd_3_60) (Nat.le_of_ble_eq_true rfl) (Nat.le_of_ble_eq_true rfl) (Nat.zero_le _) (Nat.zero_le _) dX2_meet_9 ?_
  refine lv_topi (fun x1 ex1 => ?_)
  have h := lt_o ex1 h
  obtain ⟨M2, r3, hq, h⟩ := cal_o h
  refine cx_v (va_runV (As := [.int x1]) (rest := []) ⟨hx, hb, hml, hown, hgt⟩ (z_Checker_makeKey l D cI cZ cC cJ cA P s0 hAO M x1 M2 r3 hq) (cwV 1 hgt (gV wd_3_61 wd_3_63 sl__ChipMap_Checker____ChipMap_Checker___makeKey____I_V_____ChipMap_Checker___makeKey____I_V__ wd_0_14 wd_3_64) rfl rfl rfl (by decide +kernel) ⟨Nat.le_of_ble_eq_true rfl, Nat.le_of_ble_eq_true rfl⟩) (prV hP hK hD hO hAO hS (va_recv hK hP (ci := 2) (q0 := 73) rfl gX_73)) rfl rfl hl.1 rfl (lv_room (Nat.le_of_ble_eq_true rfl)) dX2_meet_12 ⟨Nat.le_of_ble_eq_true rfl, Nat.le_of_ble_eq_true rfl⟩) hS (fun H locs hP hD hS => ?_)
  refine lv_aload_n hx hb dX2_meet_15 rfl (lv_at hl 0 rfl) ?_
  obtain ⟨M4, r5, hq, h⟩ := cal_o h
  refine cx_i (va_runV (As := []) (rest := []) ⟨hx, hb, hml, hown, hgt⟩ (z_Checker_hashOfKey l D cI cZ cC cJ cA P s0 hAO M2 M4 r5 hq) (cwV 0 hgt (gV wd_3_68 wd_3_70 sl__ChipMap_Checker____ChipMap_Checker___hashOfKey_____I_____ChipMap_Checker___hashOfKey_____I__ wd_0_14 wd_3_71) rfl rfl rfl (by decide +kernel) ⟨Nat.le_of_ble_eq_true rfl, Nat.le_of_ble_eq_true rfl⟩) (prV hP hK hD hO hAO hS (va_recv hK hP (ci := 2) (q0 := 73) rfl gX_73)) rfl rfl hl.1 rfl (lv_room (Nat.le_of_ble_eq_true rfl)) dX2_meet_16 ⟨Nat.le_of_ble_eq_true rfl, Nat.le_of_ble_eq_true rfl⟩) hS (fun H locs hP hD hS => ?_)
  refine lv_istore_n hx hb dX2_meet_19 rfl hl (Nat.le_of_ble_eq_true rfl) (lv' := [(2, .int r5), (0, .ref (P 73)), (1, .int a1)]) rfl (fun ls hl => ?_)
  refine lv_iconst (v := 0) hx hb dX2_meet_20 (by decide) ?_
  refine lv_istore_n hx hb dX2_meet_21 rfl hl (Nat.le_of_ble_eq_true rfl) (lv' := [(3, .int 0), (2, .int r5), (0, .ref (P 73)), (1, .int a1)]) rfl (fun ls hl => ?_)
  have hl := lv_sub hl [2, 1, 0] (l' := [(0, .ref (P 73)), (2, .int r5), (3, .int 0)]) rfl
  exact b_Checker_meet_22 hx hb hml hr hlk hgt hown hK hO hAO 4000 M4 r5 0 H _ ls hl hP hD hS h
set_option maxHeartbeats 4000000 in
set_option maxRecDepth 20000 in
theorem z_Checker_meet (l : Launch) (D : va_G) (cI cZ cC cJ cA : ClassId) (P : Nat → Nat) (s0 : State) (hAO : ∀ q, (aP P 77) q → s0.heap.size ≤ q) (M : Mm) (a1 : Int32) (M' : Mm) (r' : Int32) (h : q_Checker_meet M a1 = some (M', r')) : Met l yX2_meet wsX2_meet ({ frames := 2, cells := 0, slots := 0, locals := 85 }) (va_Pc [.ref (P 73), .int a1] (gPre s0 D [(cI, .int), (cZ, .boolean), (cC, .char), (cJ, .long), (cA, .array .int)] (aP P 77) ((wX cI cZ cC cJ cA P) M))) (gQv D (aP P 77) ((wX cI cZ cC cJ cA P) M')) 0 0 (aP P 77) := by
  refine Met.ofW (cc := cX2_meet) (maxL := 5) (ret := none) (by decide) rfl ?_
  intro p e s m args below meth c s₁ B hml hv
  obtain ⟨rfl, hP, hK, hD, hO⟩ := hv
  have hx := B.exec
  have hb := B.bytes
  have hr := B.returns
  have hlk := B.notSynchronized
  have hgt := fun w (h : w ∈ GT) => atoms_spec (ws := wsX2_meet) B.pre w (List.mem_cons_of_mem _ h)
  have hown : s.vm.findClass RX2 = some m.cls := findClass_of_methodNamed B.named
  have hS : va_S (aP P 77) s.heap s.heap [] := va_S.rf
  have hl := lv_entry ([.ref (P 73), .int a1]) (n := 5) (Nat.le_of_ble_eq_true rfl)
  rw [lg_entry_eq]
  generalize (lg_sl ([.ref (P 73), .int a1]) ++ List.replicate (5 - (lg_sl ([.ref (P 73), .int a1])).length) Slot.unset).toArray = ls at hl ⊢
  have hl : lv_has ls 5 [(0, .ref (P 73)), (1, .int a1)] := hl
  exact b_Checker_meet_0 hx hb hml hr hlk hgt hown hK hO hAO M a1 s.heap [] ls hl hP hD hS h
def q_Checker_begin  (M : Mm)  : Rs := lt' (stI M 76 (fun _ => 0)) fun M1 => lt' (stI M1 73 (upd (M1.1 73) 6 0)) fun M2 => lt' (stI M2 73 (upd (M2.1 73) 7 0)) fun M3 => lt' (stI M3 73 (upd (M3.1 73) 8 (-1))) fun M4 => lt' (stI M4 73 (upd (M4.1 73) 9 0)) fun M5 => cal (q_Mind_restart_1 M5) fun M6 r7 => cal (q_Checker_meet M6 0) fun M8 r9 => some (M8, 0)
set_option maxHeartbeats 4000000 in
set_option maxRecDepth 20000 in
theorem b_Checker_begin_0 {p : Program} {l : Launch} {e : Env} {s s0 : State} {m : MethodId} {args : Array Value} {below : List Frame} {meth : Method} {c : Code} {D : va_G} {cI cZ cC cJ cA : ClassId} {P : Nat → Nat} {M' : Mm} {r' : Int32}  (hx : p.tables.exec = Jvm.exec) (hb : c.code = cX2_begin) (hml : c.maxLocals = 1) (hr : meth.sig.returnType = none) (hlk : meth.locks = false) (hgt : ∀ w ∈ GT, w.before args s = true) (hown : s.vm.findClass RX2 = some m.cls) (hK : va_K D vwCl [(cI, .int), (cZ, .boolean), (cC, .char), (cJ, .long), (cA, .array .int)] s) (hO : Old s0 s) (hAO : ∀ q, (aP P 77) q → s0.heap.size ≤ q)  : ∀ (M : Mm)  (H : Heap) (locs : List Loc) (ls : Array Slot), lv_has ls 1 [(0, .ref (P 73))] → va_P D vwCl ((wX cI cZ cC cJ cA P) M) H → va_D (aP P 77) ((wX cI cZ cC cJ cA P) M) → va_S (aP P 77) s.heap H locs → q_Checker_begin M = some (M', r') → W p l e ({ frames := 3, cells := 0, slots := 0, locals := 109 }) s m args below meth c H locs 0 0 (MQ below (gQv D (aP P 77) ((wX cI cZ cC cJ cA P) M')) args s 0 0 (aP P 77)) (F0 m 0 ls []) := by
  intro M H locs ls hl hP hD hS h
  unfold q_Checker_begin at h
  refine lv_aload_n hx hb dX2_begin_0 rfl (lv_at hl 0 rfl) ?_
  refine va_get (D := D) (ci := 2) (v := .ref (P 76)) (C := RX2) (T := TX2) (N := 10) hx hb hgt iwX2 hown hK hP 73 gX_73 rfl 5 (Nat.le_of_ble_eq_true rfl) (hgt _ wd_1_226) (fun _ h9 => h9) rfl dX2_begin_1 ?_
  refine lv_iconst (v := 0) hx hb dX2_begin_4 (by decide) ?_
  refine cx_v (va_runS (As := [.ref (P 76), .int 0]) (rest := []) ⟨hx, hb, hml, hown, hgt⟩ (z_fill 2048 l D cI cZ cC cJ cA (wX cI cZ cC cJ cA P) (aP P 77) s0 P 76 (fun _ => gX_76) (fun _ => sX_76) rfl 0 M) (va_cwS 2 hgt (gS wd_3_52 wd_1_2 wd_0_8 wd_1_3) rfl rfl rfl (by decide +kernel) ⟨Nat.le_of_ble_eq_true rfl, Nat.le_of_ble_eq_true rfl⟩) (prS hP hK hD hO hAO hS) rfl rfl hl.1 rfl (lv_room (Nat.le_of_ble_eq_true rfl)) dX2_begin_5 ⟨Nat.le_of_ble_eq_true rfl, Nat.le_of_ble_eq_true rfl⟩) hS (fun H locs hP hD hS => ?_)
  obtain ⟨M1, eM1⟩ : ∃ M1, M1 = stI M 76 (fun _ => 0) := ⟨_, rfl⟩
  rw [← eM1] at hP hD
  have h := lt_o eM1 h
  refine lv_aload_n hx hb dX2_begin_8 rfl (lv_at hl 0 rfl) ?_
  refine lv_iconst (v := 0) hx hb dX2_begin_9 (by decide) ?_
  refine pm_put (w := (wX cI cZ cC cJ cA P)) (D := D) (ci := 2) (x := 0) (ty := .int) (C := RX2) (T := TX2) (N := 10) hx hb hgt iwX2 tyX2 tyX2_ok nmX2 hown hK hP hD hS 73 gX_73 rfl 6 (Nat.le_of_ble_eq_true rfl) (hgt _ wd_1_227) (fun _ h9 => h9) rfl (by decide +kernel) rfl rfl (Nat.le_of_ble_eq_true rfl) (sX_73_6 _) dX2_begin_10 (fun M2 eM2 H locs hP hD hS => ?_)
  have h := lt_o eM2 h
  refine lv_aload_n hx hb dX2_begin_13 rfl (lv_at hl 0 rfl) ?_
  refine lv_iconst (v := 0) hx hb dX2_begin_14 (by decide) ?_
  refine pm_put (w := (wX cI cZ cC cJ cA P)) (D := D) (ci := 2) (x := 0) (ty := .boolean) (C := RX2) (T := TX2) (N := 10) hx hb hgt iwX2 tyX2 tyX2_ok nmX2 hown hK hP hD hS 73 gX_73 rfl 7 (Nat.le_of_ble_eq_true rfl) (hgt _ wd_1_229) (fun _ h9 => h9) rfl (by decide +kernel) rfl rfl (Nat.le_of_ble_eq_true rfl) (sX_73_7 _) dX2_begin_15 (fun M3 eM3 H locs hP hD hS => ?_)
  have h := lt_o eM3 h
  refine lv_aload_n hx hb dX2_begin_18 rfl (lv_at hl 0 rfl) ?_
  refine lv_iconst (v := (-1)) hx hb dX2_begin_19 (by decide) ?_
  refine pm_put (w := (wX cI cZ cC cJ cA P)) (D := D) (ci := 2) (x := (-1)) (ty := .int) (C := RX2) (T := TX2) (N := 10) hx hb hgt iwX2 tyX2 tyX2_ok nmX2 hown hK hP hD hS 73 gX_73 rfl 8 (Nat.le_of_ble_eq_true rfl) (hgt _ wd_1_231) (fun _ h9 => h9) rfl (by decide +kernel) rfl rfl (Nat.le_of_ble_eq_true rfl) (sX_73_8 _) dX2_begin_20 (fun M4 eM4 H locs hP hD hS => ?_)
  have h := lt_o eM4 h
  refine lv_aload_n hx hb dX2_begin_23 rfl (lv_at hl 0 rfl) ?_
  refine lv_iconst (v := 0) hx hb dX2_begin_24 (by decide) ?_
  refine pm_put (w := (wX cI cZ cC cJ cA P)) (D := D) (ci := 2) (x := 0) (ty := .int) (C := RX2) (T := TX2) (N := 10) hx hb hgt iwX2 tyX2 tyX2_ok nmX2 hown hK hP hD hS 73 gX_73 rfl 9 (Nat.le_of_ble_eq_true rfl) (hgt _ wd_1_233) (fun _ h9 => h9) rfl (by decide +kernel) rfl rfl (Nat.le_of_ble_eq_true rfl) (sX_73_9 _) dX2_begin_25 (fun M5 eM5 H locs hP hD hS => ?_)
  have h := lt_o eM5 h
  refine lv_aload_n hx hb dX2_begin_28 rfl (lv_at hl 0 rfl) ?_
  refine va_get (D := D) (ci := 2) (v := .ref (P 60)) (C := RX2) (T := TX2) (N := 10) hx hb hgt iwX2 hown hK hP 73 gX_73 rfl 2 (Nat.le_of_ble_eq_true rfl) (hgt _ wd_1_223) (fun _ h9 => h9) rfl dX2_begin_29 ?_
  refine va_get (D := D) (ci := 9) (v := .ref (P 61)) (C := RX9) (T := TX9) (N := 6) hx hb hgt iwX9 hown hK hP 60 gX_60 rfl 1 (Nat.le_of_ble_eq_true rfl) (hgt _ wd_1_162) (fun _ h9 => h9) rfl dX2_begin_32 ?_
  obtain ⟨M6, r7, hq, h⟩ := cal_o h
  refine cx_v (va_runV (As := []) (rest := []) ⟨hx, hb, hml, hown, hgt⟩ (z_Mind_restart_1 l D cI cZ cC cJ cA P s0 hAO M5 M6 r7 hq) (cwV 0 hgt (gV wd_3_53 wd_2_94 wd_2_95 wd_0_11 wd_2_96) rfl rfl rfl (by decide +kernel) ⟨Nat.le_of_ble_eq_true rfl, Nat.le_of_ble_eq_true rfl⟩) (prV hP hK hD hO hAO hS (va_recv hK hP (ci := 8) (q0 := 61) rfl gX_61)) rfl rfl hl.1 rfl (lv_room (Nat.le_of_ble_eq_true rfl)) dX2_begin_35 ⟨Nat.le_of_ble_eq_true rfl, Nat.le_of_ble_eq_true rfl⟩) hS (fun H locs hP hD hS => ?_)
  refine lv_aload_n hx hb dX2_begin_38 rfl (lv_at hl 0 rfl) ?_
  refine lv_iconst (v := 0) hx hb dX2_begin_39 (by decide) ?_
  obtain ⟨M8, r9, hq, h⟩ := cal_o h
  refine cx_v (va_runV (As := [.int 0]) (rest := []) ⟨hx, hb, hml, hown, hgt⟩ (z_Checker_meet l D cI cZ cC cJ cA P s0 hAO M6 0 M8 r9 hq) (cwV 1 hgt (gV wd_3_54 wd_3_56 sl__ChipMap_Checker____ChipMap_Checker___meet____I_V_____ChipMap_Checker___meet____I_V__ wd_0_14 wd_3_57) rfl rfl rfl (by decide +kernel) ⟨Nat.le_of_ble_eq_true rfl, Nat.le_of_ble_eq_true rfl⟩) (prV hP hK hD hO hAO hS (va_recv hK hP (ci := 2) (q0 := 73) rfl gX_73)) rfl rfl hl.1 rfl (lv_room (Nat.le_of_ble_eq_true rfl)) dX2_begin_40 ⟨Nat.le_of_ble_eq_true rfl, Nat.le_of_ble_eq_true rfl⟩) hS (fun H locs hP hD hS => ?_)
  exact rt_v (w := (wX cI cZ cC cJ cA P)) (r := r') hx hb hr hlk hP hD hS h dX2_begin_43
set_option maxHeartbeats 4000000 in
set_option maxRecDepth 20000 in
theorem z_Checker_begin (l : Launch) (D : va_G) (cI cZ cC cJ cA : ClassId) (P : Nat → Nat) (s0 : State) (hAO : ∀ q, (aP P 77) q → s0.heap.size ≤ q) (M : Mm)  (M' : Mm) (r' : Int32) (h : q_Checker_begin M = some (M', r')) : Met l yX2_begin wsX2_begin ({ frames := 3, cells := 0, slots := 0, locals := 109 }) (va_Pc [.ref (P 73)] (gPre s0 D [(cI, .int), (cZ, .boolean), (cC, .char), (cJ, .long), (cA, .array .int)] (aP P 77) ((wX cI cZ cC cJ cA P) M))) (gQv D (aP P 77) ((wX cI cZ cC cJ cA P) M')) 0 0 (aP P 77) := by
  refine Met.ofW (cc := cX2_begin) (maxL := 1) (ret := none) (by decide) rfl ?_
  intro p e s m args below meth c s₁ B hml hv
  obtain ⟨rfl, hP, hK, hD, hO⟩ := hv
  have hx := B.exec
  have hb := B.bytes
  have hr := B.returns
  have hlk := B.notSynchronized
  have hgt := fun w (h : w ∈ GT) => atoms_spec (ws := wsX2_begin) B.pre w (List.mem_cons_of_mem _ h)
  have hown : s.vm.findClass RX2 = some m.cls := findClass_of_methodNamed B.named
  have hS : va_S (aP P 77) s.heap s.heap [] := va_S.rf
  have hl := lv_entry ([.ref (P 73)]) (n := 1) (Nat.le_of_ble_eq_true rfl)
  rw [lg_entry_eq]
  generalize (lg_sl ([.ref (P 73)]) ++ List.replicate (1 - (lg_sl ([.ref (P 73)])).length) Slot.unset).toArray = ls at hl ⊢
  have hl : lv_has ls 1 [(0, .ref (P 73))] := hl
  exact b_Checker_begin_0 hx hb hml hr hlk hgt hown hK hO hAO M s.heap [] ls hl hP hD hS h
def q_Checker_load_6  : Nat → Mm → Int32 → Int32 → Rs
  | 0, _, _, _ => none
  | n' + 1, M, v2, v3 => if (M.1 24 0) ≤ v3 then (ix (v2 + 4) 5000 <| lt' (M.2 74 ((v2 + 4) : Int32).toNatClampNeg) fun x1 => lt' (stI M 61 (upd (M.1 61) 2 (((((x1 : Int64).toUInt64 >>> ((8 : Int32).toInt64.toUInt64 &&& Int64.toUInt64 63)).toInt64) : Int64).toInt32))) fun M2 => some (M2, (((x1 : Int64).toInt32) &&& 255))) else (ix (v2 + ((v3 : Int32) >>> (2 &&& 31))) 5000 <| ix v3 16 <| lt' (stI M 62 (upd (M.1 62) (v3 : Int32).toNatClampNeg (((((((M.2 74 ((v2 + ((v3 : Int32) >>> (2 &&& 31))) : Int32).toNatClampNeg) : Int64).toUInt64 >>> ((((v3 &&& 3) * 16) : Int32).toInt64.toUInt64 &&& Int64.toUInt64 63)).toInt64) : Int64).toInt32) &&& 65535))) fun M1 => q_Checker_load_6 n' M1 v2 (v3 + 1))
def q_Checker_load  (M : Mm) (a1 : Int32) : Rs := lt' (a1 * 5) fun x1 => q_Checker_load_6 4000 M x1 0
set_option maxHeartbeats 4000000 in
set_option maxRecDepth 20000 in
theorem b_Checker_load_6 {p : Program} {l : Launch} {e : Env} {s s0 : State} {m : MethodId} {args : Array Value} {below : List Frame} {meth : Method} {c : Code} {D : va_G} {cI cZ cC cJ cA : ClassId} {P : Nat → Nat} {M' : Mm} {r' : Int32}  (hx : p.tables.exec = Jvm.exec) (hb : c.code = cX2_load) (hml : c.maxLocals = 5) (hr : meth.sig.returnType = (some .int)) (hlk : meth.locks = false) (hgt : ∀ w ∈ GT, w.before args s = true) (hown : s.vm.findClass RX2 = some m.cls) (hK : va_K D vwCl [(cI, .int), (cZ, .boolean), (cC, .char), (cJ, .long), (cA, .array .int)] s) (hO : Old s0 s) (hAO : ∀ q, (aP P 77) q → s0.heap.size ≤ q)  : ∀ (n' : Nat) (M : Mm) (v2 : Int32) (v3 : Int32) (H : Heap) (locs : List Loc) (ls : Array Slot), lv_has ls 5 [(0, .ref (P 73)), (2, .int v2), (3, .int v3)] → va_P D vwCl ((wX cI cZ cC cJ cA P) M) H → va_D (aP P 77) ((wX cI cZ cC cJ cA P) M) → va_S (aP P 77) s.heap H locs → q_Checker_load_6 n' M v2 v3 = some (M', r') → W p l e ({ frames := 0, cells := 0, slots := 0, locals := 0 }) s m args below meth c H locs 0 0 (MQ below (gQi D (aP P 77) ((wX cI cZ cC cJ cA P) M') r') args s 0 0 (aP P 77)) (F0 m 6 ls []) := by
  intro n'
  induction n' with
  | zero => exact fun _ _ _ _ _ _ _ _ _ _ h => (rs_n h).elim
  | succ n' ih =>
    intro M v2 v3 H locs ls hl hP hD hS h
    rw [q_Checker_load_6] at h
    refine lv_iload_n hx hb dX2_load_6 rfl (lv_at hl 2 rfl) ?_
    refine lv_aload_n hx hb dX2_load_7 rfl (lv_at hl 0 rfl) ?_
    refine va_get (D := D) (ci := 2) (v := .ref (P 24)) (C := RX2) (T := TX2) (N := 10) hx hb hgt iwX2 hown hK hP 73 gX_73 rfl 0 (Nat.le_of_ble_eq_true rfl) (hgt _ wd_1_221) (fun _ h9 => h9) rfl dX2_load_8 ?_
    refine va_get (D := D) (ci := 6) (v := .int (M.1 24 0)) (C := RX6) (T := TX6) (N := 13) hx hb hgt iwX6 hown hK hP 24 gX_24 rfl 0 (Nat.le_of_ble_eq_true rfl) (hgt _ wd_1_7) (fun _ h9 => h9) rfl dX2_load_11 ?_
    refine lv_icmp_ge hx hb dX2_load_14 (tgt := 56) rfl (fun hc => ?_) (fun hc => ?_)
    · have h := br_T hc h
      refine lv_aload_n hx hb dX2_load_56 rfl (lv_at hl 0 rfl) ?_
      refine va_get (D := D) (ci := 2) (v := .ref (P 74)) (C := RX2) (T := TX2) (N := 10) hx hb hgt iwX2 hown hK hP 73 gX_73 rfl 3 (Nat.le_of_ble_eq_true rfl) (hgt _ wd_1_224) (fun _ h9 => h9) rfl dX2_load_57 ?_
      refine lv_iload_n hx hb dX2_load_60 rfl (lv_at hl 1 rfl) ?_
      refine lv_iconst (v := 4) hx hb dX2_load_61 (by decide) ?_
      refine lv_iadd hx hb dX2_load_62 ?_
      refine va_lald hx hb hK hP 74 3 gX_74 rfl (ix_l h) dX2_load_63 ?_
      have h := ix_r h
      refine lv_topl (fun x1 ex1 => ?_)
      have h := lt_o ex1 h
      refine lv_lstore_n hx hb dX2_load_64 rfl hl (Nat.le_of_ble_eq_true rfl) (lv' := [(3, .long x1), (0, .ref (P 73)), (2, .int v2)]) rfl (fun ls hl => ?_)
      refine lv_aload_n hx hb dX2_load_65 rfl (lv_at hl 1 rfl) ?_
      refine va_get (D := D) (ci := 2) (v := .ref (P 60)) (C := RX2) (T := TX2) (N := 10) hx hb hgt iwX2 hown hK hP 73 gX_73 rfl 2 (Nat.le_of_ble_eq_true rfl) (hgt _ wd_1_223) (fun _ h9 => h9) rfl dX2_load_66 ?_
      refine va_get (D := D) (ci := 9) (v := .ref (P 61)) (C := RX9) (T := TX9) (N := 6) hx hb hgt iwX9 hown hK hP 60 gX_60 rfl 1 (Nat.le_of_ble_eq_true rfl) (hgt _ wd_1_162) (fun _ h9 => h9) rfl dX2_load_69 ?_
      refine lv_lload_n hx hb dX2_load_72 rfl (lv_at hl 0 rfl) ?_
      refine lv_bipush (v := 8) hx hb dX2_load_73 (by decide) ?_
      refine lv_lushr (v := (((x1 : Int64).toUInt64 >>> ((8 : Int32).toInt64.toUInt64 &&& Int64.toUInt64 63)).toInt64)) hx hb dX2_load_75 rfl ?_
      refine lv_l2i (v := ((((x1 : Int64).toUInt64 >>> ((8 : Int32).toInt64.toUInt64 &&& Int64.toUInt64 63)).toInt64) : Int64).toInt32) hx hb dX2_load_76 rfl ?_
      refine pm_put (w := (wX cI cZ cC cJ cA P)) (D := D) (ci := 8) (x := (((((x1 : Int64).toUInt64 >>> ((8 : Int32).toInt64.toUInt64 &&& Int64.toUInt64 63)).toInt64) : Int64).toInt32)) (ty := .int) (C := RX8) (T := TX8) (N := 3) hx hb hgt iwX8 tyX8 tyX8_ok nmX8 hown hK hP hD hS 61 gX_61 rfl 2 (Nat.le_of_ble_eq_true rfl) (hgt _ wd_1_118) (fun _ h9 => h9) rfl (by decide +kernel) rfl rfl (Nat.le_of_ble_eq_true rfl) (sX_61_2 _) dX2_load_77 (fun M2 eM2 H locs hP hD hS => ?_)
      have h := lt_o eM2 h
      refine lv_lload_n hx hb dX2_load_80 rfl (lv_at hl 0 rfl) ?_
      refine lv_l2i (v := (x1 : Int64).toInt32) hx hb dX2_load_81 rfl ?_
      refine lv_sipush (v := 255) hx hb dX2_load_82 (by decide) ?_
      refine lv_iand hx hb dX2_load_85 ?_
      exact rt_i (w := (wX cI cZ cC cJ cA P)) hx hb hr hlk hP hD hS h dX2_load_86
    · have h := br_F hc h
      refine lv_aload_n hx hb dX2_load_17 rfl (lv_at hl 0 rfl) ?_
      refine va_get (D := D) (ci := 2) (v := .ref (P 60)) (C := RX2) (T := TX2) (N := 10) hx hb hgt iwX2 hown hK hP 73 gX_73 rfl 2 (Nat.le_of_ble_eq_true rfl) (hgt _ wd_1_223) (fun _ h9 => h9) rfl dX2_load_18 ?_
      refine va_get (D := D) (ci := 9) (v := .ref (P 61)) (C := RX9) (T := TX9) (N := 6) hx hb hgt iwX9 hown hK hP 60 gX_60 rfl 1 (Nat.le_of_ble_eq_true rfl) (hgt _ wd_1_162) (fun _ h9 => h9) rfl dX2_load_21 ?_
      refine va_get (D := D) (ci := 8) (v := .ref (P 62)) (C := RX8) (T := TX8) (N := 3) hx hb hgt iwX8 hown hK hP 61 gX_61 rfl 1 (Nat.le_of_ble_eq_true rfl) (hgt _ wd_1_115) (fun _ h9 => h9) rfl dX2_load_24 ?_
      refine lv_iload_n hx hb dX2_load_27 rfl (lv_at hl 2 rfl) ?_
      refine lv_aload_n hx hb dX2_load_28 rfl (lv_at hl 0 rfl) ?_
      refine va_get (D := D) (ci := 2) (v := .ref (P 74)) (C := RX2) (T := TX2) (N := 10) hx hb hgt iwX2 hown hK hP 73 gX_73 rfl 3 (Nat.le_of_ble_eq_true rfl) (hgt _ wd_1_224) (fun _ h9 => h9) rfl dX2_load_29 ?_
      refine lv_iload_n hx hb dX2_load_32 rfl (lv_at hl 1 rfl) ?_
      refine lv_iload_n hx hb dX2_load_33 rfl (lv_at hl 2 rfl) ?_
      refine lv_iconst (v := 2) hx hb dX2_load_34 (by decide) ?_
      refine lv_ishr hx hb dX2_load_35 ?_
      refine lv_iadd hx hb dX2_load_36 ?_
      refine va_lald hx hb hK hP 74 3 gX_74 rfl (ix_l h) dX2_load_37 ?_
      have h := ix_r h
      refine lv_iload_n hx hb dX2_load_38 rfl (lv_at hl 2 rfl) ?_
      refine lv_iconst (v := 3) hx hb dX2_load_39 (by decide) ?_
      refine lv_iand hx hb dX2_load_40 ?_
      refine lv_bipush (v := 16) hx hb dX2_load_41 (by decide) ?_
      refine lv_imul hx hb dX2_load_43 ?_
      refine lv_lushr (v := ((((M.2 74 ((v2 + ((v3 : Int32) >>> (2 &&& 31))) : Int32).toNatClampNeg) : Int64).toUInt64 >>> ((((v3 &&& 3) * 16) : Int32).toInt64.toUInt64 &&& Int64.toUInt64 63)).toInt64)) hx hb dX2_load_44 rfl ?_
      refine lv_l2i (v := (((((M.2 74 ((v2 + ((v3 : Int32) >>> (2 &&& 31))) : Int32).toNatClampNeg) : Int64).toUInt64 >>> ((((v3 &&& 3) * 16) : Int32).toInt64.toUInt64 &&& Int64.toUInt64 63)).toInt64) : Int64).toInt32) hx hb dX2_load_45 rfl ?_
      refine lv_ldc (v := 65535) hx hb hown (hgt _ wd_3_90) dX2_load_46 ?_
      refine lv_iand hx hb dX2_load_48 ?_
      refine pm_iast (w := (wX cI cZ cC cJ cA P)) hx hb hK hP hD hS 62 0 gX_62 rfl sX_62 (ix_l h) dX2_load_49 (fun M1 eM1 H locs hP hD hS => ?_)
      have h := ix_r h
      have h := lt_o eM1 h
      refine lv_iinc (v := (v3 + 1)) hx hb dX2_load_50 hl (k := 2) rfl rfl (Nat.le_of_ble_eq_true rfl) (lv' := [(3, .int (v3 + 1)), (0, .ref (P 73)), (2, .int v2)]) rfl (fun ls hl => ?_)
      refine lv_goto hx hb dX2_load_53 (tgt := 6) rfl ?_
      have hl := lv_sub hl [1, 2, 0] (l' := [(0, .ref (P 73)), (2, .int v2), (3, .int (v3 + 1))]) rfl
      exact ih M1 v2 (v3 + 1) H locs ls hl hP hD hS h
set_option maxHeartbeats 4000000 in
set_option maxRecDepth 20000 in
theorem b_Checker_load_0 {p : Program} {l : Launch} {e : Env} {s s0 : State} {m : MethodId} {args : Array Value} {below : List Frame} {meth : Method} {c : Code} {D : va_G} {cI cZ cC cJ cA : ClassId} {P : Nat → Nat} {M' : Mm} {r' : Int32}  (hx : p.tables.exec = Jvm.exec) (hb : c.code = cX2_load) (hml : c.maxLocals = 5) (hr : meth.sig.returnType = (some .int)) (hlk : meth.locks = false) (hgt : ∀ w ∈ GT, w.before args s = true) (hown : s.vm.findClass RX2 = some m.cls) (hK : va_K D vwCl [(cI, .int), (cZ, .boolean), (cC, .char), (cJ, .long), (cA, .array .int)] s) (hO : Old s0 s) (hAO : ∀ q, (aP P 77) q → s0.heap.size ≤ q)  : ∀ (M : Mm) (a1 : Int32) (H : Heap) (locs : List Loc) (ls : Array Slot), lv_has ls 5 [(0, .ref (P 73)), (1, .int a1)] → va_P D vwCl ((wX cI cZ cC cJ cA P) M) H → va_D (aP P 77) ((wX cI cZ cC cJ cA P) M) → va_S (aP P 77) s.heap H locs → q_Checker_load M a1 = some (M', r') → W p l e ({ frames := 0, cells := 0, slots := 0, locals := 0 }) s m args below meth c H locs 0 0 (MQ below (gQi D (aP P 77) ((wX cI cZ cC cJ cA P) M') r') args s 0 0 (aP P 77)) (F0 m 0 ls []) := by
  intro M a1 H locs ls hl hP hD hS h
  unfold q_Checker_load at h
  refine lv_iload_n hx hb dX2_load_0 rfl (lv_at hl 1 rfl) ?_
  refine lv_iconst (v := 5) hx hb dX2_load_1 (by decide) ?_
  refine lv_imul hx hb dX2_load_2 ?_
  refine lv_topi (fun x1 ex1 => ?_)
  have h := lt_o ex1 h
  refine lv_istore_n hx hb dX2_load_3 rfl hl (Nat.le_of_ble_eq_true rfl) (lv' := [(2, .int x1), (0, .ref (P 73)), (1, .int a1)]) rfl (fun ls hl => ?_)
  refine lv_iconst (v := 0) hx hb dX2_load_4 (by decide) ?_
  refine lv_istore_n hx hb dX2_load_5 rfl hl (Nat.le_of_ble_eq_true rfl) (lv' := [(3, .int 0), (2, .int x1), (0, .ref (P 73)), (1, .int a1)]) rfl (fun ls hl => ?_)
  have hl := lv_sub hl [2, 1, 0] (l' := [(0, .ref (P 73)), (2, .int x1), (3, .int 0)]) rfl
  exact b_Checker_load_6 hx hb hml hr hlk hgt hown hK hO hAO 4000 M x1 0 H _ ls hl hP hD hS h
set_option maxHeartbeats 4000000 in
set_option maxRecDepth 20000 in
theorem z_Checker_load (l : Launch) (D : va_G) (cI cZ cC cJ cA : ClassId) (P : Nat → Nat) (s0 : State) (hAO : ∀ q, (aP P 77) q → s0.heap.size ≤ q) (M : Mm) (a1 : Int32) (M' : Mm) (r' : Int32) (h : q_Checker_load M a1 = some (M', r')) : Met l yX2_load wsX2_load ({ frames := 0, cells := 0, slots := 0, locals := 0 }) (va_Pc [.ref (P 73), .int a1] (gPre s0 D [(cI, .int), (cZ, .boolean), (cC, .char), (cJ, .long), (cA, .array .int)] (aP P 77) ((wX cI cZ cC cJ cA P) M))) (gQi D (aP P 77) ((wX cI cZ cC cJ cA P) M') r') 0 0 (aP P 77) := by
  refine Met.ofW (cc := cX2_load) (maxL := 5) (ret := (some .int)) (by decide) rfl ?_
  intro p e s m args below meth c s₁ B hml hv
  obtain ⟨rfl, hP, hK, hD, hO⟩ := hv
  have hx := B.exec
  have hb := B.bytes
  have hr := B.returns
  have hlk := B.notSynchronized
  have hgt := fun w (h : w ∈ GT) => atoms_spec (ws := wsX2_load) B.pre w (List.mem_cons_of_mem _ h)
  have hown : s.vm.findClass RX2 = some m.cls := findClass_of_methodNamed B.named
  have hS : va_S (aP P 77) s.heap s.heap [] := va_S.rf
  have hl := lv_entry ([.ref (P 73), .int a1]) (n := 5) (Nat.le_of_ble_eq_true rfl)
  rw [lg_entry_eq]
  generalize (lg_sl ([.ref (P 73), .int a1]) ++ List.replicate (5 - (lg_sl ([.ref (P 73), .int a1])).length) Slot.unset).toArray = ls at hl ⊢
  have hl : lv_has ls 5 [(0, .ref (P 73)), (1, .int a1)] := hl
  exact b_Checker_load_0 hx hb hml hr hlk hgt hown hK hO hAO M a1 s.heap [] ls hl hP hD hS h
end
section
def q_Checker_tell_16  (M : Mm) (v1 : Int32) (v2 : Int32) : Rs := lt' (stI M 73 (upd (M.1 73) 8 v1)) fun M1 => lt' (stI M1 73 (upd (M1.1 73) 9 v2)) fun M2 => some (M2, 0)
def q_Checker_tell  (M : Mm) (a1 : Int32) (a2 : Int32) : Rs := if (M.1 73 8) = (-1) then (q_Checker_tell_16 M a1 a2) else (if (M.1 73 8) ≤ a1 then (if a1 = (M.1 73 8) then (if (M.1 73 9) ≤ a2 then (some (M, 0)) else (lt' (stI M 73 (upd (M.1 73) 9 a2)) fun M1 => some (M1, 0))) else (some (M, 0))) else (q_Checker_tell_16 M a1 a2))
set_option maxHeartbeats 4000000 in
set_option maxRecDepth 20000 in
theorem b_Checker_tell_16 {p : Program} {l : Launch} {e : Env} {s s0 : State} {m : MethodId} {args : Array Value} {below : List Frame} {meth : Method} {c : Code} {D : va_G} {cI cZ cC cJ cA : ClassId} {P : Nat → Nat} {M' : Mm} {r' : Int32}  (hx : p.tables.exec = Jvm.exec) (hb : c.code = cX2_tell) (hml : c.maxLocals = 3) (hr : meth.sig.returnType = none) (hlk : meth.locks = false) (hgt : ∀ w ∈ GT, w.before args s = true) (hown : s.vm.findClass RX2 = some m.cls) (hK : va_K D vwCl [(cI, .int), (cZ, .boolean), (cC, .char), (cJ, .long), (cA, .array .int)] s) (hO : Old s0 s) (hAO : ∀ q, (aP P 77) q → s0.heap.size ≤ q)  : ∀ (M : Mm) (v1 : Int32) (v2 : Int32) (H : Heap) (locs : List Loc) (ls : Array Slot), lv_has ls 3 [(0, .ref (P 73)), (1, .int v1), (2, .int v2)] → va_P D vwCl ((wX cI cZ cC cJ cA P) M) H → va_D (aP P 77) ((wX cI cZ cC cJ cA P) M) → va_S (aP P 77) s.heap H locs → q_Checker_tell_16 M v1 v2 = some (M', r') → W p l e ({ frames := 0, cells := 0, slots := 0, locals := 0 }) s m args below meth c H locs 0 0 (MQ below (gQv D (aP P 77) ((wX cI cZ cC cJ cA P) M')) args s 0 0 (aP P 77)) (F0 m 16 ls []) := by
  intro M v1 v2 H locs ls hl hP hD hS h
  unfold q_Checker_tell_16 at h
  refine lv_aload_n hx hb dX2_tell_16 rfl (lv_at hl 0 rfl) ?_
  refine lv_iload_n hx hb dX2_tell_17 rfl (lv_at hl 1 rfl) ?_
  refine pm_put (w := (wX cI cZ cC cJ cA P)) (D := D) (ci := 2) (x := v1) (ty := .int) (C := RX2) (T := TX2) (N := 10) hx hb hgt iwX2 tyX2 tyX2_ok nmX2 hown hK hP hD hS 73 gX_73 rfl 8 (Nat.le_of_ble_eq_true rfl) (hgt _ wd_1_231) (fun _ h9 => h9) rfl (by decide +kernel) rfl rfl (Nat.le_of_ble_eq_true rfl) (sX_73_8 _) dX2_tell_18 (fun M1 eM1 H locs hP hD hS => ?_)
  have h := lt_o eM1 h
  refine lv_aload_n hx hb dX2_tell_21 rfl (lv_at hl 0 rfl) ?_
  refine lv_iload_n hx hb dX2_tell_22 rfl (lv_at hl 2 rfl) ?_
  refine pm_put (w := (wX cI cZ cC cJ cA P)) (D := D) (ci := 2) (x := v2) (ty := .int) (C := RX2) (T := TX2) (N := 10) hx hb hgt iwX2 tyX2 tyX2_ok nmX2 hown hK hP hD hS 73 gX_73 rfl 9 (Nat.le_of_ble_eq_true rfl) (hgt _ wd_1_233) (fun _ h9 => h9) rfl (by decide +kernel) rfl rfl (Nat.le_of_ble_eq_true rfl) (sX_73_9 _) dX2_tell_23 (fun M2 eM2 H locs hP hD hS => ?_)
  have h := lt_o eM2 h
  refine lv_goto hx hb dX2_tell_26 (tgt := 50) rfl ?_
  exact rt_v (w := (wX cI cZ cC cJ cA P)) (r := r') hx hb hr hlk hP hD hS h dX2_tell_50
set_option maxHeartbeats 4000000 in
set_option maxRecDepth 20000 in
theorem b_Checker_tell_0 {p : Program} {l : Launch} {e : Env} {s s0 : State} {m : MethodId} {args : Array Value} {below : List Frame} {meth : Method} {c : Code} {D : va_G} {cI cZ cC cJ cA : ClassId} {P : Nat → Nat} {M' : Mm} {r' : Int32}  (hx : p.tables.exec = Jvm.exec) (hb : c.code = cX2_tell) (hml : c.maxLocals = 3) (hr : meth.sig.returnType = none) (hlk : meth.locks = false) (hgt : ∀ w ∈ GT, w.before args s = true) (hown : s.vm.findClass RX2 = some m.cls) (hK : va_K D vwCl [(cI, .int), (cZ, .boolean), (cC, .char), (cJ, .long), (cA, .array .int)] s) (hO : Old s0 s) (hAO : ∀ q, (aP P 77) q → s0.heap.size ≤ q)  : ∀ (M : Mm) (a1 : Int32) (a2 : Int32) (H : Heap) (locs : List Loc) (ls : Array Slot), lv_has ls 3 [(0, .ref (P 73)), (1, .int a1), (2, .int a2)] → va_P D vwCl ((wX cI cZ cC cJ cA P) M) H → va_D (aP P 77) ((wX cI cZ cC cJ cA P) M) → va_S (aP P 77) s.heap H locs → q_Checker_tell M a1 a2 = some (M', r') → W p l e ({ frames := 0, cells := 0, slots := 0, locals := 0 }) s m args below meth c H locs 0 0 (MQ below (gQv D (aP P 77) ((wX cI cZ cC cJ cA P) M')) args s 0 0 (aP P 77)) (F0 m 0 ls []) := by
  intro M a1 a2 H locs ls hl hP hD hS h
  unfold q_Checker_tell at h
  refine lv_aload_n hx hb dX2_tell_0 rfl (lv_at hl 0 rfl) ?_
  refine va_get (D := D) (ci := 2) (v := .int (M.1 73 8)) (C := RX2) (T := TX2) (N := 10) hx hb hgt iwX2 hown hK hP 73 gX_73 rfl 8 (Nat.le_of_ble_eq_true rfl) (hgt _ wd_1_231) (fun _ h9 => h9) rfl dX2_tell_1 ?_
  refine lv_iconst (v := (-1)) hx hb dX2_tell_4 (by decide) ?_
  refine lv_icmp_eq hx hb dX2_tell_5 (tgt := 16) rfl (fun hc => ?_) (fun hc => ?_)
  · have h := br_T hc h
    have hl := lv_sub hl [0, 1, 2] (l' := [(0, .ref (P 73)), (1, .int a1), (2, .int a2)]) rfl
    exact b_Checker_tell_16 hx hb hml hr hlk hgt hown hK hO hAO M a1 a2 H _ ls hl hP hD hS h
  · have h := br_F hc h
    refine lv_iload_n hx hb dX2_tell_8 rfl (lv_at hl 1 rfl) ?_
    refine lv_aload_n hx hb dX2_tell_9 rfl (lv_at hl 0 rfl) ?_
    refine va_get (D := D) (ci := 2) (v := .int (M.1 73 8)) (C := RX2) (T := TX2) (N := 10) hx hb hgt iwX2 hown hK hP 73 gX_73 rfl 8 (Nat.le_of_ble_eq_true rfl) (hgt _ wd_1_231) (fun _ h9 => h9) rfl dX2_tell_10 ?_
    refine lv_icmp_ge hx hb dX2_tell_13 (tgt := 29) rfl (fun hc => ?_) (fun hc => ?_)
    · have h := br_T hc h
      refine lv_iload_n hx hb dX2_tell_29 rfl (lv_at hl 1 rfl) ?_
      refine lv_aload_n hx hb dX2_tell_30 rfl (lv_at hl 0 rfl) ?_
      refine va_get (D := D) (ci := 2) (v := .int (M.1 73 8)) (C := RX2) (T := TX2) (N := 10) hx hb hgt iwX2 hown hK hP 73 gX_73 rfl 8 (Nat.le_of_ble_eq_true rfl) (hgt _ wd_1_231) (fun _ h9 => h9) rfl dX2_tell_31 ?_
      refine lv_icmp_ne hx hb dX2_tell_34 (tgt := 50) rfl (fun hc => ?_) (fun hc => ?_)
      · have h := br_F hc h
        exact rt_v (w := (wX cI cZ cC cJ cA P)) (r := r') hx hb hr hlk hP hD hS h dX2_tell_50
      · have h := br_T hc h
        refine lv_iload_n hx hb dX2_tell_37 rfl (lv_at hl 2 rfl) ?_
        refine lv_aload_n hx hb dX2_tell_38 rfl (lv_at hl 0 rfl) ?_
        refine va_get (D := D) (ci := 2) (v := .int (M.1 73 9)) (C := RX2) (T := TX2) (N := 10) hx hb hgt iwX2 hown hK hP 73 gX_73 rfl 9 (Nat.le_of_ble_eq_true rfl) (hgt _ wd_1_233) (fun _ h9 => h9) rfl dX2_tell_39 ?_
        refine lv_icmp_ge hx hb dX2_tell_42 (tgt := 50) rfl (fun hc => ?_) (fun hc => ?_)
        · have h := br_T hc h
          exact rt_v (w := (wX cI cZ cC cJ cA P)) (r := r') hx hb hr hlk hP hD hS h dX2_tell_50
        · have h := br_F hc h
          refine lv_aload_n hx hb dX2_tell_45 rfl (lv_at hl 0 rfl) ?_
          refine lv_iload_n hx hb dX2_tell_46 rfl (lv_at hl 2 rfl) ?_
          refine pm_put (w := (wX cI cZ cC cJ cA P)) (D := D) (ci := 2) (x := a2) (ty := .int) (C := RX2) (T := TX2) (N := 10) hx hb hgt iwX2 tyX2 tyX2_ok nmX2 hown hK hP hD hS 73 gX_73 rfl 9 (Nat.le_of_ble_eq_true rfl) (hgt _ wd_1_233) (fun _ h9 => h9) rfl (by decide +kernel) rfl rfl (Nat.le_of_ble_eq_true rfl) (sX_73_9 _) dX2_tell_47 (fun M1 eM1 H locs hP hD hS => ?_)
          have h := lt_o eM1 h
          exact rt_v (w := (wX cI cZ cC cJ cA P)) (r := r') hx hb hr hlk hP hD hS h dX2_tell_50
    · have h := br_F hc h
      have hl := lv_sub hl [0, 1, 2] (l' := [(0, .ref (P 73)), (1, .int a1), (2, .int a2)]) rfl
      exact b_Checker_tell_16 hx hb hml hr hlk hgt hown hK hO hAO M a1 a2 H _ ls hl hP hD hS h
set_option maxHeartbeats 4000000 in
set_option maxRecDepth 20000 in
theorem z_Checker_tell (l : Launch) (D : va_G) (cI cZ cC cJ cA : ClassId) (P : Nat → Nat) (s0 : State) (hAO : ∀ q, (aP P 77) q → s0.heap.size ≤ q) (M : Mm) (a1 : Int32) (a2 : Int32) (M' : Mm) (r' : Int32) (h : q_Checker_tell M a1 a2 = some (M', r')) : Met l yX2_tell wsX2_tell ({ frames := 0, cells := 0, slots := 0, locals := 0 }) (va_Pc [.ref (P 73), .int a1, .int a2] (gPre s0 D [(cI, .int), (cZ, .boolean), (cC, .char), (cJ, .long), (cA, .array .int)] (aP P 77) ((wX cI cZ cC cJ cA P) M))) (gQv D (aP P 77) ((wX cI cZ cC cJ cA P) M')) 0 0 (aP P 77) := by
  refine Met.ofW (cc := cX2_tell) (maxL := 3) (ret := none) (by decide) rfl ?_
  intro p e s m args below meth c s₁ B hml hv
  obtain ⟨rfl, hP, hK, hD, hO⟩ := hv
  have hx := B.exec
  have hb := B.bytes
  have hr := B.returns
  have hlk := B.notSynchronized
  have hgt := fun w (h : w ∈ GT) => atoms_spec (ws := wsX2_tell) B.pre w (List.mem_cons_of_mem _ h)
  have hown : s.vm.findClass RX2 = some m.cls := findClass_of_methodNamed B.named
  have hS : va_S (aP P 77) s.heap s.heap [] := va_S.rf
  have hl := lv_entry ([.ref (P 73), .int a1, .int a2]) (n := 3) (Nat.le_of_ble_eq_true rfl)
  rw [lg_entry_eq]
  generalize (lg_sl ([.ref (P 73), .int a1, .int a2]) ++ List.replicate (3 - (lg_sl ([.ref (P 73), .int a1, .int a2])).length) Slot.unset).toArray = ls at hl ⊢
  have hl : lv_has ls 3 [(0, .ref (P 73)), (1, .int a1), (2, .int a2)] := hl
  exact b_Checker_tell_0 hx hb hml hr hlk hgt hown hK hO hAO M a1 a2 s.heap [] ls hl hP hD hS h
def q_Checker_visit_130  (M : Mm) (v2 : Int32) : Rs := if (M.1 60 5) = 0 then (cal (q_Checker_meet M (v2 + 1)) fun M1 r2 => some (M1, 0)) else (cal (q_Checker_tell M v2 (M.1 60 5)) fun M1 r2 => some (M1, 0))
def q_Checker_visit  (M : Mm) (a1 : Int32) : Rs := cal (q_Checker_load M a1) fun M1 r2 => if r2 < (M1.1 69 0) then (ix r2 40 <| lt' (M1.1 70 (r2 : Int32).toNatClampNeg) fun x3 => if x3 = 3 then (cal (q_Checker_meet M1 (M1.1 69 0)) fun M4 r5 => some (M4, 0)) else (if x3 = 2 then (cal (q_Checker_meet M1 (r2 + 1)) fun M4 r5 => ix r2 40 <| cal (q_Checker_meet M4 (M4.1 72 (r2 : Int32).toNatClampNeg)) fun M6 r7 => some (M6, 0)) else (cal (q_Plan_beginHere M1) fun M4 r5 => if x3 = 0 then (ix r2 40 <| ix r2 40 <| cal (q_Plan_addPut M4 (M4.1 71 (r2 : Int32).toNatClampNeg) (M4.1 72 (r2 : Int32).toNatClampNeg)) fun M6 r7 => q_Checker_visit_130 M6 r2) else (ix r2 40 <| cal (q_Plan_addFetch M4 (M4.1 71 (r2 : Int32).toNatClampNeg)) fun M6 r7 => q_Checker_visit_130 M6 r2)))) else (some (M1, 0))
set_option maxHeartbeats 4000000 in
set_option maxRecDepth 20000 in
theorem b_Checker_visit_130 {p : Program} {l : Launch} {e : Env} {s s0 : State} {m : MethodId} {args : Array Value} {below : List Frame} {meth : Method} {c : Code} {D : va_G} {cI cZ cC cJ cA : ClassId} {P : Nat → Nat} {M' : Mm} {r' : Int32}  (hx : p.tables.exec = Jvm.exec) (hb : c.code = cX2_visit) (hml : c.maxLocals = 4) (hr : meth.sig.returnType = none) (hlk : meth.locks = false) (hgt : ∀ w ∈ GT, w.before args s = true) (hown : s.vm.findClass RX2 = some m.cls) (hK : va_K D vwCl [(cI, .int), (cZ, .boolean), (cC, .char), (cJ, .long), (cA, .array .int)] s) (hO : Old s0 s) (hAO : ∀ q, (aP P 77) q → s0.heap.size ≤ q)  : ∀ (M : Mm) (v2 : Int32) (H : Heap) (locs : List Loc) (ls : Array Slot), lv_has ls 4 [(0, .ref (P 73)), (2, .int v2)] → va_P D vwCl ((wX cI cZ cC cJ cA P) M) H → va_D (aP P 77) ((wX cI cZ cC cJ cA P) M) → va_S (aP P 77) s.heap H locs → q_Checker_visit_130 M v2 = some (M', r') → W p l e ({ frames := 5, cells := 0, slots := 0, locals := 120 }) s m args below meth c H locs 0 0 (MQ below (gQv D (aP P 77) ((wX cI cZ cC cJ cA P) M')) args s 0 0 (aP P 77)) (F0 m 130 ls []) := by
  intro M v2 H locs ls hl hP hD hS h
  unfold q_Checker_visit_130 at h
  refine lv_aload_n hx hb dX2_visit_130 rfl (lv_at hl 0 rfl) ?_
  refine va_get (D := D) (ci := 2) (v := .ref (P 60)) (C := RX2) (T := TX2) (N := 10) hx hb hgt iwX2 hown hK hP 73 gX_73 rfl 2 (Nat.le_of_ble_eq_true rfl) (hgt _ wd_1_223) (fun _ h9 => h9) rfl dX2_visit_131 ?_
  refine va_get (D := D) (ci := 9) (v := .int (M.1 60 5)) (C := RX9) (T := TX9) (N := 6) hx hb hgt iwX9 hown hK hP 60 gX_60 rfl 5 (Nat.le_of_ble_eq_true rfl) (hgt _ wd_1_170) (fun _ h9 => h9) rfl dX2_visit_134 ?_
  refine lv_if_ne hx hb dX2_visit_137 (tgt := 150) rfl (fun hc => ?_) (fun hc => ?_)
  · have h := br_F hc h
    refine lv_aload_n hx hb dX2_visit_150 rfl (lv_at hl 0 rfl) ?_
    refine lv_iload_n hx hb dX2_visit_151 rfl (lv_at hl 1 rfl) ?_
    refine lv_aload_n hx hb dX2_visit_152 rfl (lv_at hl 0 rfl) ?_
    refine va_get (D := D) (ci := 2) (v := .ref (P 60)) (C := RX2) (T := TX2) (N := 10) hx hb hgt iwX2 hown hK hP 73 gX_73 rfl 2 (Nat.le_of_ble_eq_true rfl) (hgt _ wd_1_223) (fun _ h9 => h9) rfl dX2_visit_153 ?_
    refine va_get (D := D) (ci := 9) (v := .int (M.1 60 5)) (C := RX9) (T := TX9) (N := 6) hx hb hgt iwX9 hown hK hP 60 gX_60 rfl 5 (Nat.le_of_ble_eq_true rfl) (hgt _ wd_1_170) (fun _ h9 => h9) rfl dX2_visit_156 ?_
    obtain ⟨M1, r2, hq, h⟩ := cal_o h
    refine cx_v (va_runV (As := [.int v2, .int (M.1 60 5)]) (rest := []) ⟨hx, hb, hml, hown, hgt⟩ (z_Checker_tell l D cI cZ cC cJ cA P s0 hAO M v2 (M.1 60 5) M1 r2 hq) (cwV 2 hgt (gV wd_3_97 wd_3_99 sl__ChipMap_Checker____ChipMap_Checker___tell____II_V_____ChipMap_Checker___tell____II_V__ wd_0_14 wd_3_100) rfl rfl rfl (by decide +kernel) ⟨Nat.le_of_ble_eq_true rfl, Nat.le_of_ble_eq_true rfl⟩) (prV hP hK hD hO hAO hS (va_recv hK hP (ci := 2) (q0 := 73) rfl gX_73)) rfl rfl hl.1 rfl (lv_room (Nat.le_of_ble_eq_true rfl)) dX2_visit_159 ⟨Nat.le_of_ble_eq_true rfl, Nat.le_of_ble_eq_true rfl⟩) hS (fun H locs hP hD hS => ?_)
    exact rt_v (w := (wX cI cZ cC cJ cA P)) (r := r') hx hb hr hlk hP hD hS h dX2_visit_162
  · have h := br_T hc h
    refine lv_aload_n hx hb dX2_visit_140 rfl (lv_at hl 0 rfl) ?_
    refine lv_iload_n hx hb dX2_visit_141 rfl (lv_at hl 1 rfl) ?_
    refine lv_iconst (v := 1) hx hb dX2_visit_142 (by decide) ?_
    refine lv_iadd hx hb dX2_visit_143 ?_
    obtain ⟨M1, r2, hq, h⟩ := cal_o h
    refine cx_v (va_runV (As := [.int (v2 + 1)]) (rest := []) ⟨hx, hb, hml, hown, hgt⟩ (z_Checker_meet l D cI cZ cC cJ cA P s0 hAO M (v2 + 1) M1 r2 hq) (cwV 1 hgt (gV wd_3_54 wd_3_56 sl__ChipMap_Checker____ChipMap_Checker___meet____I_V_____ChipMap_Checker___meet____I_V__ wd_0_14 wd_3_57) rfl rfl rfl (by decide +kernel) ⟨Nat.le_of_ble_eq_true rfl, Nat.le_of_ble_eq_true rfl⟩) (prV hP hK hD hO hAO hS (va_recv hK hP (ci := 2) (q0 := 73) rfl gX_73)) rfl rfl hl.1 rfl (lv_room (Nat.le_of_ble_eq_true rfl)) dX2_visit_144 ⟨Nat.le_of_ble_eq_true rfl, Nat.le_of_ble_eq_true rfl⟩) hS (fun H locs hP hD hS => ?_)
    refine lv_goto hx hb dX2_visit_147 (tgt := 162) rfl ?_
    exact rt_v (w := (wX cI cZ cC cJ cA P)) (r := r') hx hb hr hlk hP hD hS h dX2_visit_162
set_option maxHeartbeats 4000000 in
set_option maxRecDepth 20000 in
theorem b_Checker_visit_0 {p : Program} {l : Launch} {e : Env} {s s0 : State} {m : MethodId} {args : Array Value} {below : List Frame} {meth : Method} {c : Code} {D : va_G} {cI cZ cC cJ cA : ClassId} {P : Nat → Nat} {M' : Mm} {r' : Int32}  (hx : p.tables.exec = Jvm.exec) (hb : c.code = cX2_visit) (hml : c.maxLocals = 4) (hr : meth.sig.returnType = none) (hlk : meth.locks = false) (hgt : ∀ w ∈ GT, w.before args s = true) (hown : s.vm.findClass RX2 = some m.cls) (hK : va_K D vwCl [(cI, .int), (cZ, .boolean), (cC, .char), (cJ, .long), (cA, .array .int)] s) (hO : Old s0 s) (hAO : ∀ q, (aP P 77) q → s0.heap.size ≤ q)  : ∀ (M : Mm) (a1 : Int32) (H : Heap) (locs : List Loc) (ls : Array Slot), lv_has ls 4 [(0, .ref (P 73)), (1, .int a1)] → va_P D vwCl ((wX cI cZ cC cJ cA P) M) H → va_D (aP P 77) ((wX cI cZ cC cJ cA P) M) → va_S (aP P 77) s.heap H locs → q_Checker_visit M a1 = some (M', r') → W p l e ({ frames := 5, cells := 0, slots := 0, locals := 120 }) s m args below meth c H locs 0 0 (MQ below (gQv D (aP P 77) ((wX cI cZ cC cJ cA P) M')) args s 0 0 (aP P 77)) (F0 m 0 ls []) := by
  intro M a1 H locs ls hl hP hD hS h
  unfold q_Checker_visit at h
  refine lv_aload_n hx hb dX2_visit_0 rfl (lv_at hl 0 rfl) ?_
  refine lv_iload_n hx hb dX2_visit_1 rfl (lv_at hl 1 rfl) ?_
  obtain ⟨M1, r2, hq, h⟩ := cal_o h
  refine cx_i (va_runV (As := [.int a1]) (rest := []) ⟨hx, hb, hml, hown, hgt⟩ (z_Checker_load l D cI cZ cC cJ cA P s0 hAO M a1 M1 r2 hq) (cwV 1 hgt (gV wd_3_86 wd_3_88 sl__ChipMap_Checker____ChipMap_Checker___load____I_I_____ChipMap_Checker___load____I_I__ wd_0_14 wd_3_89) rfl rfl rfl (by decide +kernel) ⟨Nat.le_of_ble_eq_true rfl, Nat.le_of_ble_eq_true rfl⟩) (prV hP hK hD hO hAO hS (va_recv hK hP (ci := 2) (q0 := 73) rfl gX_73)) rfl rfl hl.1 rfl (lv_room (Nat.le_of_ble_eq_true rfl)) dX2_visit_2 ⟨Nat.le_of_ble_eq_true rfl, Nat.le_of_ble_eq_true rfl⟩) hS (fun H locs hP hD hS => ?_)
  refine lv_istore_n hx hb dX2_visit_5 rfl hl (Nat.le_of_ble_eq_true rfl) (lv' := [(2, .int r2), (0, .ref (P 73)), (1, .int a1)]) rfl (fun ls hl => ?_)
  refine lv_iload_n hx hb dX2_visit_6 rfl (lv_at hl 0 rfl) ?_
  refine lv_aload_n hx hb dX2_visit_7 rfl (lv_at hl 1 rfl) ?_
  refine va_get (D := D) (ci := 2) (v := .ref (P 69)) (C := RX2) (T := TX2) (N := 10) hx hb hgt iwX2 hown hK hP 73 gX_73 rfl 1 (Nat.le_of_ble_eq_true rfl) (hgt _ wd_1_222) (fun _ h9 => h9) rfl dX2_visit_8 ?_
  refine va_get (D := D) (ci := 12) (v := .int (M1.1 69 0)) (C := RX12) (T := TX12) (N := 4) hx hb hgt iwX12 hown hK hP 69 gX_69 rfl 0 (Nat.le_of_ble_eq_true rfl) (hgt _ wd_1_192) (fun _ h9 => h9) rfl dX2_visit_11 ?_
  refine lv_icmp_lt hx hb dX2_visit_14 (tgt := 18) rfl (fun hc => ?_) (fun hc => ?_)
  · have h := br_T hc h
    refine lv_aload_n hx hb dX2_visit_18 rfl (lv_at hl 1 rfl) ?_
    refine va_get (D := D) (ci := 2) (v := .ref (P 69)) (C := RX2) (T := TX2) (N := 10) hx hb hgt iwX2 hown hK hP 73 gX_73 rfl 1 (Nat.le_of_ble_eq_true rfl) (hgt _ wd_1_222) (fun _ h9 => h9) rfl dX2_visit_19 ?_
    refine va_get (D := D) (ci := 12) (v := .ref (P 70)) (C := RX12) (T := TX12) (N := 4) hx hb hgt iwX12 hown hK hP 69 gX_69 rfl 1 (Nat.le_of_ble_eq_true rfl) (hgt _ wd_1_196) (fun _ h9 => h9) rfl dX2_visit_22 ?_
    refine lv_iload_n hx hb dX2_visit_25 rfl (lv_at hl 0 rfl) ?_
    refine va_iald hx hb hK hP 70 0 gX_70 rfl (ix_l h) dX2_visit_26 ?_
    have h := ix_r h
    refine lv_topi (fun x3 ex3 => ?_)
    have h := lt_o ex3 h
    refine lv_istore_n hx hb dX2_visit_27 rfl hl (Nat.le_of_ble_eq_true rfl) (lv' := [(3, .int x3), (2, .int r2), (0, .ref (P 73)), (1, .int a1)]) rfl (fun ls hl => ?_)
    refine lv_iload_n hx hb dX2_visit_28 rfl (lv_at hl 0 rfl) ?_
    refine lv_iconst (v := 3) hx hb dX2_visit_29 (by decide) ?_
    refine lv_icmp_ne hx hb dX2_visit_30 (tgt := 47) rfl (fun hc => ?_) (fun hc => ?_)
    · have h := br_F hc h
      refine lv_iload_n hx hb dX2_visit_47 rfl (lv_at hl 0 rfl) ?_
      refine lv_iconst (v := 2) hx hb dX2_visit_48 (by decide) ?_
      refine lv_icmp_ne hx hb dX2_visit_49 (tgt := 75) rfl (fun hc => ?_) (fun hc => ?_)
      · have h := br_F hc h
        refine lv_aload_n hx hb dX2_visit_75 rfl (lv_at hl 2 rfl) ?_
        refine va_get (D := D) (ci := 2) (v := .ref (P 60)) (C := RX2) (T := TX2) (N := 10) hx hb hgt iwX2 hown hK hP 73 gX_73 rfl 2 (Nat.le_of_ble_eq_true rfl) (hgt _ wd_1_223) (fun _ h9 => h9) rfl dX2_visit_76 ?_
        obtain ⟨M4, r5, hq, h⟩ := cal_o h
        refine cx_v (va_runV (As := []) (rest := []) ⟨hx, hb, hml, hown, hgt⟩ (z_Plan_beginHere l D cI cZ cC cJ cA P s0 hAO M1 M4 r5 hq) (cwV 0 hgt (gV wd_3_91 wd_2_196 wd_2_197 wd_0_12 wd_2_198) rfl rfl rfl (by decide +kernel) ⟨Nat.le_of_ble_eq_true rfl, Nat.le_of_ble_eq_true rfl⟩) (prV hP hK hD hO hAO hS (va_recv hK hP (ci := 9) (q0 := 60) rfl gX_60)) rfl rfl hl.1 rfl (lv_room (Nat.le_of_ble_eq_true rfl)) dX2_visit_79 ⟨Nat.le_of_ble_eq_true rfl, Nat.le_of_ble_eq_true rfl⟩) hS (fun H locs hP hD hS => ?_)
        refine lv_iload_n hx hb dX2_visit_82 rfl (lv_at hl 0 rfl) ?_
        refine lv_if_ne hx hb dX2_visit_83 (tgt := 114) rfl (fun hc => ?_) (fun hc => ?_)
        · have h := br_F hc h
          refine lv_aload_n hx hb dX2_visit_114 rfl (lv_at hl 2 rfl) ?_
          refine va_get (D := D) (ci := 2) (v := .ref (P 60)) (C := RX2) (T := TX2) (N := 10) hx hb hgt iwX2 hown hK hP 73 gX_73 rfl 2 (Nat.le_of_ble_eq_true rfl) (hgt _ wd_1_223) (fun _ h9 => h9) rfl dX2_visit_115 ?_
          refine lv_aload_n hx hb dX2_visit_118 rfl (lv_at hl 2 rfl) ?_
          refine va_get (D := D) (ci := 2) (v := .ref (P 69)) (C := RX2) (T := TX2) (N := 10) hx hb hgt iwX2 hown hK hP 73 gX_73 rfl 1 (Nat.le_of_ble_eq_true rfl) (hgt _ wd_1_222) (fun _ h9 => h9) rfl dX2_visit_119 ?_
          refine va_get (D := D) (ci := 12) (v := .ref (P 71)) (C := RX12) (T := TX12) (N := 4) hx hb hgt iwX12 hown hK hP 69 gX_69 rfl 2 (Nat.le_of_ble_eq_true rfl) (hgt _ wd_1_199) (fun _ h9 => h9) rfl dX2_visit_122 ?_
          refine lv_iload_n hx hb dX2_visit_125 rfl (lv_at hl 1 rfl) ?_
          refine va_iald hx hb hK hP 71 0 gX_71 rfl (ix_l h) dX2_visit_126 ?_
          have h := ix_r h
          obtain ⟨M6, r7, hq, h⟩ := cal_o h
          refine cx_v (va_runV (As := [.int (M4.1 71 (r2 : Int32).toNatClampNeg)]) (rest := []) ⟨hx, hb, hml, hown, hgt⟩ (z_Plan_addFetch l D cI cZ cC cJ cA P s0 hAO M4 (M4.1 71 (r2 : Int32).toNatClampNeg) M6 r7 hq) (cwV 1 hgt (gV wd_3_93 wd_3_94 wd_3_95 wd_0_12 wd_3_96) rfl rfl rfl (by decide +kernel) ⟨Nat.le_of_ble_eq_true rfl, Nat.le_of_ble_eq_true rfl⟩) (prV hP hK hD hO hAO hS (va_recv hK hP (ci := 9) (q0 := 60) rfl gX_60)) rfl rfl hl.1 rfl (lv_room (Nat.le_of_ble_eq_true rfl)) dX2_visit_127 ⟨Nat.le_of_ble_eq_true rfl, Nat.le_of_ble_eq_true rfl⟩) hS (fun H locs hP hD hS => ?_)
          have hl := lv_sub hl [2, 1] (l' := [(0, .ref (P 73)), (2, .int r2)]) rfl
          exact b_Checker_visit_130 hx hb hml hr hlk hgt hown hK hO hAO M6 r2 H _ ls hl hP hD hS h
        · have h := br_T hc h
          refine lv_aload_n hx hb dX2_visit_86 rfl (lv_at hl 2 rfl) ?_
          refine va_get (D := D) (ci := 2) (v := .ref (P 60)) (C := RX2) (T := TX2) (N := 10) hx hb hgt iwX2 hown hK hP 73 gX_73 rfl 2 (Nat.le_of_ble_eq_true rfl) (hgt _ wd_1_223) (fun _ h9 => h9) rfl dX2_visit_87 ?_
          refine lv_aload_n hx hb dX2_visit_90 rfl (lv_at hl 2 rfl) ?_
          refine va_get (D := D) (ci := 2) (v := .ref (P 69)) (C := RX2) (T := TX2) (N := 10) hx hb hgt iwX2 hown hK hP 73 gX_73 rfl 1 (Nat.le_of_ble_eq_true rfl) (hgt _ wd_1_222) (fun _ h9 => h9) rfl dX2_visit_91 ?_
          refine va_get (D := D) (ci := 12) (v := .ref (P 71)) (C := RX12) (T := TX12) (N := 4) hx hb hgt iwX12 hown hK hP 69 gX_69 rfl 2 (Nat.le_of_ble_eq_true rfl) (hgt _ wd_1_199) (fun _ h9 => h9) rfl dX2_visit_94 ?_
          refine lv_iload_n hx hb dX2_visit_97 rfl (lv_at hl 1 rfl) ?_
          refine va_iald hx hb hK hP 71 0 gX_71 rfl (ix_l h) dX2_visit_98 ?_
          have h := ix_r h
          refine lv_aload_n hx hb dX2_visit_99 rfl (lv_at hl 2 rfl) ?_
          refine va_get (D := D) (ci := 2) (v := .ref (P 69)) (C := RX2) (T := TX2) (N := 10) hx hb hgt iwX2 hown hK hP 73 gX_73 rfl 1 (Nat.le_of_ble_eq_true rfl) (hgt _ wd_1_222) (fun _ h9 => h9) rfl dX2_visit_100 ?_
          refine va_get (D := D) (ci := 12) (v := .ref (P 72)) (C := RX12) (T := TX12) (N := 4) hx hb hgt iwX12 hown hK hP 69 gX_69 rfl 3 (Nat.le_of_ble_eq_true rfl) (hgt _ wd_1_203) (fun _ h9 => h9) rfl dX2_visit_103 ?_
          refine lv_iload_n hx hb dX2_visit_106 rfl (lv_at hl 1 rfl) ?_
          refine va_iald hx hb hK hP 72 0 gX_72 rfl (ix_l h) dX2_visit_107 ?_
          have h := ix_r h
          obtain ⟨M6, r7, hq, h⟩ := cal_o h
          refine cx_v (va_runV (As := [.int (M4.1 71 (r2 : Int32).toNatClampNeg), .int (M4.1 72 (r2 : Int32).toNatClampNeg)]) (rest := []) ⟨hx, hb, hml, hown, hgt⟩ (z_Plan_addPut l D cI cZ cC cJ cA P s0 hAO M4 (M4.1 71 (r2 : Int32).toNatClampNeg) (M4.1 72 (r2 : Int32).toNatClampNeg) M6 r7 hq) (cwV 2 hgt (gV wd_3_92 wd_2_200 wd_2_201 wd_0_12 wd_2_202) rfl rfl rfl (by decide +kernel) ⟨Nat.le_of_ble_eq_true rfl, Nat.le_of_ble_eq_true rfl⟩) (prV hP hK hD hO hAO hS (va_recv hK hP (ci := 9) (q0 := 60) rfl gX_60)) rfl rfl hl.1 rfl (lv_room (Nat.le_of_ble_eq_true rfl)) dX2_visit_108 ⟨Nat.le_of_ble_eq_true rfl, Nat.le_of_ble_eq_true rfl⟩) hS (fun H locs hP hD hS => ?_)
          refine lv_goto hx hb dX2_visit_111 (tgt := 130) rfl ?_
          have hl := lv_sub hl [2, 1] (l' := [(0, .ref (P 73)), (2, .int r2)]) rfl
          exact b_Checker_visit_130 hx hb hml hr hlk hgt hown hK hO hAO M6 r2 H _ ls hl hP hD hS h
      · have h := br_T hc h
        refine lv_aload_n hx hb dX2_visit_52 rfl (lv_at hl 2 rfl) ?_
        refine lv_iload_n hx hb dX2_visit_53 rfl (lv_at hl 1 rfl) ?_
        refine lv_iconst (v := 1) hx hb dX2_visit_54 (by decide) ?_
        refine lv_iadd hx hb dX2_visit_55 ?_
        obtain ⟨M4, r5, hq, h⟩ := cal_o h
        refine cx_v (va_runV (As := [.int (r2 + 1)]) (rest := []) ⟨hx, hb, hml, hown, hgt⟩ (z_Checker_meet l D cI cZ cC cJ cA P s0 hAO M1 (r2 + 1) M4 r5 hq) (cwV 1 hgt (gV wd_3_54 wd_3_56 sl__ChipMap_Checker____ChipMap_Checker___meet____I_V_____ChipMap_Checker___meet____I_V__ wd_0_14 wd_3_57) rfl rfl rfl (by decide +kernel) ⟨Nat.le_of_ble_eq_true rfl, Nat.le_of_ble_eq_true rfl⟩) (prV hP hK hD hO hAO hS (va_recv hK hP (ci := 2) (q0 := 73) rfl gX_73)) rfl rfl hl.1 rfl (lv_room (Nat.le_of_ble_eq_true rfl)) dX2_visit_56 ⟨Nat.le_of_ble_eq_true rfl, Nat.le_of_ble_eq_true rfl⟩) hS (fun H locs hP hD hS => ?_)
        refine lv_aload_n hx hb dX2_visit_59 rfl (lv_at hl 2 rfl) ?_
        refine lv_aload_n hx hb dX2_visit_60 rfl (lv_at hl 2 rfl) ?_
        refine va_get (D := D) (ci := 2) (v := .ref (P 69)) (C := RX2) (T := TX2) (N := 10) hx hb hgt iwX2 hown hK hP 73 gX_73 rfl 1 (Nat.le_of_ble_eq_true rfl) (hgt _ wd_1_222) (fun _ h9 => h9) rfl dX2_visit_61 ?_
        refine va_get (D := D) (ci := 12) (v := .ref (P 72)) (C := RX12) (T := TX12) (N := 4) hx hb hgt iwX12 hown hK hP 69 gX_69 rfl 3 (Nat.le_of_ble_eq_true rfl) (hgt _ wd_1_203) (fun _ h9 => h9) rfl dX2_visit_64 ?_
        refine lv_iload_n hx hb dX2_visit_67 rfl (lv_at hl 1 rfl) ?_
        refine va_iald hx hb hK hP 72 0 gX_72 rfl (ix_l h) dX2_visit_68 ?_
        have h := ix_r h
        obtain ⟨M6, r7, hq, h⟩ := cal_o h
        refine cx_v (va_runV (As := [.int (M4.1 72 (r2 : Int32).toNatClampNeg)]) (rest := []) ⟨hx, hb, hml, hown, hgt⟩ (z_Checker_meet l D cI cZ cC cJ cA P s0 hAO M4 (M4.1 72 (r2 : Int32).toNatClampNeg) M6 r7 hq) (cwV 1 hgt (gV wd_3_54 wd_3_56 sl__ChipMap_Checker____ChipMap_Checker___meet____I_V_____ChipMap_Checker___meet____I_V__ wd_0_14 wd_3_57) rfl rfl rfl (by decide +kernel) ⟨Nat.le_of_ble_eq_true rfl, Nat.le_of_ble_eq_true rfl⟩) (prV hP hK hD hO hAO hS (va_recv hK hP (ci := 2) (q0 := 73) rfl gX_73)) rfl rfl hl.1 rfl (lv_room (Nat.le_of_ble_eq_true rfl)) dX2_visit_69 ⟨Nat.le_of_ble_eq_true rfl, Nat.le_of_ble_eq_true rfl⟩) hS (fun H locs hP hD hS => ?_)
        refine lv_goto hx hb dX2_visit_72 (tgt := 162) rfl ?_
        exact rt_v (w := (wX cI cZ cC cJ cA P)) (r := r') hx hb hr hlk hP hD hS h dX2_visit_162
    · have h := br_T hc h
      refine lv_aload_n hx hb dX2_visit_33 rfl (lv_at hl 2 rfl) ?_
      refine lv_aload_n hx hb dX2_visit_34 rfl (lv_at hl 2 rfl) ?_
      refine va_get (D := D) (ci := 2) (v := .ref (P 69)) (C := RX2) (T := TX2) (N := 10) hx hb hgt iwX2 hown hK hP 73 gX_73 rfl 1 (Nat.le_of_ble_eq_true rfl) (hgt _ wd_1_222) (fun _ h9 => h9) rfl dX2_visit_35 ?_
      refine va_get (D := D) (ci := 12) (v := .int (M1.1 69 0)) (C := RX12) (T := TX12) (N := 4) hx hb hgt iwX12 hown hK hP 69 gX_69 rfl 0 (Nat.le_of_ble_eq_true rfl) (hgt _ wd_1_192) (fun _ h9 => h9) rfl dX2_visit_38 ?_
      obtain ⟨M4, r5, hq, h⟩ := cal_o h
      refine cx_v (va_runV (As := [.int (M1.1 69 0)]) (rest := []) ⟨hx, hb, hml, hown, hgt⟩ (z_Checker_meet l D cI cZ cC cJ cA P s0 hAO M1 (M1.1 69 0) M4 r5 hq) (cwV 1 hgt (gV wd_3_54 wd_3_56 sl__ChipMap_Checker____ChipMap_Checker___meet____I_V_____ChipMap_Checker___meet____I_V__ wd_0_14 wd_3_57) rfl rfl rfl (by decide +kernel) ⟨Nat.le_of_ble_eq_true rfl, Nat.le_of_ble_eq_true rfl⟩) (prV hP hK hD hO hAO hS (va_recv hK hP (ci := 2) (q0 := 73) rfl gX_73)) rfl rfl hl.1 rfl (lv_room (Nat.le_of_ble_eq_true rfl)) dX2_visit_41 ⟨Nat.le_of_ble_eq_true rfl, Nat.le_of_ble_eq_true rfl⟩) hS (fun H locs hP hD hS => ?_)
      refine lv_goto hx hb dX2_visit_44 (tgt := 162) rfl ?_
      exact rt_v (w := (wX cI cZ cC cJ cA P)) (r := r') hx hb hr hlk hP hD hS h dX2_visit_162
  · have h := br_F hc h
    exact rt_v (w := (wX cI cZ cC cJ cA P)) (r := r') hx hb hr hlk hP hD hS h dX2_visit_17
set_option maxHeartbeats 4000000 in
set_option maxRecDepth 20000 in
theorem z_Checker_visit (l : Launch) (D : va_G) (cI cZ cC cJ cA : ClassId) (P : Nat → Nat) (s0 : State) (hAO : ∀ q, (aP P 77) q → s0.heap.size ≤ q) (M : Mm) (a1 : Int32) (M' : Mm) (r' : Int32) (h : q_Checker_visit M a1 = some (M', r')) : Met l yX2_visit wsX2_visit ({ frames := 5, cells := 0, slots := 0, locals := 120 }) (va_Pc [.ref (P 73), .int a1] (gPre s0 D [(cI, .int), (cZ, .boolean), (cC, .char), (cJ, .long), (cA, .array .int)] (aP P 77) ((wX cI cZ cC cJ cA P) M))) (gQv D (aP P 77) ((wX cI cZ cC cJ cA P) M')) 0 0 (aP P 77) := by
  refine Met.ofW (cc := cX2_visit) (maxL := 4) (ret := none) (by decide) rfl ?_
  intro p e s m args below meth c s₁ B hml hv
  obtain ⟨rfl, hP, hK, hD, hO⟩ := hv
  have hx := B.exec
  have hb := B.bytes
  have hr := B.returns
  have hlk := B.notSynchronized
  have hgt := fun w (h : w ∈ GT) => atoms_spec (ws := wsX2_visit) B.pre w (List.mem_cons_of_mem _ h)
  have hown : s.vm.findClass RX2 = some m.cls := findClass_of_methodNamed B.named
  have hS : va_S (aP P 77) s.heap s.heap [] := va_S.rf
  have hl := lv_entry ([.ref (P 73), .int a1]) (n := 4) (Nat.le_of_ble_eq_true rfl)
  rw [lg_entry_eq]
  generalize (lg_sl ([.ref (P 73), .int a1]) ++ List.replicate (4 - (lg_sl ([.ref (P 73), .int a1])).length) Slot.unset).toArray = ls at hl ⊢
  have hl : lv_has ls 4 [(0, .ref (P 73)), (1, .int a1)] := hl
  exact b_Checker_visit_0 hx hb hml hr hlk hgt hown hK hO hAO M a1 s.heap [] ls hl hP hD hS h
def q_ChipMap_check_63  (M : Mm)  : Rs := if (M.1 73 7) = 0 then (some (M, (1 + (M.1 73 8)))) else (some (M, (-2)))
def q_ChipMap_check_18  : Nat → Mm → Int32 → Rs
  | 0, _, _ => none
  | n' + 1, M, v1 => if 1000 ≤ v1 then (q_ChipMap_check_63 M) else (if (M.1 73 6) ≤ v1 then (q_ChipMap_check_63 M) else (if (M.1 73 7) = 0 then (cal (q_Checker_visit M v1) fun M1 r2 => q_ChipMap_check_18 n' M1 (v1 + 1)) else (q_ChipMap_check_63 M)))
def q_ChipMap_check  (M : Mm)  : Rs := cal (q_ChipMap_hasMap M) fun M1 r2 => if r2 = 0 then (some (M1, (-1))) else (cal (q_Checker_begin M1) fun M3 r4 => q_ChipMap_check_18 4000 M3 0)
set_option maxHeartbeats 4000000 in
set_option maxRecDepth 20000 in
theorem b_ChipMap_check_63 {p : Program} {l : Launch} {e : Env} {s s0 : State} {m : MethodId} {args : Array Value} {below : List Frame} {meth : Method} {c : Code} {D : va_G} {cI cZ cC cJ cA : ClassId} {P : Nat → Nat} {M' : Mm} {r' : Int32}  (hx : p.tables.exec = Jvm.exec) (hb : c.code = cX0_check) (hml : c.maxLocals = 2) (hr : meth.sig.returnType = (some .int)) (hlk : meth.locks = false) (hgt : ∀ w ∈ GT, w.before args s = true) (hown : s.vm.findClass RX0 = some m.cls) (hK : va_K D vwCl [(cI, .int), (cZ, .boolean), (cC, .char), (cJ, .long), (cA, .array .int)] s) (hO : Old s0 s) (hAO : ∀ q, (aP P 77) q → s0.heap.size ≤ q)  : ∀ (M : Mm)  (H : Heap) (locs : List Loc) (ls : Array Slot), lv_has ls 2 [(0, .ref (P 0))] → va_P D vwCl ((wX cI cZ cC cJ cA P) M) H → va_D (aP P 77) ((wX cI cZ cC cJ cA P) M) → va_S (aP P 77) s.heap H locs → q_ChipMap_check_63 M = some (M', r') → W p l e ({ frames := 6, cells := 0, slots := 0, locals := 143 }) s m args below meth c H locs 0 0 (MQ below (gQi D (aP P 77) ((wX cI cZ cC cJ cA P) M') r') args s 0 0 (aP P 77)) (F0 m 63 ls []) := by
  intro M H locs ls hl hP hD hS h
  unfold q_ChipMap_check_63 at h
  refine lv_aload_n hx hb dX0_check_63 rfl (lv_at hl 0 rfl) ?_
  refine va_get (D := D) (ci := 0) (v := .ref (P 73)) (C := RX0) (T := TX0) (N := 9) hx hb hgt iwX0 hown hK hP 0 gX_0 rfl 8 (Nat.le_of_ble_eq_true rfl) (hgt _ wd_2_25) (fun _ h9 => h9) rfl dX0_check_64 ?_
  refine va_get (D := D) (ci := 2) (v := .int (M.1 73 7)) (C := RX2) (T := TX2) (N := 10) hx hb hgt iwX2 hown hK hP 73 gX_73 rfl 7 (Nat.le_of_ble_eq_true rfl) (hgt _ wd_1_230) (fun _ h9 => h9) rfl dX0_check_67 ?_
  refine lv_if_eq hx hb dX0_check_70 (tgt := 78) rfl (fun hc => ?_) (fun hc => ?_)
  · have h := br_T hc h
    refine lv_iconst (v := 1) hx hb dX0_check_78 (by decide) ?_
    refine lv_aload_n hx hb dX0_check_79 rfl (lv_at hl 0 rfl) ?_
    refine va_get (D := D) (ci := 0) (v := .ref (P 73)) (C := RX0) (T := TX0) (N := 9) hx hb hgt iwX0 hown hK hP 0 gX_0 rfl 8 (Nat.le_of_ble_eq_true rfl) (hgt _ wd_2_25) (fun _ h9 => h9) rfl dX0_check_80 ?_
    refine va_get (D := D) (ci := 2) (v := .int (M.1 73 8)) (C := RX2) (T := TX2) (N := 10) hx hb hgt iwX2 hown hK hP 73 gX_73 rfl 8 (Nat.le_of_ble_eq_true rfl) (hgt _ wd_1_232) (fun _ h9 => h9) rfl dX0_check_83 ?_
    refine lv_iadd hx hb dX0_check_86 ?_
    exact rt_i (w := (wX cI cZ cC cJ cA P)) hx hb hr hlk hP hD hS h dX0_check_87
  · have h := br_F hc h
    refine lv_bipush (v := (-2)) hx hb dX0_check_73 (by decide) ?_
    refine lv_goto hx hb dX0_check_75 (tgt := 87) rfl ?_
    exact rt_i (w := (wX cI cZ cC cJ cA P)) hx hb hr hlk hP hD hS h dX0_check_87
set_option maxHeartbeats 4000000 in
set_option maxRecDepth 20000 in
theorem b_ChipMap_check_18 {p : Program} {l : Launch} {e : Env} {s s0 : State} {m : MethodId} {args : Array Value} {below : List Frame} {meth : Method} {c : Code} {D : va_G} {cI cZ cC cJ cA : ClassId} {P : Nat → Nat} {M' : Mm} {r' : Int32}  (hx : p.tables.exec = Jvm.exec) (hb : c.code = cX0_check) (hml : c.maxLocals = 2) (hr : meth.sig.returnType = (some .int)) (hlk : meth.locks = false) (hgt : ∀ w ∈ GT, w.before args s = true) (hown : s.vm.findClass RX0 = some m.cls) (hK : va_K D vwCl [(cI, .int), (cZ, .boolean), (cC, .char), (cJ, .long), (cA, .array .int)] s) (hO : Old s0 s) (hAO : ∀ q, (aP P 77) q → s0.heap.size ≤ q)  : ∀ (n' : Nat) (M : Mm) (v1 : Int32) (H : Heap) (locs : List Loc) (ls : Array Slot), lv_has ls 2 [(0, .ref (P 0)), (1, .int v1)] → va_P D vwCl ((wX cI cZ cC cJ cA P) M) H → va_D (aP P 77) ((wX cI cZ cC cJ cA P) M) → va_S (aP P 77) s.heap H locs → q_ChipMap_check_18 n' M v1 = some (M', r') → W p l e ({ frames := 6, cells := 0, slots := 0, locals := 143 }) s m args below meth c H locs 0 0 (MQ below (gQi D (aP P 77) ((wX cI cZ cC cJ cA P) M') r') args s 0 0 (aP P 77)) (F0 m 18 ls []) := by
  intro n'
  induction n' with
  | zero => exact fun _ _ _ _ _ _ _ _ _ h => (rs_n h).elim
  | succ n' ih =>
    intro M v1 H locs ls hl hP hD hS h
    rw [q_ChipMap_check_18] at h
    refine lv_iload_n hx hb dX0_check_18 rfl (lv_at hl 1 rfl) ?_
    refine lv_sipush (v := 1000) hx hb dX0_check_19 (by decide) ?_
    refine lv_icmp_ge hx hb dX0_check_22 (tgt := 63) rfl (fun hc => ?_) (fun hc => ?_)
    · have h := br_T hc h
      have hl := lv_sub hl [0] (l' := [(0, .ref (P 0))]) rfl
      exact b_ChipMap_check_63 hx hb hml hr hlk hgt hown hK hO hAO M H _ ls hl hP hD hS h
    · have h := br_F hc h
      refine lv_iload_n hx hb dX0_check_25 rfl (lv_at hl 1 rfl) ?_
      refine lv_aload_n hx hb dX0_check_26 rfl (lv_at hl 0 rfl) ?_
      refine va_get (D := D) (ci := 0) (v := .ref (P 73)) (C := RX0) (T := TX0) (N := 9) hx hb hgt iwX0 hown hK hP 0 gX_0 rfl 8 (Nat.le_of_ble_eq_true rfl) (hgt _ wd_2_25) (fun _ h9 => h9) rfl dX0_check_27 ?_
      refine va_get (D := D) (ci := 2) (v := .int (M.1 73 6)) (C := RX2) (T := TX2) (N := 10) hx hb hgt iwX2 hown hK hP 73 gX_73 rfl 6 (Nat.le_of_ble_eq_true rfl) (hgt _ wd_1_228) (fun _ h9 => h9) rfl dX0_check_30 ?_
      refine lv_icmp_ge hx hb dX0_check_33 (tgt := 63) rfl (fun hc => ?_) (fun hc => ?_)
      · have h := br_T hc h
        have hl := lv_sub hl [0] (l' := [(0, .ref (P 0))]) rfl
        exact b_ChipMap_check_63 hx hb hml hr hlk hgt hown hK hO hAO M H _ ls hl hP hD hS h
      · have h := br_F hc h
        refine lv_aload_n hx hb dX0_check_36 rfl (lv_at hl 0 rfl) ?_
        refine va_get (D := D) (ci := 0) (v := .ref (P 73)) (C := RX0) (T := TX0) (N := 9) hx hb hgt iwX0 hown hK hP 0 gX_0 rfl 8 (Nat.le_of_ble_eq_true rfl) (hgt _ wd_2_25) (fun _ h9 => h9) rfl dX0_check_37 ?_
        refine va_get (D := D) (ci := 2) (v := .int (M.1 73 7)) (C := RX2) (T := TX2) (N := 10) hx hb hgt iwX2 hown hK hP 73 gX_73 rfl 7 (Nat.le_of_ble_eq_true rfl) (hgt _ wd_1_230) (fun _ h9 => h9) rfl dX0_check_40 ?_
        refine lv_if_eq hx hb dX0_check_43 (tgt := 49) rfl (fun hc => ?_) (fun hc => ?_)
        · have h := br_T hc h
          refine lv_aload_n hx hb dX0_check_49 rfl (lv_at hl 0 rfl) ?_
          refine va_get (D := D) (ci := 0) (v := .ref (P 73)) (C := RX0) (T := TX0) (N := 9) hx hb hgt iwX0 hown hK hP 0 gX_0 rfl 8 (Nat.le_of_ble_eq_true rfl) (hgt _ wd_2_25) (fun _ h9 => h9) rfl dX0_check_50 ?_
          refine lv_iload_n hx hb dX0_check_53 rfl (lv_at hl 1 rfl) ?_
          obtain ⟨M1, r2, hq, h⟩ := cal_o h
          refine cx_v (va_runV (As := [.int v1]) (rest := []) ⟨hx, hb, hml, hown, hgt⟩ (z_Checker_visit l D cI cZ cC cJ cA P s0 hAO M v1 M1 r2 hq) (cwV 1 hgt (gV wd_3_82 wd_3_83 wd_3_84 wd_0_14 wd_3_85) rfl rfl rfl (by decide +kernel) ⟨Nat.le_of_ble_eq_true rfl, Nat.le_of_ble_eq_true rfl⟩) (prV hP hK hD hO hAO hS (va_recv hK hP (ci := 2) (q0 := 73) rfl gX_73)) rfl rfl hl.1 rfl (lv_room (Nat.le_of_ble_eq_true rfl)) dX0_check_54 ⟨Nat.le_of_ble_eq_true rfl, Nat.le_of_ble_eq_true rfl⟩) hS (fun H locs hP hD hS => ?_)
          refine lv_iinc (v := (v1 + 1)) hx hb dX0_check_57 hl (k := 1) rfl rfl (Nat.le_of_ble_eq_true rfl) (lv' := [(1, .int (v1 + 1)), (0, .ref (P 0))]) rfl (fun ls hl => ?_)
          refine lv_goto hx hb dX0_check_60 (tgt := 18) rfl ?_
          have hl := lv_sub hl [1, 0] (l' := [(0, .ref (P 0)), (1, .int (v1 + 1))]) rfl
          exact ih M1 (v1 + 1) H locs ls hl hP hD hS h
        · have h := br_F hc h
          refine lv_goto hx hb dX0_check_46 (tgt := 63) rfl ?_
          have hl := lv_sub hl [0] (l' := [(0, .ref (P 0))]) rfl
          exact b_ChipMap_check_63 hx hb hml hr hlk hgt hown hK hO hAO M H _ ls hl hP hD hS h
set_option maxHeartbeats 4000000 in
set_option maxRecDepth 20000 in
theorem b_ChipMap_check_0 {p : Program} {l : Launch} {e : Env} {s s0 : State} {m : MethodId} {args : Array Value} {below : List Frame} {meth : Method} {c : Code} {D : va_G} {cI cZ cC cJ cA : ClassId} {P : Nat → Nat} {M' : Mm} {r' : Int32}  (hx : p.tables.exec = Jvm.exec) (hb : c.code = cX0_check) (hml : c.maxLocals = 2) (hr : meth.sig.returnType = (some .int)) (hlk : meth.locks = false) (hgt : ∀ w ∈ GT, w.before args s = true) (hown : s.vm.findClass RX0 = some m.cls) (hK : va_K D vwCl [(cI, .int), (cZ, .boolean), (cC, .char), (cJ, .long), (cA, .array .int)] s) (hO : Old s0 s) (hAO : ∀ q, (aP P 77) q → s0.heap.size ≤ q)  : ∀ (M : Mm)  (H : Heap) (locs : List Loc) (ls : Array Slot), lv_has ls 2 [(0, .ref (P 0))] → va_P D vwCl ((wX cI cZ cC cJ cA P) M) H → va_D (aP P 77) ((wX cI cZ cC cJ cA P) M) → va_S (aP P 77) s.heap H locs → q_ChipMap_check M = some (M', r') → W p l e ({ frames := 6, cells := 0, slots := 0, locals := 143 }) s m args below meth c H locs 0 0 (MQ below (gQi D (aP P 77) ((wX cI cZ cC cJ cA P) M') r') args s 0 0 (aP P 77)) (F0 m 0 ls []) := by
  intro M H locs ls hl hP hD hS h
  unfold q_ChipMap_check at h
  refine lv_aload_n hx hb dX0_check_0 rfl (lv_at hl 0 rfl) ?_
  obtain ⟨M1, r2, hq, h⟩ := cal_o h
  refine cx_i (va_runV (As := []) (rest := []) ⟨hx, hb, hml, hown, hgt⟩ (z_ChipMap_hasMap l D cI cZ cC cJ cA P s0 hAO M M1 r2 hq) (cwV 0 hgt (gV wd_2_81 wd_2_83 sl__ChipMap____ChipMap___hasMap_____Z_____ChipMap___hasMap_____Z__ wd_0_1 wd_2_84) rfl rfl rfl (by decide +kernel) ⟨Nat.le_of_ble_eq_true rfl, Nat.le_of_ble_eq_true rfl⟩) (prV hP hK hD hO hAO hS (va_recv hK hP (ci := 0) (q0 := 0) rfl gX_0)) rfl rfl hl.1 rfl (lv_room (Nat.le_of_ble_eq_true rfl)) dX0_check_1 ⟨Nat.le_of_ble_eq_true rfl, Nat.le_of_ble_eq_true rfl⟩) hS (fun H locs hP hD hS => ?_)
  refine lv_if_ne hx hb dX0_check_4 (tgt := 9) rfl (fun hc => ?_) (fun hc => ?_)
  · have h := br_F hc h
    refine lv_aload_n hx hb dX0_check_9 rfl (lv_at hl 0 rfl) ?_
    refine va_get (D := D) (ci := 0) (v := .ref (P 73)) (C := RX0) (T := TX0) (N := 9) hx hb hgt iwX0 hown hK hP 0 gX_0 rfl 8 (Nat.le_of_ble_eq_true rfl) (hgt _ wd_2_25) (fun _ h9 => h9) rfl dX0_check_10 ?_
    obtain ⟨M3, r4, hq, h⟩ := cal_o h
    refine cx_v (va_runV (As := []) (rest := []) ⟨hx, hb, hml, hown, hgt⟩ (z_Checker_begin l D cI cZ cC cJ cA P s0 hAO M1 M3 r4 hq) (cwV 0 hgt (gV wd_3_48 wd_3_49 wd_3_50 wd_0_14 wd_3_51) rfl rfl rfl (by decide +kernel) ⟨Nat.le_of_ble_eq_true rfl, Nat.le_of_ble_eq_true rfl⟩) (prV hP hK hD hO hAO hS (va_recv hK hP (ci := 2) (q0 := 73) rfl gX_73)) rfl rfl hl.1 rfl (lv_room (Nat.le_of_ble_eq_true rfl)) dX0_check_13 ⟨Nat.le_of_ble_eq_true rfl, Nat.le_of_ble_eq_true rfl⟩) hS (fun H locs hP hD hS => ?_)
    refine lv_iconst (v := 0) hx hb dX0_check_16 (by decide) ?_
    refine lv_istore_n hx hb dX0_check_17 rfl hl (Nat.le_of_ble_eq_true rfl) (lv' := [(1, .int 0), (0, .ref (P 0))]) rfl (fun ls hl => ?_)
    have hl := lv_sub hl [1, 0] (l' := [(0, .ref (P 0)), (1, .int 0)]) rfl
    exact b_ChipMap_check_18 hx hb hml hr hlk hgt hown hK hO hAO 4000 M3 0 H _ ls hl hP hD hS h
  · have h := br_T hc h
    refine lv_iconst (v := (-1)) hx hb dX0_check_7 (by decide) ?_
    exact rt_i (w := (wX cI cZ cC cJ cA P)) hx hb hr hlk hP hD hS h dX0_check_8
set_option maxHeartbeats 4000000 in
set_option maxRecDepth 20000 in
theorem z_ChipMap_check (l : Launch) (D : va_G) (cI cZ cC cJ cA : ClassId) (P : Nat → Nat) (s0 : State) (hAO : ∀ q, (aP P 77) q → s0.heap.size ≤ q) (M : Mm)  (M' : Mm) (r' : Int32) (h : q_ChipMap_check M = some (M', r')) : Met l yX0_check wsX0_check ({ frames := 6, cells := 0, slots := 0, locals := 143 }) (va_Pc [.ref (P 0)] (gPre s0 D [(cI, .int), (cZ, .boolean), (cC, .char), (cJ, .long), (cA, .array .int)] (aP P 77) ((wX cI cZ cC cJ cA P) M))) (gQi D (aP P 77) ((wX cI cZ cC cJ cA P) M') r') 0 0 (aP P 77) := by
  refine Met.ofW (cc := cX0_check) (maxL := 2) (ret := (some .int)) (by decide) rfl ?_
  intro p e s m args below meth c s₁ B hml hv
  obtain ⟨rfl, hP, hK, hD, hO⟩ := hv
  have hx := B.exec
  have hb := B.bytes
  have hr := B.returns
  have hlk := B.notSynchronized
  have hgt := fun w (h : w ∈ GT) => atoms_spec (ws := wsX0_check) B.pre w (List.mem_cons_of_mem _ h)
  have hown : s.vm.findClass RX0 = some m.cls := findClass_of_methodNamed B.named
  have hS : va_S (aP P 77) s.heap s.heap [] := va_S.rf
  have hl := lv_entry ([.ref (P 0)]) (n := 2) (Nat.le_of_ble_eq_true rfl)
  rw [lg_entry_eq]
  generalize (lg_sl ([.ref (P 0)]) ++ List.replicate (2 - (lg_sl ([.ref (P 0)])).length) Slot.unset).toArray = ls at hl ⊢
  have hl : lv_has ls 2 [(0, .ref (P 0))] := hl
  exact b_ChipMap_check_0 hx hb hml hr hlk hgt hown hK hO hAO M s.heap [] ls hl hP hD hS h
def q_ChipMap_found  (M : Mm) (a1 : Int32) : Rs := if a1 = 0 then (some (M, (M.1 73 6))) else if a1 = 1 then (if (M.1 73 7) = 0 then (some (M, (M.1 73 9))) else (some (M, 0))) else (some (M, (-1)))
set_option maxHeartbeats 4000000 in
set_option maxRecDepth 20000 in
theorem b_ChipMap_found_0 {p : Program} {l : Launch} {e : Env} {s s0 : State} {m : MethodId} {args : Array Value} {below : List Frame} {meth : Method} {c : Code} {D : va_G} {cI cZ cC cJ cA : ClassId} {P : Nat → Nat} {M' : Mm} {r' : Int32}  (hx : p.tables.exec = Jvm.exec) (hb : c.code = cX0_found) (hml : c.maxLocals = 2) (hr : meth.sig.returnType = (some .int)) (hlk : meth.locks = false) (hgt : ∀ w ∈ GT, w.before args s = true) (hown : s.vm.findClass RX0 = some m.cls) (hK : va_K D vwCl [(cI, .int), (cZ, .boolean), (cC, .char), (cJ, .long), (cA, .array .int)] s) (hO : Old s0 s) (hAO : ∀ q, (aP P 77) q → s0.heap.size ≤ q)  : ∀ (M : Mm) (a1 : Int32) (H : Heap) (locs : List Loc) (ls : Array Slot), lv_has ls 2 [(0, .ref (P 0)), (1, .int a1)] → va_P D vwCl ((wX cI cZ cC cJ cA P) M) H → va_D (aP P 77) ((wX cI cZ cC cJ cA P) M) → va_S (aP P 77) s.heap H locs → q_ChipMap_found M a1 = some (M', r') → W p l e ({ frames := 0, cells := 0, slots := 0, locals := 0 }) s m args below meth c H locs 0 0 (MQ below (gQi D (aP P 77) ((wX cI cZ cC cJ cA P) M') r') args s 0 0 (aP P 77)) (F0 m 0 ls []) := by
  intro M a1 H locs ls hl hP hD hS h
  unfold q_ChipMap_found at h
  refine lv_iload_n hx hb dX0_found_0 rfl (lv_at hl 1 rfl) ?_
  by_cases k_1_0 : a1 = 0
  · have h := br_T k_1_0 h
    refine lv_lookup hx hb dX0_found_1 (off := 27) (tgt := 28) (by decide) (by rw [k_1_0]; decide) (by decide) ?_
    refine lv_aload_n hx hb dX0_found_28 rfl (lv_at hl 0 rfl) ?_
    refine va_get (D := D) (ci := 0) (v := .ref (P 73)) (C := RX0) (T := TX0) (N := 9) hx hb hgt iwX0 hown hK hP 0 gX_0 rfl 8 (Nat.le_of_ble_eq_true rfl) (hgt _ wd_2_25) (fun _ h9 => h9) rfl dX0_found_29 ?_
    refine va_get (D := D) (ci := 2) (v := .int (M.1 73 6)) (C := RX2) (T := TX2) (N := 10) hx hb hgt iwX2 hown hK hP 73 gX_73 rfl 6 (Nat.le_of_ble_eq_true rfl) (hgt _ wd_1_228) (fun _ h9 => h9) rfl dX0_found_32 ?_
    exact rt_i (w := (wX cI cZ cC cJ cA P)) hx hb hr hlk hP hD hS h dX0_found_35
  have h := br_F k_1_0 h
  by_cases k_1_1 : a1 = 1
  · have h := br_T k_1_1 h
    refine lv_lookup hx hb dX0_found_1 (off := 35) (tgt := 36) (by decide) (by rw [k_1_1]; decide) (by decide) ?_
    refine lv_aload_n hx hb dX0_found_36 rfl (lv_at hl 0 rfl) ?_
    refine va_get (D := D) (ci := 0) (v := .ref (P 73)) (C := RX0) (T := TX0) (N := 9) hx hb hgt iwX0 hown hK hP 0 gX_0 rfl 8 (Nat.le_of_ble_eq_true rfl) (hgt _ wd_2_25) (fun _ h9 => h9) rfl dX0_found_37 ?_
    refine va_get (D := D) (ci := 2) (v := .int (M.1 73 7)) (C := RX2) (T := TX2) (N := 10) hx hb hgt iwX2 hown hK hP 73 gX_73 rfl 7 (Nat.le_of_ble_eq_true rfl) (hgt _ wd_1_230) (fun _ h9 => h9) rfl dX0_found_40 ?_
    refine lv_if_eq hx hb dX0_found_43 (tgt := 50) rfl (fun hc => ?_) (fun hc => ?_)
    · have h := br_T hc h
      refine lv_aload_n hx hb dX0_found_50 rfl (lv_at hl 0 rfl) ?_
      refine va_get (D := D) (ci := 0) (v := .ref (P 73)) (C := RX0) (T := TX0) (N := 9) hx hb hgt iwX0 hown hK hP 0 gX_0 rfl 8 (Nat.le_of_ble_eq_true rfl) (hgt _ wd_2_25) (fun _ h9 => h9) rfl dX0_found_51 ?_
      refine va_get (D := D) (ci := 2) (v := .int (M.1 73 9)) (C := RX2) (T := TX2) (N := 10) hx hb hgt iwX2 hown hK hP 73 gX_73 rfl 9 (Nat.le_of_ble_eq_true rfl) (hgt _ wd_1_234) (fun _ h9 => h9) rfl dX0_found_54 ?_
      exact rt_i (w := (wX cI cZ cC cJ cA P)) hx hb hr hlk hP hD hS h dX0_found_57
    · have h := br_F hc h
      refine lv_iconst (v := 0) hx hb dX0_found_46 (by decide) ?_
      refine lv_goto hx hb dX0_found_47 (tgt := 57) rfl ?_
      exact rt_i (w := (wX cI cZ cC cJ cA P)) hx hb hr hlk hP hD hS h dX0_found_57
  have h := br_F k_1_1 h
  refine lv_lookup hx hb dX0_found_1 (off := 57) (tgt := 58) (by decide) (by rw [lookupswitch.offset_cons, if_neg (tne (by decide) k_1_0), lookupswitch.offset_cons, if_neg (tne (by decide) k_1_1), lookupswitch.offset_nil]) (by decide) ?_
  refine lv_iconst (v := (-1)) hx hb dX0_found_58 (by decide) ?_
  exact rt_i (w := (wX cI cZ cC cJ cA P)) hx hb hr hlk hP hD hS h dX0_found_59
set_option maxHeartbeats 4000000 in
set_option maxRecDepth 20000 in
theorem z_ChipMap_found (l : Launch) (D : va_G) (cI cZ cC cJ cA : ClassId) (P : Nat → Nat) (s0 : State) (hAO : ∀ q, (aP P 77) q → s0.heap.size ≤ q) (M : Mm) (a1 : Int32) (M' : Mm) (r' : Int32) (h : q_ChipMap_found M a1 = some (M', r')) : Met l yX0_found wsX0_found ({ frames := 0, cells := 0, slots := 0, locals := 0 }) (va_Pc [.ref (P 0), .int a1] (gPre s0 D [(cI, .int), (cZ, .boolean), (cC, .char), (cJ, .long), (cA, .array .int)] (aP P 77) ((wX cI cZ cC cJ cA P) M))) (gQi D (aP P 77) ((wX cI cZ cC cJ cA P) M') r') 0 0 (aP P 77) := by
  refine Met.ofW (cc := cX0_found) (maxL := 2) (ret := (some .int)) (by decide) rfl ?_
  intro p e s m args below meth c s₁ B hml hv
  obtain ⟨rfl, hP, hK, hD, hO⟩ := hv
  have hx := B.exec
  have hb := B.bytes
  have hr := B.returns
  have hlk := B.notSynchronized
  have hgt := fun w (h : w ∈ GT) => atoms_spec (ws := wsX0_found) B.pre w (List.mem_cons_of_mem _ h)
  have hown : s.vm.findClass RX0 = some m.cls := findClass_of_methodNamed B.named
  have hS : va_S (aP P 77) s.heap s.heap [] := va_S.rf
  have hl := lv_entry ([.ref (P 0), .int a1]) (n := 2) (Nat.le_of_ble_eq_true rfl)
  rw [lg_entry_eq]
  generalize (lg_sl ([.ref (P 0), .int a1]) ++ List.replicate (2 - (lg_sl ([.ref (P 0), .int a1])).length) Slot.unset).toArray = ls at hl ⊢
  have hl : lv_has ls 2 [(0, .ref (P 0)), (1, .int a1)] := hl
  exact b_ChipMap_found_0 hx hb hml hr hlk hgt hown hK hO hAO M a1 s.heap [] ls hl hP hD hS h
def q_ChipMap_doStep  (M : Mm) (a1 : Int32) : Rs := ix a1 40 <| lt' (M.1 71 (a1 : Int32).toNatClampNeg) fun x1 => ix a1 40 <| if (M.1 70 (a1 : Int32).toNatClampNeg) = 1 then (cal (q_ChipMap_reachForFetch M x1) fun M2 r3 => if r3 = 0 then (some (M2, 0)) else (cal (q_ChipMap_readOut M2 x1) fun M4 r5 => some (M4, 1))) else (cal (q_Plan_begin M) fun M2 r3 => ix a1 40 <| cal (q_Plan_addPut M2 x1 (M2.1 72 (a1 : Int32).toNatClampNeg)) fun M4 r5 => cal (q_ChipMap_doWrites M4) fun M6 r7 => if r7 = (-2) then (some (M6, 0)) else (some (M6, 1)))
set_option maxHeartbeats 4000000 in
set_option maxRecDepth 20000 in
theorem b_ChipMap_doStep_0 {p : Program} {l : Launch} {e : Env} {s s0 : State} {m : MethodId} {args : Array Value} {below : List Frame} {meth : Method} {c : Code} {D : va_G} {cI cZ cC cJ cA : ClassId} {P : Nat → Nat} {M' : Mm} {r' : Int32}  (hx : p.tables.exec = Jvm.exec) (hb : c.code = cX0_doStep) (hml : c.maxLocals = 3) (hr : meth.sig.returnType = (some .boolean)) (hlk : meth.locks = false) (hgt : ∀ w ∈ GT, w.before args s = true) (hown : s.vm.findClass RX0 = some m.cls) (hK : va_K D vwCl [(cI, .int), (cZ, .boolean), (cC, .char), (cJ, .long), (cA, .array .int)] s) (hO : Old s0 s) (hAO : ∀ q, (aP P 77) q → s0.heap.size ≤ q)  : ∀ (M : Mm) (a1 : Int32) (H : Heap) (locs : List Loc) (ls : Array Slot), lv_has ls 3 [(0, .ref (P 0)), (1, .int a1)] → va_P D vwCl ((wX cI cZ cC cJ cA P) M) H → va_D (aP P 77) ((wX cI cZ cC cJ cA P) M) → va_S (aP P 77) s.heap H locs → q_ChipMap_doStep M a1 = some (M', r') → W p l e ({ frames := 6, cells := 0, slots := 0, locals := 139 }) s m args below meth c H locs 0 0 (MQ below (gQi D (aP P 77) ((wX cI cZ cC cJ cA P) M') r') args s 0 0 (aP P 77)) (F0 m 0 ls []) := by
  intro M a1 H locs ls hl hP hD hS h
  unfold q_ChipMap_doStep at h
  refine lv_aload_n hx hb dX0_doStep_0 rfl (lv_at hl 0 rfl) ?_
  refine va_get (D := D) (ci := 0) (v := .ref (P 69)) (C := RX0) (T := TX0) (N := 9) hx hb hgt iwX0 hown hK hP 0 gX_0 rfl 7 (Nat.le_of_ble_eq_true rfl) (hgt _ wd_2_24) (fun _ h9 => h9) rfl dX0_doStep_1 ?_
  refine va_get (D := D) (ci := 12) (v := .ref (P 71)) (C := RX12) (T := TX12) (N := 4) hx hb hgt iwX12 hown hK hP 69 gX_69 rfl 2 (Nat.le_of_ble_eq_true rfl) (hgt _ wd_1_201) (fun _ h9 => h9) rfl dX0_doStep_4 ?_
  refine lv_iload_n hx hb dX0_doStep_7 rfl (lv_at hl 1 rfl) ?_
  refine va_iald hx hb hK hP 71 0 gX_71 rfl (ix_l h) dX0_doStep_8 ?_
  have h := ix_r h
  refine lv_topi (fun x1 ex1 => ?_)
  have h := lt_o ex1 h
  refine lv_istore_n hx hb dX0_doStep_9 rfl hl (Nat.le_of_ble_eq_true rfl) (lv' := [(2, .int x1), (0, .ref (P 0)), (1, .int a1)]) rfl (fun ls hl => ?_)
  refine lv_aload_n hx hb dX0_doStep_10 rfl (lv_at hl 1 rfl) ?_
  refine va_get (D := D) (ci := 0) (v := .ref (P 69)) (C := RX0) (T := TX0) (N := 9) hx hb hgt iwX0 hown hK hP 0 gX_0 rfl 7 (Nat.le_of_ble_eq_true rfl) (hgt _ wd_2_24) (fun _ h9 => h9) rfl dX0_doStep_11 ?_
  refine va_get (D := D) (ci := 12) (v := .ref (P 70)) (C := RX12) (T := TX12) (N := 4) hx hb hgt iwX12 hown hK hP 69 gX_69 rfl 1 (Nat.le_of_ble_eq_true rfl) (hgt _ wd_1_197) (fun _ h9 => h9) rfl dX0_doStep_14 ?_
  refine lv_iload_n hx hb dX0_doStep_17 rfl (lv_at hl 2 rfl) ?_
  refine va_iald hx hb hK hP 70 0 gX_70 rfl (ix_l h) dX0_doStep_18 ?_
  have h := ix_r h
  refine lv_iconst (v := 1) hx hb dX0_doStep_19 (by decide) ?_
  refine lv_icmp_ne hx hb dX0_doStep_20 (tgt := 41) rfl (fun hc => ?_) (fun hc => ?_)
  · have h := br_F hc h
    refine lv_aload_n hx hb dX0_doStep_41 rfl (lv_at hl 1 rfl) ?_
    refine va_get (D := D) (ci := 0) (v := .ref (P 60)) (C := RX0) (T := TX0) (N := 9) hx hb hgt iwX0 hown hK hP 0 gX_0 rfl 5 (Nat.le_of_ble_eq_true rfl) (hgt _ wd_2_22) (fun _ h9 => h9) rfl dX0_doStep_42 ?_
    refine lv_aload_n hx hb dX0_doStep_45 rfl (lv_at hl 1 rfl) ?_
    refine va_get (D := D) (ci := 0) (v := .ref (P 50)) (C := RX0) (T := TX0) (N := 9) hx hb hgt iwX0 hown hK hP 0 gX_0 rfl 4 (Nat.le_of_ble_eq_true rfl) (hgt _ wd_2_21) (fun _ h9 => h9) rfl dX0_doStep_46 ?_
    refine va_get (D := D) (ci := 3) (v := .ref (P 51)) (C := RX3) (T := TX3) (N := 7) hx hb hgt iwX3 hown hK hP 50 gX_50 rfl 1 (Nat.le_of_ble_eq_true rfl) (hgt _ wd_1_128) (fun _ h9 => h9) rfl dX0_doStep_49 ?_
    obtain ⟨M2, r3, hq, h⟩ := cal_o h
    refine cx_v (va_runV (As := [.ref (P 51)]) (rest := []) ⟨hx, hb, hml, hown, hgt⟩ (z_Plan_begin l D cI cZ cC cJ cA P s0 hAO M M2 r3 hq) (cwV 1 hgt (gV wd_2_184 wd_2_185 wd_2_186 wd_0_12 wd_2_187) rfl rfl rfl (by decide +kernel) ⟨Nat.le_of_ble_eq_true rfl, Nat.le_of_ble_eq_true rfl⟩) (prV hP hK hD hO hAO hS (va_recv hK hP (ci := 9) (q0 := 60) rfl gX_60)) rfl rfl hl.1 rfl (lv_room (Nat.le_of_ble_eq_true rfl)) dX0_doStep_52 ⟨Nat.le_of_ble_eq_true rfl, Nat.le_of_ble_eq_true rfl⟩) hS (fun H locs hP hD hS => ?_)
    refine lv_aload_n hx hb dX0_doStep_55 rfl (lv_at hl 1 rfl) ?_
    refine va_get (D := D) (ci := 0) (v := .ref (P 60)) (C := RX0) (T := TX0) (N := 9) hx hb hgt iwX0 hown hK hP 0 gX_0 rfl 5 (Nat.le_of_ble_eq_true rfl) (hgt _ wd_2_22) (fun _ h9 => h9) rfl dX0_doStep_56 ?_
    refine lv_iload_n hx hb dX0_doStep_59 rfl (lv_at hl 0 rfl) ?_
    refine lv_aload_n hx hb dX0_doStep_60 rfl (lv_at hl 1 rfl) ?_
    refine va_get (D := D) (ci := 0) (v := .ref (P 69)) (C := RX0) (T := TX0) (N := 9) hx hb hgt iwX0 hown hK hP 0 gX_0 rfl 7 (Nat.le_of_ble_eq_true rfl) (hgt _ wd_2_24) (fun _ h9 => h9) rfl dX0_doStep_61 ?_
    refine va_get (D := D) (ci := 12) (v := .ref (P 72)) (C := RX12) (T := TX12) (N := 4) hx hb hgt iwX12 hown hK hP 69 gX_69 rfl 3 (Nat.le_of_ble_eq_true rfl) (hgt _ wd_1_205) (fun _ h9 => h9) rfl dX0_doStep_64 ?_
    refine lv_iload_n hx hb dX0_doStep_67 rfl (lv_at hl 2 rfl) ?_
    refine va_iald hx hb hK hP 72 0 gX_72 rfl (ix_l h) dX0_doStep_68 ?_
    have h := ix_r h
    obtain ⟨M4, r5, hq, h⟩ := cal_o h
    refine cx_v (va_runV (As := [.int x1, .int (M2.1 72 (a1 : Int32).toNatClampNeg)]) (rest := []) ⟨hx, hb, hml, hown, hgt⟩ (z_Plan_addPut l D cI cZ cC cJ cA P s0 hAO M2 x1 (M2.1 72 (a1 : Int32).toNatClampNeg) M4 r5 hq) (cwV 2 hgt (gV wd_2_199 wd_2_200 wd_2_201 wd_0_12 wd_2_202) rfl rfl rfl (by decide +kernel) ⟨Nat.le_of_ble_eq_true rfl, Nat.le_of_ble_eq_true rfl⟩) (prV hP hK hD hO hAO hS (va_recv hK hP (ci := 9) (q0 := 60) rfl gX_60)) rfl rfl hl.1 rfl (lv_room (Nat.le_of_ble_eq_true rfl)) dX0_doStep_69 ⟨Nat.le_of_ble_eq_true rfl, Nat.le_of_ble_eq_true rfl⟩) hS (fun H locs hP hD hS => ?_)
    refine lv_aload_n hx hb dX0_doStep_72 rfl (lv_at hl 1 rfl) ?_
    obtain ⟨M6, r7, hq, h⟩ := cal_o h
    refine cx_i (va_runV (As := []) (rest := []) ⟨hx, hb, hml, hown, hgt⟩ (z_ChipMap_doWrites l D cI cZ cC cJ cA P s0 hAO M4 M6 r7 hq) (cwV 0 hgt (gV wd_2_220 wd_2_222 sl__ChipMap____ChipMap___doWrites_____I_____ChipMap___doWrites_____I__ wd_0_1 wd_2_223) rfl rfl rfl (by decide +kernel) ⟨Nat.le_of_ble_eq_true rfl, Nat.le_of_ble_eq_true rfl⟩) (prV hP hK hD hO hAO hS (va_recv hK hP (ci := 0) (q0 := 0) rfl gX_0)) rfl rfl hl.1 rfl (lv_room (Nat.le_of_ble_eq_true rfl)) dX0_doStep_73 ⟨Nat.le_of_ble_eq_true rfl, Nat.le_of_ble_eq_true rfl⟩) hS (fun H locs hP hD hS => ?_)
    refine lv_bipush (v := (-2)) hx hb dX0_doStep_76 (by decide) ?_
    refine lv_icmp_eq hx hb dX0_doStep_78 (tgt := 85) rfl (fun hc => ?_) (fun hc => ?_)
    · have h := br_T hc h
      refine lv_iconst (v := 0) hx hb dX0_doStep_85 (by decide) ?_
      exact rt_z (w := (wX cI cZ cC cJ cA P)) hx hb hr hlk rfl hP hD hS h dX0_doStep_86
    · have h := br_F hc h
      refine lv_iconst (v := 1) hx hb dX0_doStep_81 (by decide) ?_
      refine lv_goto hx hb dX0_doStep_82 (tgt := 86) rfl ?_
      exact rt_z (w := (wX cI cZ cC cJ cA P)) hx hb hr hlk rfl hP hD hS h dX0_doStep_86
  · have h := br_T hc h
    refine lv_aload_n hx hb dX0_doStep_23 rfl (lv_at hl 1 rfl) ?_
    refine lv_iload_n hx hb dX0_doStep_24 rfl (lv_at hl 0 rfl) ?_
    obtain ⟨M2, r3, hq, h⟩ := cal_o h
    refine cx_i (va_runV (As := [.int x1]) (rest := []) ⟨hx, hb, hml, hown, hgt⟩ (z_ChipMap_reachForFetch l D cI cZ cC cJ cA P s0 hAO M x1 M2 r3 hq) (cwV 1 hgt (gV wd_3_113 wd_3_115 sl__ChipMap____ChipMap___reachForFetch____I_Z_____ChipMap___reachForFetch____I_Z__ wd_0_1 wd_3_116) rfl rfl rfl (by decide +kernel) ⟨Nat.le_of_ble_eq_true rfl, Nat.le_of_ble_eq_true rfl⟩) (prV hP hK hD hO hAO hS (va_recv hK hP (ci := 0) (q0 := 0) rfl gX_0)) rfl rfl hl.1 rfl (lv_room (Nat.le_of_ble_eq_true rfl)) dX0_doStep_25 ⟨Nat.le_of_ble_eq_true rfl, Nat.le_of_ble_eq_true rfl⟩) hS (fun H locs hP hD hS => ?_)
    refine lv_if_ne hx hb dX0_doStep_28 (tgt := 33) rfl (fun hc => ?_) (fun hc => ?_)
    · have h := br_F hc h
      refine lv_aload_n hx hb dX0_doStep_33 rfl (lv_at hl 1 rfl) ?_
      refine lv_iload_n hx hb dX0_doStep_34 rfl (lv_at hl 0 rfl) ?_
      obtain ⟨M4, r5, hq, h⟩ := cal_o h
      refine cx_i (va_runV (As := [.int x1]) (rest := []) ⟨hx, hb, hml, hown, hgt⟩ (z_ChipMap_readOut l D cI cZ cC cJ cA P s0 hAO M2 x1 M4 r5 hq) (cwV 1 hgt (gV wd_3_118 wd_3_120 sl__ChipMap____ChipMap___readOut____I_I_____ChipMap___readOut____I_I__ wd_0_1 wd_3_121) rfl rfl rfl (by decide +kernel) ⟨Nat.le_of_ble_eq_true rfl, Nat.le_of_ble_eq_true rfl⟩) (prV hP hK hD hO hAO hS (va_recv hK hP (ci := 0) (q0 := 0) rfl gX_0)) rfl rfl hl.1 rfl (lv_room (Nat.le_of_ble_eq_true rfl)) dX0_doStep_35 ⟨Nat.le_of_ble_eq_true rfl, Nat.le_of_ble_eq_true rfl⟩) hS (fun H locs hP hD hS => ?_)
      refine lv_pop hx hb dX0_doStep_38 rfl ?_
      refine lv_iconst (v := 1) hx hb dX0_doStep_39 (by decide) ?_
      exact rt_z (w := (wX cI cZ cC cJ cA P)) hx hb hr hlk rfl hP hD hS h dX0_doStep_40
    · have h := br_T hc h
      refine lv_iconst (v := 0) hx hb dX0_doStep_31 (by decide) ?_
      exact rt_z (w := (wX cI cZ cC cJ cA P)) hx hb hr hlk rfl hP hD hS h dX0_doStep_32
set_option maxHeartbeats 4000000 in
set_option maxRecDepth 20000 in
theorem z_ChipMap_doStep (l : Launch) (D : va_G) (cI cZ cC cJ cA : ClassId) (P : Nat → Nat) (s0 : State) (hAO : ∀ q, (aP P 77) q → s0.heap.size ≤ q) (M : Mm) (a1 : Int32) (M' : Mm) (r' : Int32) (h : q_ChipMap_doStep M a1 = some (M', r')) : Met l yX0_doStep wsX0_doStep ({ frames := 6, cells := 0, slots := 0, locals := 139 }) (va_Pc [.ref (P 0), .int a1] (gPre s0 D [(cI, .int), (cZ, .boolean), (cC, .char), (cJ, .long), (cA, .array .int)] (aP P 77) ((wX cI cZ cC cJ cA P) M))) (gQi D (aP P 77) ((wX cI cZ cC cJ cA P) M') r') 0 0 (aP P 77) := by
  refine Met.ofW (cc := cX0_doStep) (maxL := 3) (ret := (some .boolean)) (by decide) rfl ?_
  intro p e s m args below meth c s₁ B hml hv
  obtain ⟨rfl, hP, hK, hD, hO⟩ := hv
  have hx := B.exec
  have hb := B.bytes
  have hr := B.returns
  have hlk := B.notSynchronized
  have hgt := fun w (h : w ∈ GT) => atoms_spec (ws := wsX0_doStep) B.pre w (List.mem_cons_of_mem _ h)
  have hown : s.vm.findClass RX0 = some m.cls := findClass_of_methodNamed B.named
  have hS : va_S (aP P 77) s.heap s.heap [] := va_S.rf
  have hl := lv_entry ([.ref (P 0), .int a1]) (n := 3) (Nat.le_of_ble_eq_true rfl)
  rw [lg_entry_eq]
  generalize (lg_sl ([.ref (P 0), .int a1]) ++ List.replicate (3 - (lg_sl ([.ref (P 0), .int a1])).length) Slot.unset).toArray = ls at hl ⊢
  have hl : lv_has ls 3 [(0, .ref (P 0)), (1, .int a1)] := hl
  exact b_ChipMap_doStep_0 hx hb hml hr hlk hgt hown hK hO hAO M a1 s.heap [] ls hl hP hD hS h
def q_ChipMap_run_137 (kf26 : Mm → Int32 → Int32 → Int32 → Int32 → Rs) (M : Mm) (v1 : Int32) (v2 : Int32) (v3 : Int32) (v4 : Int32) : Rs := kf26 M v1 v2 v3 (v4 + 1)
def q_ChipMap_run_115 (kf26 : Mm → Int32 → Int32 → Int32 → Int32 → Rs) (M : Mm) (v1 : Int32) (v3 : Int32) (v4 : Int32) (t0 : Int32) : Rs := q_ChipMap_run_137 kf26 M v1 t0 v3 v4
def q_ChipMap_run_90 (kf26 : Mm → Int32 → Int32 → Int32 → Int32 → Rs) (M : Mm) (v1 : Int32) (v2 : Int32) (v3 : Int32) (v4 : Int32) (t0 : Int32) : Rs := if t0 = 0 then (q_ChipMap_run_115 kf26 M v1 (v3 + 1) v4 (v2 + 1)) else (ix v2 40 <| q_ChipMap_run_115 kf26 M v1 (v3 + 1) v4 (M.1 72 (v2 : Int32).toNatClampNeg))
def q_ChipMap_run_26  : Nat → Mm → Int32 → Int32 → Int32 → Int32 → Rs
  | 0, _, _, _, _, _ => none
  | n' + 1, M, v1, v2, v3, v4 => if 300 ≤ v4 then (if v2 < (M.1 69 0) then (some (M, (-2))) else (some (M, 0))) else (if (M.1 69 0) ≤ v2 then (some (M, 0)) else (ix v2 40 <| if (M.1 70 (v2 : Int32).toNatClampNeg) = 3 then (some (M, 0)) else (ix v2 40 <| if (M.1 70 (v2 : Int32).toNatClampNeg) = 2 then (if ((((v1 : Int32).toUInt32 >>> (((v3 &&& 31) : Int32).toUInt32 &&& Int32.toUInt32 31)).toInt32) &&& 1) = 1 then (q_ChipMap_run_90 (q_ChipMap_run_26 n') M v1 v2 v3 v4 1) else (q_ChipMap_run_90 (q_ChipMap_run_26 n') M v1 v2 v3 v4 0)) else (cal (q_ChipMap_doStep M v2) fun M1 r2 => if r2 = 0 then (some (M1, (v2 + 1))) else (q_ChipMap_run_137 (q_ChipMap_run_26 n') M1 v1 (v2 + 1) v3 v4)))))
def q_ChipMap_run  (M : Mm) (a1 : Int32) : Rs := cal (q_ChipMap_hasMap M) fun M1 r2 => if r2 = 0 then (some (M1, (-1))) else (if (M1.1 65 0) ≤ 0 then (q_ChipMap_run_26 4000 M1 a1 0 0 0) else (some (M1, (-1))))
set_option maxHeartbeats 4000000 in
set_option maxRecDepth 20000 in
theorem b_ChipMap_run_137 {p : Program} {l : Launch} {e : Env} {s s0 : State} {m : MethodId} {args : Array Value} {below : List Frame} {meth : Method} {c : Code} {D : va_G} {cI cZ cC cJ cA : ClassId} {P : Nat → Nat} {M' : Mm} {r' : Int32} {kf26 : Mm → Int32 → Int32 → Int32 → Int32 → Rs} (hx : p.tables.exec = Jvm.exec) (hb : c.code = cX0_run) (hml : c.maxLocals = 6) (hr : meth.sig.returnType = (some .int)) (hlk : meth.locks = false) (hgt : ∀ w ∈ GT, w.before args s = true) (hown : s.vm.findClass RX0 = some m.cls) (hK : va_K D vwCl [(cI, .int), (cZ, .boolean), (cC, .char), (cJ, .long), (cA, .array .int)] s) (hO : Old s0 s) (hAO : ∀ q, (aP P 77) q → s0.heap.size ≤ q) (kk26 : ∀ (M : Mm) (v1 : Int32) (v2 : Int32) (v3 : Int32) (v4 : Int32) (H : Heap) (locs : List Loc) (ls : Array Slot), lv_has ls 6 [(0, .ref (P 0)), (1, .int v1), (2, .int v2), (3, .int v3), (4, .int v4)] → va_P D vwCl ((wX cI cZ cC cJ cA P) M) H → va_D (aP P 77) ((wX cI cZ cC cJ cA P) M) → va_S (aP P 77) s.heap H locs → kf26 M v1 v2 v3 v4 = some (M', r') → W p l e ({ frames := 7, cells := 0, slots := 0, locals := 161 }) s m args below meth c H locs 0 0 (MQ below (gQi D (aP P 77) ((wX cI cZ cC cJ cA P) M') r') args s 0 0 (aP P 77)) (F0 m 26 ls [])) : ∀ (M : Mm) (v1 : Int32) (v2 : Int32) (v3 : Int32) (v4 : Int32) (H : Heap) (locs : List Loc) (ls : Array Slot), lv_has ls 6 [(0, .ref (P 0)), (1, .int v1), (2, .int v2), (3, .int v3), (4, .int v4)] → va_P D vwCl ((wX cI cZ cC cJ cA P) M) H → va_D (aP P 77) ((wX cI cZ cC cJ cA P) M) → va_S (aP P 77) s.heap H locs → q_ChipMap_run_137 kf26 M v1 v2 v3 v4 = some (M', r') → W p l e ({ frames := 7, cells := 0, slots := 0, locals := 161 }) s m args below meth c H locs 0 0 (MQ below (gQi D (aP P 77) ((wX cI cZ cC cJ cA P) M') r') args s 0 0 (aP P 77)) (F0 m 137 ls []) := by
  intro M v1 v2 v3 v4 H locs ls hl hP hD hS h
  unfold q_ChipMap_run_137 at h
  refine lv_iinc (v := (v4 + 1)) hx hb dX0_run_137 hl (k := 4) rfl rfl (Nat.le_of_ble_eq_true rfl) (lv' := [(4, .int (v4 + 1)), (0, .ref (P 0)), (1, .int v1), (2, .int v2), (3, .int v3)]) rfl (fun ls hl => ?_)
  refine lv_goto hx hb dX0_run_140 (tgt := 26) rfl ?_
  have hl := lv_sub hl [1, 2, 3, 4, 0] (l' := [(0, .ref (P 0)), (1, .int v1), (2, .int v2), (3, .int v3), (4, .int (v4 + 1))]) rfl
  exact kk26 M v1 v2 v3 (v4 + 1) H locs ls hl hP hD hS h
set_option maxHeartbeats 4000000 in
set_option maxRecDepth 20000 in
theorem b_ChipMap_run_115 {p : Program} {l : Launch} {e : Env} {s s0 : State} {m : MethodId} {args : Array Value} {below : List Frame} {meth : Method} {c : Code} {D : va_G} {cI cZ cC cJ cA : ClassId} {P : Nat → Nat} {M' : Mm} {r' : Int32} {kf26 : Mm → Int32 → Int32 → Int32 → Int32 → Rs} (hx : p.tables.exec = Jvm.exec) (hb : c.code = cX0_run) (hml : c.maxLocals = 6) (hr : meth.sig.returnType = (some .int)) (hlk : meth.locks = false) (hgt : ∀ w ∈ GT, w.before args s = true) (hown : s.vm.findClass RX0 = some m.cls) (hK : va_K D vwCl [(cI, .int), (cZ, .boolean), (cC, .char), (cJ, .long), (cA, .array .int)] s) (hO : Old s0 s) (hAO : ∀ q, (aP P 77) q → s0.heap.size ≤ q) (kk26 : ∀ (M : Mm) (v1 : Int32) (v2 : Int32) (v3 : Int32) (v4 : Int32) (H : Heap) (locs : List Loc) (ls : Array Slot), lv_has ls 6 [(0, .ref (P 0)), (1, .int v1), (2, .int v2), (3, .int v3), (4, .int v4)] → va_P D vwCl ((wX cI cZ cC cJ cA P) M) H → va_D (aP P 77) ((wX cI cZ cC cJ cA P) M) → va_S (aP P 77) s.heap H locs → kf26 M v1 v2 v3 v4 = some (M', r') → W p l e ({ frames := 7, cells := 0, slots := 0, locals := 161 }) s m args below meth c H locs 0 0 (MQ below (gQi D (aP P 77) ((wX cI cZ cC cJ cA P) M') r') args s 0 0 (aP P 77)) (F0 m 26 ls [])) : ∀ (M : Mm) (v1 : Int32) (v3 : Int32) (v4 : Int32) (t0 : Int32) (H : Heap) (locs : List Loc) (ls : Array Slot), lv_has ls 6 [(0, .ref (P 0)), (1, .int v1), (3, .int v3), (4, .int v4)] → va_P D vwCl ((wX cI cZ cC cJ cA P) M) H → va_D (aP P 77) ((wX cI cZ cC cJ cA P) M) → va_S (aP P 77) s.heap H locs → q_ChipMap_run_115 kf26 M v1 v3 v4 t0 = some (M', r') → W p l e ({ frames := 7, cells := 0, slots := 0, locals := 161 }) s m args below meth c H locs 0 0 (MQ below (gQi D (aP P 77) ((wX cI cZ cC cJ cA P) M') r') args s 0 0 (aP P 77)) (F0 m 115 ls [.int t0]) := by
  intro M v1 v3 v4 t0 H locs ls hl hP hD hS h
  unfold q_ChipMap_run_115 at h
  refine lv_istore_n hx hb dX0_run_115 rfl hl (Nat.le_of_ble_eq_true rfl) (lv' := [(2, .int t0), (0, .ref (P 0)), (1, .int v1), (3, .int v3), (4, .int v4)]) rfl (fun ls hl => ?_)
  refine lv_goto hx hb dX0_run_116 (tgt := 137) rfl ?_
  have hl := lv_sub hl [1, 2, 0, 3, 4] (l' := [(0, .ref (P 0)), (1, .int v1), (2, .int t0), (3, .int v3), (4, .int v4)]) rfl
  exact b_ChipMap_run_137 hx hb hml hr hlk hgt hown hK hO hAO kk26 M v1 t0 v3 v4 H _ ls hl hP hD hS h
set_option maxHeartbeats 4000000 in
set_option maxRecDepth 20000 in
theorem b_ChipMap_run_90 {p : Program} {l : Launch} {e : Env} {s s0 : State} {m : MethodId} {args : Array Value} {below : List Frame} {meth : Method} {c : Code} {D : va_G} {cI cZ cC cJ cA : ClassId} {P : Nat → Nat} {M' : Mm} {r' : Int32} {kf26 : Mm → Int32 → Int32 → Int32 → Int32 → Rs} (hx : p.tables.exec = Jvm.exec) (hb : c.code = cX0_run) (hml : c.maxLocals = 6) (hr : meth.sig.returnType = (some .int)) (hlk : meth.locks = false) (hgt : ∀ w ∈ GT, w.before args s = true) (hown : s.vm.findClass RX0 = some m.cls) (hK : va_K D vwCl [(cI, .int), (cZ, .boolean), (cC, .char), (cJ, .long), (cA, .array .int)] s) (hO : Old s0 s) (hAO : ∀ q, (aP P 77) q → s0.heap.size ≤ q) (kk26 : ∀ (M : Mm) (v1 : Int32) (v2 : Int32) (v3 : Int32) (v4 : Int32) (H : Heap) (locs : List Loc) (ls : Array Slot), lv_has ls 6 [(0, .ref (P 0)), (1, .int v1), (2, .int v2), (3, .int v3), (4, .int v4)] → va_P D vwCl ((wX cI cZ cC cJ cA P) M) H → va_D (aP P 77) ((wX cI cZ cC cJ cA P) M) → va_S (aP P 77) s.heap H locs → kf26 M v1 v2 v3 v4 = some (M', r') → W p l e ({ frames := 7, cells := 0, slots := 0, locals := 161 }) s m args below meth c H locs 0 0 (MQ below (gQi D (aP P 77) ((wX cI cZ cC cJ cA P) M') r') args s 0 0 (aP P 77)) (F0 m 26 ls [])) : ∀ (M : Mm) (v1 : Int32) (v2 : Int32) (v3 : Int32) (v4 : Int32) (t0 : Int32) (H : Heap) (locs : List Loc) (ls : Array Slot), lv_has ls 6 [(0, .ref (P 0)), (1, .int v1), (2, .int v2), (3, .int v3), (4, .int v4)] → va_P D vwCl ((wX cI cZ cC cJ cA P) M) H → va_D (aP P 77) ((wX cI cZ cC cJ cA P) M) → va_S (aP P 77) s.heap H locs → q_ChipMap_run_90 kf26 M v1 v2 v3 v4 t0 = some (M', r') → W p l e ({ frames := 7, cells := 0, slots := 0, locals := 161 }) s m args below meth c H locs 0 0 (MQ below (gQi D (aP P 77) ((wX cI cZ cC cJ cA P) M') r') args s 0 0 (aP P 77)) (F0 m 90 ls [.int t0]) := by
  intro M v1 v2 v3 v4 t0 H locs ls hl hP hD hS h
  unfold q_ChipMap_run_90 at h
  refine lv_istore hx hb dX0_run_90 hl (Nat.le_of_ble_eq_true rfl) (lv' := [(5, .int t0), (0, .ref (P 0)), (1, .int v1), (2, .int v2), (3, .int v3), (4, .int v4)]) rfl (fun ls hl => ?_)
  refine lv_iinc (v := (v3 + 1)) hx hb dX0_run_92 hl (k := 4) rfl rfl (Nat.le_of_ble_eq_true rfl) (lv' := [(3, .int (v3 + 1)), (5, .int t0), (0, .ref (P 0)), (1, .int v1), (2, .int v2), (4, .int v4)]) rfl (fun ls hl => ?_)
  refine lv_iload hx hb dX0_run_95 (lv_at hl 1 rfl) ?_
  refine lv_if_eq hx hb dX0_run_97 (tgt := 112) rfl (fun hc => ?_) (fun hc => ?_)
  · have h := br_T hc h
    refine lv_iload_n hx hb dX0_run_112 rfl (lv_at hl 4 rfl) ?_
    refine lv_iconst (v := 1) hx hb dX0_run_113 (by decide) ?_
    refine lv_iadd hx hb dX0_run_114 ?_
    have hl := lv_sub hl [2, 3, 0, 5] (l' := [(0, .ref (P 0)), (1, .int v1), (3, .int (v3 + 1)), (4, .int v4)]) rfl
    exact b_ChipMap_run_115 hx hb hml hr hlk hgt hown hK hO hAO kk26 M v1 (v3 + 1) v4 (v2 + 1) H _ ls hl hP hD hS h
  · have h := br_F hc h
    refine lv_aload_n hx hb dX0_run_100 rfl (lv_at hl 2 rfl) ?_
    refine va_get (D := D) (ci := 0) (v := .ref (P 69)) (C := RX0) (T := TX0) (N := 9) hx hb hgt iwX0 hown hK hP 0 gX_0 rfl 7 (Nat.le_of_ble_eq_true rfl) (hgt _ wd_2_24) (fun _ h9 => h9) rfl dX0_run_101 ?_
    refine va_get (D := D) (ci := 12) (v := .ref (P 72)) (C := RX12) (T := TX12) (N := 4) hx hb hgt iwX12 hown hK hP 69 gX_69 rfl 3 (Nat.le_of_ble_eq_true rfl) (hgt _ wd_1_205) (fun _ h9 => h9) rfl dX0_run_104 ?_
    refine lv_iload_n hx hb dX0_run_107 rfl (lv_at hl 4 rfl) ?_
    refine va_iald hx hb hK hP 72 0 gX_72 rfl (ix_l h) dX0_run_108 ?_
    have h := ix_r h
    refine lv_goto hx hb dX0_run_109 (tgt := 115) rfl ?_
    have hl := lv_sub hl [2, 3, 0, 5] (l' := [(0, .ref (P 0)), (1, .int v1), (3, .int (v3 + 1)), (4, .int v4)]) rfl
    exact b_ChipMap_run_115 hx hb hml hr hlk hgt hown hK hO hAO kk26 M v1 (v3 + 1) v4 (M.1 72 (v2 : Int32).toNatClampNeg) H _ ls hl hP hD hS h
set_option maxHeartbeats 4000000 in
set_option maxRecDepth 20000 in
theorem b_ChipMap_run_26 {p : Program} {l : Launch} {e : Env} {s s0 : State} {m : MethodId} {args : Array Value} {below : List Frame} {meth : Method} {c : Code} {D : va_G} {cI cZ cC cJ cA : ClassId} {P : Nat → Nat} {M' : Mm} {r' : Int32}  (hx : p.tables.exec = Jvm.exec) (hb : c.code = cX0_run) (hml : c.maxLocals = 6) (hr : meth.sig.returnType = (some .int)) (hlk : meth.locks = false) (hgt : ∀ w ∈ GT, w.before args s = true) (hown : s.vm.findClass RX0 = some m.cls) (hK : va_K D vwCl [(cI, .int), (cZ, .boolean), (cC, .char), (cJ, .long), (cA, .array .int)] s) (hO : Old s0 s) (hAO : ∀ q, (aP P 77) q → s0.heap.size ≤ q)  : ∀ (n' : Nat) (M : Mm) (v1 : Int32) (v2 : Int32) (v3 : Int32) (v4 : Int32) (H : Heap) (locs : List Loc) (ls : Array Slot), lv_has ls 6 [(0, .ref (P 0)), (1, .int v1), (2, .int v2), (3, .int v3), (4, .int v4)] → va_P D vwCl ((wX cI cZ cC cJ cA P) M) H → va_D (aP P 77) ((wX cI cZ cC cJ cA P) M) → va_S (aP P 77) s.heap H locs → q_ChipMap_run_26 n' M v1 v2 v3 v4 = some (M', r') → W p l e ({ frames := 7, cells := 0, slots := 0, locals := 161 }) s m args below meth c H locs 0 0 (MQ below (gQi D (aP P 77) ((wX cI cZ cC cJ cA P) M') r') args s 0 0 (aP P 77)) (F0 m 26 ls []) := by
  intro n'
  induction n' with
  | zero => exact fun _ _ _ _ _ _ _ _ _ _ _ _ h => (rs_n h).elim
  | succ n' ih =>
    intro M v1 v2 v3 v4 H locs ls hl hP hD hS h
    rw [q_ChipMap_run_26] at h
    refine lv_iload hx hb dX0_run_26 (lv_at hl 4 rfl) ?_
    refine lv_sipush (v := 300) hx hb dX0_run_28 (by decide) ?_
    refine lv_icmp_ge hx hb dX0_run_31 (tgt := 143) rfl (fun hc => ?_) (fun hc => ?_)
    · have h := br_T hc h
      refine lv_iload_n hx hb dX0_run_143 rfl (lv_at hl 2 rfl) ?_
      refine lv_aload_n hx hb dX0_run_144 rfl (lv_at hl 0 rfl) ?_
      refine va_get (D := D) (ci := 0) (v := .ref (P 69)) (C := RX0) (T := TX0) (N := 9) hx hb hgt iwX0 hown hK hP 0 gX_0 rfl 7 (Nat.le_of_ble_eq_true rfl) (hgt _ wd_2_24) (fun _ h9 => h9) rfl dX0_run_145 ?_
      refine va_get (D := D) (ci := 12) (v := .int (M.1 69 0)) (C := RX12) (T := TX12) (N := 4) hx hb hgt iwX12 hown hK hP 69 gX_69 rfl 0 (Nat.le_of_ble_eq_true rfl) (hgt _ wd_1_193) (fun _ h9 => h9) rfl dX0_run_148 ?_
      refine lv_icmp_lt hx hb dX0_run_151 (tgt := 158) rfl (fun hc => ?_) (fun hc => ?_)
      · have h := br_T hc h
        refine lv_bipush (v := (-2)) hx hb dX0_run_158 (by decide) ?_
        exact rt_i (w := (wX cI cZ cC cJ cA P)) hx hb hr hlk hP hD hS h dX0_run_160
      · have h := br_F hc h
        refine lv_iconst (v := 0) hx hb dX0_run_154 (by decide) ?_
        refine lv_goto hx hb dX0_run_155 (tgt := 160) rfl ?_
        exact rt_i (w := (wX cI cZ cC cJ cA P)) hx hb hr hlk hP hD hS h dX0_run_160
    · have h := br_F hc h
      refine lv_iload_n hx hb dX0_run_34 rfl (lv_at hl 2 rfl) ?_
      refine lv_aload_n hx hb dX0_run_35 rfl (lv_at hl 0 rfl) ?_
      refine va_get (D := D) (ci := 0) (v := .ref (P 69)) (C := RX0) (T := TX0) (N := 9) hx hb hgt iwX0 hown hK hP 0 gX_0 rfl 7 (Nat.le_of_ble_eq_true rfl) (hgt _ wd_2_24) (fun _ h9 => h9) rfl dX0_run_36 ?_
      refine va_get (D := D) (ci := 12) (v := .int (M.1 69 0)) (C := RX12) (T := TX12) (N := 4) hx hb hgt iwX12 hown hK hP 69 gX_69 rfl 0 (Nat.le_of_ble_eq_true rfl) (hgt _ wd_1_193) (fun _ h9 => h9) rfl dX0_run_39 ?_
      refine lv_icmp_ge hx hb dX0_run_42 (tgt := 58) rfl (fun hc => ?_) (fun hc => ?_)
      · have h := br_T hc h
        refine lv_iconst (v := 0) hx hb dX0_run_58 (by decide) ?_
        exact rt_i (w := (wX cI cZ cC cJ cA P)) hx hb hr hlk hP hD hS h dX0_run_59
      · have h := br_F hc h
        refine lv_aload_n hx hb dX0_run_45 rfl (lv_at hl 0 rfl) ?_
        refine va_get (D := D) (ci := 0) (v := .ref (P 69)) (C := RX0) (T := TX0) (N := 9) hx hb hgt iwX0 hown hK hP 0 gX_0 rfl 7 (Nat.le_of_ble_eq_true rfl) (hgt _ wd_2_24) (fun _ h9 => h9) rfl dX0_run_46 ?_
        refine va_get (D := D) (ci := 12) (v := .ref (P 70)) (C := RX12) (T := TX12) (N := 4) hx hb hgt iwX12 hown hK hP 69 gX_69 rfl 1 (Nat.le_of_ble_eq_true rfl) (hgt _ wd_1_197) (fun _ h9 => h9) rfl dX0_run_49 ?_
        refine lv_iload_n hx hb dX0_run_52 rfl (lv_at hl 2 rfl) ?_
        refine va_iald hx hb hK hP 70 0 gX_70 rfl (ix_l h) dX0_run_53 ?_
        have h := ix_r h
        refine lv_iconst (v := 3) hx hb dX0_run_54 (by decide) ?_
        refine lv_icmp_ne hx hb dX0_run_55 (tgt := 60) rfl (fun hc => ?_) (fun hc => ?_)
        · have h := br_F hc h
          refine lv_aload_n hx hb dX0_run_60 rfl (lv_at hl 0 rfl) ?_
          refine va_get (D := D) (ci := 0) (v := .ref (P 69)) (C := RX0) (T := TX0) (N := 9) hx hb hgt iwX0 hown hK hP 0 gX_0 rfl 7 (Nat.le_of_ble_eq_true rfl) (hgt _ wd_2_24) (fun _ h9 => h9) rfl dX0_run_61 ?_
          refine va_get (D := D) (ci := 12) (v := .ref (P 70)) (C := RX12) (T := TX12) (N := 4) hx hb hgt iwX12 hown hK hP 69 gX_69 rfl 1 (Nat.le_of_ble_eq_true rfl) (hgt _ wd_1_197) (fun _ h9 => h9) rfl dX0_run_64 ?_
          refine lv_iload_n hx hb dX0_run_67 rfl (lv_at hl 2 rfl) ?_
          refine va_iald hx hb hK hP 70 0 gX_70 rfl (ix_l h) dX0_run_68 ?_
          have h := ix_r h
          refine lv_iconst (v := 2) hx hb dX0_run_69 (by decide) ?_
          refine lv_icmp_ne hx hb dX0_run_70 (tgt := 119) rfl (fun hc => ?_) (fun hc => ?_)
          · have h := br_F hc h
            refine lv_aload_n hx hb dX0_run_119 rfl (lv_at hl 0 rfl) ?_
            refine lv_iload_n hx hb dX0_run_120 rfl (lv_at hl 2 rfl) ?_
            obtain ⟨M1, r2, hq, h⟩ := cal_o h
            refine cx_i (va_runV (As := [.int v2]) (rest := []) ⟨hx, hb, hml, hown, hgt⟩ (z_ChipMap_doStep l D cI cZ cC cJ cA P s0 hAO M v2 M1 r2 hq) (cwV 1 hgt (gV wd_3_109 wd_3_111 sl__ChipMap____ChipMap___doStep____I_Z_____ChipMap___doStep____I_Z__ wd_0_1 wd_3_112) rfl rfl rfl (by decide +kernel) ⟨Nat.le_of_ble_eq_true rfl, Nat.le_of_ble_eq_true rfl⟩) (prV hP hK hD hO hAO hS (va_recv hK hP (ci := 0) (q0 := 0) rfl gX_0)) rfl rfl hl.1 rfl (lv_room (Nat.le_of_ble_eq_true rfl)) dX0_run_121 ⟨Nat.le_of_ble_eq_true rfl, Nat.le_of_ble_eq_true rfl⟩) hS (fun H locs hP hD hS => ?_)
            refine lv_if_eq hx hb dX0_run_124 (tgt := 133) rfl (fun hc => ?_) (fun hc => ?_)
            · have h := br_T hc h
              refine lv_iload_n hx hb dX0_run_133 rfl (lv_at hl 2 rfl) ?_
              refine lv_iconst (v := 1) hx hb dX0_run_134 (by decide) ?_
              refine lv_iadd hx hb dX0_run_135 ?_
              exact rt_i (w := (wX cI cZ cC cJ cA P)) hx hb hr hlk hP hD hS h dX0_run_136
            · have h := br_F hc h
              refine lv_iinc (v := (v2 + 1)) hx hb dX0_run_127 hl (k := 2) rfl rfl (Nat.le_of_ble_eq_true rfl) (lv' := [(2, .int (v2 + 1)), (0, .ref (P 0)), (1, .int v1), (3, .int v3), (4, .int v4)]) rfl (fun ls hl => ?_)
              refine lv_goto hx hb dX0_run_130 (tgt := 137) rfl ?_
              have hl := lv_sub hl [1, 2, 0, 3, 4] (l' := [(0, .ref (P 0)), (1, .int v1), (2, .int (v2 + 1)), (3, .int v3), (4, .int v4)]) rfl
              exact b_ChipMap_run_137 hx hb hml hr hlk hgt hown hK hO hAO ih M1 v1 (v2 + 1) v3 v4 H _ ls hl hP hD hS h
          · have h := br_T hc h
            refine lv_iload_n hx hb dX0_run_73 rfl (lv_at hl 1 rfl) ?_
            refine lv_iload_n hx hb dX0_run_74 rfl (lv_at hl 3 rfl) ?_
            refine lv_bipush (v := 31) hx hb dX0_run_75 (by decide) ?_
            refine lv_iand hx hb dX0_run_77 ?_
            refine lv_iushr (v := (((v1 : Int32).toUInt32 >>> (((v3 &&& 31) : Int32).toUInt32 &&& Int32.toUInt32 31)).toInt32)) hx hb dX0_run_78 rfl ?_
            refine lv_iconst (v := 1) hx hb dX0_run_79 (by decide) ?_
            refine lv_iand hx hb dX0_run_80 ?_
            refine lv_iconst (v := 1) hx hb dX0_run_81 (by decide) ?_
            refine lv_icmp_ne hx hb dX0_run_82 (tgt := 89) rfl (fun hc => ?_) (fun hc => ?_)
            · have h := br_F hc h
              refine lv_iconst (v := 0) hx hb dX0_run_89 (by decide) ?_
              have hl := lv_sub hl [0, 1, 2, 3, 4] (l' := [(0, .ref (P 0)), (1, .int v1), (2, .int v2), (3, .int v3), (4, .int v4)]) rfl
              exact b_ChipMap_run_90 hx hb hml hr hlk hgt hown hK hO hAO ih M v1 v2 v3 v4 0 H _ ls hl hP hD hS h
            · have h := br_T hc h
              refine lv_iconst (v := 1) hx hb dX0_run_85 (by decide) ?_
              refine lv_goto hx hb dX0_run_86 (tgt := 90) rfl ?_
              have hl := lv_sub hl [0, 1, 2, 3, 4] (l' := [(0, .ref (P 0)), (1, .int v1), (2, .int v2), (3, .int v3), (4, .int v4)]) rfl
              exact b_ChipMap_run_90 hx hb hml hr hlk hgt hown hK hO hAO ih M v1 v2 v3 v4 1 H _ ls hl hP hD hS h
        · have h := br_T hc h
          refine lv_iconst (v := 0) hx hb dX0_run_58 (by decide) ?_
          exact rt_i (w := (wX cI cZ cC cJ cA P)) hx hb hr hlk hP hD hS h dX0_run_59
set_option maxHeartbeats 4000000 in
set_option maxRecDepth 20000 in
theorem b_ChipMap_run_0 {p : Program} {l : Launch} {e : Env} {s s0 : State} {m : MethodId} {args : Array Value} {below : List Frame} {meth : Method} {c : Code} {D : va_G} {cI cZ cC cJ cA : ClassId} {P : Nat → Nat} {M' : Mm} {r' : Int32}  (hx : p.tables.exec = Jvm.exec) (hb : c.code = cX0_run) (hml : c.maxLocals = 6) (hr : meth.sig.returnType = (some .int)) (hlk : meth.locks = false) (hgt : ∀ w ∈ GT, w.before args s = true) (hown : s.vm.findClass RX0 = some m.cls) (hK : va_K D vwCl [(cI, .int), (cZ, .boolean), (cC, .char), (cJ, .long), (cA, .array .int)] s) (hO : Old s0 s) (hAO : ∀ q, (aP P 77) q → s0.heap.size ≤ q)  : ∀ (M : Mm) (a1 : Int32) (H : Heap) (locs : List Loc) (ls : Array Slot), lv_has ls 6 [(0, .ref (P 0)), (1, .int a1)] → va_P D vwCl ((wX cI cZ cC cJ cA P) M) H → va_D (aP P 77) ((wX cI cZ cC cJ cA P) M) → va_S (aP P 77) s.heap H locs → q_ChipMap_run M a1 = some (M', r') → W p l e ({ frames := 7, cells := 0, slots := 0, locals := 161 }) s m args below meth c H locs 0 0 (MQ below (gQi D (aP P 77) ((wX cI cZ cC cJ cA P) M') r') args s 0 0 (aP P 77)) (F0 m 0 ls []) := by
  intro M a1 H locs ls hl hP hD hS h
  unfold q_ChipMap_run at h
  refine lv_aload_n hx hb dX0_run_0 rfl (lv_at hl 0 rfl) ?_
  obtain ⟨M1, r2, hq, h⟩ := cal_o h
  refine cx_i (va_runV (As := []) (rest := []) ⟨hx, hb, hml, hown, hgt⟩ (z_ChipMap_hasMap l D cI cZ cC cJ cA P s0 hAO M M1 r2 hq) (cwV 0 hgt (gV wd_2_81 wd_2_83 sl__ChipMap____ChipMap___hasMap_____Z_____ChipMap___hasMap_____Z__ wd_0_1 wd_2_84) rfl rfl rfl (by decide +kernel) ⟨Nat.le_of_ble_eq_true rfl, Nat.le_of_ble_eq_true rfl⟩) (prV hP hK hD hO hAO hS (va_recv hK hP (ci := 0) (q0 := 0) rfl gX_0)) rfl rfl hl.1 rfl (lv_room (Nat.le_of_ble_eq_true rfl)) dX0_run_1 ⟨Nat.le_of_ble_eq_true rfl, Nat.le_of_ble_eq_true rfl⟩) hS (fun H locs hP hD hS => ?_)
  refine lv_if_eq hx hb dX0_run_4 (tgt := 17) rfl (fun hc => ?_) (fun hc => ?_)
  · have h := br_T hc h
    refine lv_iconst (v := (-1)) hx hb dX0_run_17 (by decide) ?_
    exact rt_i (w := (wX cI cZ cC cJ cA P)) hx hb hr hlk hP hD hS h dX0_run_18
  · have h := br_F hc h
    refine lv_aload_n hx hb dX0_run_7 rfl (lv_at hl 0 rfl) ?_
    refine va_get (D := D) (ci := 0) (v := .ref (P 65)) (C := RX0) (T := TX0) (N := 9) hx hb hgt iwX0 hown hK hP 0 gX_0 rfl 6 (Nat.le_of_ble_eq_true rfl) (hgt _ wd_2_23) (fun _ h9 => h9) rfl dX0_run_8 ?_
    refine va_get (D := D) (ci := 12) (v := .int (M1.1 65 0)) (C := RX12) (T := TX12) (N := 4) hx hb hgt iwX12 hown hK hP 65 gX_65 rfl 0 (Nat.le_of_ble_eq_true rfl) (hgt _ wd_1_193) (fun _ h9 => h9) rfl dX0_run_11 ?_
    refine lv_if_le hx hb dX0_run_14 (tgt := 19) rfl (fun hc => ?_) (fun hc => ?_)
    · have h := br_T hc h
      refine lv_iconst (v := 0) hx hb dX0_run_19 (by decide) ?_
      refine lv_istore_n hx hb dX0_run_20 rfl hl (Nat.le_of_ble_eq_true rfl) (lv' := [(2, .int 0), (0, .ref (P 0)), (1, .int a1)]) rfl (fun ls hl => ?_)
      refine lv_iconst (v := 0) hx hb dX0_run_21 (by decide) ?_
      refine lv_istore_n hx hb dX0_run_22 rfl hl (Nat.le_of_ble_eq_true rfl) (lv' := [(3, .int 0), (2, .int 0), (0, .ref (P 0)), (1, .int a1)]) rfl (fun ls hl => ?_)
      refine lv_iconst (v := 0) hx hb dX0_run_23 (by decide) ?_
      refine lv_istore hx hb dX0_run_24 hl (Nat.le_of_ble_eq_true rfl) (lv' := [(4, .int 0), (3, .int 0), (2, .int 0), (0, .ref (P 0)), (1, .int a1)]) rfl (fun ls hl => ?_)
      have hl := lv_sub hl [3, 4, 2, 1, 0] (l' := [(0, .ref (P 0)), (1, .int a1), (2, .int 0), (3, .int 0), (4, .int 0)]) rfl
      exact b_ChipMap_run_26 hx hb hml hr hlk hgt hown hK hO hAO 4000 M1 a1 0 0 0 H _ ls hl hP hD hS h
    · have h := br_F hc h
      refine lv_iconst (v := (-1)) hx hb dX0_run_17 (by decide) ?_
      exact rt_i (w := (wX cI cZ cC cJ cA P)) hx hb hr hlk hP hD hS h dX0_run_18
set_option maxHeartbeats 4000000 in
set_option maxRecDepth 20000 in
theorem z_ChipMap_run (l : Launch) (D : va_G) (cI cZ cC cJ cA : ClassId) (P : Nat → Nat) (s0 : State) (hAO : ∀ q, (aP P 77) q → s0.heap.size ≤ q) (M : Mm) (a1 : Int32) (M' : Mm) (r' : Int32) (h : q_ChipMap_run M a1 = some (M', r')) : Met l yX0_run wsX0_run ({ frames := 7, cells := 0, slots := 0, locals := 161 }) (va_Pc [.ref (P 0), .int a1] (gPre s0 D [(cI, .int), (cZ, .boolean), (cC, .char), (cJ, .long), (cA, .array .int)] (aP P 77) ((wX cI cZ cC cJ cA P) M))) (gQi D (aP P 77) ((wX cI cZ cC cJ cA P) M') r') 0 0 (aP P 77) := by
  refine Met.ofW (cc := cX0_run) (maxL := 6) (ret := (some .int)) (by decide) rfl ?_
  intro p e s m args below meth c s₁ B hml hv
  obtain ⟨rfl, hP, hK, hD, hO⟩ := hv
  have hx := B.exec
  have hb := B.bytes
  have hr := B.returns
  have hlk := B.notSynchronized
  have hgt := fun w (h : w ∈ GT) => atoms_spec (ws := wsX0_run) B.pre w (List.mem_cons_of_mem _ h)
  have hown : s.vm.findClass RX0 = some m.cls := findClass_of_methodNamed B.named
  have hS : va_S (aP P 77) s.heap s.heap [] := va_S.rf
  have hl := lv_entry ([.ref (P 0), .int a1]) (n := 6) (Nat.le_of_ble_eq_true rfl)
  rw [lg_entry_eq]
  generalize (lg_sl ([.ref (P 0), .int a1]) ++ List.replicate (6 - (lg_sl ([.ref (P 0), .int a1])).length) Slot.unset).toArray = ls at hl ⊢
  have hl : lv_has ls 6 [(0, .ref (P 0)), (1, .int a1)] := hl
  exact b_ChipMap_run_0 hx hb hml hr hlk hgt hown hK hO hAO M a1 s.heap [] ls hl hP hD hS h
end
section
def q_ChipMap_state  (M : Mm) (a1 : Int32) : Rs := if a1 = 0 then (some (M, (M.1 53 0))) else if a1 = 1 then (some (M, (M.1 50 3))) else if a1 = 2 then (some (M, (M.1 65 0))) else if a1 = 3 then (some (M, (M.1 69 0))) else if a1 = 4 then (some (M, (M.1 43 0))) else (some (M, (-1)))
set_option maxHeartbeats 4000000 in
set_option maxRecDepth 20000 in
theorem b_ChipMap_state_0 {p : Program} {l : Launch} {e : Env} {s s0 : State} {m : MethodId} {args : Array Value} {below : List Frame} {meth : Method} {c : Code} {D : va_G} {cI cZ cC cJ cA : ClassId} {P : Nat → Nat} {M' : Mm} {r' : Int32}  (hx : p.tables.exec = Jvm.exec) (hb : c.code = cX0_state) (hml : c.maxLocals = 2) (hr : meth.sig.returnType = (some .int)) (hlk : meth.locks = false) (hgt : ∀ w ∈ GT, w.before args s = true) (hown : s.vm.findClass RX0 = some m.cls) (hK : va_K D vwCl [(cI, .int), (cZ, .boolean), (cC, .char), (cJ, .long), (cA, .array .int)] s) (hO : Old s0 s) (hAO : ∀ q, (aP P 77) q → s0.heap.size ≤ q)  : ∀ (M : Mm) (a1 : Int32) (H : Heap) (locs : List Loc) (ls : Array Slot), lv_has ls 2 [(0, .ref (P 0)), (1, .int a1)] → va_P D vwCl ((wX cI cZ cC cJ cA P) M) H → va_D (aP P 77) ((wX cI cZ cC cJ cA P) M) → va_S (aP P 77) s.heap H locs → q_ChipMap_state M a1 = some (M', r') → W p l e ({ frames := 0, cells := 0, slots := 0, locals := 0 }) s m args below meth c H locs 0 0 (MQ below (gQi D (aP P 77) ((wX cI cZ cC cJ cA P) M') r') args s 0 0 (aP P 77)) (F0 m 0 ls []) := by
  intro M a1 H locs ls hl hP hD hS h
  unfold q_ChipMap_state at h
  refine lv_iload_n hx hb dX0_state_0 rfl (lv_at hl 1 rfl) ?_
  by_cases k_1_0 : a1 = 0
  · have h := br_T k_1_0 h
    refine lv_tableIn hx hb dX0_state_1 (off := 35) (tgt := 36) (by rw [k_1_0]; decide) (by rw [k_1_0]; decide) (by rw [k_1_0]; decide) (by decide) ?_
    refine lv_aload_n hx hb dX0_state_36 rfl (lv_at hl 0 rfl) ?_
    refine va_get (D := D) (ci := 0) (v := .ref (P 50)) (C := RX0) (T := TX0) (N := 9) hx hb hgt iwX0 hown hK hP 0 gX_0 rfl 4 (Nat.le_of_ble_eq_true rfl) (hgt _ wd_2_21) (fun _ h9 => h9) rfl dX0_state_37 ?_
    refine va_get (D := D) (ci := 3) (v := .ref (P 53)) (C := RX3) (T := TX3) (N := 7) hx hb hgt iwX3 hown hK hP 50 gX_50 rfl 2 (Nat.le_of_ble_eq_true rfl) (hgt _ wd_1_130) (fun _ h9 => h9) rfl dX0_state_40 ?_
    refine va_get (D := D) (ci := 7) (v := .int (M.1 53 0)) (C := RX7) (T := TX7) (N := 4) hx hb hgt iwX7 hown hK hP 53 gX_53 rfl 0 (Nat.le_of_ble_eq_true rfl) (hgt _ wd_1_90) (fun _ h9 => h9) rfl dX0_state_43 ?_
    exact rt_i (w := (wX cI cZ cC cJ cA P)) hx hb hr hlk hP hD hS h dX0_state_46
  have h := br_F k_1_0 h
  by_cases k_1_1 : a1 = 1
  · have h := br_T k_1_1 h
    refine lv_tableIn hx hb dX0_state_1 (off := 46) (tgt := 47) (by rw [k_1_1]; decide) (by rw [k_1_1]; decide) (by rw [k_1_1]; decide) (by decide) ?_
    refine lv_aload_n hx hb dX0_state_47 rfl (lv_at hl 0 rfl) ?_
    refine va_get (D := D) (ci := 0) (v := .ref (P 50)) (C := RX0) (T := TX0) (N := 9) hx hb hgt iwX0 hown hK hP 0 gX_0 rfl 4 (Nat.le_of_ble_eq_true rfl) (hgt _ wd_2_21) (fun _ h9 => h9) rfl dX0_state_48 ?_
    refine va_get (D := D) (ci := 3) (v := .int (M.1 50 3)) (C := RX3) (T := TX3) (N := 7) hx hb hgt iwX3 hown hK hP 50 gX_50 rfl 3 (Nat.le_of_ble_eq_true rfl) (hgt _ wd_1_132) (fun _ h9 => h9) rfl dX0_state_51 ?_
    exact rt_i (w := (wX cI cZ cC cJ cA P)) hx hb hr hlk hP hD hS h dX0_state_54
  have h := br_F k_1_1 h
  by_cases k_1_2 : a1 = 2
  · have h := br_T k_1_2 h
    refine lv_tableIn hx hb dX0_state_1 (off := 54) (tgt := 55) (by rw [k_1_2]; decide) (by rw [k_1_2]; decide) (by rw [k_1_2]; decide) (by decide) ?_
    refine lv_aload_n hx hb dX0_state_55 rfl (lv_at hl 0 rfl) ?_
    refine va_get (D := D) (ci := 0) (v := .ref (P 65)) (C := RX0) (T := TX0) (N := 9) hx hb hgt iwX0 hown hK hP 0 gX_0 rfl 6 (Nat.le_of_ble_eq_true rfl) (hgt _ wd_2_23) (fun _ h9 => h9) rfl dX0_state_56 ?_
    refine va_get (D := D) (ci := 12) (v := .int (M.1 65 0)) (C := RX12) (T := TX12) (N := 4) hx hb hgt iwX12 hown hK hP 65 gX_65 rfl 0 (Nat.le_of_ble_eq_true rfl) (hgt _ wd_1_193) (fun _ h9 => h9) rfl dX0_state_59 ?_
    exact rt_i (w := (wX cI cZ cC cJ cA P)) hx hb hr hlk hP hD hS h dX0_state_62
  have h := br_F k_1_2 h
  by_cases k_1_3 : a1 = 3
  · have h := br_T k_1_3 h
    refine lv_tableIn hx hb dX0_state_1 (off := 62) (tgt := 63) (by rw [k_1_3]; decide) (by rw [k_1_3]; decide) (by rw [k_1_3]; decide) (by decide) ?_
    refine lv_aload_n hx hb dX0_state_63 rfl (lv_at hl 0 rfl) ?_
    refine va_get (D := D) (ci := 0) (v := .ref (P 69)) (C := RX0) (T := TX0) (N := 9) hx hb hgt iwX0 hown hK hP 0 gX_0 rfl 7 (Nat.le_of_ble_eq_true rfl) (hgt _ wd_2_24) (fun _ h9 => h9) rfl dX0_state_64 ?_
    refine va_get (D := D) (ci := 12) (v := .int (M.1 69 0)) (C := RX12) (T := TX12) (N := 4) hx hb hgt iwX12 hown hK hP 69 gX_69 rfl 0 (Nat.le_of_ble_eq_true rfl) (hgt _ wd_1_193) (fun _ h9 => h9) rfl dX0_state_67 ?_
    exact rt_i (w := (wX cI cZ cC cJ cA P)) hx hb hr hlk hP hD hS h dX0_state_70
  have h := br_F k_1_3 h
  by_cases k_1_4 : a1 = 4
  · have h := br_T k_1_4 h
    refine lv_tableIn hx hb dX0_state_1 (off := 70) (tgt := 71) (by rw [k_1_4]; decide) (by rw [k_1_4]; decide) (by rw [k_1_4]; decide) (by decide) ?_
    refine lv_aload_n hx hb dX0_state_71 rfl (lv_at hl 0 rfl) ?_
    refine va_get (D := D) (ci := 0) (v := .ref (P 24)) (C := RX0) (T := TX0) (N := 9) hx hb hgt iwX0 hown hK hP 0 gX_0 rfl 3 (Nat.le_of_ble_eq_true rfl) (hgt _ wd_2_20) (fun _ h9 => h9) rfl dX0_state_72 ?_
    refine va_get (D := D) (ci := 6) (v := .ref (P 43)) (C := RX6) (T := TX6) (N := 13) hx hb hgt iwX6 hown hK hP 24 gX_24 rfl 12 (Nat.le_of_ble_eq_true rfl) (hgt _ wd_1_47) (fun _ h9 => h9) rfl dX0_state_75 ?_
    refine va_get (D := D) (ci := 11) (v := .int (M.1 43 0)) (C := RX11) (T := TX11) (N := 7) hx hb hgt iwX11 hown hK hP 43 gX_43 rfl 0 (Nat.le_of_ble_eq_true rfl) (hgt _ wd_0_54) (fun _ h9 => h9) rfl dX0_state_78 ?_
    exact rt_i (w := (wX cI cZ cC cJ cA P)) hx hb hr hlk hP hD hS h dX0_state_81
  have h := br_F k_1_4 h
  refine lv_tableOut hx hb dX0_state_1 (tgt := 82) (by have a0 := tne (z := 0) (by decide) k_1_0; have a1 := tne (z := 1) (by decide) k_1_1; have a2 := tne (z := 2) (by decide) k_1_2; have a3 := tne (z := 3) (by decide) k_1_3; have a4 := tne (z := 4) (by decide) k_1_4; omega) (by decide) ?_
  refine lv_iconst (v := (-1)) hx hb dX0_state_82 (by decide) ?_
  exact rt_i (w := (wX cI cZ cC cJ cA P)) hx hb hr hlk hP hD hS h dX0_state_83
set_option maxHeartbeats 4000000 in
set_option maxRecDepth 20000 in
theorem z_ChipMap_state (l : Launch) (D : va_G) (cI cZ cC cJ cA : ClassId) (P : Nat → Nat) (s0 : State) (hAO : ∀ q, (aP P 77) q → s0.heap.size ≤ q) (M : Mm) (a1 : Int32) (M' : Mm) (r' : Int32) (h : q_ChipMap_state M a1 = some (M', r')) : Met l yX0_state wsX0_state ({ frames := 0, cells := 0, slots := 0, locals := 0 }) (va_Pc [.ref (P 0), .int a1] (gPre s0 D [(cI, .int), (cZ, .boolean), (cC, .char), (cJ, .long), (cA, .array .int)] (aP P 77) ((wX cI cZ cC cJ cA P) M))) (gQi D (aP P 77) ((wX cI cZ cC cJ cA P) M') r') 0 0 (aP P 77) := by
  refine Met.ofW (cc := cX0_state) (maxL := 2) (ret := (some .int)) (by decide) rfl ?_
  intro p e s m args below meth c s₁ B hml hv
  obtain ⟨rfl, hP, hK, hD, hO⟩ := hv
  have hx := B.exec
  have hb := B.bytes
  have hr := B.returns
  have hlk := B.notSynchronized
  have hgt := fun w (h : w ∈ GT) => atoms_spec (ws := wsX0_state) B.pre w (List.mem_cons_of_mem _ h)
  have hown : s.vm.findClass RX0 = some m.cls := findClass_of_methodNamed B.named
  have hS : va_S (aP P 77) s.heap s.heap [] := va_S.rf
  have hl := lv_entry ([.ref (P 0), .int a1]) (n := 2) (Nat.le_of_ble_eq_true rfl)
  rw [lg_entry_eq]
  generalize (lg_sl ([.ref (P 0), .int a1]) ++ List.replicate (2 - (lg_sl ([.ref (P 0), .int a1])).length) Slot.unset).toArray = ls at hl ⊢
  have hl : lv_has ls 2 [(0, .ref (P 0)), (1, .int a1)] := hl
  exact b_ChipMap_state_0 hx hb hml hr hlk hgt hown hK hO hAO M a1 s.heap [] ls hl hP hD hS h
end
