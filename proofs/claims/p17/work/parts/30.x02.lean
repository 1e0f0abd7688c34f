def q_Reader_numberBehindSign  (M : Mm)  : Rs := cal (q_Reader_take M 61) fun M1 r2 => if r2 = 0 then (some (M1, (-1))) else (cal (q_Reader_number M1 16 1 4) fun M3 r4 => some (M3, r4))
set_option maxHeartbeats 4000000 in
set_option maxRecDepth 20000 in
theorem b_Reader_numberBehindSign_0 {p : Program} {l : Launch} {e : Env} {s s0 : State} {m : MethodId} {args : Array Value} {below : List Frame} {meth : Method} {c : Code} {D : va_G} {cI cZ cC cJ cA : ClassId} {P : Nat → Nat} {M' : Mm} {r' : Int32}  (hx : p.tables.exec = Jvm.exec) (hb : c.code = cX10_numberBehindSign) (hml : c.maxLocals = 1) (hr : meth.sig.returnType = (some .int)) (hlk : meth.locks = false) (hgt : ∀ w ∈ GT, w.before args s = true) (hown : s.vm.findClass RX10 = some m.cls) (hK : va_K D vwCl [(cI, .int), (cZ, .boolean), (cC, .char), (cJ, .long), (cA, .array .int)] s) (hO : Old s0 s) (hAO : ∀ q, (aP P 77) q → s0.heap.size ≤ q)  : ∀ (M : Mm)  (H : Heap) (locs : List Loc) (ls : Array Slot), lv_has ls 1 [(0, .ref (P 21))] → va_P D vwCl ((wX cI cZ cC cJ cA P) M) H → va_D (aP P 77) ((wX cI cZ cC cJ cA P) M) → va_S (aP P 77) s.heap H locs → q_Reader_numberBehindSign M = some (M', r') → W p l e ({ frames := 2, cells := 0, slots := 0, locals := 47 }) s m args below meth c H locs 0 0 (MQ below (gQi D (aP P 77) ((wX cI cZ cC cJ cA P) M') r') args s 0 0 (aP P 77)) (F0 m 0 ls []) := by
  intro M H locs ls hl hP hD hS h
  unfold q_Reader_numberBehindSign at h
  refine lv_aload_n hx hb dX10_numberBehindSign_0 rfl (lv_at hl 0 rfl) ?_
  refine lv_bipush (v := 61) hx hb dX10_numberBehindSign_1 (by decide) ?_
  obtain ⟨M1, r2, hq, h⟩ := cal_o h
  refine cx_i (va_runV (As := [.int 61]) (rest := []) ⟨hx, hb, hml, hown, hgt⟩ (z_Reader_take l D cI cZ cC cJ cA P s0 hAO M 61 M1 r2 hq) (cwV 1 hgt (gV wd_3_158 wd_3_160 sl__ChipMap_Reader____ChipMap_Reader___take____C_Z_____ChipMap_Reader___take____C_Z__ wd_0_4 wd_3_161) rfl rfl rfl (by decide +kernel) ⟨Nat.le_of_ble_eq_true rfl, Nat.le_of_ble_eq_true rfl⟩) (prV hP hK hD hO hAO hS (va_recv hK hP (ci := 10) (q0 := 21) rfl gX_21)) rfl rfl hl.1 rfl (lv_room (Nat.le_of_ble_eq_true rfl)) dX10_numberBehindSign_3 ⟨Nat.le_of_ble_eq_true rfl, Nat.le_of_ble_eq_true rfl⟩) hS (fun H locs hP hD hS => ?_)
  refine lv_if_eq hx hb dX10_numberBehindSign_6 (tgt := 20) rfl (fun hc => ?_) (fun hc => ?_)
  · have h := br_T hc h
    refine lv_iconst (v := (-1)) hx hb dX10_numberBehindSign_20 (by decide) ?_
    exact rt_i (w := (wX cI cZ cC cJ cA P)) hx hb hr hlk hP hD hS h dX10_numberBehindSign_21
  · have h := br_F hc h
    refine lv_aload_n hx hb dX10_numberBehindSign_9 rfl (lv_at hl 0 rfl) ?_
    refine lv_bipush (v := 16) hx hb dX10_numberBehindSign_10 (by decide) ?_
    refine lv_iconst (v := 1) hx hb dX10_numberBehindSign_12 (by decide) ?_
    refine lv_iconst (v := 4) hx hb dX10_numberBehindSign_13 (by decide) ?_
    obtain ⟨M3, r4, hq, h⟩ := cal_o h
    refine cx_i (va_runV (As := [.int 16, .int 1, .int 4]) (rest := []) ⟨hx, hb, hml, hown, hgt⟩ (z_Reader_number l D cI cZ cC cJ cA P s0 hAO M1 16 1 4 M3 r4 hq) (cwV 3 hgt (gV wd_3_162 wd_3_164 sl__ChipMap_Reader____ChipMap_Reader___number____III_I_____ChipMap_Reader___number____III_I__ wd_0_4 wd_3_165) rfl rfl rfl (by decide +kernel) ⟨Nat.le_of_ble_eq_true rfl, Nat.le_of_ble_eq_true rfl⟩) (prV hP hK hD hO hAO hS (va_recv hK hP (ci := 10) (q0 := 21) rfl gX_21)) rfl rfl hl.1 rfl (lv_room (Nat.le_of_ble_eq_true rfl)) dX10_numberBehindSign_14 ⟨Nat.le_of_ble_eq_true rfl, Nat.le_of_ble_eq_true rfl⟩) hS (fun H locs hP hD hS => ?_)
    refine lv_goto hx hb dX10_numberBehindSign_17 (tgt := 21) rfl ?_
    exact rt_i (w := (wX cI cZ cC cJ cA P)) hx hb hr hlk hP hD hS h dX10_numberBehindSign_21
set_option maxHeartbeats 4000000 in
set_option maxRecDepth 20000 in
theorem z_Reader_numberBehindSign (l : Launch) (D : va_G) (cI cZ cC cJ cA : ClassId) (P : Nat → Nat) (s0 : State) (hAO : ∀ q, (aP P 77) q → s0.heap.size ≤ q) (M : Mm)  (M' : Mm) (r' : Int32) (h : q_Reader_numberBehindSign M = some (M', r')) : Met l yX10_numberBehindSign wsX10_numberBehindSign ({ frames := 2, cells := 0, slots := 0, locals := 47 }) (va_Pc [.ref (P 21)] (gPre s0 D [(cI, .int), (cZ, .boolean), (cC, .char), (cJ, .long), (cA, .array .int)] (aP P 77) ((wX cI cZ cC cJ cA P) M))) (gQi D (aP P 77) ((wX cI cZ cC cJ cA P) M') r') 0 0 (aP P 77) := by
  refine Met.ofW (cc := cX10_numberBehindSign) (maxL := 1) (ret := (some .int)) (by decide) rfl ?_
  intro p e s m args below meth c s₁ B hml hv
  obtain ⟨rfl, hP, hK, hD, hO⟩ := hv
  have hx := B.exec
  have hb := B.bytes
  have hr := B.returns
  have hlk := B.notSynchronized
  have hgt := fun w (h : w ∈ GT) => atoms_spec (ws := wsX10_numberBehindSign) B.pre w (List.mem_cons_of_mem _ h)
  have hown : s.vm.findClass RX10 = some m.cls := findClass_of_methodNamed B.named
  have hS : va_S (aP P 77) s.heap s.heap [] := va_S.rf
  have hl := lv_entry ([.ref (P 21)]) (n := 1) (Nat.le_of_ble_eq_true rfl)
  rw [lg_entry_eq]
  generalize (lg_sl ([.ref (P 21)]) ++ List.replicate (1 - (lg_sl ([.ref (P 21)])).length) Slot.unset).toArray = ls at hl ⊢
  have hl : lv_has ls 1 [(0, .ref (P 21))] := hl
  exact b_Reader_numberBehindSign_0 hx hb hml hr hlk hgt hown hK hO hAO M s.heap [] ls hl hP hD hS h
def q_Reader_readField_187  (M : Mm) (v2 : Int32) (t0 : Int32) (t1 : Int32) : Rs := ix t1 128 <| lt' (stI M 13 (upd (M.1 13) (t1 : Int32).toNatClampNeg t0)) fun M1 => lt' (stI M1 1 (upd (M1.1 1) 6 (v2 + 1))) fun M2 => ix v2 128 <| if (M2.1 13 (v2 : Int32).toNatClampNeg) = (-1) then (some (M2, 0)) else (cal (q_Reader_take M2 59) fun M3 r4 => if r4 = 0 then (some (M3, 0)) else (some (M3, 1)))
def q_Reader_readField  (M : Mm) (a1 : Int32) : Rs := lt' (M.1 1 6) fun x1 => ix x1 128 <| lt' (stI M 9 (upd (M.1 9) (x1 : Int32).toNatClampNeg a1)) fun M2 => ix x1 128 <| lt' (stI M2 8 (upd (M2.1 8) (x1 : Int32).toNatClampNeg (M2.1 21 3))) fun M3 => cal (q_Reader_name M3) fun M4 r5 => ix x1 128 <| lt' (stI M4 7 (upd (M4.1 7) (x1 : Int32).toNatClampNeg r5)) fun M6 => ix x1 128 <| if (M6.1 7 (x1 : Int32).toNatClampNeg) = (-1) then (some (M6, 0)) else (cal (q_Reader_oneOf M6) fun M7 r8 => ix x1 128 <| lt' (stI M7 10 (upd (M7.1 10) (x1 : Int32).toNatClampNeg r8)) fun M9 => ix x1 128 <| if (M9.1 10 (x1 : Int32).toNatClampNeg) = (-1) then (some (M9, 0)) else (cal (q_Reader_number M9 10 1 2) fun M10 r11 => ix x1 128 <| lt' (stI M10 11 (upd (M10.1 11) (x1 : Int32).toNatClampNeg r11)) fun M12 => ix x1 128 <| if (M12.1 11 (x1 : Int32).toNatClampNeg) = (-1) then (some (M12, 0)) else (cal (q_Reader_take M12 58) fun M13 r14 => if r14 = 0 then (some (M13, 0)) else (cal (q_Reader_number M13 10 1 2) fun M15 r16 => ix x1 128 <| lt' (stI M15 12 (upd (M15.1 12) (x1 : Int32).toNatClampNeg r16)) fun M17 => ix x1 128 <| if (M17.1 12 (x1 : Int32).toNatClampNeg) = (-1) then (some (M17, 0)) else (cal (q_Reader_next M17) fun M18 r19 => if r19 = 61 then (cal (q_Reader_numberBehindSign M18) fun M20 r21 => q_Reader_readField_187 M20 x1 r21 x1) else (q_Reader_readField_187 M18 x1 0 x1))))))
set_option maxHeartbeats 4000000 in
set_option maxRecDepth 20000 in
theorem b_Reader_readField_187 {p : Program} {l : Launch} {e : Env} {s s0 : State} {m : MethodId} {args : Array Value} {below : List Frame} {meth : Method} {c : Code} {D : va_G} {cI cZ cC cJ cA : ClassId} {P : Nat → Nat} {M' : Mm} {r' : Int32}  {qS : Nat → Nat} (hx : p.tables.exec = Jvm.exec) (hb : c.code = cX10_readField) (hml : c.maxLocals = 3) (hr : meth.sig.returnType = (some .boolean)) (hlk : meth.locks = false) (hgt : ∀ w ∈ GT, w.before args s = true) (hown : s.vm.findClass RX10 = some m.cls) (hK : va_K D vwCl [(cI, .int), (cZ, .boolean), (cC, .char), (cJ, .long), (cA, .array .int)] s) (hO : Old s0 s) (hAO : ∀ q, (aP P 77) q → s0.heap.size ≤ q) (hE : xE s0 qS)  : ∀ (M : Mm) (v2 : Int32) (t0 : Int32) (t1 : Int32) (H : Heap) (locs : List Loc) (ls : Array Slot), lv_has ls 3 [(0, .ref (P 21)), (2, .int v2)] → va_P D vwCl ((wX cI cZ cC cJ cA P) M) H → va_D (aP P 77) ((wX cI cZ cC cJ cA P) M) → va_S (aP P 77) s.heap H locs → q_Reader_readField_187 M v2 t0 t1 = some (M', r') → W p l e ({ frames := 5, cells := 0, slots := 0, locals := 113 }) s m args below meth c H locs 0 0 (MQ below (gQi D (aP P 77) ((wX cI cZ cC cJ cA P) M') r') args s 0 0 (aP P 77)) (F0 m 187 ls [.int t0, .int t1, .ref (P 13)]) := by
  intro M v2 t0 t1 H locs ls hl hP hD hS h
  unfold q_Reader_readField_187 at h
  refine pm_iast (w := (wX cI cZ cC cJ cA P)) hx hb hK hP hD hS 13 0 gX_13 rfl sX_13 (ix_l h) dX10_readField_187 (fun M1 eM1 H locs hP hD hS => ?_)
  have h := ix_r h
  have h := lt_o eM1 h
  refine lv_aload_n hx hb dX10_readField_188 rfl (lv_at hl 0 rfl) ?_
  refine va_get (D := D) (ci := 10) (v := .ref (P 1)) (C := RX10) (T := TX10) (N := 4) hx hb hgt iwX10 hown hK hP 21 gX_21 rfl 0 (Nat.le_of_ble_eq_true rfl) (hgt _ wd_0_187) (fun _ h9 => h9) rfl dX10_readField_189 ?_
  refine lv_iload_n hx hb dX10_readField_192 rfl (lv_at hl 1 rfl) ?_
  refine lv_iconst (v := 1) hx hb dX10_readField_193 (by decide) ?_
  refine lv_iadd hx hb dX10_readField_194 ?_
  refine pm_put (w := (wX cI cZ cC cJ cA P)) (D := D) (ci := 4) (x := (v2 + 1)) (ty := .int) (C := RX4) (T := TX4) (N := 15) hx hb hgt iwX4 tyX4 tyX4_ok nmX4 hown hK hP hD hS 1 gX_1 rfl 6 (Nat.le_of_ble_eq_true rfl) (hgt _ wd_0_118) (fun _ h9 => h9) rfl (by decide +kernel) rfl rfl (Nat.le_of_ble_eq_true rfl) (sX_1_6 _) dX10_readField_195 (fun M2 eM2 H locs hP hD hS => ?_)
  have h := lt_o eM2 h
  refine lv_aload_n hx hb dX10_readField_198 rfl (lv_at hl 0 rfl) ?_
  refine va_get (D := D) (ci := 10) (v := .ref (P 1)) (C := RX10) (T := TX10) (N := 4) hx hb hgt iwX10 hown hK hP 21 gX_21 rfl 0 (Nat.le_of_ble_eq_true rfl) (hgt _ wd_0_187) (fun _ h9 => h9) rfl dX10_readField_199 ?_
  refine va_get (D := D) (ci := 4) (v := .ref (P 13)) (C := RX4) (T := TX4) (N := 15) hx hb hgt iwX4 hown hK hP 1 gX_1 rfl 13 (Nat.le_of_ble_eq_true rfl) (hgt _ wd_0_145) (fun _ h9 => h9) rfl dX10_readField_202 ?_
  refine lv_iload_n hx hb dX10_readField_205 rfl (lv_at hl 1 rfl) ?_
  refine va_iald hx hb hK hP 13 0 gX_13 rfl (ix_l h) dX10_readField_206 ?_
  have h := ix_r h
  refine lv_iconst (v := (-1)) hx hb dX10_readField_207 (by decide) ?_
  refine lv_icmp_eq hx hb dX10_readField_208 (tgt := 224) rfl (fun hc => ?_) (fun hc => ?_)
  · have h := br_T hc h
    refine lv_iconst (v := 0) hx hb dX10_readField_224 (by decide) ?_
    exact rt_z (w := (wX cI cZ cC cJ cA P)) hx hb hr hlk rfl hP hD hS h dX10_readField_225
  · have h := br_F hc h
    refine lv_aload_n hx hb dX10_readField_211 rfl (lv_at hl 0 rfl) ?_
    refine lv_bipush (v := 59) hx hb dX10_readField_212 (by decide) ?_
    obtain ⟨M3, r4, hq, h⟩ := cal_o h
    refine cx_i (va_runV (As := [.int 59]) (rest := []) ⟨hx, hb, hml, hown, hgt⟩ (z_Reader_take l D cI cZ cC cJ cA P s0 hAO M2 59 M3 r4 hq) (cwV 1 hgt (gV wd_3_158 wd_3_160 sl__ChipMap_Reader____ChipMap_Reader___take____C_Z_____ChipMap_Reader___take____C_Z__ wd_0_4 wd_3_161) rfl rfl rfl (by decide +kernel) ⟨Nat.le_of_ble_eq_true rfl, Nat.le_of_ble_eq_true rfl⟩) (prV hP hK hD hO hAO hS (va_recv hK hP (ci := 10) (q0 := 21) rfl gX_21)) rfl rfl hl.1 rfl (lv_room (Nat.le_of_ble_eq_true rfl)) dX10_readField_214 ⟨Nat.le_of_ble_eq_true rfl, Nat.le_of_ble_eq_true rfl⟩) hS (fun H locs hP hD hS => ?_)
    refine lv_if_eq hx hb dX10_readField_217 (tgt := 224) rfl (fun hc => ?_) (fun hc => ?_)
    · have h := br_T hc h
      refine lv_iconst (v := 0) hx hb dX10_readField_224 (by decide) ?_
      exact rt_z (w := (wX cI cZ cC cJ cA P)) hx hb hr hlk rfl hP hD hS h dX10_readField_225
    · have h := br_F hc h
      refine lv_iconst (v := 1) hx hb dX10_readField_220 (by decide) ?_
      refine lv_goto hx hb dX10_readField_221 (tgt := 225) rfl ?_
      exact rt_z (w := (wX cI cZ cC cJ cA P)) hx hb hr hlk rfl hP hD hS h dX10_readField_225
set_option maxHeartbeats 4000000 in
set_option maxRecDepth 20000 in
theorem b_Reader_readField_0 {p : Program} {l : Launch} {e : Env} {s s0 : State} {m : MethodId} {args : Array Value} {below : List Frame} {meth : Method} {c : Code} {D : va_G} {cI cZ cC cJ cA : ClassId} {P : Nat → Nat} {M' : Mm} {r' : Int32}  {qS : Nat → Nat} (hx : p.tables.exec = Jvm.exec) (hb : c.code = cX10_readField) (hml : c.maxLocals = 3) (hr : meth.sig.returnType = (some .boolean)) (hlk : meth.locks = false) (hgt : ∀ w ∈ GT, w.before args s = true) (hown : s.vm.findClass RX10 = some m.cls) (hK : va_K D vwCl [(cI, .int), (cZ, .boolean), (cC, .char), (cJ, .long), (cA, .array .int)] s) (hO : Old s0 s) (hAO : ∀ q, (aP P 77) q → s0.heap.size ≤ q) (hE : xE s0 qS)  : ∀ (M : Mm) (a1 : Int32) (H : Heap) (locs : List Loc) (ls : Array Slot), lv_has ls 3 [(0, .ref (P 21)), (1, .int a1)] → va_P D vwCl ((wX cI cZ cC cJ cA P) M) H → va_D (aP P 77) ((wX cI cZ cC cJ cA P) M) → va_S (aP P 77) s.heap H locs → q_Reader_readField M a1 = some (M', r') → W p l e ({ frames := 5, cells := 0, slots := 0, locals := 113 }) s m args below meth c H locs 0 0 (MQ below (gQi D (aP P 77) ((wX cI cZ cC cJ cA P) M') r') args s 0 0 (aP P 77)) (F0 m 0 ls []) := by
  intro M a1 H locs ls hl hP hD hS h
  unfold q_Reader_readField at h
  refine lv_aload_n hx hb dX10_readField_0 rfl (lv_at hl 0 rfl) ?_
  refine va_get (D := D) (ci := 10) (v := .ref (P 1)) (C := RX10) (T := TX10) (N := 4) hx hb hgt iwX10 hown hK hP 21 gX_21 rfl 0 (Nat.le_of_ble_eq_true rfl) (hgt _ wd_0_187) (fun _ h9 => h9) rfl dX10_readField_1 ?_
  refine va_get (D := D) (ci := 4) (v := .int (M.1 1 6)) (C := RX4) (T := TX4) (N := 15) hx hb hgt iwX4 hown hK hP 1 gX_1 rfl 6 (Nat.le_of_ble_eq_true rfl) (hgt _ wd_0_118) (fun _ h9 => h9) rfl dX10_readField_4 ?_
  refine lv_topi (fun x1 ex1 => ?_)
  have h := lt_o ex1 h
  refine lv_istore_n hx hb dX10_readField_7 rfl hl (Nat.le_of_ble_eq_true rfl) (lv' := [(2, .int x1), (0, .ref (P 21)), (1, .int a1)]) rfl (fun ls hl => ?_)
  refine lv_aload_n hx hb dX10_readField_8 rfl (lv_at hl 1 rfl) ?_
  refine va_get (D := D) (ci := 10) (v := .ref (P 1)) (C := RX10) (T := TX10) (N := 4) hx hb hgt iwX10 hown hK hP 21 gX_21 rfl 0 (Nat.le_of_ble_eq_true rfl) (hgt _ wd_0_187) (fun _ h9 => h9) rfl dX10_readField_9 ?_
  refine va_get (D := D) (ci := 4) (v := .ref (P 9)) (C := RX4) (T := TX4) (N := 15) hx hb hgt iwX4 hown hK hP 1 gX_1 rfl 9 (Nat.le_of_ble_eq_true rfl) (hgt _ wd_0_129) (fun _ h9 => h9) rfl dX10_readField_12 ?_
  refine lv_iload_n hx hb dX10_readField_15 rfl (lv_at hl 0 rfl) ?_
  refine lv_iload_n hx hb dX10_readField_16 rfl (lv_at hl 2 rfl) ?_
  refine pm_iast (w := (wX cI cZ cC cJ cA P)) hx hb hK hP hD hS 9 0 gX_9 rfl sX_9 (ix_l h) dX10_readField_17 (fun M2 eM2 H locs hP hD hS => ?_)
  have h := ix_r h
  have h := lt_o eM2 h
  refine lv_aload_n hx hb dX10_readField_18 rfl (lv_at hl 1 rfl) ?_
  refine va_get (D := D) (ci := 10) (v := .ref (P 1)) (C := RX10) (T := TX10) (N := 4) hx hb hgt iwX10 hown hK hP 21 gX_21 rfl 0 (Nat.le_of_ble_eq_true rfl) (hgt _ wd_0_187) (fun _ h9 => h9) rfl dX10_readField_19 ?_
  refine va_get (D := D) (ci := 4) (v := .ref (P 8)) (C := RX4) (T := TX4) (N := 15) hx hb hgt iwX4 hown hK hP 1 gX_1 rfl 8 (Nat.le_of_ble_eq_true rfl) (hgt _ wd_0_125) (fun _ h9 => h9) rfl dX10_readField_22 ?_
  refine lv_iload_n hx hb dX10_readField_25 rfl (lv_at hl 0 rfl) ?_
  refine lv_aload_n hx hb dX10_readField_26 rfl (lv_at hl 1 rfl) ?_
  refine va_get (D := D) (ci := 10) (v := .int (M2.1 21 3)) (C := RX10) (T := TX10) (N := 4) hx hb hgt iwX10 hown hK hP 21 gX_21 rfl 3 (Nat.le_of_ble_eq_true rfl) (hgt _ wd_0_191) (fun _ h9 => h9) rfl dX10_readField_27 ?_
  refine pm_iast (w := (wX cI cZ cC cJ cA P)) hx hb hK hP hD hS 8 0 gX_8 rfl sX_8 (ix_l h) dX10_readField_30 (fun M3 eM3 H locs hP hD hS => ?_)
  have h := ix_r h
  have h := lt_o eM3 h
  refine lv_aload_n hx hb dX10_readField_31 rfl (lv_at hl 1 rfl) ?_
  refine va_get (D := D) (ci := 10) (v := .ref (P 1)) (C := RX10) (T := TX10) (N := 4) hx hb hgt iwX10 hown hK hP 21 gX_21 rfl 0 (Nat.le_of_ble_eq_true rfl) (hgt _ wd_0_187) (fun _ h9 => h9) rfl dX10_readField_32 ?_
  refine va_get (D := D) (ci := 4) (v := .ref (P 7)) (C := RX4) (T := TX4) (N := 15) hx hb hgt iwX4 hown hK hP 1 gX_1 rfl 7 (Nat.le_of_ble_eq_true rfl) (hgt _ wd_0_122) (fun _ h9 => h9) rfl dX10_readField_35 ?_
  refine lv_iload_n hx hb dX10_readField_38 rfl (lv_at hl 0 rfl) ?_
  refine lv_aload_n hx hb dX10_readField_39 rfl (lv_at hl 1 rfl) ?_
  obtain ⟨M4, r5, hq, h⟩ := cal_o h
  refine cx_i (va_runV (As := []) (rest := [.int x1, .ref (P 7)]) ⟨hx, hb, hml, hown, hgt⟩ (z_Reader_name l D cI cZ cC cJ cA P s0 hAO M3 M4 r5 hq) (cwV 0 hgt (gV wd_3_173 wd_3_175 sl__ChipMap_Reader____ChipMap_Reader___name_____I_____ChipMap_Reader___name_____I__ wd_0_4 wd_3_176) rfl rfl rfl (by decide +kernel) ⟨Nat.le_of_ble_eq_true rfl, Nat.le_of_ble_eq_true rfl⟩) (prV hP hK hD hO hAO hS (va_recv hK hP (ci := 10) (q0 := 21) rfl gX_21)) rfl rfl hl.1 rfl (lv_room (Nat.le_of_ble_eq_true rfl)) dX10_readField_40 ⟨Nat.le_of_ble_eq_true rfl, Nat.le_of_ble_eq_true rfl⟩) hS (fun H locs hP hD hS => ?_)
  refine pm_iast (w := (wX cI cZ cC cJ cA P)) hx hb hK hP hD hS 7 0 gX_7 rfl sX_7 (ix_l h) dX10_readField_43 (fun M6 eM6 H locs hP hD hS => ?_)
  have h := ix_r h
  have h := lt_o eM6 h
  refine lv_aload_n hx hb dX10_readField_44 rfl (lv_at hl 1 rfl) ?_
  refine va_get (D := D) (ci := 10) (v := .ref (P 1)) (C := RX10) (T := TX10) (N := 4) hx hb hgt iwX10 hown hK hP 21 gX_21 rfl 0 (Nat.le_of_ble_eq_true rfl) (hgt _ wd_0_187) (fun _ h9 => h9) rfl dX10_readField_45 ?_
  refine va_get (D := D) (ci := 4) (v := .ref (P 7)) (C := RX4) (T := TX4) (N := 15) hx hb hgt iwX4 hown hK hP 1 gX_1 rfl 7 (Nat.le_of_ble_eq_true rfl) (hgt _ wd_0_122) (fun _ h9 => h9) rfl dX10_readField_48 ?_
  refine lv_iload_n hx hb dX10_readField_51 rfl (lv_at hl 0 rfl) ?_
  refine va_iald hx hb hK hP 7 0 gX_7 rfl (ix_l h) dX10_readField_52 ?_
  have h := ix_r h
  refine lv_iconst (v := (-1)) hx hb dX10_readField_53 (by decide) ?_
  refine lv_icmp_ne hx hb dX10_readField_54 (tgt := 59) rfl (fun hc => ?_) (fun hc => ?_)
  · have h := br_F hc h
    refine lv_aload_n hx hb dX10_readField_59 rfl (lv_at hl 1 rfl) ?_
    refine va_get (D := D) (ci := 10) (v := .ref (P 1)) (C := RX10) (T := TX10) (N := 4) hx hb hgt iwX10 hown hK hP 21 gX_21 rfl 0 (Nat.le_of_ble_eq_true rfl) (hgt _ wd_0_187) (fun _ h9 => h9) rfl dX10_readField_60 ?_
    refine va_get (D := D) (ci := 4) (v := .ref (P 10)) (C := RX4) (T := TX4) (N := 15) hx hb hgt iwX4 hown hK hP 1 gX_1 rfl 10 (Nat.le_of_ble_eq_true rfl) (hgt _ wd_0_133) (fun _ h9 => h9) rfl dX10_readField_63 ?_
    refine lv_iload_n hx hb dX10_readField_66 rfl (lv_at hl 0 rfl) ?_
    refine lv_aload_n hx hb dX10_readField_67 rfl (lv_at hl 1 rfl) ?_
    refine va_ldcS hx hb hown (hE.l0.warm hO.1) dX10_readField_68 ?_
    obtain ⟨M7, r8, hq, h⟩ := cal_o h
    refine cx_i (va_runV (As := [.ref (qS 0)]) (rest := [.int x1, .ref (P 10)]) ⟨hx, hb, hml, hown, hgt⟩ (z_Reader_oneOf l D cI cZ cC cJ cA P s0 hAO qS hE M6 M7 r8 hq) (cwV 1 hgt (gV wd_3_182 wd_3_184 sl__ChipMap_Reader____ChipMap_Reader___oneOf____Ljava_lang_String__I_____ChipMap_Reader___oneOf____Ljava_lang_String__I__ wd_0_4 wd_3_185) rfl rfl rfl (by decide +kernel) ⟨Nat.le_of_ble_eq_true rfl, Nat.le_of_ble_eq_true rfl⟩) (prV hP hK hD hO hAO hS (va_recv hK hP (ci := 10) (q0 := 21) rfl gX_21)) rfl rfl hl.1 rfl (lv_room (Nat.le_of_ble_eq_true rfl)) dX10_readField_70 ⟨Nat.le_of_ble_eq_true rfl, Nat.le_of_ble_eq_true rfl⟩) hS (fun H locs hP hD hS => ?_)
    refine pm_iast (w := (wX cI cZ cC cJ cA P)) hx hb hK hP hD hS 10 0 gX_10 rfl sX_10 (ix_l h) dX10_readField_73 (fun M9 eM9 H locs hP hD hS => ?_)
    have h := ix_r h
    have h := lt_o eM9 h
    refine lv_aload_n hx hb dX10_readField_74 rfl (lv_at hl 1 rfl) ?_
    refine va_get (D := D) (ci := 10) (v := .ref (P 1)) (C := RX10) (T := TX10) (N := 4) hx hb hgt iwX10 hown hK hP 21 gX_21 rfl 0 (Nat.le_of_ble_eq_true rfl) (hgt _ wd_0_187) (fun _ h9 => h9) rfl dX10_readField_75 ?_
    refine va_get (D := D) (ci := 4) (v := .ref (P 10)) (C := RX4) (T := TX4) (N := 15) hx hb hgt iwX4 hown hK hP 1 gX_1 rfl 10 (Nat.le_of_ble_eq_true rfl) (hgt _ wd_0_133) (fun _ h9 => h9) rfl dX10_readField_78 ?_
    refine lv_iload_n hx hb dX10_readField_81 rfl (lv_at hl 0 rfl) ?_
    refine va_iald hx hb hK hP 10 0 gX_10 rfl (ix_l h) dX10_readField_82 ?_
    have h := ix_r h
    refine lv_iconst (v := (-1)) hx hb dX10_readField_83 (by decide) ?_
    refine lv_icmp_ne hx hb dX10_readField_84 (tgt := 89) rfl (fun hc => ?_) (fun hc => ?_)
    · have h := br_F hc h
      refine lv_aload_n hx hb dX10_readField_89 rfl (lv_at hl 1 rfl) ?_
      refine va_get (D := D) (ci := 10) (v := .ref (P 1)) (C := RX10) (T := TX10) (N := 4) hx hb hgt iwX10 hown hK hP 21 gX_21 rfl 0 (Nat.le_of_ble_eq_true rfl) (hgt _ wd_0_187) (fun _ h9 => h9) rfl dX10_readField_90 ?_
      refine va_get (D := D) (ci := 4) (v := .ref (P 11)) (C := RX4) (T := TX4) (N := 15) hx hb hgt iwX4 hown hK hP 1 gX_1 rfl 11 (Nat.le_of_ble_eq_true rfl) (hgt _ wd_0_137) (fun _ h9 => h9) rfl dX10_readField_93 ?_
      refine lv_iload_n hx hb dX10_readField_96 rfl (lv_at hl 0 rfl) ?_
      refine lv_aload_n hx hb dX10_readField_97 rfl (lv_at hl 1 rfl) ?_
      refine lv_bipush (v := 10) hx hb dX10_readField_98 (by decide) ?_
      refine lv_iconst (v := 1) hx hb dX10_readField_100 (by decide) ?_
      refine lv_iconst (v := 2) hx hb dX10_readField_101 (by decide) ?_
      obtain ⟨M10, r11, hq, h⟩ := cal_o h
      refine cx_i (va_runV (As := [.int 10, .int 1, .int 2]) (rest := [.int x1, .ref (P 11)]) ⟨hx, hb, hml, hown, hgt⟩ (z_Reader_number l D cI cZ cC cJ cA P s0 hAO M9 10 1 2 M10 r11 hq) (cwV 3 hgt (gV wd_3_162 wd_3_164 sl__ChipMap_Reader____ChipMap_Reader___number____III_I_____ChipMap_Reader___number____III_I__ wd_0_4 wd_3_165) rfl rfl rfl (by decide +kernel) ⟨Nat.le_of_ble_eq_true rfl, Nat.le_of_ble_eq_true rfl⟩) (prV hP hK hD hO hAO hS (va_recv hK hP (ci := 10) (q0 := 21) rfl gX_21)) rfl rfl hl.1 rfl (lv_room (Nat.le_of_ble_eq_true rfl)) dX10_readField_102 ⟨Nat.le_of_ble_eq_true rfl, Nat.le_of_ble_eq_true rfl⟩) hS (fun H locs hP hD hS => ?_)
      refine pm_iast (w := (wX cI cZ cC cJ cA P)) hx hb hK hP hD hS 11 0 gX_11 rfl sX_11 (ix_l h) dX10_readField_105 (fun M12 eM12 H locs hP hD hS => ?_)
      have h := ix_r h
      have h := lt_o eM12 h
      refine lv_aload_n hx hb dX10_readField_106 rfl (lv_at hl 1 rfl) ?_
      refine va_get (D := D) (ci := 10) (v := .ref (P 1)) (C := RX10) (T := TX10) (N := 4) hx hb hgt iwX10 hown hK hP 21 gX_21 rfl 0 (Nat.le_of_ble_eq_true rfl) (hgt _ wd_0_187) (fun _ h9 => h9) rfl dX10_readField_107 ?_
      refine va_get (D := D) (ci := 4) (v := .ref (P 11)) (C := RX4) (T := TX4) (N := 15) hx hb hgt iwX4 hown hK hP 1 gX_1 rfl 11 (Nat.le_of_ble_eq_true rfl) (hgt _ wd_0_137) (fun _ h9 => h9) rfl dX10_readField_110 ?_
      refine lv_iload_n hx hb dX10_readField_113 rfl (lv_at hl 0 rfl) ?_
      refine va_iald hx hb hK hP 11 0 gX_11 rfl (ix_l h) dX10_readField_114 ?_
      have h := ix_r h
      refine lv_iconst (v := (-1)) hx hb dX10_readField_115 (by decide) ?_
      refine lv_icmp_eq hx hb dX10_readField_116 (tgt := 128) rfl (fun hc => ?_) (fun hc => ?_)
      · have h := br_T hc h
        refine lv_iconst (v := 0) hx hb dX10_readField_128 (by decide) ?_
        exact rt_z (w := (wX cI cZ cC cJ cA P)) hx hb hr hlk rfl hP hD hS h dX10_readField_129
      · have h := br_F hc h
        refine lv_aload_n hx hb dX10_readField_119 rfl (lv_at hl 1 rfl) ?_
        refine lv_bipush (v := 58) hx hb dX10_readField_120 (by decide) ?_
        obtain ⟨M13, r14, hq, h⟩ := cal_o h
        refine cx_i (va_runV (As := [.int 58]) (rest := []) ⟨hx, hb, hml, hown, hgt⟩ (z_Reader_take l D cI cZ cC cJ cA P s0 hAO M12 58 M13 r14 hq) (cwV 1 hgt (gV wd_3_158 wd_3_160 sl__ChipMap_Reader____ChipMap_Reader___take____C_Z_____ChipMap_Reader___take____C_Z__ wd_0_4 wd_3_161) rfl rfl rfl (by decide +kernel) ⟨Nat.le_of_ble_eq_true rfl, Nat.le_of_ble_eq_true rfl⟩) (prV hP hK hD hO hAO hS (va_recv hK hP (ci := 10) (q0 := 21) rfl gX_21)) rfl rfl hl.1 rfl (lv_room (Nat.le_of_ble_eq_true rfl)) dX10_readField_122 ⟨Nat.le_of_ble_eq_true rfl, Nat.le_of_ble_eq_true rfl⟩) hS (fun H locs hP hD hS => ?_)
        refine lv_if_ne hx hb dX10_readField_125 (tgt := 130) rfl (fun hc => ?_) (fun hc => ?_)
        · have h := br_F hc h
          refine lv_aload_n hx hb dX10_readField_130 rfl (lv_at hl 1 rfl) ?_
          refine va_get (D := D) (ci := 10) (v := .ref (P 1)) (C := RX10) (T := TX10) (N := 4) hx hb hgt iwX10 hown hK hP 21 gX_21 rfl 0 (Nat.le_of_ble_eq_true rfl) (hgt _ wd_0_187) (fun _ h9 => h9) rfl dX10_readField_131 ?_
          refine va_get (D := D) (ci := 4) (v := .ref (P 12)) (C := RX4) (T := TX4) (N := 15) hx hb hgt iwX4 hown hK hP 1 gX_1 rfl 12 (Nat.le_of_ble_eq_true rfl) (hgt _ wd_0_141) (fun _ h9 => h9) rfl dX10_readField_134 ?_
          refine lv_iload_n hx hb dX10_readField_137 rfl (lv_at hl 0 rfl) ?_
          refine lv_aload_n hx hb dX10_readField_138 rfl (lv_at hl 1 rfl) ?_
          refine lv_bipush (v := 10) hx hb dX10_readField_139 (by decide) ?_
          refine lv_iconst (v := 1) hx hb dX10_readField_141 (by decide) ?_
          refine lv_iconst (v := 2) hx hb dX10_readField_142 (by decide) ?_
          obtain ⟨M15, r16, hq, h⟩ := cal_o h
          refine cx_i (va_runV (As := [.int 10, .int 1, .int 2]) (rest := [.int x1, .ref (P 12)]) ⟨hx, hb, hml, hown, hgt⟩ (z_Reader_number l D cI cZ cC cJ cA P s0 hAO M13 10 1 2 M15 r16 hq) (cwV 3 hgt (gV wd_3_162 wd_3_164 sl__ChipMap_Reader____ChipMap_Reader___number____III_I_____ChipMap_Reader___number____III_I__ wd_0_4 wd_3_165) rfl rfl rfl (by decide +kernel) ⟨Nat.le_of_ble_eq_true rfl, Nat.le_of_ble_eq_true rfl⟩) (prV hP hK hD hO hAO hS (va_recv hK hP (ci := 10) (q0 := 21) rfl gX_21)) rfl rfl hl.1 rfl (lv_room (Nat.le_of_ble_eq_true rfl)) dX10_readField_143 ⟨Nat.le_of_ble_eq_true rfl, Nat.le_of_ble_eq_true rfl⟩) hS (fun H locs hP hD hS => ?_)
          refine pm_iast (w := (wX cI cZ cC cJ cA P)) hx hb hK hP hD hS 12 0 gX_12 rfl sX_12 (ix_l h) dX10_readField_146 (fun M17 eM17 H locs hP hD hS => ?_)
          have h := ix_r h
          have h := lt_o eM17 h
          refine lv_aload_n hx hb dX10_readField_147 rfl (lv_at hl 1 rfl) ?_
          refine va_get (D := D) (ci := 10) (v := .ref (P 1)) (C := RX10) (T := TX10) (N := 4) hx hb hgt iwX10 hown hK hP 21 gX_21 rfl 0 (Nat.le_of_ble_eq_true rfl) (hgt _ wd_0_187) (fun _ h9 => h9) rfl dX10_readField_148 ?_
          refine va_get (D := D) (ci := 4) (v := .ref (P 12)) (C := RX4) (T := TX4) (N := 15) hx hb hgt iwX4 hown hK hP 1 gX_1 rfl 12 (Nat.le_of_ble_eq_true rfl) (hgt _ wd_0_141) (fun _ h9 => h9) rfl dX10_readField_151 ?_
          refine lv_iload_n hx hb dX10_readField_154 rfl (lv_at hl 0 rfl) ?_
          refine va_iald hx hb hK hP 12 0 gX_12 rfl (ix_l h) dX10_readField_155 ?_
          have h := ix_r h
          refine lv_iconst (v := (-1)) hx hb dX10_readField_156 (by decide) ?_
          refine lv_icmp_ne hx hb dX10_readField_157 (tgt := 162) rfl (fun hc => ?_) (fun hc => ?_)
          · have h := br_F hc h
            refine lv_aload_n hx hb dX10_readField_162 rfl (lv_at hl 1 rfl) ?_
            refine va_get (D := D) (ci := 10) (v := .ref (P 1)) (C := RX10) (T := TX10) (N := 4) hx hb hgt iwX10 hown hK hP 21 gX_21 rfl 0 (Nat.le_of_ble_eq_true rfl) (hgt _ wd_0_187) (fun _ h9 => h9) rfl dX10_readField_163 ?_
            refine va_get (D := D) (ci := 4) (v := .ref (P 13)) (C := RX4) (T := TX4) (N := 15) hx hb hgt iwX4 hown hK hP 1 gX_1 rfl 13 (Nat.le_of_ble_eq_true rfl) (hgt _ wd_0_145) (fun _ h9 => h9) rfl dX10_readField_166 ?_
            refine lv_iload_n hx hb dX10_readField_169 rfl (lv_at hl 0 rfl) ?_
            refine lv_aload_n hx hb dX10_readField_170 rfl (lv_at hl 1 rfl) ?_
            obtain ⟨M18, r19, hq, h⟩ := cal_o h
            refine cx_i (va_runV (As := []) (rest := [.int x1, .ref (P 13)]) ⟨hx, hb, hml, hown, hgt⟩ (z_Reader_next l D cI cZ cC cJ cA P s0 hAO M17 M18 r19 hq) (cwV 0 hgt (gV wd_3_150 wd_3_152 sl__ChipMap_Reader____ChipMap_Reader___next_____C_____ChipMap_Reader___next_____C__ wd_0_4 wd_3_153) rfl rfl rfl (by decide +kernel) ⟨Nat.le_of_ble_eq_true rfl, Nat.le_of_ble_eq_true rfl⟩) (prV hP hK hD hO hAO hS (va_recv hK hP (ci := 10) (q0 := 21) rfl gX_21)) rfl rfl hl.1 rfl (lv_room (Nat.le_of_ble_eq_true rfl)) dX10_readField_171 ⟨Nat.le_of_ble_eq_true rfl, Nat.le_of_ble_eq_true rfl⟩) hS (fun H locs hP hD hS => ?_)
            refine lv_bipush (v := 61) hx hb dX10_readField_174 (by decide) ?_
            refine lv_icmp_ne hx hb dX10_readField_176 (tgt := 186) rfl (fun hc => ?_) (fun hc => ?_)
            · have h := br_F hc h
              refine lv_iconst (v := 0) hx hb dX10_readField_186 (by decide) ?_
              have hl := lv_sub hl [1, 0] (l' := [(0, .ref (P 21)), (2, .int x1)]) rfl
              exact b_Reader_readField_187 hx hb hml hr hlk hgt hown hK hO hAO hE M18 x1 0 x1 H _ ls hl hP hD hS h
            · have h := br_T hc h
              refine lv_aload_n hx hb dX10_readField_179 rfl (lv_at hl 1 rfl) ?_
              obtain ⟨M20, r21, hq, h⟩ := cal_o h
              refine cx_i (va_runV (As := []) (rest := [.int x1, .ref (P 13)]) ⟨hx, hb, hml, hown, hgt⟩ (z_Reader_numberBehindSign l D cI cZ cC cJ cA P s0 hAO M18 M20 r21 hq) (cwV 0 hgt (gV wd_4_21 wd_4_23 sl__ChipMap_Reader____ChipMap_Reader___numberBehindSign_____I_____ChipMap_Reader___numberBehindSign_____I__ wd_0_4 wd_4_24) rfl rfl rfl (by decide +kernel) ⟨Nat.le_of_ble_eq_true rfl, Nat.le_of_ble_eq_true rfl⟩) (prV hP hK hD hO hAO hS (va_recv hK hP (ci := 10) (q0 := 21) rfl gX_21)) rfl rfl hl.1 rfl (lv_room (Nat.le_of_ble_eq_true rfl)) dX10_readField_180 ⟨Nat.le_of_ble_eq_true rfl, Nat.le_of_ble_eq_true rfl⟩) hS (fun H locs hP hD hS => ?_)
              refine lv_goto hx hb dX10_readField_183 (tgt := 187) rfl ?_
              have hl := lv_sub hl [1, 0] (l' := [(0, .ref (P 21)), (2, .int x1)]) rfl
              exact b_Reader_readField_187 hx hb hml hr hlk hgt hown hK hO hAO hE M20 x1 r21 x1 H _ ls hl hP hD hS h
          · have h := br_T hc h
            refine lv_iconst (v := 0) hx hb dX10_readField_160 (by decide) ?_
            exact rt_z (w := (wX cI cZ cC cJ cA P)) hx hb hr hlk rfl hP hD hS h dX10_readField_161
        · have h := br_T hc h
          refine lv_iconst (v := 0) hx hb dX10_readField_128 (by decide) ?_
          exact rt_z (w := (wX cI cZ cC cJ cA P)) hx hb hr hlk rfl hP hD hS h dX10_readField_129
    · have h := br_T hc h
      refine lv_iconst (v := 0) hx hb dX10_readField_87 (by decide) ?_
      exact rt_z (w := (wX cI cZ cC cJ cA P)) hx hb hr hlk rfl hP hD hS h dX10_readField_88
  · have h := br_T hc h
    refine lv_iconst (v := 0) hx hb dX10_readField_57 (by decide) ?_
    exact rt_z (w := (wX cI cZ cC cJ cA P)) hx hb hr hlk rfl hP hD hS h dX10_readField_58
set_option maxHeartbeats 4000000 in
set_option maxRecDepth 20000 in
theorem z_Reader_readField (l : Launch) (D : va_G) (cI cZ cC cJ cA : ClassId) (P : Nat → Nat) (s0 : State) (hAO : ∀ q, (aP P 77) q → s0.heap.size ≤ q) (qS : Nat → Nat) (hE : xE s0 qS) (M : Mm) (a1 : Int32) (M' : Mm) (r' : Int32) (h : q_Reader_readField M a1 = some (M', r')) : Met l yX10_readField wsX10_readField ({ frames := 5, cells := 0, slots := 0, locals := 113 }) (va_Pc [.ref (P 21), .int a1] (gPre s0 D [(cI, .int), (cZ, .boolean), (cC, .char), (cJ, .long), (cA, .array .int)] (aP P 77) ((wX cI cZ cC cJ cA P) M))) (gQi D (aP P 77) ((wX cI cZ cC cJ cA P) M') r') 0 0 (aP P 77) := by
  refine Met.ofW (cc := cX10_readField) (maxL := 3) (ret := (some .boolean)) (by decide) rfl ?_
  intro p e s m args below meth c s₁ B hml hv
  obtain ⟨rfl, hP, hK, hD, hO⟩ := hv
  have hx := B.exec
  have hb := B.bytes
  have hr := B.returns
  have hlk := B.notSynchronized
  have hgt := fun w (h : w ∈ GT) => atoms_spec (ws := wsX10_readField) B.pre w (List.mem_cons_of_mem _ h)
  have hown : s.vm.findClass RX10 = some m.cls := findClass_of_methodNamed B.named
  have hS : va_S (aP P 77) s.heap s.heap [] := va_S.rf
  have hl := lv_entry ([.ref (P 21), .int a1]) (n := 3) (Nat.le_of_ble_eq_true rfl)
  rw [lg_entry_eq]
  generalize (lg_sl ([.ref (P 21), .int a1]) ++ List.replicate (3 - (lg_sl ([.ref (P 21), .int a1])).length) Slot.unset).toArray = ls at hl ⊢
  have hl : lv_has ls 3 [(0, .ref (P 21)), (1, .int a1)] := hl
  exact b_Reader_readField_0 hx hb hml hr hlk hgt hown hK hO hAO hE M a1 s.heap [] ls hl hP hD hS h
def q_Reader_readRegister_113  (M : Mm)  : Rs := cal (q_Reader_take M 125) fun M1 r2 => bz r2 (some (M1, r2))
def q_Reader_readRegister_97 (kf75 : Mm → Int32 → Int32 → Rs) (M : Mm) (v1 : Int32) (v2 : Int32) : Rs := cal (q_Reader_readField M v1) fun M1 r2 => if r2 = 0 then (some (M1, 0)) else (kf75 M1 v1 (v2 + 1))
def q_Reader_readRegister_75  : Nat → Mm → Int32 → Int32 → Rs
  | 0, _, _, _ => none
  | n' + 1, M, v1, v2 => if 8 ≤ v2 then (q_Reader_readRegister_113 M) else (if v2 ≤ 0 then (q_Reader_readRegister_97 (q_Reader_readRegister_75 n') M v1 v2) else (cal (q_Reader_next M) fun M1 r2 => if r2 = 125 then (q_Reader_readRegister_113 M1) else (q_Reader_readRegister_97 (q_Reader_readRegister_75 n') M1 v1 v2)))
def q_Reader_readRegister  (M : Mm) (a1 : Int32) : Rs := ix a1 16 <| lt' (stI M 2 (upd (M.1 2) (a1 : Int32).toNatClampNeg (M.1 21 3))) fun M1 => cal (q_Reader_take M1 64) fun M2 r3 => if r3 = 0 then (some (M2, 0)) else (cal (q_Reader_number M2 16 2 2) fun M4 r5 => ix a1 16 <| lt' (stI M4 3 (upd (M4.1 3) (a1 : Int32).toNatClampNeg r5)) fun M6 => ix a1 16 <| if (M6.1 3 (a1 : Int32).toNatClampNeg) = (-1) then (some (M6, 0)) else (cal (q_Reader_readBank M6 a1) fun M7 r8 => if r8 = 0 then (some (M7, 0)) else (cal (q_Reader_take M7 123) fun M9 r10 => if r10 = 0 then (some (M9, 0)) else (q_Reader_readRegister_75 4000 M9 a1 0))))
set_option maxHeartbeats 4000000 in
set_option maxRecDepth 20000 in
theorem b_Reader_readRegister_113 {p : Program} {l : Launch} {e : Env} {s s0 : State} {m : MethodId} {args : Array Value} {below : List Frame} {meth : Method} {c : Code} {D : va_G} {cI cZ cC cJ cA : ClassId} {P : Nat → Nat} {M' : Mm} {r' : Int32}  {qS : Nat → Nat} (hx : p.tables.exec = Jvm.exec) (hb : c.code = cX10_readRegister) (hml : c.maxLocals = 3) (hr : meth.sig.returnType = (some .boolean)) (hlk : meth.locks = false) (hgt : ∀ w ∈ GT, w.before args s = true) (hown : s.vm.findClass RX10 = some m.cls) (hK : va_K D vwCl [(cI, .int), (cZ, .boolean), (cC, .char), (cJ, .long), (cA, .array .int)] s) (hO : Old s0 s) (hAO : ∀ q, (aP P 77) q → s0.heap.size ≤ q) (hE : xE s0 qS)  : ∀ (M : Mm)  (H : Heap) (locs : List Loc) (ls : Array Slot), lv_has ls 3 [(0, .ref (P 21))] → va_P D vwCl ((wX cI cZ cC cJ cA P) M) H → va_D (aP P 77) ((wX cI cZ cC cJ cA P) M) → va_S (aP P 77) s.heap H locs → q_Reader_readRegister_113 M = some (M', r') → W p l e ({ frames := 6, cells := 0, slots := 0, locals := 135 }) s m args below meth c H locs 0 0 (MQ below (gQi D (aP P 77) ((wX cI cZ cC cJ cA P) M') r') args s 0 0 (aP P 77)) (F0 m 113 ls []) := by
  intro M H locs ls hl hP hD hS h
  unfold q_Reader_readRegister_113 at h
  refine lv_aload_n hx hb dX10_readRegister_113 rfl (lv_at hl 0 rfl) ?_
  refine lv_bipush (v := 125) hx hb dX10_readRegister_114 (by decide) ?_
  obtain ⟨M1, r2, hq, h⟩ := cal_o h
  refine cx_i (va_runV (As := [.int 125]) (rest := []) ⟨hx, hb, hml, hown, hgt⟩ (z_Reader_take l D cI cZ cC cJ cA P s0 hAO M 125 M1 r2 hq) (cwV 1 hgt (gV wd_3_158 wd_3_160 sl__ChipMap_Reader____ChipMap_Reader___take____C_Z_____ChipMap_Reader___take____C_Z__ wd_0_4 wd_3_161) rfl rfl rfl (by decide +kernel) ⟨Nat.le_of_ble_eq_true rfl, Nat.le_of_ble_eq_true rfl⟩) (prV hP hK hD hO hAO hS (va_recv hK hP (ci := 10) (q0 := 21) rfl gX_21)) rfl rfl hl.1 rfl (lv_room (Nat.le_of_ble_eq_true rfl)) dX10_readRegister_116 ⟨Nat.le_of_ble_eq_true rfl, Nat.le_of_ble_eq_true rfl⟩) hS (fun H locs hP hD hS => ?_)
  exact rt_z (w := (wX cI cZ cC cJ cA P)) hx hb hr hlk (bz_l h) hP hD hS (bz_r h) dX10_readRegister_119
set_option maxHeartbeats 4000000 in
set_option maxRecDepth 20000 in
theorem b_Reader_readRegister_97 {p : Program} {l : Launch} {e : Env} {s s0 : State} {m : MethodId} {args : Array Value} {below : List Frame} {meth : Method} {c : Code} {D : va_G} {cI cZ cC cJ cA : ClassId} {P : Nat → Nat} {M' : Mm} {r' : Int32} {kf75 : Mm → Int32 → Int32 → Rs} {qS : Nat → Nat} (hx : p.tables.exec = Jvm.exec) (hb : c.code = cX10_readRegister) (hml : c.maxLocals = 3) (hr : meth.sig.returnType = (some .boolean)) (hlk : meth.locks = false) (hgt : ∀ w ∈ GT, w.before args s = true) (hown : s.vm.findClass RX10 = some m.cls) (hK : va_K D vwCl [(cI, .int), (cZ, .boolean), (cC, .char), (cJ, .long), (cA, .array .int)] s) (hO : Old s0 s) (hAO : ∀ q, (aP P 77) q → s0.heap.size ≤ q) (hE : xE s0 qS) (kk75 : ∀ (M : Mm) (v1 : Int32) (v2 : Int32) (H : Heap) (locs : List Loc) (ls : Array Slot), lv_has ls 3 [(0, .ref (P 21)), (1, .int v1), (2, .int v2)] → va_P D vwCl ((wX cI cZ cC cJ cA P) M) H → va_D (aP P 77) ((wX cI cZ cC cJ cA P) M) → va_S (aP P 77) s.heap H locs → kf75 M v1 v2 = some (M', r') → W p l e ({ frames := 6, cells := 0, slots := 0, locals := 135 }) s m args below meth c H locs 0 0 (MQ below (gQi D (aP P 77) ((wX cI cZ cC cJ cA P) M') r') args s 0 0 (aP P 77)) (F0 m 75 ls [])) : ∀ (M : Mm) (v1 : Int32) (v2 : Int32) (H : Heap) (locs : List Loc) (ls : Array Slot), lv_has ls 3 [(0, .ref (P 21)), (1, .int v1), (2, .int v2)] → va_P D vwCl ((wX cI cZ cC cJ cA P) M) H → va_D (aP P 77) ((wX cI cZ cC cJ cA P) M) → va_S (aP P 77) s.heap H locs → q_Reader_readRegister_97 kf75 M v1 v2 = some (M', r') → W p l e ({ frames := 6, cells := 0, slots := 0, locals := 135 }) s m args below meth c H locs 0 0 (MQ below (gQi D (aP P 77) ((wX cI cZ cC cJ cA P) M') r') args s 0 0 (aP P 77)) (F0 m 97 ls []) := by
  intro M v1 v2 H locs ls hl hP hD hS h
  unfold q_Reader_readRegister_97 at h
  refine lv_aload_n hx hb dX10_readRegister_97 rfl (lv_at hl 0 rfl) ?_
  refine lv_iload_n hx hb dX10_readRegister_98 rfl (lv_at hl 1 rfl) ?_
  obtain ⟨M1, r2, hq, h⟩ := cal_o h
  refine cx_i (va_runV (As := [.int v1]) (rest := []) ⟨hx, hb, hml, hown, hgt⟩ (z_Reader_readField l D cI cZ cC cJ cA P s0 hAO qS hE M v1 M1 r2 hq) (cwV 1 hgt (gV wd_3_177 wd_3_179 sl__ChipMap_Reader____ChipMap_Reader___readField____I_Z_____ChipMap_Reader___readField____I_Z__ wd_0_4 wd_3_180) rfl rfl rfl (by decide +kernel) ⟨Nat.le_of_ble_eq_true rfl, Nat.le_of_ble_eq_true rfl⟩) (prV hP hK hD hO hAO hS (va_recv hK hP (ci := 10) (q0 := 21) rfl gX_21)) rfl rfl hl.1 rfl (lv_room (Nat.le_of_ble_eq_true rfl)) dX10_readRegister_99 ⟨Nat.le_of_ble_eq_true rfl, Nat.le_of_ble_eq_true rfl⟩) hS (fun H locs hP hD hS => ?_)
  refine lv_if_ne hx hb dX10_readRegister_102 (tgt := 107) rfl (fun hc => ?_) (fun hc => ?_)
  · have h := br_F hc h
    refine lv_iinc (v := (v2 + 1)) hx hb dX10_readRegister_107 hl (k := 2) rfl rfl (Nat.le_of_ble_eq_true rfl) (lv' := [(2, .int (v2 + 1)), (0, .ref (P 21)), (1, .int v1)]) rfl (fun ls hl => ?_)
    refine lv_goto hx hb dX10_readRegister_110 (tgt := 75) rfl ?_
    have hl := lv_sub hl [1, 2, 0] (l' := [(0, .ref (P 21)), (1, .int v1), (2, .int (v2 + 1))]) rfl
    exact kk75 M1 v1 (v2 + 1) H locs ls hl hP hD hS h
  · have h := br_T hc h
    refine lv_iconst (v := 0) hx hb dX10_readRegister_105 (by decide) ?_
    exact rt_z (w := (wX cI cZ cC cJ cA P)) hx hb hr hlk rfl hP hD hS h dX10_readRegister_106
set_option maxHeartbeats 4000000 in
set_option maxRecDepth 20000 in
theorem b_Reader_readRegister_75 {p : Program} {l : Launch} {e : Env} {s s0 : State} {m : MethodId} {args : Array Value} {below : List Frame} {meth : Method} {c : Code} {D : va_G} {cI cZ cC cJ cA : ClassId} {P : Nat → Nat} {M' : Mm} {r' : Int32}  {qS : Nat → Nat} (hx : p.tables.exec = Jvm.exec) (hb : c.code = cX10_readRegister) (hml : c.maxLocals = 3) (hr : meth.sig.returnType = (some .boolean)) (hlk : meth.locks = false) (hgt : ∀ w ∈ GT, w.before args s = true) (hown : s.vm.findClass RX10 = some m.cls) (hK : va_K D vwCl [(cI, .int), (cZ, .boolean), (cC, .char), (cJ, .long), (cA, .array .int)] s) (hO : Old s0 s) (hAO : ∀ q, (aP P 77) q → s0.heap.size ≤ q) (hE : xE s0 qS)  : ∀ (n' : Nat) (M : Mm) (v1 : Int32) (v2 : Int32) (H : Heap) (locs : List Loc) (ls : Array Slot), lv_has ls 3 [(0, .ref (P 21)), (1, .int v1), (2, .int v2)] → va_P D vwCl ((wX cI cZ cC cJ cA P) M) H → va_D (aP P 77) ((wX cI cZ cC cJ cA P) M) → va_S (aP P 77) s.heap H locs → q_Reader_readRegister_75 n' M v1 v2 = some (M', r') → W p l e ({ frames := 6, cells := 0, slots := 0, locals := 135 }) s m args below meth c H locs 0 0 (MQ below (gQi D (aP P 77) ((wX cI cZ cC cJ cA P) M') r') args s 0 0 (aP P 77)) (F0 m 75 ls []) := by
  intro n'
  induction n' with
  | zero => exact fun _ _ _ _ _ _ _ _ _ _ h => (rs_n h).elim
  | succ n' ih =>
    intro M v1 v2 H locs ls hl hP hD hS h
    rw [q_Reader_readRegister_75] at h
    refine lv_iload_n hx hb dX10_readRegister_75 rfl (lv_at hl 2 rfl) ?_
    refine lv_bipush (v := 8) hx hb dX10_readRegister_76 (by decide) ?_
    refine lv_icmp_ge hx hb dX10_readRegister_78 (tgt := 113) rfl (fun hc => ?_) (fun hc => ?_)
    · have h := br_T hc h
      have hl := lv_sub hl [0] (l' := [(0, .ref (P 21))]) rfl
      exact b_Reader_readRegister_113 hx hb hml hr hlk hgt hown hK hO hAO hE M H _ ls hl hP hD hS h
    · have h := br_F hc h
      refine lv_iload_n hx hb dX10_readRegister_81 rfl (lv_at hl 2 rfl) ?_
      refine lv_if_le hx hb dX10_readRegister_82 (tgt := 97) rfl (fun hc => ?_) (fun hc => ?_)
      · have h := br_T hc h
        have hl := lv_sub hl [0, 1, 2] (l' := [(0, .ref (P 21)), (1, .int v1), (2, .int v2)]) rfl
        exact b_Reader_readRegister_97 hx hb hml hr hlk hgt hown hK hO hAO hE ih M v1 v2 H _ ls hl hP hD hS h
      · have h := br_F hc h
        refine lv_aload_n hx hb dX10_readRegister_85 rfl (lv_at hl 0 rfl) ?_
        obtain ⟨M1, r2, hq, h⟩ := cal_o h
        refine cx_i (va_runV (As := []) (rest := []) ⟨hx, hb, hml, hown, hgt⟩ (z_Reader_next l D cI cZ cC cJ cA P s0 hAO M M1 r2 hq) (cwV 0 hgt (gV wd_3_150 wd_3_152 sl__ChipMap_Reader____ChipMap_Reader___next_____C_____ChipMap_Reader___next_____C__ wd_0_4 wd_3_153) rfl rfl rfl (by decide +kernel) ⟨Nat.le_of_ble_eq_true rfl, Nat.le_of_ble_eq_true rfl⟩) (prV hP hK hD hO hAO hS (va_recv hK hP (ci := 10) (q0 := 21) rfl gX_21)) rfl rfl hl.1 rfl (lv_room (Nat.le_of_ble_eq_true rfl)) dX10_readRegister_86 ⟨Nat.le_of_ble_eq_true rfl, Nat.le_of_ble_eq_true rfl⟩) hS (fun H locs hP hD hS => ?_)
        refine lv_bipush (v := 125) hx hb dX10_readRegister_89 (by decide) ?_
        refine lv_icmp_ne hx hb dX10_readRegister_91 (tgt := 97) rfl (fun hc => ?_) (fun hc => ?_)
        · have h := br_F hc h
          have hl := lv_sub hl [0, 1, 2] (l' := [(0, .ref (P 21)), (1, .int v1), (2, .int v2)]) rfl
          exact b_Reader_readRegister_97 hx hb hml hr hlk hgt hown hK hO hAO hE ih M1 v1 v2 H _ ls hl hP hD hS h
        · have h := br_T hc h
          refine lv_goto hx hb dX10_readRegister_94 (tgt := 113) rfl ?_
          have hl := lv_sub hl [0] (l' := [(0, .ref (P 21))]) rfl
          exact b_Reader_readRegister_113 hx hb hml hr hlk hgt hown hK hO hAO hE M1 H _ ls hl hP hD hS h
set_option maxHeartbeats 4000000 in
set_option maxRecDepth 20000 in
theorem b_Reader_readRegister_0 {p : Program} {l : Launch} {e : Env} {s s0 : State} {m : MethodId} {args : Array Value} {below : List Frame} {meth : Method} {c : Code} {D : va_G} {cI cZ cC cJ cA : ClassId} {P : Nat → Nat} {M' : Mm} {r' : Int32}  {qS : Nat → Nat} (hx : p.tables.exec = Jvm.exec) (hb : c.code = cX10_readRegister) (hml : c.maxLocals = 3) (hr : meth.sig.returnType = (some .boolean)) (hlk : meth.locks = false) (hgt : ∀ w ∈ GT, w.before args s = true) (hown : s.vm.findClass RX10 = some m.cls) (hK : va_K D vwCl [(cI, .int), (cZ, .boolean), (cC, .char), (cJ, .long), (cA, .array .int)] s) (hO : Old s0 s) (hAO : ∀ q, (aP P 77) q → s0.heap.size ≤ q) (hE : xE s0 qS)  : ∀ (M : Mm) (a1 : Int32) (H : Heap) (locs : List Loc) (ls : Array Slot), lv_has ls 3 [(0, .ref (P 21)), (1, .int a1)] → va_P D vwCl ((wX cI cZ cC cJ cA P) M) H → va_D (aP P 77) ((wX cI cZ cC cJ cA P) M) → va_S (aP P 77) s.heap H locs → q_Reader_readRegister M a1 = some (M', r') → W p l e ({ frames := 6, cells := 0, slots := 0, locals := 135 }) s m args below meth c H locs 0 0 (MQ below (gQi D (aP P 77) ((wX cI cZ cC cJ cA P) M') r') args s 0 0 (aP P 77)) (F0 m 0 ls []) := by
  intro M a1 H locs ls hl hP hD hS h
  unfold q_Reader_readRegister at h
  refine lv_aload_n hx hb dX10_readRegister_0 rfl (lv_at hl 0 rfl) ?_
  refine va_get (D := D) (ci := 10) (v := .ref (P 1)) (C := RX10) (T := TX10) (N := 4) hx hb hgt iwX10 hown hK hP 21 gX_21 rfl 0 (Nat.le_of_ble_eq_true rfl) (hgt _ wd_0_187) (fun _ h9 => h9) rfl dX10_readRegister_1 ?_
  refine va_get (D := D) (ci := 4) (v := .ref (P 2)) (C := RX4) (T := TX4) (N := 15) hx hb hgt iwX4 hown hK hP 1 gX_1 rfl 1 (Nat.le_of_ble_eq_true rfl) (hgt _ wd_0_99) (fun _ h9 => h9) rfl dX10_readRegister_4 ?_
  refine lv_iload_n hx hb dX10_readRegister_7 rfl (lv_at hl 1 rfl) ?_
  refine lv_aload_n hx hb dX10_readRegister_8 rfl (lv_at hl 0 rfl) ?_
  refine va_get (D := D) (ci := 10) (v := .int (M.1 21 3)) (C := RX10) (T := TX10) (N := 4) hx hb hgt iwX10 hown hK hP 21 gX_21 rfl 3 (Nat.le_of_ble_eq_true rfl) (hgt _ wd_0_191) (fun _ h9 => h9) rfl dX10_readRegister_9 ?_
  refine pm_iast (w := (wX cI cZ cC cJ cA P)) hx hb hK hP hD hS 2 0 gX_2 rfl sX_2 (ix_l h) dX10_readRegister_12 (fun M1 eM1 H locs hP hD hS => ?_)
  have h := ix_r h
  have h := lt_o eM1 h
  refine lv_aload_n hx hb dX10_readRegister_13 rfl (lv_at hl 0 rfl) ?_
  refine lv_bipush (v := 64) hx hb dX10_readRegister_14 (by decide) ?_
  obtain ⟨M2, r3, hq, h⟩ := cal_o h
  refine cx_i (va_runV (As := [.int 64]) (rest := []) ⟨hx, hb, hml, hown, hgt⟩ (z_Reader_take l D cI cZ cC cJ cA P s0 hAO M1 64 M2 r3 hq) (cwV 1 hgt (gV wd_3_158 wd_3_160 sl__ChipMap_Reader____ChipMap_Reader___take____C_Z_____ChipMap_Reader___take____C_Z__ wd_0_4 wd_3_161) rfl rfl rfl (by decide +kernel) ⟨Nat.le_of_ble_eq_true rfl, Nat.le_of_ble_eq_true rfl⟩) (prV hP hK hD hO hAO hS (va_recv hK hP (ci := 10) (q0 := 21) rfl gX_21)) rfl rfl hl.1 rfl (lv_room (Nat.le_of_ble_eq_true rfl)) dX10_readRegister_16 ⟨Nat.le_of_ble_eq_true rfl, Nat.le_of_ble_eq_true rfl⟩) hS (fun H locs hP hD hS => ?_)
  refine lv_if_ne hx hb dX10_readRegister_19 (tgt := 24) rfl (fun hc => ?_) (fun hc => ?_)
  · have h := br_F hc h
    refine lv_aload_n hx hb dX10_readRegister_24 rfl (lv_at hl 0 rfl) ?_
    refine va_get (D := D) (ci := 10) (v := .ref (P 1)) (C := RX10) (T := TX10) (N := 4) hx hb hgt iwX10 hown hK hP 21 gX_21 rfl 0 (Nat.le_of_ble_eq_true rfl) (hgt _ wd_0_187) (fun _ h9 => h9) rfl dX10_readRegister_25 ?_
    refine va_get (D := D) (ci := 4) (v := .ref (P 3)) (C := RX4) (T := TX4) (N := 15) hx hb hgt iwX4 hown hK hP 1 gX_1 rfl 2 (Nat.le_of_ble_eq_true rfl) (hgt _ wd_0_103) (fun _ h9 => h9) rfl dX10_readRegister_28 ?_
    refine lv_iload_n hx hb dX10_readRegister_31 rfl (lv_at hl 1 rfl) ?_
    refine lv_aload_n hx hb dX10_readRegister_32 rfl (lv_at hl 0 rfl) ?_
    refine lv_bipush (v := 16) hx hb dX10_readRegister_33 (by decide) ?_
    refine lv_iconst (v := 2) hx hb dX10_readRegister_35 (by decide) ?_
    refine lv_iconst (v := 2) hx hb dX10_readRegister_36 (by decide) ?_
    obtain ⟨M4, r5, hq, h⟩ := cal_o h
    refine cx_i (va_runV (As := [.int 16, .int 2, .int 2]) (rest := [.int a1, .ref (P 3)]) ⟨hx, hb, hml, hown, hgt⟩ (z_Reader_number l D cI cZ cC cJ cA P s0 hAO M2 16 2 2 M4 r5 hq) (cwV 3 hgt (gV wd_3_162 wd_3_164 sl__ChipMap_Reader____ChipMap_Reader___number____III_I_____ChipMap_Reader___number____III_I__ wd_0_4 wd_3_165) rfl rfl rfl (by decide +kernel) ⟨Nat.le_of_ble_eq_true rfl, Nat.le_of_ble_eq_true rfl⟩) (prV hP hK hD hO hAO hS (va_recv hK hP (ci := 10) (q0 := 21) rfl gX_21)) rfl rfl hl.1 rfl (lv_room (Nat.le_of_ble_eq_true rfl)) dX10_readRegister_37 ⟨Nat.le_of_ble_eq_true rfl, Nat.le_of_ble_eq_true rfl⟩) hS (fun H locs hP hD hS => ?_)
    refine pm_iast (w := (wX cI cZ cC cJ cA P)) hx hb hK hP hD hS 3 0 gX_3 rfl sX_3 (ix_l h) dX10_readRegister_40 (fun M6 eM6 H locs hP hD hS => ?_)
    have h := ix_r h
    have h := lt_o eM6 h
    refine lv_aload_n hx hb dX10_readRegister_41 rfl (lv_at hl 0 rfl) ?_
    refine va_get (D := D) (ci := 10) (v := .ref (P 1)) (C := RX10) (T := TX10) (N := 4) hx hb hgt iwX10 hown hK hP 21 gX_21 rfl 0 (Nat.le_of_ble_eq_true rfl) (hgt _ wd_0_187) (fun _ h9 => h9) rfl dX10_readRegister_42 ?_
    refine va_get (D := D) (ci := 4) (v := .ref (P 3)) (C := RX4) (T := TX4) (N := 15) hx hb hgt iwX4 hown hK hP 1 gX_1 rfl 2 (Nat.le_of_ble_eq_true rfl) (hgt _ wd_0_103) (fun _ h9 => h9) rfl dX10_readRegister_45 ?_
    refine lv_iload_n hx hb dX10_readRegister_48 rfl (lv_at hl 1 rfl) ?_
    refine va_iald hx hb hK hP 3 0 gX_3 rfl (ix_l h) dX10_readRegister_49 ?_
    have h := ix_r h
    refine lv_iconst (v := (-1)) hx hb dX10_readRegister_50 (by decide) ?_
    refine lv_icmp_eq hx hb dX10_readRegister_51 (tgt := 71) rfl (fun hc => ?_) (fun hc => ?_)
    · have h := br_T hc h
      refine lv_iconst (v := 0) hx hb dX10_readRegister_71 (by decide) ?_
      exact rt_z (w := (wX cI cZ cC cJ cA P)) hx hb hr hlk rfl hP hD hS h dX10_readRegister_72
    · have h := br_F hc h
      refine lv_aload_n hx hb dX10_readRegister_54 rfl (lv_at hl 0 rfl) ?_
      refine lv_iload_n hx hb dX10_readRegister_55 rfl (lv_at hl 1 rfl) ?_
      obtain ⟨M7, r8, hq, h⟩ := cal_o h
      refine cx_i (va_runV (As := [.int a1]) (rest := []) ⟨hx, hb, hml, hown, hgt⟩ (z_Reader_readBank l D cI cZ cC cJ cA P s0 hAO M6 a1 M7 r8 hq) (cwV 1 hgt (gV wd_3_169 wd_3_171 sl__ChipMap_Reader____ChipMap_Reader___readBank____I_Z_____ChipMap_Reader___readBank____I_Z__ wd_0_4 wd_3_172) rfl rfl rfl (by decide +kernel) ⟨Nat.le_of_ble_eq_true rfl, Nat.le_of_ble_eq_true rfl⟩) (prV hP hK hD hO hAO hS (va_recv hK hP (ci := 10) (q0 := 21) rfl gX_21)) rfl rfl hl.1 rfl (lv_room (Nat.le_of_ble_eq_true rfl)) dX10_readRegister_56 ⟨Nat.le_of_ble_eq_true rfl, Nat.le_of_ble_eq_true rfl⟩) hS (fun H locs hP hD hS => ?_)
      refine lv_if_eq hx hb dX10_readRegister_59 (tgt := 71) rfl (fun hc => ?_) (fun hc => ?_)
      · have h := br_T hc h
        refine lv_iconst (v := 0) hx hb dX10_readRegister_71 (by decide) ?_
        exact rt_z (w := (wX cI cZ cC cJ cA P)) hx hb hr hlk rfl hP hD hS h dX10_readRegister_72
      · have h := br_F hc h
        refine lv_aload_n hx hb dX10_readRegister_62 rfl (lv_at hl 0 rfl) ?_
        refine lv_bipush (v := 123) hx hb dX10_readRegister_63 (by decide) ?_
        obtain ⟨M9, r10, hq, h⟩ := cal_o h
        refine cx_i (va_runV (As := [.int 123]) (rest := []) ⟨hx, hb, hml, hown, hgt⟩ (z_Reader_take l D cI cZ cC cJ cA P s0 hAO M7 123 M9 r10 hq) (cwV 1 hgt (gV wd_3_158 wd_3_160 sl__ChipMap_Reader____ChipMap_Reader___take____C_Z_____ChipMap_Reader___take____C_Z__ wd_0_4 wd_3_161) rfl rfl rfl (by decide +kernel) ⟨Nat.le_of_ble_eq_true rfl, Nat.le_of_ble_eq_true rfl⟩) (prV hP hK hD hO hAO hS (va_recv hK hP (ci := 10) (q0 := 21) rfl gX_21)) rfl rfl hl.1 rfl (lv_room (Nat.le_of_ble_eq_true rfl)) dX10_readRegister_65 ⟨Nat.le_of_ble_eq_true rfl, Nat.le_of_ble_eq_true rfl⟩) hS (fun H locs hP hD hS => ?_)
        refine lv_if_ne hx hb dX10_readRegister_68 (tgt := 73) rfl (fun hc => ?_) (fun hc => ?_)
        · have h := br_F hc h
          refine lv_iconst (v := 0) hx hb dX10_readRegister_73 (by decide) ?_
          refine lv_istore_n hx hb dX10_readRegister_74 rfl hl (Nat.le_of_ble_eq_true rfl) (lv' := [(2, .int 0), (0, .ref (P 21)), (1, .int a1)]) rfl (fun ls hl => ?_)
          have hl := lv_sub hl [1, 2, 0] (l' := [(0, .ref (P 21)), (1, .int a1), (2, .int 0)]) rfl
          exact b_Reader_readRegister_75 hx hb hml hr hlk hgt hown hK hO hAO hE 4000 M9 a1 0 H _ ls hl hP hD hS h
        · have h := br_T hc h
          refine lv_iconst (v := 0) hx hb dX10_readRegister_71 (by decide) ?_
          exact rt_z (w := (wX cI cZ cC cJ cA P)) hx hb hr hlk rfl hP hD hS h dX10_readRegister_72
  · have h := br_T hc h
    refine lv_iconst (v := 0) hx hb dX10_readRegister_22 (by decide) ?_
    exact rt_z (w := (wX cI cZ cC cJ cA P)) hx hb hr hlk rfl hP hD hS h dX10_readRegister_23
set_option maxHeartbeats 4000000 in
set_option maxRecDepth 20000 in
theorem z_Reader_readRegister (l : Launch) (D : va_G) (cI cZ cC cJ cA : ClassId) (P : Nat → Nat) (s0 : State) (hAO : ∀ q, (aP P 77) q → s0.heap.size ≤ q) (qS : Nat → Nat) (hE : xE s0 qS) (M : Mm) (a1 : Int32) (M' : Mm) (r' : Int32) (h : q_Reader_readRegister M a1 = some (M', r')) : Met l yX10_readRegister wsX10_readRegister ({ frames := 6, cells := 0, slots := 0, locals := 135 }) (va_Pc [.ref (P 21), .int a1] (gPre s0 D [(cI, .int), (cZ, .boolean), (cC, .char), (cJ, .long), (cA, .array .int)] (aP P 77) ((wX cI cZ cC cJ cA P) M))) (gQi D (aP P 77) ((wX cI cZ cC cJ cA P) M') r') 0 0 (aP P 77) := by
  refine Met.ofW (cc := cX10_readRegister) (maxL := 3) (ret := (some .boolean)) (by decide) rfl ?_
  intro p e s m args below meth c s₁ B hml hv
  obtain ⟨rfl, hP, hK, hD, hO⟩ := hv
  have hx := B.exec
  have hb := B.bytes
  have hr := B.returns
  have hlk := B.notSynchronized
  have hgt := fun w (h : w ∈ GT) => atoms_spec (ws := wsX10_readRegister) B.pre w (List.mem_cons_of_mem _ h)
  have hown : s.vm.findClass RX10 = some m.cls := findClass_of_methodNamed B.named
  have hS : va_S (aP P 77) s.heap s.heap [] := va_S.rf
  have hl := lv_entry ([.ref (P 21), .int a1]) (n := 3) (Nat.le_of_ble_eq_true rfl)
  rw [lg_entry_eq]
  generalize (lg_sl ([.ref (P 21), .int a1]) ++ List.replicate (3 - (lg_sl ([.ref (P 21), .int a1])).length) Slot.unset).toArray = ls at hl ⊢
  have hl : lv_has ls 3 [(0, .ref (P 21)), (1, .int a1)] := hl
  exact b_Reader_readRegister_0 hx hb hml hr hlk hgt hown hK hO hAO hE M a1 s.heap [] ls hl hP hD hS h
def q_Reader_readRegisters_24 (kf2 : Mm → Int32 → Rs) (M : Mm) (v1 : Int32) : Rs := cal (q_Reader_readRegister M v1) fun M1 r2 => if r2 = 0 then (some (M1, 0)) else (lt' (stI M1 1 (upd (M1.1 1) 0 (v1 + 1))) fun M3 => kf2 M3 (v1 + 1))
def q_Reader_readRegisters_2  : Nat → Mm → Int32 → Rs
  | 0, _, _ => none
  | n' + 1, M, v1 => if 16 ≤ v1 then (some (M, 1)) else (if v1 ≤ 0 then (q_Reader_readRegisters_24 (q_Reader_readRegisters_2 n') M v1) else (cal (q_Reader_next M) fun M1 r2 => if r2 = 64 then (q_Reader_readRegisters_24 (q_Reader_readRegisters_2 n') M1 v1) else (some (M1, 1))))
def q_Reader_readRegisters  (M : Mm)  : Rs := q_Reader_readRegisters_2 4000 M 0
set_option maxHeartbeats 4000000 in
set_option maxRecDepth 20000 in
theorem b_Reader_readRegisters_24 {p : Program} {l : Launch} {e : Env} {s s0 : State} {m : MethodId} {args : Array Value} {below : List Frame} {meth : Method} {c : Code} {D : va_G} {cI cZ cC cJ cA : ClassId} {P : Nat → Nat} {M' : Mm} {r' : Int32} {kf2 : Mm → Int32 → Rs} {qS : Nat → Nat} (hx : p.tables.exec = Jvm.exec) (hb : c.code = cX10_readRegisters) (hml : c.maxLocals = 2) (hr : meth.sig.returnType = (some .boolean)) (hlk : meth.locks = false) (hgt : ∀ w ∈ GT, w.before args s = true) (hown : s.vm.findClass RX10 = some m.cls) (hK : va_K D vwCl [(cI, .int), (cZ, .boolean), (cC, .char), (cJ, .long), (cA, .array .int)] s) (hO : Old s0 s) (hAO : ∀ q, (aP P 77) q → s0.heap.size ≤ q) (hE : xE s0 qS) (kk2 : ∀ (M : Mm) (v1 : Int32) (H : Heap) (locs : List Loc) (ls : Array Slot), lv_has ls 2 [(0, .ref (P 21)), (1, .int v1)] → va_P D vwCl ((wX cI cZ cC cJ cA P) M) H → va_D (aP P 77) ((wX cI cZ cC cJ cA P) M) → va_S (aP P 77) s.heap H locs → kf2 M v1 = some (M', r') → W p l e ({ frames := 7, cells := 0, slots := 0, locals := 157 }) s m args below meth c H locs 0 0 (MQ below (gQi D (aP P 77) ((wX cI cZ cC cJ cA P) M') r') args s 0 0 (aP P 77)) (F0 m 2 ls [])) : ∀ (M : Mm) (v1 : Int32) (H : Heap) (locs : List Loc) (ls : Array Slot), lv_has ls 2 [(0, .ref (P 21)), (1, .int v1)] → va_P D vwCl ((wX cI cZ cC cJ cA P) M) H → va_D (aP P 77) ((wX cI cZ cC cJ cA P) M) → va_S (aP P 77) s.heap H locs → q_Reader_readRegisters_24 kf2 M v1 = some (M', r') → W p l e ({ frames := 7, cells := 0, slots := 0, locals := 157 }) s m args below meth c H locs 0 0 (MQ below (gQi D (aP P 77) ((wX cI cZ cC cJ cA P) M') r') args s 0 0 (aP P 77)) (F0 m 24 ls []) := by
  intro M v1 H locs ls hl hP hD hS h
  unfold q_Reader_readRegisters_24 at h
  refine lv_aload_n hx hb dX10_readRegisters_24 rfl (lv_at hl 0 rfl) ?_
  refine lv_iload_n hx hb dX10_readRegisters_25 rfl (lv_at hl 1 rfl) ?_
  obtain ⟨M1, r2, hq, h⟩ := cal_o h
  refine cx_i (va_runV (As := [.int v1]) (rest := []) ⟨hx, hb, hml, hown, hgt⟩ (z_Reader_readRegister l D cI cZ cC cJ cA P s0 hAO qS hE M v1 M1 r2 hq) (cwV 1 hgt (gV wd_3_154 wd_3_156 sl__ChipMap_Reader____ChipMap_Reader___readRegister____I_Z_____ChipMap_Reader___readRegister____I_Z__ wd_0_4 wd_3_157) rfl rfl rfl (by decide +kernel) ⟨Nat.le_of_ble_eq_true rfl, Nat.le_of_ble_eq_true rfl⟩) (prV hP hK hD hO hAO hS (va_recv hK hP (ci := 10) (q0 := 21) rfl gX_21)) rfl rfl hl.1 rfl (lv_room (Nat.le_of_ble_eq_true rfl)) dX10_readRegisters_26 ⟨Nat.le_of_ble_eq_true rfl, Nat.le_of_ble_eq_true rfl⟩) hS (fun H locs hP hD hS => ?_)
  refine lv_if_ne hx hb dX10_readRegisters_29 (tgt := 34) rfl (fun hc => ?_) (fun hc => ?_)
  · have h := br_F hc h
    refine lv_aload_n hx hb dX10_readRegisters_34 rfl (lv_at hl 0 rfl) ?_
    refine va_get (D := D) (ci := 10) (v := .ref (P 1)) (C := RX10) (T := TX10) (N := 4) hx hb hgt iwX10 hown hK hP 21 gX_21 rfl 0 (Nat.le_of_ble_eq_true rfl) (hgt _ wd_0_187) (fun _ h9 => h9) rfl dX10_readRegisters_35 ?_
    refine lv_iload_n hx hb dX10_readRegisters_38 rfl (lv_at hl 1 rfl) ?_
    refine lv_iconst (v := 1) hx hb dX10_readRegisters_39 (by decide) ?_
    refine lv_iadd hx hb dX10_readRegisters_40 ?_
    refine pm_put (w := (wX cI cZ cC cJ cA P)) (D := D) (ci := 4) (x := (v1 + 1)) (ty := .int) (C := RX4) (T := TX4) (N := 15) hx hb hgt iwX4 tyX4 tyX4_ok nmX4 hown hK hP hD hS 1 gX_1 rfl 0 (Nat.le_of_ble_eq_true rfl) (hgt _ wd_0_96) (fun _ h9 => h9) rfl (by decide +kernel) rfl rfl (Nat.le_of_ble_eq_true rfl) (sX_1_0 _) dX10_readRegisters_41 (fun M3 eM3 H locs hP hD hS => ?_)
    have h := lt_o eM3 h
    refine lv_iinc (v := (v1 + 1)) hx hb dX10_readRegisters_44 hl (k := 1) rfl rfl (Nat.le_of_ble_eq_true rfl) (lv' := [(1, .int (v1 + 1)), (0, .ref (P 21))]) rfl (fun ls hl => ?_)
    refine lv_goto hx hb dX10_readRegisters_47 (tgt := 2) rfl ?_
    have hl := lv_sub hl [1, 0] (l' := [(0, .ref (P 21)), (1, .int (v1 + 1))]) rfl
    exact kk2 M3 (v1 + 1) H locs ls hl hP hD hS h
  · have h := br_T hc h
    refine lv_iconst (v := 0) hx hb dX10_readRegisters_32 (by decide) ?_
    exact rt_z (w := (wX cI cZ cC cJ cA P)) hx hb hr hlk rfl hP hD hS h dX10_readRegisters_33
set_option maxHeartbeats 4000000 in
set_option maxRecDepth 20000 in
theorem b_Reader_readRegisters_2 {p : Program} {l : Launch} {e : Env} {s s0 : State} {m : MethodId} {args : Array Value} {below : List Frame} {meth : Method} {c : Code} {D : va_G} {cI cZ cC cJ cA : ClassId} {P : Nat → Nat} {M' : Mm} {r' : Int32}  {qS : Nat → Nat} (hx : p.tables.exec = Jvm.exec) (hb : c.code = cX10_readRegisters) (hml : c.maxLocals = 2) (hr : meth.sig.returnType = (some .boolean)) (hlk : meth.locks = false) (hgt : ∀ w ∈ GT, w.before args s = true) (hown : s.vm.findClass RX10 = some m.cls) (hK : va_K D vwCl [(cI, .int), (cZ, .boolean), (cC, .char), (cJ, .long), (cA, .array .int)] s) (hO : Old s0 s) (hAO : ∀ q, (aP P 77) q → s0.heap.size ≤ q) (hE : xE s0 qS)  : ∀ (n' : Nat) (M : Mm) (v1 : Int32) (H : Heap) (locs : List Loc) (ls : Array Slot), lv_has ls 2 [(0, .ref (P 21)), (1, .int v1)] → va_P D vwCl ((wX cI cZ cC cJ cA P) M) H → va_D (aP P 77) ((wX cI cZ cC cJ cA P) M) → va_S (aP P 77) s.heap H locs → q_Reader_readRegisters_2 n' M v1 = some (M', r') → W p l e ({ frames := 7, cells := 0, slots := 0, locals := 157 }) s m args below meth c H locs 0 0 (MQ below (gQi D (aP P 77) ((wX cI cZ cC cJ cA P) M') r') args s 0 0 (aP P 77)) (F0 m 2 ls []) := by
  intro n'
  induction n' with
  | zero => exact fun _ _ _ _ _ _ _ _ _ h => (rs_n h).elim
  | succ n' ih =>
    intro M v1 H locs ls hl hP hD hS h
    rw [q_Reader_readRegisters_2] at h
    refine lv_iload_n hx hb dX10_readRegisters_2 rfl (lv_at hl 1 rfl) ?_
    refine lv_bipush (v := 16) hx hb dX10_readRegisters_3 (by decide) ?_
    refine lv_icmp_ge hx hb dX10_readRegisters_5 (tgt := 50) rfl (fun hc => ?_) (fun hc => ?_)
    · have h := br_T hc h
      refine lv_iconst (v := 1) hx hb dX10_readRegisters_50 (by decide) ?_
      exact rt_z (w := (wX cI cZ cC cJ cA P)) hx hb hr hlk rfl hP hD hS h dX10_readRegisters_51
    · have h := br_F hc h
      refine lv_iload_n hx hb dX10_readRegisters_8 rfl (lv_at hl 1 rfl) ?_
      refine lv_if_le hx hb dX10_readRegisters_9 (tgt := 24) rfl (fun hc => ?_) (fun hc => ?_)
      · have h := br_T hc h
        have hl := lv_sub hl [0, 1] (l' := [(0, .ref (P 21)), (1, .int v1)]) rfl
        exact b_Reader_readRegisters_24 hx hb hml hr hlk hgt hown hK hO hAO hE ih M v1 H _ ls hl hP hD hS h
      · have h := br_F hc h
        refine lv_aload_n hx hb dX10_readRegisters_12 rfl (lv_at hl 0 rfl) ?_
        obtain ⟨M1, r2, hq, h⟩ := cal_o h
        refine cx_i (va_runV (As := []) (rest := []) ⟨hx, hb, hml, hown, hgt⟩ (z_Reader_next l D cI cZ cC cJ cA P s0 hAO M M1 r2 hq) (cwV 0 hgt (gV wd_3_150 wd_3_152 sl__ChipMap_Reader____ChipMap_Reader___next_____C_____ChipMap_Reader___next_____C__ wd_0_4 wd_3_153) rfl rfl rfl (by decide +kernel) ⟨Nat.le_of_ble_eq_true rfl, Nat.le_of_ble_eq_true rfl⟩) (prV hP hK hD hO hAO hS (va_recv hK hP (ci := 10) (q0 := 21) rfl gX_21)) rfl rfl hl.1 rfl (lv_room (Nat.le_of_ble_eq_true rfl)) dX10_readRegisters_13 ⟨Nat.le_of_ble_eq_true rfl, Nat.le_of_ble_eq_true rfl⟩) hS (fun H locs hP hD hS => ?_)
        refine lv_bipush (v := 64) hx hb dX10_readRegisters_16 (by decide) ?_
        refine lv_icmp_eq hx hb dX10_readRegisters_18 (tgt := 24) rfl (fun hc => ?_) (fun hc => ?_)
        · have h := br_T hc h
          have hl := lv_sub hl [0, 1] (l' := [(0, .ref (P 21)), (1, .int v1)]) rfl
          exact b_Reader_readRegisters_24 hx hb hml hr hlk hgt hown hK hO hAO hE ih M1 v1 H _ ls hl hP hD hS h
        · have h := br_F hc h
          refine lv_goto hx hb dX10_readRegisters_21 (tgt := 50) rfl ?_
          refine lv_iconst (v := 1) hx hb dX10_readRegisters_50 (by decide) ?_
          exact rt_z (w := (wX cI cZ cC cJ cA P)) hx hb hr hlk rfl hP hD hS h dX10_readRegisters_51
set_option maxHeartbeats 4000000 in
set_option maxRecDepth 20000 in
theorem b_Reader_readRegisters_0 {p : Program} {l : Launch} {e : Env} {s s0 : State} {m : MethodId} {args : Array Value} {below : List Frame} {meth : Method} {c : Code} {D : va_G} {cI cZ cC cJ cA : ClassId} {P : Nat → Nat} {M' : Mm} {r' : Int32}  {qS : Nat → Nat} (hx : p.tables.exec = Jvm.exec) (hb : c.code = cX10_readRegisters) (hml : c.maxLocals = 2) (hr : meth.sig.returnType = (some .boolean)) (hlk : meth.locks = false) (hgt : ∀ w ∈ GT, w.before args s = true) (hown : s.vm.findClass RX10 = some m.cls) (hK : va_K D vwCl [(cI, .int), (cZ, .boolean), (cC, .char), (cJ, .long), (cA, .array .int)] s) (hO : Old s0 s) (hAO : ∀ q, (aP P 77) q → s0.heap.size ≤ q) (hE : xE s0 qS)  : ∀ (M : Mm)  (H : Heap) (locs : List Loc) (ls : Array Slot), lv_has ls 2 [(0, .ref (P 21))] → va_P D vwCl ((wX cI cZ cC cJ cA P) M) H → va_D (aP P 77) ((wX cI cZ cC cJ cA P) M) → va_S (aP P 77) s.heap H locs → q_Reader_readRegisters M = some (M', r') → W p l e ({ frames := 7, cells := 0, slots := 0, locals := 157 }) s m args below meth c H locs 0 0 (MQ below (gQi D (aP P 77) ((wX cI cZ cC cJ cA P) M') r') args s 0 0 (aP P 77)) (F0 m 0 ls []) := by
  intro M H locs ls hl hP hD hS h
  unfold q_Reader_readRegisters at h
  refine lv_iconst (v := 0) hx hb dX10_readRegisters_0 (by decide) ?_
  refine lv_istore_n hx hb dX10_readRegisters_1 rfl hl (Nat.le_of_ble_eq_true rfl) (lv' := [(1, .int 0), (0, .ref (P 21))]) rfl (fun ls hl => ?_)
  have hl := lv_sub hl [1, 0] (l' := [(0, .ref (P 21)), (1, .int 0)]) rfl
  exact b_Reader_readRegisters_2 hx hb hml hr hlk hgt hown hK hO hAO hE 4000 M 0 H _ ls hl hP hD hS h
set_option maxHeartbeats 4000000 in
set_option maxRecDepth 20000 in
theorem z_Reader_readRegisters (l : Launch) (D : va_G) (cI cZ cC cJ cA : ClassId) (P : Nat → Nat) (s0 : State) (hAO : ∀ q, (aP P 77) q → s0.heap.size ≤ q) (qS : Nat → Nat) (hE : xE s0 qS) (M : Mm)  (M' : Mm) (r' : Int32) (h : q_Reader_readRegisters M = some (M', r')) : Met l yX10_readRegisters wsX10_readRegisters ({ frames := 7, cells := 0, slots := 0, locals := 157 }) (va_Pc [.ref (P 21)] (gPre s0 D [(cI, .int), (cZ, .boolean), (cC, .char), (cJ, .long), (cA, .array .int)] (aP P 77) ((wX cI cZ cC cJ cA P) M))) (gQi D (aP P 77) ((wX cI cZ cC cJ cA P) M') r') 0 0 (aP P 77) := by
  refine Met.ofW (cc := cX10_readRegisters) (maxL := 2) (ret := (some .boolean)) (by decide) rfl ?_
  intro p e s m args below meth c s₁ B hml hv
  obtain ⟨rfl, hP, hK, hD, hO⟩ := hv
  have hx := B.exec
  have hb := B.bytes
  have hr := B.returns
  have hlk := B.notSynchronized
  have hgt := fun w (h : w ∈ GT) => atoms_spec (ws := wsX10_readRegisters) B.pre w (List.mem_cons_of_mem _ h)
  have hown : s.vm.findClass RX10 = some m.cls := findClass_of_methodNamed B.named
  have hS : va_S (aP P 77) s.heap s.heap [] := va_S.rf
  have hl := lv_entry ([.ref (P 21)]) (n := 2) (Nat.le_of_ble_eq_true rfl)
  rw [lg_entry_eq]
  generalize (lg_sl ([.ref (P 21)]) ++ List.replicate (2 - (lg_sl ([.ref (P 21)])).length) Slot.unset).toArray = ls at hl ⊢
  have hl : lv_has ls 2 [(0, .ref (P 21))] := hl
  exact b_Reader_readRegisters_0 hx hb hml hr hlk hgt hown hK hO hAO hE M s.heap [] ls hl hP hD hS h
