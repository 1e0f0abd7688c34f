section
def q_Reader_numberBehindSign  (M : Mm)  : Rs := cal (q_Reader_take M 61) fun M1 r2 => if r2 = 0 then (some (M1, (-1))) else (cal (q_Reader_number M1 16 1 4) fun M3 r4 => some (M3, r4))
set_option maxHeartbeats 4000000 in
set_option maxRecDepth 20000 in
theorem b_Reader_numberBehindSign_0 {p : Program} {l : Launch} {e : Env} {s s0 : State} {m : MethodId} {args : Array Value} {below : List Frame} {meth : Method} {c : Code} {D : va_G} {cI cZ cC cJ cA : ClassId} {P : Nat → Nat} {M' : Mm} {r' : Int32}  (hx : p.tables.exec = Jvm.exec) (hb : c.code = cX10_numberBehindSign) (hml : c.maxLocals = 1) (hr : meth.sig.returnType = (some .int)) (hlk : meth.locks = false) (hgt : ∀ w ∈ GT, w.before args s = true) (hown : s.vm.findClass RX10 = some m.cls) (hK : va_K D vwCl [(cI, .int), (cZ, .boolean), (cC, .char), (cJ, .long), (cA, .array .int)] s) (hO : Old s0 s) (hAO : ∀ q, (aP P 77) q → s0.heap.size ≤ q)  : ∀ (M : Mm)  (H : Heap) (locs : List Loc) (ls : Array Slot), lv_has ls 1 [(0, .ref (P 21))] → va_P D vwCl ((wX cI cZ cC cJ cA P) M) H → va_D (aP P 77) ((wX cI cZ cC cJ cA P) M) → va_S (aP P 77) s.heap H locs → q_Reader_numberBehindSign M = some (M', r') → W p l e ({ frames := 2, cells := 0, slots := 0, locals := 47 }) s m args below meth c H locs 0 0 (MQ below (gQi D (aP P 77) ((wX cI cZ cC cJ cA P) M') r') args s 0 0 (aP P 77)) (F0 m 0 ls []) := by
  intro M H locs ls hl hP hD hS h
  unfold q_Reader_numberBehindSign at h
  refine lv_aload_n hx hb dX10_numberBehindSign_0 rfl (lv_at hl 0 rfl) ?_
  refine lv_bipush (v := 61) hx hb dX10_numberBehindSign_1 (by decide) ?_
  obtain ⟨M1, r2, hq, h⟩ := cal_o h
  refine cx_i (va_runV (As := [.int 61]) (rest := []) ⟨hx, hb, hml, hown, hgt⟩ (z_Reader_take l D cI cZ cC cJ cA P s0 hAO M 61 M1 r2 hq) (cwV 1 hgt (gV wd_3_158 wd_3_160 sl__ChipMap_Reader____ChipMap_Reader___take____C_Z_____ChipMap_Reader___take____C_Z__ wd_0_4 wd_3_161) rfl rfl rfl (by decide +kernel) ⟨Nat.le_of_ble_eq_true rfl, Nat.le_of_ble_eq_true rfl⟩) (prV hP hK hD hO hAO hS (va_recv hK hP (ci := 10) (q0 := 21) rfl gX_21)) rfl rfl hl.1 rfl (lv_room (Nat.le_of_ble_eq_true rfl)) dX10_numberBehindSign_3 ⟨Nat.le_of_ble_eq_true rfl, Nat.le_of_ble_eq_true rfl⟩) hS (fun H locs hP hD hS => ?_)
  refine lv_if_eq hx hb dX10_numberBehindSign_6 (tgt := 20) rfl (fun hc => ?_) (fun hc => ?_)
  · have h := br_T hc h
    refine lv_iconst (v := (-1)) hx hb dX10_numberBehindSign_20 (by decide) ?_
    exact rt_i (w := (wX cI cZ cC cJ cA P)) hx hb hr hlk hP hD hS h dX10_numberBehindSign_21
  · have h := br_F hc h
    refine lv_aload_n hx hb dX10_numberBehindSign_9 rfl (lv_at hl 0 rfl) ?_
    refine lv_bipush (v := 16) hx hb dX10_numberBehindSign_10 (by decide) ?_
    refine lv_iconst (v := 1) hx hb dX10_numberBehindSign_12 (by decide) ?_
    refine lv_iconst (v := 4) hx hb dX10_numberBehindSign_13 (by decide) ?_
    obtain ⟨M3, r4, hq, h⟩ := cal_o h
    refine cx_i (va_runV (As := [.int 16, .int 1, .int 4]) (rest := []) ⟨hx, hb, hml, hown, hgt⟩ (z_Reader_number l D cI cZ cC cJ cA P s0 hAO M1 16 1 4 M3 r4 hq) (cwV 3 hgt (gV wd_3_162 wd_3_164 sl__ChipMap_Reader____ChipMap_Reader___number____III_I_____ChipMap_Reader___number____III_I__ wd_0_4 wd_3_165) rfl rfl rfl (by decide +kernel) ⟨Nat.le_of_ble_eq_true rfl, Nat.le_of_ble_eq_true rfl⟩) (prV hP hK hD hO hAO hS (va_recv hK hP (ci := 10) (q0 := 21) rfl gX_21)) rfl rfl hl.1 rfl (lv_room (Nat.le_of_ble_eq_true rfl)) dX10_numberBehindSign_14 ⟨Nat.le_of_ble_eq_true rfl, Nat.le_of_ble_eq_true rfl⟩) hS (fun H locs hP hD hS => ?_)
    refine lv_goto hx hb dX10_numberBehindSign_17 (tgt := 21) rfl ?_
    exact rt_i (w := (wX cI cZ cC cJ cA P)) hx hb hr hlk hP hD hS h dX10_numberBehindSign_21
set_option maxHeartbeats 4000000 in
set_option maxRecDepth 20000 in
theorem z_Reader_numberBehindSign (l : Launch) (D : va_G) (cI cZ cC cJ cA : ClassId) (P : Nat → Nat) (s0 : State) (hAO : ∀ q, (aP P 77) q → s0.heap.size ≤ q) (M : Mm)  (M' : Mm) (r' : Int32) (h : q_Reader_numberBehindSign M = some (M', r')) : Met l yX10_numberBehindSign wsX10_numberBehindSign ({ frames := 2, cells := 0, slots := 0, locals := 47 }) (va_Pc [.ref (P 21)] (gPre s0 D [(cI, .int), (cZ, .boolean), (cC, .char), (cJ, .long), (cA, .array .int)] (aP P 77) ((wX cI cZ cC cJ cA P) M))) (gQi D (aP P 77) ((wX cI cZ cC cJ cA P) M') r') 0 0 (aP P 77) := by
  refine Met.ofW (cc := cX10_numberBehindSign) (maxL := 1) (ret := (some .int)) (by decide) rfl ?_
  intro p e s m args below meth c s₁ B hml hv
  obtain ⟨rfl, hP, hK, hD, hO⟩ := hv
  have hx := B.exec
  have hb := B.bytes
  have hr := B.returns
  have hlk := B.notSynchronized
  have hgt := fun w (h : w ∈ GT) => atoms_spec (ws := wsX10_numberBehindSign) B.pre w (List.mem_cons_of_mem _ h)
  have hown : s.vm.findClass RX10 = some m.cls := findClass_of_methodNamed B.named
  have hS : va_S (aP P 77) s.heap s.heap [] := va_S.rf
  have hl := lv_entry ([.ref (P 21)]) (n := 1) (Nat.le_of_ble_eq_true rfl)
  rw [lg_entry_eq]
  generalize (lg_sl ([.ref (P 21)]) ++ List.replicate (1 - (lg_sl ([.ref (P 21)])).length) Slot.unset).toArray = ls at hl ⊢
  have hl : lv_has ls 1 [(0, .ref (P 21))] := hl
  exact b_Reader_numberBehindSign_0 hx hb hml hr hlk hgt hown hK hO hAO M s.heap [] ls hl hP hD hS h
def q_Reader_readField_187  (M : Mm) (v2 : Int32) (t0 : Int32) (t1 : Int32) : Rs := ix t1 128 <| lt' (stI M 13 (upd (M.1 13) (t1 : Int32).toNatClampNeg t0)) fun M1 => lt' (stI M1 1 (upd (M1.1 1) 6 (v2 + 1))) fun M2 => ix v2 128 <| if (M2.1 13 (v2 : Int32).toNatClampNeg) = (-1) then (some (M2, 0)) else (cal (q_Reader_take M2 59) fun M3 r4 => if r4 = 0 then (some (M3, 0)) else (some (M3, 1)))
def q_Reader_readField  (M : Mm) (a1 : Int32) : Rs := lt' (M.1 1 6) fun x1 => ix x1 128 <| lt' (stI M 9 (upd (M.1 9) (x1 : Int32).toNatClampNeg a1)) fun M2 => ix x1 128 <| lt' (stI M2 8 (upd (M2.1 8) (x1 : Int32).toNatClampNeg (M2.1 21 3))) fun M3 => cal (q_Reader_name M3) fun M4 r5 => ix x1 128 <| lt' (stI M4 7 (upd (M4.1 7) (x1 : Int32).toNatClampNeg r5)) fun M6 => ix x1 128 <| if (M6.1 7 (x1 : Int32).toNatClampNeg) = (-1) then (some (M6, 0)) else (cal (q_Reader_oneOf M6) fun M7 r8 => ix x1 128 <| lt' (stI M7 10 (upd (M7.1 10) (x1 : Int32).toNatClampNeg r8)) fun M9 => ix x1 128 <| if (M9.1 10 (x1 : Int32).toNatClampNeg) = (-1) then (some (M9, 0)) else (cal (q_Reader_number M9 10 1 2) fun M10 r11 => ix x1 128 <| lt' (stI M10 11 (upd (M10.1 11) (x1 : Int32).toNatClampNeg r11)) fun M12 => ix x1 128 <| if (M12.1 11 (x1 : Int32).toNatClampNeg) = (-1) then (some (M12, 0)) else (cal (q_Reader_take M12 58) fun M13 r14 => if r14 = 0 then (some (M13, 0)) else (cal (q_Reader_number M13 10 1 2) fun M15 r16 => ix x1 128 <| lt' (stI M15 12 (upd (M15.1 12) (x1 : Int32).toNatClampNeg r16)) fun M17 => ix x1 128 <| if (M17.1 12 (x1 : Int32).toNatClampNeg) = (-1) then (some (M17, 0)) else (cal (q_Reader_next M17) fun M18 r19 => if r19 = 61 then (cal (q_Reader_numberBehindSign M18) fun M20 r21 => q_Reader_readField_187 M20 x1 r21 x1) else (q_Reader_readField_187 M18 x1 0 x1))))))
set_option maxHeartbeats 4000000 in
set_option maxRecDepth 20000 in
theorem b_Reader_readField_187 {p : Program} {l : Launch} {e : Env} {s s0 : State} {m : MethodId} {args : Array Value} {below : List Frame} {meth : Method} {c : Code} {D : va_G} {cI cZ cC cJ cA : ClassId} {P : Nat → Nat} {M' : Mm} {r' : Int32}  {qS : Nat → Nat} (hx : p.tables.exec = Jvm.exec) (hb : c.code = cX10_readField) (hml : c.maxLocals = 3) (hr : meth.sig.returnType = (some .boolean)) (hlk : meth.locks = false) (hgt : ∀ w ∈ GT, w.before args s = true) (hown : s.vm.findClass RX10 = some m.cls) (hK : va_K D vwCl [(cI, .int), (cZ, .boolean), (cC, .char), (cJ, .long), (cA, .array .int)] s) (hO : Old s0 s) (hAO : ∀ q, (aP P 77) q → s0.heap.size ≤ q) (hE : xE s0 qS)  : ∀ (M : Mm) (v2 : Int32) (t0 : Int32) (t1 : Int32) (H : Heap) (locs : List Loc) (ls : Array Slot), lv_has ls 3 [(0, .ref (P 21)), (2, .int v2)] → va_P D vwCl ((wX cI cZ cC cJ cA P) M) H → va_D (aP P 77) ((wX cI cZ cC cJ cA P) M) → va_S (aP P 77) s.heap H locs → q_Reader_readField_187 M v2 t0 t1 = some (M', r') → W p l e ({ frames := 5, cells := 0, slots := 0, locals := 113 }) s m args below meth c H locs 0 0 (MQ below (gQi D (aP P 77) ((wX cI cZ cC cJ cA P) M') r') args s 0 0 (aP P 77)) (F0 m 187 ls [.int t0, .int t1, .ref (P 13)]) := by
  intro M v2 t0 t1 H locs ls hl hP hD hS h
  unfold q_Reader_readField_187 at h
  refine pm_iast (w := (wX cI cZ cC cJ cA P)) hx hb hK hP hD hS 13 0 gX_13 rfl sX_13 (ix_l h) dX10_readField_187 (fun M1 eM1 H locs hP hD hS => ?_)
  have h := ix_r h
  have h := lt_o eM1 h
  refine lv_aload_n hx hb dX10_readField_188 rfl (lv_at hl 0 rfl) ?_
  refine va_get (D := D) (ci := 10) (v := .ref (P 1)) (C := RX10) (T := TX10) (N := 4) hx hb hgt iwX10 hown hK hP 21 gX_21 rfl 0 (Nat.le_of_ble_eq_true rfl) (hgt _ wd_0_187) (fun _ h9 => h9) rfl dX10_readField_189 ?_
  refine lv_iload_n hx hb dX10_readField_192 rfl (lv_at hl 1 rfl) ?_
  refine lv_iconst (v := 1) hx hb dX10_readField_193 (by decide) ?_
  refine lv_iadd hx hb dX10_readField_194 ?_
  refine pm_put (w := (wX cI cZ cC cJ cA P)) (D := D) (ci := 4) (x := (v2 + 1)) (ty := .int) (C := RX4) (T := TX4) (N := 15) hx hb hgt iwX4 tyX4 tyX4_ok nmX4 hown hK hP hD hS 1 gX_1 rfl 6 (Nat.le_of_ble_eq_true rfl) (hgt _ wd_0_118) (fun _ h9 => h9) rfl (by decide +kernel) rfl rfl (Nat.le_of_ble_eq_true rfl) (sX_1_6 _) dX10_readField_195 (fun M2 eM2 H locs hP hD hS => ?_)
  have h := lt_o eM2 h
  refine lv_aload_n hx hb dX10_readField_198 rfl (lv_at hl 0 rfl) ?_
  refine va_get (D := D) (ci := 10) (v := .ref (P 1)) (C := RX10) (T := TX10) (N := 4) hx hb hgt iwX10 hown hK hP 21 gX_21 rfl 0 (Nat.le_of_ble_eq_true rfl) (hgt _ wd_0_187) (fun _ h9 => h9) rfl dX10_readField_199 ?_
  refine va_get (D := D) (ci := 4) (v := .ref (P 13)) (C := RX4) (T := TX4) (N := 15) hx hb hgt iwX4 hown hK hP 1 gX_1 rfl 13 (Nat.le_of_ble_eq_true rfl) (hgt _ wd_0_145) (fun _ h9 => h9) rfl dX10_readField_202 ?_
  refine lv_iload_n hx hb dX10_readField_205 rfl (lv_at hl 1 rfl) ?_
  refine va_iald hx hb hK hP 13 0 gX_13 rfl (ix_l h) dX10_readField_206 ?_
  have h := ix_r h
  refine lv_iconst (v := (-1)) hx hb dX10_readField_207 (by decide) ?_
  refine lv_icmp_eq hx hb dX10_readField_208 (tgt := 224) rfl (fun hc => ?_) (fun hc => ?_)
  · have h := br_T hc h
    refine lv_iconst (v := 0) hx hb dX10_readField_224 (by decide) ?_
    exact rt_z (w := (wX cI cZ cC cJ cA P)) hx hb hr hlk rfl hP hD hS h dX10_readField_225
  · have h := br_F hc h
    refine lv_aload_n hx hb dX10_readField_211 rfl (lv_at hl 0 rfl) ?_
    refine lv_bipush (v := 59) hx hb dX10_readField_212 (by decide) ?_
    obtain ⟨M3, r4, hq, h⟩ := cal_o h
    refine cx_i (va_runV (As := [.int 59]) (rest := []) ⟨hx, hb, hml, hown, hgt⟩ (z_Reader_take l D cI cZ cC cJ cA P s0 hAO M2 59 M3 r4 hq) (cwV 1 hgt (gV wd_3_158 wd_3_160 sl__ChipMap_Reader____ChipMap_Reader___take____C_Z_____ChipMap_Reader___take____C_Z__ wd_0_4 wd_3_161) rfl rfl rfl (by decide +kernel) ⟨Nat.le_of_ble_eq_true rfl, Nat.le_of_ble_eq_true rfl⟩) (prV hP hK hD hO hAO hS (va_recv hK hP (ci := 10) (q0 := 21) rfl gX_21)) rfl rfl hl.1 rfl (lv_room (Nat.le_of_ble_eq_true rfl)) dX10_readField_214 ⟨Nat.le_of_ble_eq_true rfl, Nat.le_of_ble_eq_true rfl⟩) hS (fun H locs hP hD hS => ?_)
    refine lv_if_eq hx hb dX10_readField_217 (tgt := 224) rfl (fun hc => ?_) (fun hc => ?_)
    · have h := br_T hc h
      refine lv_iconst (v := 0) hx hb dX10_readField_224 (by decide) ?_
      exact rt_z (w := (wX cI cZ cC cJ cA P)) hx hb hr hlk rfl hP hD hS h dX10_readField_225
    · have h := br_F hc h
      refine lv_iconst (v := 1) hx hb dX10_readField_220 (by decide) ?_
      refine lv_goto hx hb dX10_readField_221 (tgt := 225) rfl ?_
      exact rt_z (w := (wX cI cZ cC cJ cA P)) hx hb hr hlk rfl hP hD hS h dX10_readField_225
set_option maxHeartbeats 4000000 in
set_option maxRecDepth 20000 in
theorem b_Reader_readField_0 {p : Program} {l : Launch} {e : Env} {s s0 : State} {m : MethodId} {args : Array Value} {below : List Frame} {meth : Method} {c : Code} {D : va_G} {cI cZ cC cJ cA : ClassId} {P : Nat → Nat} {M' : Mm} {r' : Int32}  {qS : Nat → Nat} (hx : p.tables.exec = Jvm.exec) (hb : c.code = cX10_readField) (hml : c.maxLocals = 3) (hr : meth.sig.returnType = (some .boolean)) (hlk : meth.locks = false) (hgt : ∀ w ∈ GT, w.before args s = true) (hown : s.vm.findClass RX10 = some m.cls) (hK : va_K D vwCl [(cI, .int), (cZ, .boolean), (cC, .char), (cJ, .long), (cA, .array .int)] s) (hO : Old s0 s) (hAO : ∀ q, (aP P 77) q → s0.heap.size ≤ q) (hE : xE s0 qS)  : ∀ (M : Mm) (a1 : Int32) (H : Heap) (locs : List Loc) (ls : Array Slot), lv_has ls 3 [(0, .ref (P 21)), (1, .int a1)] → va_P D vwCl ((wX cI cZ cC cJ cA P) M) H → va_D (aP P 77) ((wX cI cZ cC cJ cA P) M) → va_S (aP P 77) s.heap H locs → q_Reader_readField M a1 = some (M', r') → W p l e ({ frames := 5, cells := 0, slots := 0, locals := 113 }) s m args below meth c H locs 0 0 (MQ below (gQi D (aP P 77) ((wX cI cZ cC cJ cA P) M') r') args s 0 0 (aP P 77)) (F0 m 0 ls []) := by
  intro M a1 H locs ls hl hP hD hS h
  unfold q_Reader_readField at h
  refine lv_aload_n hx hb dX10_readField_0 rfl (lv_at hl 0 rfl) ?_
  refine va_get (D := D) (ci := 10) (v := .ref (P 1)) (C := RX10) (T := TX10) (N := 4) hx hb hgt iwX10 hown hK hP 21 gX_21 rfl 0 (Nat.le_of_ble_eq_true rfl) (hgt _ wd_0_187) (fun _ h9 => h9) rfl dX10_readField_1 ?_
  refine va_get (D := D) (ci := 4) (v := .int (M.1 1 6)) (C := RX4) (T := TX4) (N := 15) hx hb hgt iwX4 hown hK hP 1 gX_1 rfl 6 (Nat.le_of_ble_eq_true rfl) (hgt _ wd_0_118) (fun _ h9 => h9) rfl dX10_readField_4 ?_
  refine lv_topi (fun x1 ex1 => ?_)
  have h := lt_o ex1 h
  refine lv_istore_n hx hb dX10_readField_7 rfl hl (Nat.le_of_ble_eq_true rfl) (lv' := [(2, .int x1), (0, .ref (P 21)), (1, .int a1)]) rfl (fun ls hl => ?_)
  refine lv_aload_n hx hb dX10_readField_8 rfl (lv_at hl 1 rfl) ?_
  refine va_get (D := D) (ci := 10) (v := .ref (P 1)) (C := RX10) (T := TX10) (N := 4) hx hb hgt iwX10 hown hK hP 21 gX_21 rfl 0 (Nat.le_of_ble_eq_true rfl) (hgt _ wd_0_187) (fun _ h9 => h9) rfl dX10_readField_9 ?_
  refine va_get (D := D) (ci := 4) (v := .ref (P 9)) (C := RX4) (T := TX4) (N := 15) hx hb hgt iwX4 hown hK hP 1 gX_1 rfl 9 (Nat.le_of_ble_eq_true rfl) (hgt _ wd_0_129) (fun _ h9 => h9) rfl dX10_readField_12 ?_
  refine lv_iload_n hx hb dX10_readField_15 rfl (lv_at hl 0 rfl) ?_
  refine lv_iload_n hx hb dX10_readField_16 rfl (lv_at hl 2 rfl) ?_
  refine pm_iast (w := (wX cI cZ cC cJ cA P)) hx hb hK hP hD hS 9 0 gX_9 rfl sX_9 (ix_l h) dX10_readField_17 (fun M2 eM2 H locs hP hD hS => ?_)
  have h := ix_r h
  have h := lt_o eM2 h
  refine lv_aload_n hx hb dX10_readField_18 rfl (lv_at hl 1 rfl) ?_
  refine va_get (D := D) (ci := 10) (v := .ref (P 1)) (C := RX10) (T := TX10) (N := 4) hx hb hgt iwX10 hown hK hP 21 gX_21 rfl 0 (Nat.le_of_ble_eq_true rfl) (hgt _ wd_0_187) (fun _ h9 => h9) rfl dX10_readField_19 ?_
  refine va_get (D := D) (ci := 4) (v := .ref (P 8)) (C := RX4) (T := TX4) (N := 15) hx hb hgt iwX4 hown hK hP 1 gX_1 rfl 8 (Nat.le_of_ble_eq_true rfl) (hgt _ wd_0_125) (fun _ h9 => h9) rfl dX10_readField_22 ?_
  refine lv_iload_n hx hb dX10_readField_25 rfl (lv_at hl 0 rfl) ?_
  refine lv_aload_n hx hb dX10_readField_26 rfl (lv_at hl 1 rfl) ?_
  refine va_get (D := D) (ci := 10) (v := .int (M2.1 21 3)) (C := RX10) (T := TX10) (N := 4) hx hb hgt iwX10 hown hK hP 21 gX_21 rfl 3 (Nat.le_of_ble_eq_true rfl) (hgt _ wd_0_191) (fun _ h9 => h9) rfl dX10_readField_27 ?_
  refine pm_iast (w := (wX cI cZ cC cJ cA P)) hx hb hK hP hD hS 8 0 gX_8 rfl sX_8 (ix_l h) dX10_readField_30 (fun M3 eM3 H locs hP hD hS => ?_)
  have h := ix_r h
  have h := lt_o eM3 h
  refine lv_aload_n hx hb dX10_readField_31 rfl (lv_at hl 1 rfl) ?_
  refine va_get (D := D) (ci := 10) (v := .ref (P 1)) (C := RX10) (T := TX10) (N := 4) hx hb hgt iwX10 hown hK hP 21 gX_21 rfl 0 (Nat.le_of_ble_eq_true rfl) (hgt _ wd_0_187) (fun _ h9 => h9) rfl dX10_readField_32 ?_
  refine va_get (D := D) (ci := 4) (v := .ref (P 7)) (C := RX4) (T := TX4) (N := 15) hx hb hgt iwX4 hown hK hP 1 gX_1 rfl 7 (Nat.le_of_ble_eq_true rfl) (hgt _ wd_0_122) (fun _ h9 => h9) rfl dX10_readField_35 ?_
  refine lv_iload_n hx hb dX10_readField_38 rfl (lv_at hl 0 rfl) ?_
  refine lv_aload_n hx hb dX10_readField_39 rfl (lv_at hl 1 rfl) ?_
  obtain ⟨M4, r5, hq, h⟩ := cal_o h
  refine cx_i (va_runV (As := []) (rest := [.int x1, .ref (P 7)]) ⟨hx, hb, hml, hown, hgt⟩ (z_Reader_name l D cI cZ cC cJ cA P s0 hAO M3 M4 r5 hq) (cwV 0 hgt (gV wd_3_173 wd_3_175 sl__ChipMap_Reader____ChipMap_Reader___name_____I_____ChipMap_Reader___name_____I__ wd_0_4 wd_3_176) rfl rfl rfl (by decide +kernel) ⟨Nat.le_of_ble_eq_true rfl, Nat.le_of_ble_eq_true rfl⟩) (prV hP hK hD hO hAO hS (va_recv hK hP (ci := 10) (q0 := 21) rfl gX_21)) rfl rfl hl.1 rfl (lv_room (Nat.le_of_ble_eq_true rfl)) dX10_readField_40 ⟨Nat.le_of_ble_eq_true rfl, Nat.le_of_ble_eq_true rfl⟩) hS (fun H locs hP hD hS => ?_)
  refine pm_iast (w := (wX cI cZ cC cJ cA P)) hx hb hK hP hD hS 7 0 gX_7 rfl sX_7 (ix_l h) dX10_readField_43 (fun M6 eM6 H locs hP hD hS => ?_)
  have h := ix_r h
  have h := lt_o eM6 h
  refine lv_aload_n hx hb dX10_readField_44 rfl (lv_at hl 1 rfl) ?_
  refine va_get (D := D) (ci := 10) (v := .ref (P 1)) (C := RX10) (T := TX10) (N := 4) hx hb hgt iwX10 hown hK hP 21 gX_21 rfl 0 (Nat.le_of_ble_eq_true rfl) (hgt _ wd_0_187) (fun _ h9 => h9) rfl dX10_readField_45 ?_
  refine va_get (D := D) (ci := 4) (v := .ref (P 7)) (C := RX4) (T := TX4) (N := 15) hx hb hgt iwX4 hown hK hP 1 gX_1 rfl 7 (Nat.le_of_ble_eq_true rfl) (hgt _ wd_0_122) (fun _ h9 => h9) rfl dX10_readField_48 ?_
  refine lv_iload_n hx hb dX10_readField_51 rfl (lv_at hl 0 rfl) ?_
  refine va_iald hx hb hK hP 7 0 gX_7 rfl (ix_l h) dX10_readField_52 ?_
  have h := ix_r h
  refine lv_iconst (v := (-1)) hx hb dX10_readField_53 (by decide) ?_
  refine lv_icmp_ne hx hb dX10_readField_54 (tgt := 59) rfl (fun hc => ?_) (fun hc => ?_)
  · have h := br_F hc h
    refine lv_aload_n hx hb dX10_readField_59 rfl (lv_at hl 1 rfl) ?_
    refine va_get (D := D) (ci := 10) (v := .ref (P 1)) (C := RX10) (T := TX10) (N := 4) hx hb hgt iwX10 hown hK hP 21 gX_21 rfl 0 (Nat.le_of_ble_eq_true rfl) (hgt _ wd_0_187) (fun _ h9 => h9) rfl dX10_readField_60 ?_
    refine va_get (D := D) (ci := 4) (v := .ref (P 10)) (C := RX4) (T := TX4) (N := 15) hx hb hgt iwX4 hown hK hP 1 gX_1 rfl 10 (Nat.le_of_ble_eq_true rfl) (hgt _ wd_0_133) (fun _ h9 => h9) rfl dX10_readField_63 ?_
    refine lv_iload_n hx hb dX10_readField_66 rfl (lv_at hl 0 rfl) ?_
    refine lv_aload_n hx hb dX10_readField_67 rfl (lv_at hl 1 rfl) ?_
    refine va_ldcS hx hb hown (hE.l0.warm hO.1) dX10_readField_68 ?_
    obtain ⟨M7, r8, hq, h⟩ := cal_o h
    refine cx_i (va_runV (As := [.ref (qS 0)]) (rest := [.int x1, .ref (P 10)]) ⟨hx, hb, hml, hown, hgt⟩ (z_Reader_oneOf l D cI cZ cC cJ cA P s0 hAO qS hE M6 M7 r8 hq) (cwV 1 hgt (gV wd_3_182 wd_3_184 sl__ChipMap_Reader____ChipMap_Reader___oneOf____Ljava_lang_String__I_____ChipMap_Reader___oneOf____Ljava_lang_String__I__ wd_0_4 wd_3_185) rfl rfl rfl (by decide +kernel) ⟨Nat.le_of_ble_eq_true rfl, Nat.le_of_ble_eq_true rfl⟩) (prV hP hK hD hO hAO hS (va_recv hK hP (ci := 10) (q0 := 21) rfl gX_21)) rfl rfl hl.1 rfl (lv_room (Nat.le_of_ble_eq_true rfl)) dX10_readField_70 ⟨Nat.le_of_ble_eq_true rfl, Nat.le_of_ble_eq_true rfl⟩) hS (fun H locs hP hD hS => ?_)
    refine pm_iast (w := (wX cI cZ cC cJ cA P)) hx hb hK hP hD hS 10 0 gX_10 rfl sX_10 (ix_l h) dX10_readField_73 (fun M9 eM9 H locs hP hD hS => ?_)
    have h := ix_r h
    have h := lt_o eM9 h
    refine lv_aload_n hx hb dX10_readField_74 rfl (lv_at hl 1 rfl) ?_
    refine va_get (D := D) (ci := 10) (v := .ref (P 1)) (C := RX10) (T := TX10) (N := 4) hx hb hgt iwX10 hown hK hP 21 gX_21 rfl 0 (Nat.le_of_ble_eq_true rfl) (hgt _ wd_0_187) (fun _ h9 => h9) rfl dX10_readField_75 ?_
    refine va_get (D := D) (ci := 4) (v := .ref (P 10)) (C := RX4) (T := TX4) (N := 15) hx hb hgt iwX4 hown hK hP 1 gX_1 rfl 10 (Nat.le_of_ble_eq_true rfl) (hgt _ wd_0_133) (fun _ h9 => h9) rfl dX10_readField_78 ?_
    refine lv_iload_n hx hb dX10_readField_81 rfl (lv_at hl 0 rfl) ?_
    refine va_iald hx hb hK hP 10 0 gX_10 rfl (ix_l h) dX10_readField_82 ?_
    have h := ix_r h
    refine lv_iconst (v := (-1)) hx hb dX10_readField_83 (by decide) ?_
    refine lv_icmp_ne hx hb dX10_readField_84 (tgt := 89) rfl (fun hc => ?_) (fun hc => ?_)
    · have h := br_F hc h
      refine lv_aload_n hx hb dX10_readField_89 rfl (lv_at hl 1 rfl) ?_
      refine va_get (D := D) (ci := 10) (v := .ref (P 1)) (C := RX10) (T := TX10) (N := 4) hx hb hgt iwX10 hown hK hP 21 gX_21 rfl 0 (Nat.le_of_ble_eq_true rfl) (hgt _ wd_0_187) (fun _ h9 => h9) rfl dX10_readField_90 ?_
      refine va_get (D := D) (ci := 4) (v := .ref (P 11)) (C := RX4) (T := TX4) (N := 15) hx hb hgt iwX4 hown hK hP 1 gX_1 rfl 11 (Nat.le_of_ble_eq_true rfl) (hgt _ wd_0_137) (fun _ h9 => h9) rfl dX10_readField_93 ?_
      refine lv_iload_n hx hb dX10_readField_96 rfl (lv_at hl 0 rfl) ?_
      refine lv_aload_n hx hb dX10_readField_97 rfl (lv_at hl 1 rfl) ?_
      refine lv_bipush (v := 10) hx hb dX10_readField_98 (by decide) ?_
      refine lv_iconst (v := 1) hx hb dX10_readField_100 (by decide) ?_
      refine lv_iconst (v := 2) hx hb dX10_readField_101 (by decide) ?_
      obtain ⟨M10, r11, hq, h⟩ := cal_o h
      refine cx_i (va_runV (As := [.int 10, .int 1, .int 2]) (rest := [.int x1, .ref (P 11)]) ⟨hx, hb, hml, hown, hgt⟩ (z_Reader_number l D cI cZ cC cJ cA P s0 hAO M9 10 1 2 M10 r11 hq) (cwV 3 hgt (gV wd_3_162 wd_3_164 sl__ChipMap_Reader____ChipMap_Reader___number____III_I_____ChipMap_Reader___number____III_I__ wd_0_4 wd_3_165) rfl rfl rfl (by decide +kernel) ⟨Nat.le_of_ble_eq_true rfl, Nat.le_of_ble_eq_true rfl⟩) (prV hP hK hD hO hAO hS (va_recv hK hP (ci := 10) (q0 := 21) rfl gX_21)) rfl rfl hl.1 rfl (lv_room (Nat.le_of_ble_eq_true rfl)) dX10_readField_102 ⟨Nat.le_of_ble_eq_true rfl, Nat.le_of_ble_eq_true rfl⟩) hS (fun H locs hP hD hS => ?_)
      refine pm_iast (w := (wX cI cZ cC cJ cA P)) hx hb hK hP hD hS 11 0 gX_11 rfl sX_11 (ix_l h) dX10_readField_105 (fun M12 eM12 H locs hP hD hS => ?_)
      have h := ix_r h
      have h := lt_o eM12 h
      refine lv_aload_n hx hb dX10_readField_106 rfl (lv_at hl 1 rfl) ?_
      refine va_get (D := D) (ci := 10) (v := .ref (P 1)) (C := RX10) (T := TX10) (N := 4) hx hb hgt iwX10 hown hK hP 21 gX_21 rfl 0 (Nat.le_of_ble_eq_true rfl) (hgt _ wd_0_187) (fun _ h9 => h9) rfl dX10_readField_107 ?_
      refine va_get (D := D) (ci := 4) (v := .ref (P 11)) (C := RX4) (T := TX4) (N := 15) hx hb hgt iwX4 hown hK hP 1 gX_1 rfl 11 (Nat.le_of_ble_eq_true rfl) (hgt _ wd_0_137) (fun _ h9 => h9) rfl dX10_readField_110 ?_
      refine lv_iload_n hx hb dX10_readField_113 rfl (lv_at hl 0 rfl) ?_
      refine va_iald hx hb hK hP 11 0 gX_11 rfl (ix_l h) dX10_readField_114 ?_
      have h := ix_r h
      refine lv_iconst (v := (-1)) hx hb dX10_readField_115 (by decide) ?_
      refine lv_icmp_eq hx hb dX10_readField_116 (tgt := 128) rfl (fun hc => ?_) (fun hc => ?_)
      · have h := br_T hc h
        refine lv_iconst (v := 0) hx hb dX10_readField_128 (by decide) ?_
        exact rt_z (w := (wX cI cZ cC cJ cA P)) hx hb hr hlk rfl hP hD hS h dX10_readField_129
      · have h := br_F hc h
        refine lv_aload_n hx hb dX10_readField_119 rfl (lv_at hl 1 rfl) ?_
        refine lv_bipush (v := 58) hx hb dX10_readField_120 (by decide) ?_
        obtain ⟨M13, r14, hq, h⟩ := cal_o h
        refine cx_i (va_runV (As := [.int 58]) (rest := []) ⟨hx, hb, hml, hown, hgt⟩ (z_Reader_take l D cI cZ cC cJ cA P s0 hAO M12 58 M13 r14 hq) (cwV 1 hgt (gV wd_3_158 wd_3_160 sl__ChipMap_Reader____ChipMap_Reader___take____C_Z_____ChipMap_Reader___take____C_Z__ wd_0_4 wd_3_161) rfl rfl rfl (by decide +kernel) ⟨Nat.le_of_ble_eq_true rfl, Nat.le_of_ble_eq_true rfl⟩) (prV hP hK hD hO hAO hS (va_recv hK hP (ci := 10) (q0 := 21) rfl gX_21)) rfl rfl hl.1 rfl (lv_room (Nat.le_of_ble_eq_true rfl)) dX10_readField_122 ⟨Nat.le_of_ble_eq_true rfl, Nat.le_of_ble_eq_true rfl⟩) hS (fun H locs hP hD hS => ?_)
        refine lv_if_ne hx hb dX10_readField_125 (tgt := 130) rfl (fun hc => ?_) (fun hc => ?_)
        · have h := br_F hc h
          refine lv_aload_n hx hb dX10_readField_130 rfl (lv_at hl 1 rfl) ?_
          refine va_get (D := D) (ci := 10) (v := .ref (P 1)) (C := RX10) (T := TX10) (N := 4) hx hb hgt iwX10 hown hK hP 21 gX_21 rfl 0 (Nat.le_of_ble_eq_true rfl) (hgt _ wd_0_187) (fun _ h9 => h9) rfl dX10_readField_131 ?_
          refine va_get (D := D) (ci := 4) (v := .ref (P 12)) (C := RX4) (T := TX4) (N := 15) hx hb hgt iwX4 hown hK hP 1 gX_1 rfl 12 (Nat.le_of_ble_eq_true rfl) (hgt _ wd_0_141) (fun _ h9 => h9) rfl dX10_readField_134 ?_
          refine lv_iload_n hx hb dX10_readField_137 rfl (lv_at hl 0 rfl) ?_
          refine lv_aload_n hx hb dX10_readField_138 rfl (lv_at hl 1 rfl) ?_
          refine lv_bipush (v := 10) hx hb dX10_readField_139 (by decide) ?_
          refine lv_iconst (v := 1) hx hb dX10_readField_141 (by decide) ?_
          refine lv_iconst (v := 2) hx hb dX10_readField_142 (by decide) ?_
          obtain ⟨M15, r16, hq, h⟩ := cal_o h
          refine cx_i (va_runV (As := [.int 10, .int 1, .int 2]) (rest := [.int x1, .ref (P 12)]) ⟨hx, hb, hml, hown, hgt⟩ (z_Reader_number l D cI cZ cC cJ cA P s0 hAO M13 10 1 2 M15 r16 hq) (cwV 3 hgt (gV wd_3_162 wd_3_164 sl__ChipMap_Reader____ChipMap_Reader___number____III_I_____ChipMap_Reader___number____III_I__ wd_0_4 wd_3_165) rfl rfl rfl (by decide +kernel) ⟨Nat.le_of_ble_eq_true rfl, Nat.le_of_ble_eq_true rfl⟩) (prV hP hK hD hO hAO hS (va_recv hK hP (ci := 10) (q0 := 21) rfl gX_21)) rfl rfl hl.1 rfl (lv_room (Nat.le_of_ble_eq_true rfl)) dX10_readField_143 ⟨Nat.le_of_ble_eq_true rfl, Nat.le_of_ble_eq_true rfl⟩) hS (fun H locs hP hD hS => ?_)
          refine pm_iast (w := (wX cI cZ cC cJ cA P)) hx hb hK hP hD hS 12 0 gX_12 rfl sX_12 (ix_l h) dX10_readField_146 (fun M17 eM17 H locs hP hD hS => ?_)
          have h := ix_r h
          have h := lt_o eM17 h
          refine lv_aload_n hx hb dX10_readField_147 rfl (lv_at hl 1 rfl) ?_
          refine va_get (D := D) (ci := 10) (v := .ref (P 1)) (C := RX10) (T := TX10) (N := 4) hx hb hgt iwX10 hown hK hP 21 gX_21 rfl 0 (Nat.le_of_ble_eq_true rfl) (hgt _ wd_0_187) (fun _ h9 => h9) rfl dX10_readField_148 ?_
          refine va_get (D := D) (ci := 4) (v := .ref (P 12)) (C := RX4) (T := TX4) (N := 15) hx hb hgt iwX4 hown hK hP 1 gX_1 rfl 12 (Nat.le_of_ble_eq_true rfl) (hgt _ wd_0_141) (fun _ h9 => h9) rfl dX10_readField_151 ?_
          refine lv_iload_n hx hb dX10_readField_154 rfl (lv_at hl 0 rfl) ?_
          refine va_iald hx hb hK hP 12 0 gX_12 rfl (ix_l h) dX10_readField_155 ?_
          have h := ix_r h
          refine lv_iconst (v := (-1)) hx hb dX10_readField_156 (by decide) ?_
          refine lv_icmp_ne hx hb dX10_readField_157 (tgt := 162) rfl (fun hc => ?_) (fun hc => ?_)
          · have h := br_F hc h
            refine lv_aload_n hx hb dX10_readField_162 rfl (lv_at hl 1 rfl) ?_
            refine va_get (D := D) (ci := 10) (v := .ref (P 1)) (C := RX10) (T := TX10) (N := 4) hx hb hgt iwX10 hown hK hP 21 gX_21 rfl 0 (Nat.le_of_ble_eq_true rfl) (hgt _ wd_0_187) (fun _ h9 => h9) rfl dX10_readField_163 ?_
            refine va_get (D := D) (ci := 4) (v := .ref (P 13)) (C := RX4) (T := TX4) (N := 15) hx hb hgt iwX4 hown hK hP 1 gX_1 rfl 13 (Nat.le_of_ble_eq_true rfl) (hgt _ wd_0_145) (fun _ h9 => h9) rfl dX10_readField_166 ?_
            refine lv_iload_n hx hb dX10_readField_169 rfl (lv_at hl 0 rfl) ?_
            refine lv_aload_n hx hb dX10_readField_170 rfl (lv_at hl 1 rfl) ?_
            obtain ⟨M18, r19, hq, h⟩ := cal_o h
            refine cx_i (va_runV (As := []) (rest := [.int x1, .ref (P 13)]) ⟨hx, hb, hml, hown, hgt⟩ (z_Reader_next l D cI cZ cC cJ cA P s0 hAO M17 M18 r19 hq) (cwV 0 hgt (gV wd_3_150 wd_3_152 sl__ChipMap_Reader____ChipMap_Reader___next_____C_____ChipMap_Reader___next_____C__ wd_0_4 wd_3_153) rfl rfl rfl (by decide +kernel) ⟨Nat.le_of_ble_eq_true rfl, Nat.le_of_ble_eq_true rfl⟩) (prV hP hK hD hO hAO hS (va_recv hK hP (ci := 10) (q0 := 21) rfl gX_21)) rfl rfl hl.1 rfl (lv_room (Nat.le_of_ble_eq_true rfl)) dX10_readField_171 ⟨Nat.le_of_ble_eq_true rfl, Nat.le_of_ble_eq_true rfl⟩) hS (fun H locs hP hD hS => ?_)
            refine lv_bipush (v := 61) hx hb dX10_readField_174 (by decide) ?_
            refine lv_icmp_ne hx hb dX10_readField_176 (tgt := 186) rfl (fun hc => ?_) (fun hc => ?_)
            · have h := br_F hc h
              refine lv_iconst (v := 0) hx hb dX10_readField_186 (by decide) ?_
              have hl := lv_sub hl [1, 0] (l' := [(0, .ref (P 21)), (2, .int x1)]) rfl
              exact b_Reader_readField_187 hx hb hml hr hlk hgt hown hK hO hAO hE M18 x1 0 x1 H _ ls hl hP hD hS h
            · have h := br_T hc h
              refine lv_aload_n hx hb dX10_readField_179 rfl (lv_at hl 1 rfl) ?_
              obtain ⟨M20, r21, hq, h⟩ := cal_o h
              refine cx_i (va_runV (As := []) (rest := [.int x1, .ref (P 13)]) ⟨hx, hb, hml, hown, hgt⟩ (z_Reader_numberBehindSign l D cI cZ cC cJ cA P s0 hAO M18 M20 r21 hq) (cwV 0 hgt (gV wd_4_21 wd_4_23 sl__ChipMap_Reader____ChipMap_Reader___numberBehindSign_____I_____ChipMap_Reader___numberBehindSign_____I__ wd_0_4 wd_4_24) rfl rfl rfl (by decide +kernel) ⟨Nat.le_of_ble_eq_true rfl, Nat.le_of_ble_eq_true rfl⟩) (prV hP hK hD hO hAO hS (va_recv hK hP (ci := 10) (q0 := 21) rfl gX_21)) rfl rfl hl.1 rfl (lv_room (Nat.le_of_ble_eq_true rfl)) dX10_readField_180 ⟨Nat.le_of_ble_eq_true rfl, Nat.le_of_ble_eq_true rfl⟩) hS (fun H locs hP hD hS => ?_)
              refine lv_goto hx hb dX10_readField_183 (tgt := 187) rfl ?_
              have hl := lv_sub hl [1, 0] (l' := [(0, .ref (P 21)), (2, .int x1)]) rfl
              exact b_Reader_readField_187 hx hb hml hr hlk hgt hown hK hO hAO hE M20 x1 r21 x1 H _ ls hl hP hD hS h
          · have h := br_T hc h
            refine lv_iconst (v := 0) hx hb dX10_readField_160 (by decide) ?_
            exact rt_z (w := (wX cI cZ cC cJ cA P)) hx hb hr hlk rfl hP hD hS h dX10_readField_161
        · have h := br_T hc h
          refine lv_iconst (v := 0) hx hb dX10_readField_128 (by decide) ?_
          exact rt_z (w := (wX cI cZ cC cJ cA P)) hx hb hr hlk rfl hP hD hS h dX10_readField_129
    · have h := br_T hc h
      refine lv_iconst (v := 0) hx hb dX10_readField_87 (by decide) ?_
      exact rt_z (w := (wX cI cZ cC cJ cA P)) hx hb hr hlk rfl hP hD hS h dX10_readField_88
  · have h := br_T hc h
    refine lv_iconst (v := 0) hx hb dX10_readField_57 (by decide) ?_
    exact rt_z (w := (wX cI cZ cC cJ cA P)) hx hb hr hlk rfl hP hD hS h dX10_readField_58
set_option maxHeartbeats 4000000 in
set_option maxRecDepth 20000 in
theorem z_Reader_readField (l : Launch) (D : va_G) (cI cZ cC cJ cA : ClassId) (P : Nat → Nat) (s0 : State) (hAO : ∀ q, (aP P 77) q → s0.heap.size ≤ q) (qS : Nat → Nat) (hE : xE s0 qS) (M : Mm) (a1 : Int32) (M' : Mm) (r' : Int32) (h : q_Reader_readField M a1 = some (M', r')) : Met l yX10_readField wsX10_readField ({ frames := 5, cells := 0, slots := 0, locals := 113 }) (va_Pc [.ref (P 21), .int a1] (gPre s0 D [(cI, .int), (cZ, .boolean), (cC, .char), (cJ, .long), (cA, .array .int)] (aP P 77) ((wX cI cZ cC cJ cA P) M))) (gQi D (aP P 77) ((wX cI cZ cC cJ cA P) M') r') 0 0 (aP P 77) := by
  refine Met.ofW (cc := cX10_readField) (maxL := 3) (ret := (some .boolean)) (by decide) rfl ?_
  intro p e s m args below meth c s₁ B hml hv
  obtain ⟨rfl, hP, hK, hD, hO⟩ := hv
  have hx := B.exec
  have hb := B.bytes
  have hr := B.returns
  have hlk := B.notSynchronized
  have hgt := fun w (h : w ∈ GT) => atoms_spec (ws := wsX10_readField) B.pre w (List.mem_cons_of_mem _ h)
  have hown : s.vm.findClass RX10 = some m.cls := findClass_of_methodNamed B.named
  have hS : va_S (aP P 77) s.heap s.heap [] := va_S.rf
  have hl := lv_entry ([.ref (P 21), .int a1]) (n := 3) (Nat.le_of_ble_eq_true rfl)
  rw [lg_entry_eq]
  generalize (lg_sl ([.ref (P 21), .int a1]) ++ List.replicate (3 - (lg_sl ([.ref (P 21), .int a1])).length) Slot.unset).toArray = ls at hl ⊢
  have hl : lv_has ls 3 [(0, .ref (P 21)), (1, .int a1)] := hl
  exact b_Reader_readField_0 hx hb hml hr hlk hgt hown hK hO hAO hE M a1 s.heap [] ls hl hP hD hS h
def q_Reader_readRegister_113  (M : Mm)  : Rs := cal (q_Reader_take M 125) fun M1 r2 => bz r2 (some (M1, r2))
def q_Reader_readRegister_97 (kf75 : Mm → Int32 → Int32 → Rs) (M : Mm) (v1 : Int32) (v2 : Int32) : Rs := cal (q_Reader_readField M v1) fun M1 r2 => if r2 = 0 then (some (M1, 0)) else (kf75 M1 v1 (v2 + 1))
def q_Reader_readRegister_75  : Nat → Mm → Int32 → Int32 → Rs
  | 0, _, _, _ => none
  | n' + 1, M, v1, v2 => if 8 ≤ v2 then (q_Reader_readRegister_113 M) else (if v2 ≤ 0 then (q_Reader_readRegister_97 (q_Reader_readRegister_75 n') M v1 v2) else (cal (q_Reader_next M) fun M1 r2 => if r2 = 125 then (q_Reader_readRegister_113 M1) else (q_Reader_readRegister_97 (q_Reader_readRegister_75 n') M1 v1 v2)))
def q_Reader_readRegister  (M : Mm) (a1 : Int32) : Rs := ix a1 16 <| lt' (stI M 2 (upd (M.1 2) (a1 : Int32).toNatClampNeg (M.1 21 3))) fun M1 => cal (q_Reader_take M1 64) fun M2 r3 => if r3 = 0 then (some (M2, 0)) else (cal (q_Reader_number M2 16 2 2) fun M4 r5 => ix a1 16 <| lt' (stI M4 3 (upd (M4.1 3) (a1 : Int32).toNatClampNeg r5)) fun M6 => ix a1 16 <| if (M6.1 3 (a1 : Int32).toNatClampNeg) = (-1) then (some (M6, 0)) else (cal (q_Reader_readBank M6 a1) fun M7 r8 => if r8 = 0 then (some (M7, 0)) else (cal (q_Reader_take M7 123) fun M9 r10 => if r10 = 0 then (some (M9, 0)) else (q_Reader_readRegister_75 4000 M9 a1 0))))
set_option maxHeartbeats 4000000 in
set_option maxRecDepth 20000 in
theorem b_Reader_readRegister_113 {p : Program} {l : Launch} {e : Env} {s s0 : State} {m : MethodId} {args : Array Value} {below : List Frame} {meth : Method} {c : Code} {D : va_G} {cI cZ cC cJ cA : ClassId} {P : Nat → Nat} {M' : Mm} {r' : Int32}  {qS : Nat → Nat} (hx : p.tables.exec = Jvm.exec) (hb : c.code = cX10_readRegister) (hml : c.maxLocals = 3) (hr : meth.sig.returnType = (some .boolean)) (hlk : meth.locks = false) (hgt : ∀ w ∈ GT, w.before args s = true) (hown : s.vm.findClass RX10 = some m.cls) (hK : va_K D vwCl [(cI, .int), (cZ, .boolean), (cC, .char), (cJ, .long), (cA, .array .int)] s) (hO : Old s0 s) (hAO : ∀ q, (aP P 77) q → s0.heap.size ≤ q) (hE : xE s0 qS)  : ∀ (M : Mm)  (H : Heap) (locs : List Loc) (ls : Array Slot), lv_has ls 3 [(0, .ref (P 21))] → va_P D vwCl ((wX cI cZ cC cJ cA P) M) H → va_D (aP P 77) ((wX cI cZ cC cJ cA P) M) → va_S (aP P 77) s.heap H locs → q_Reader_readRegister_113 M = some (M', r') → W p l e ({ frames := 6, cells := 0, slots := 0, locals := 135 }) s m args below meth c H locs 0 0 (MQ below (gQi D (aP P 77) ((wX cI cZ cC cJ cA P) M') r') args s 0 0 (aP P 77)) (F0 m 113 ls []) := by
  intro M H locs ls hl hP hD hS h
  unfold q_Reader_readRegister_113 at h
  refine lv_aload_n hx hb dX10_readRegister_113 rfl (lv_at hl 0 rfl) ?_
  refine lv_bipush (v := 125) hx hb dX10_readRegister_114 (by decide) ?_
  obtain ⟨M1, r2, hq, h⟩ := cal_o h
  refine cx_i (va_runV (As := [.int 125]) (rest := []) ⟨hx, hb, hml, hown, hgt⟩ (z_Reader_take l D cI cZ cC cJ cA P s0 hAO M 125 M1 r2 hq) (cwV 1 hgt (gV wd_3_158 wd_3_160 sl__ChipMap_Reader____ChipMap_Reader___take____C_Z_____ChipMap_Reader___take____C_Z__ wd_0_4 wd_3_161) rfl rfl rfl (by decide +kernel) ⟨Nat.le_of_ble_eq_true rfl, Nat.le_of_ble_eq_true rfl⟩) (prV hP hK hD hO hAO hS (va_recv hK hP (ci := 10) (q0 := 21) rfl gX_21)) rfl rfl hl.1 rfl (lv_room (Nat.le_of_ble_eq_true rfl)) dX10_readRegister_116 ⟨Nat.le_of_ble_eq_true rfl, Nat.le_of_ble_eq_true rfl⟩) hS (fun H locs hP hD hS => ?_)
  exact rt_z (w := (wX cI cZ cC cJ cA P)) hx hb hr hlk (bz_l h) hP hD hS (bz_r h) dX10_readRegister_119
set_option maxHeartbeats 4000000 in
set_option maxRecDepth 20000 in
theorem b_Reader_readRegister_97 {p : Program} {l : Launch} {e : Env} {s s0 : State} {m : MethodId} {args : Array Value} {below : List Frame} {meth : Method} {c : Code} {D : va_G} {cI cZ cC cJ cA : ClassId} {P : Nat → Nat} {M' : Mm} {r' : Int32} {kf75 : Mm → Int32 → Int32 → Rs} {qS : Nat → Nat} (hx : p.tables.exec = Jvm.exec) (hb : c.code = cX10_readRegister) (hml : c.maxLocals = 3) (hr : meth.sig.returnType = (some .boolean)) (hlk : meth.locks = false) (hgt : ∀ w ∈ GT, w.before args s = true) (hown : s.vm.findClass RX10 = some m.cls) (hK : va_K D vwCl [(cI, .int), (cZ, .boolean), (cC, .char), (cJ, .long), (cA, .array .int)] s) (hO : Old s0 s) (hAO : ∀ q, (aP P 77) q → s0.heap.size ≤ q) (hE : xE s0 qS) (kk75 : ∀ (M : Mm) (v1 : Int32) (v2 : Int32) (H : Heap) (locs : List Loc) (ls : Array Slot), lv_has ls 3 [(0, .ref (P 21)), (1, .int v1), (2, .int v2)] → va_P D vwCl ((wX cI cZ cC cJ cA P) M) H → va_D (aP P 77) ((wX cI cZ cC cJ cA P) M) → va_S (aP P 77) s.heap H locs → kf75 M v1 v2 = some (M', r') → W p l e ({ frames := 6, cells := 0, slots := 0, locals := 135 }) s m args below meth c H locs 0 0 (MQ below (gQi D (aP P 77) ((wX cI cZ cC cJ cA P) M') r') args s 0 0 (aP P 77)) (F0 m 75 ls [])) : ∀ (M : Mm) (v1 : Int32) (v2 : Int32) (H : Heap) (locs : List Loc) (ls : Array Slot), lv_has ls 3 [(0, .ref (P 21)), (1, .int v1), (2, .int v2)] → va_P D vwCl ((wX cI cZ cC cJ cA P) M) H → va_D (aP P 77) ((wX cI cZ cC cJ cA P) M) → va_S (aP P 77) s.heap H locs → q_Reader_readRegister_97 kf75 M v1 v2 = some (M', r') → W p l e ({ frames := 6, cells := 0, slots := 0, locals := 135 }) s m args below meth c H locs 0 0 (MQ below (gQi D (aP P 77) ((wX cI cZ cC cJ cA P) M') r') args s 0 0 (aP P 77)) (F0 m 97 ls []) := by
  intro M v1 v2 H locs ls hl hP hD hS h
  unfold q_Reader_readRegister_97 at h
  refine lv_aload_n hx hb dX10_readRegister_97 rfl (lv_at hl 0 rfl) ?_
  refine lv_iload_n hx hb dX10_readRegister_98 rfl (lv_at hl 1 rfl) ?_
  obtain ⟨M1, r2, hq, h⟩ := cal_o h
  refine cx_i (va_runV (As := [.int v1]) (rest := []) ⟨hx, hb, hml, hown, hgt⟩ (z_Reader_readField l D cI cZ cC cJ cA P s0 hAO qS hE M v1 M1 r2 hq) (cwV 1 hgt (gV wd_3_177 wd_3_179 sl__ChipMap_Reader____ChipMap_Reader___readField____I_Z_____ChipMap_Reader___readField____I_Z__ wd_0_4 wd_3_180) rfl rfl rfl (by decide +kernel) ⟨Nat.le_of_ble_eq_true rfl, Nat.le_of_ble_eq_true rfl⟩) (prV hP hK hD hO hAO hS (va_recv hK hP (ci := 10) (q0 := 21) rfl gX_21)) rfl rfl hl.1 rfl (lv_room (Nat.le_of_ble_eq_true rfl)) dX10_readRegister_99 ⟨Nat.le_of_ble_eq_true rfl, Nat.le_of_ble_eq_true rfl⟩) hS (fun H locs hP hD hS => ?_)
  refine lv_if_ne hx hb dX10_readRegister_102 (tgt := 107) rfl (fun hc => ?_) (fun hc => ?_)
  · have h := br_F hc h
    refine lv_iinc (v := (v2 + 1)) hx hb dX10_readRegister_107 hl (k := 2) rfl rfl (Nat.le_of_ble_eq_true rfl) (lv' := [(2, .int (v2 + 1)), (0, .ref (P 21)), (1, .int v1)]) rfl (fun ls hl => ?_)
    refine lv_goto hx hb dX10_readRegister_110 (tgt := 75) rfl ?_
    have hl := lv_sub hl [1, 2, 0] (l' := [(0, .ref (P 21)), (1, .int v1), (2, .int (v2 + 1))]) rfl
    exact kk75 M1 v1 (v2 + 1) H locs ls hl hP hD hS h
  · have h := br_T hc h
    refine lv_iconst (v := 0) hx hb dX10_readRegister_105 (by decide) ?_
    exact rt_z (w := (wX cI cZ cC cJ cA P)) hx hb hr hlk rfl hP hD hS h dX10_readRegister_106
set_option maxHeartbeats 4000000 in
set_option maxRecDepth 20000 in
theorem b_Reader_readRegister_75 {p : Program} {l : Launch} {e : Env} {s s0 : State} {m : MethodId} {args : Array Value} {below : List Frame} {meth : Method} {c : Code} {D : va_G} {cI cZ cC cJ cA : ClassId} {P : Nat → Nat} {M' : Mm} {r' : Int32}  {qS : Nat → Nat} (hx : p.tables.exec = Jvm.exec) (hb : c.code = cX10_readRegister) (hml : c.maxLocals = 3) (hr : meth.sig.returnType = (some .boolean)) (hlk : meth.locks = false) (hgt : ∀ w ∈ GT, w.before args s = true) (hown : s.vm.findClass RX10 = some m.cls) (hK : va_K D vwCl [(cI, .int), (cZ, .boolean), (cC, .char), (cJ, .long), (cA, .array .int)] s) (hO : Old s0 s) (hAO : ∀ q, (aP P 77) q → s0.heap.size ≤ q) (hE : xE s0 qS)  : ∀ (n' : Nat) (M : Mm) (v1 : Int32) (v2 : Int32) (H : Heap) (locs : List Loc) (ls : Array Slot), lv_has ls 3 [(0, .ref (P 21)), (1, .int v1), (2, .int v2)] → va_P D vwCl ((wX cI cZ cC cJ cA P) M) H → va_D (aP P 77) ((wX cI cZ cC cJ cA P) M) → va_S (aP P 77) s.heap H locs → q_Reader_readRegister_75 n' M v1 v2 = some (M', r') → W p l e ({ frames := 6, cells := 0, slots := 0, locals := 135 }) s m args below meth c H locs 0 0 (MQ below (gQi D (aP P 77) ((wX cI cZ cC cJ cA P) M') r') args s 0 0 (aP P 77)) (F0 m 75 ls []) := by
  intro n'
  induction n' with
  | zero => exact fun _ _ _ _ _ _ _ _ _ _ h => (rs_n h).elim
  | succ n' ih =>
    intro M v1 v2 H locs ls hl hP hD hS h
    rw [q_Reader_readRegister_75] at h
    refine lv_iload_n hx hb dX10_readRegister_75 rfl (lv_at hl 2 rfl) ?_
    refine lv_bipush (v := 8) hx hb dX10_readRegister_76 (by decide) ?_
    refine lv_icmp_ge hx hb dX10_readRegister_78 (tgt := 113) rfl (fun hc => ?_) (fun hc => ?_)
    · have h := br_T hc h
      have hl := lv_sub hl [0] (l' := [(0, .ref (P 21))]) rfl
      exact b_Reader_readRegister_113 hx hb hml hr hlk hgt hown hK hO hAO hE M H _ ls hl hP hD hS h
    · have h := br_F hc h
      refine lv_iload_n hx hb dX10_readRegister_81 rfl (lv_at hl 2 rfl) ?_
      refine lv_if_le hx hb dX10_readRegister_82 (tgt := 97) rfl (fun hc => ?_) (fun hc => ?_)
      · have h := br_T hc h
        have hl := lv_sub hl [0, 1, 2] (l' := [(0, .ref (P 21)), (1, .int v1), (2, .int v2)]) rfl
        exact b_Reader_readRegister_97 hx hb hml hr hlk hgt hown hK hO hAO hE ih M v1 v2 H _ ls hl hP hD hS h
      · have h := br_F hc h
        refine lv_aload_n hx hb dX10_readRegister_85 rfl (lv_at hl 0 rfl) ?_
        obtain ⟨M1, r2, hq, h⟩ := cal_o h
        refine cx_i (va_runV (As := []) (rest := []) ⟨hx, hb, hml, hown, hgt⟩ (z_Reader_next l D cI cZ cC cJ cA P s0 hAO M M1 r2 hq) (cwV 0 hgt (gV wd_3_150 wd_3_152 sl__ChipMap_Reader____ChipMap_Reader___next_____C_____ChipMap_Reader___next_____C__ wd_0_4 wd_3_153) rfl rfl rfl (by decide +kernel) ⟨Nat.le_of_ble_eq_true rfl, Nat.le_of_ble_eq_true rfl⟩) (prV hP hK hD hO hAO hS (va_recv hK hP (ci := 10) (q0 := 21) rfl gX_21)) rfl rfl hl.1 rfl (lv_room (Nat.le_of_ble_eq_true rfl)) dX10_readRegister_86 ⟨Nat.le_of_ble_eq_true rfl, Nat.le_of_ble_eq_true rfl⟩) hS (fun H locs hP hD hS => ?_)
        refine lv_bipush (v := 125) hx hb dX10_readRegister_89 (by decide) ?_
        refine lv_icmp_ne hx hb dX10_readRegister_91 (tgt := 97) rfl (fun hc => ?_) (fun hc => ?_)
        · have h := br_F hc h
          have hl := lv_sub hl [0, 1, 2] (l' := [(0, .ref (P 21)), (1, .int v1), (2, .int v2)]) rfl
          exact b_Reader_readRegister_97 hx hb hml hr hlk hgt hown hK hO hAO hE ih M1 v1 v2 H _ ls hl hP hD hS h
        · have h := br_T hc h
          refine lv_goto hx hb dX10_readRegister_94 (tgt := 113) rfl ?_
          have hl := lv_sub hl [0] (l' := [(0, .ref (P 21))]) rfl
          exact b_Reader_readRegister_113 hx hb hml hr hlk hgt hown hK hO hAO hE M1 H _ ls hl hP hD hS h
set_option maxHeartbeats 4000000 in
set_option maxRecDepth 20000 in
theorem b_Reader_readRegister_0 {p : Program} {l : Launch} {e : Env} {s s0 : State} {m : MethodId} {args : Array Value} {below : List Frame} {meth : Method} {c : Code} {D : va_G} {cI cZ cC cJ cA : ClassId} {P : Nat → Nat} {M' : Mm} {r' : Int32}  {qS : Nat → Nat} (hx : p.tables.exec = Jvm.exec) (hb : c.code = cX10_readRegister) (hml : c.maxLocals = 3) (hr : meth.sig.returnType = (some .boolean)) (hlk : meth.locks = false) (hgt : ∀ w ∈ GT, w.before args s = true) (hown : s.vm.findClass RX10 = some m.cls) (hK : va_K D vwCl [(cI, .int), (cZ, .boolean), (cC, .char), (cJ, .long), (cA, .array .int)] s) (hO : Old s0 s) (hAO : ∀ q, (aP P 77) q → s0.heap.size ≤ q) (hE : xE s0 qS)  : ∀ (M : Mm) (a1 : Int32) (H : Heap) (locs : List Loc) (ls : Array Slot), lv_has ls 3 [(0, .ref (P 21)), (1, .int a1)] → va_P D vwCl ((wX cI cZ cC cJ cA P) M) H → va_D (aP P 77) ((wX cI cZ cC cJ cA P) M) → va_S (aP P 77) s.heap H locs → q_Reader_readRegister M a1 = some (M', r') → W p l e ({ frames := 6, cells := 0, slots := 0, locals := 135 }) s m args below meth c H locs 0 0 (MQ below (gQi D (aP P 77) ((wX cI cZ cC cJ cA P) M') r') args s 0 0 (aP P 77)) (F0 m 0 ls []) := by
  intro M a1 H locs ls hl hP hD hS h
  unfold q_Reader_readRegister at h
  refine lv_aload_n hx hb dX10_readRegister_0 rfl (lv_at hl 0 rfl) ?_
  refine va_get (D := D) (ci := 10) (v := .ref (P 1)) (C := RX10) (T := TX10) (N := 4) hx hb hgt iwX10 hown hK hP 21 gX_21 rfl 0 (Nat.le_of_ble_eq_true rfl) (hgt _ wd_0_187) (fun _ h9 => h9) rfl dX10_readRegister_1 ?_
  refine va_get (D := D) (ci := 4) (v := .ref (P 2)) (C := RX4) (T := TX4) (N := 15) hx hb hgt iwX4 hown hK hP 1 gX_1 rfl 1 (Nat.le_of_ble_eq_true rfl) (hgt _ wd_0_99) (fun _ h9 => h9) rfl dX10_readRegister_4 ?_
  refine lv_iload_n hx hb dX10_readRegister_7 rfl (lv_at hl 1 rfl) ?_
  refine lv_aload_n hx hb dX10_readRegister_8 rfl (lv_at hl 0 rfl) ?_
  refine va_get (D := D) (ci := 10) (v := .int (M.1 21 3)) (C := RX10) (T := TX10) (N := 4) hx hb hgt iwX10 hown hK hP 21 gX_21 rfl 3 (Nat.le_of_ble_eq_true rfl) (hgt _ wd_0_191) (fun _ h9 => h9) rfl dX10_readRegister_9 ?_
  refine pm_iast (w := (wX cI cZ cC cJ cA P)) hx hb hK hP hD hS 2 0 gX_2 rfl sX_2 (ix_l h) dX10_readRegister_12 (fun M1 eM1 H locs hP hD hS => ?_)
  have h := ix_r h
  have h := lt_o eM1 h
  refine lv_aload_n hx hb dX10_readRegister_13 rfl (lv_at hl 0 rfl) ?_
  refine lv_bipush (v := 64) hx hb dX10_readRegister_14 (by decide) ?_
  obtain ⟨M2, r3, hq, h⟩ := cal_o h
  refine cx_i (va_runV (As := [.int 64]) (rest := []) ⟨hx, hb, hml, hown, hgt⟩ (z_Reader_take l D cI cZ cC cJ cA P s0 hAO M1 64 M2 r3 hq) (cwV 1 hgt (gV wd_3_158 wd_3_160 sl__ChipMap_Reader____ChipMap_Reader___take____C_Z_____ChipMap_Reader___take____C_Z__ wd_0_4 wd_3_161) rfl rfl rfl (by decide +kernel) ⟨Nat.le_of_ble_eq_true rfl, Nat.le_of_ble_eq_true rfl⟩) (prV hP hK hD hO hAO hS (va_recv hK hP (ci := 10) (q0 := 21) rfl gX_21)) rfl rfl hl.1 rfl (lv_room (Nat.le_of_ble_eq_true rfl)) dX10_readRegister_16 ⟨Nat.le_of_ble_eq_true rfl, Nat.le_of_ble_eq_true rfl⟩) hS (fun H locs hP hD hS => ?_)
  refine lv_if_ne hx hb dX10_readRegister_19 (tgt := 24) rfl (fun hc => ?_) (fun hc => ?_)
  · have h := br_F hc h
    refine lv_aload_n hx hb dX10_readRegister_24 rfl (lv_at hl 0 rfl) ?_
    refine va_get (D := D) (ci := 10) (v := .ref (P 1)) (C := RX10) (T := TX10) (N := 4) hx hb hgt iwX10 hown hK hP 21 gX_21 rfl 0 (Nat.le_of_ble_eq_true rfl) (hgt _ wd_0_187) (fun _ h9 => h9) rfl dX10_readRegister_25 ?_
    refine va_get (D := D) (ci := 4) (v := .ref (P 3)) (C := RX4) (T := TX4) (N := 15) hx hb hgt iwX4 hown hK hP 1 gX_1 rfl 2 (Nat.le_of_ble_eq_true rfl) (hgt _ wd_0_103) (fun _ h9 => h9) rfl dX10_readRegister_28 ?_
    refine lv_iload_n hx hb dX10_readRegister_31 rfl (lv_at hl 1 rfl) ?_
    refine lv_aload_n hx hb dX10_readRegister_32 rfl (lv_at hl 0 rfl) ?_
    refine lv_bipush (v := 16) hx hb dX10_readRegister_33 (by decide) ?_
    refine lv_iconst (v := 2) hx hb dX10_readRegister_35 (by decide) ?_
    refine lv_iconst (v := 2) hx hb dX10_readRegister_36 (by decide) ?_
    obtain ⟨M4, r5, hq, h⟩ := cal_o h
    refine cx_i (va_runV (As := [.int 16, .int 2, .int 2]) (rest := [.int a1, .ref (P 3)]) ⟨hx, hb, hml, hown, hgt⟩ (z_Reader_number l D cI cZ cC cJ cA P s0 hAO M2 16 2 2 M4 r5 hq) (cwV 3 hgt (gV wd_3_162 wd_3_164 sl__ChipMap_Reader____ChipMap_Reader___number____III_I_____ChipMap_Reader___number____III_I__ wd_0_4 wd_3_165) rfl rfl rfl (by decide +kernel) ⟨Nat.le_of_ble_eq_true rfl, Nat.le_of_ble_eq_true rfl⟩) (prV hP hK hD hO hAO hS (va_recv hK hP (ci := 10) (q0 := 21) rfl gX_21)) rfl rfl hl.1 rfl (lv_room (Nat.le_of_ble_eq_true rfl)) dX10_readRegister_37 ⟨Nat.le_of_ble_eq_true rfl, Nat.le_of_ble_eq_true rfl⟩) hS (fun H locs hP hD hS => ?_)
    refine pm_iast (w := (wX cI cZ cC cJ cA P)) hx hb hK hP hD hS 3 0 gX_3 rfl sX_3 (ix_l h) dX10_readRegister_40 (fun M6 eM6 H locs hP hD hS => ?_)
    have h := ix_r h
    have h := lt_o eM6 h
    refine lv_aload_n hx hb dX10_readRegister_41 rfl (lv_at hl 0 rfl) ?_
    refine va_get (D := D) (ci := 10) (v := .ref (P 1)) (C := RX10) (T := TX10) (N := 4) hx hb hgt iwX10 hown hK hP 21 gX_21 rfl 0 (Nat.le_of_ble_eq_true rfl) (hgt _ wd_0_187) (fun _ h9 => h9) rfl dX10_readRegister_42 ?_
    refine va_get (D := D) (ci := 4) (v := .ref (P 3)) (C := RX4) (T := TX4) (N := 15) hx hb hgt iwX4 hown hK hP 1 gX_1 rfl 2 (Nat.le_of_ble_eq_true rfl) (hgt _ wd_0_103) (fun _ h9 => h9) rfl dX10_readRegister_45 ?_
    refine lv_iload_n hx hb dX10_readRegister_48 rfl (lv_at hl 1 rfl) ?_
    refine va_iald hx hb hK hP 3 0 gX_3 rfl (ix_l h) dX10_readRegister_49 ?_
    have h := ix_r h
    refine lv_iconst (v := (-1)) hx hb dX10_readRegister_50 (by decide) ?_
    refine lv_icmp_eq hx hb dX10_readRegister_51 (tgt := 71) rfl (fun hc => ?_) (fun hc => ?_)
    · have h := br_T hc h
      refine lv_iconst (v := 0) hx hb dX10_readRegister_71 (by decide) ?_
      exact rt_z (w := (wX cI cZ cC cJ cA P)) hx hb hr hlk rfl hP hD hS h dX10_readRegister_72
    · have h := br_F hc h
      refine lv_aload_n hx hb dX10_readRegister_54 rfl (lv_at hl 0 rfl) ?_
      refine lv_iload_n hx hb dX10_readRegister_55 rfl (lv_at hl 1 rfl) ?_
      obtain ⟨M7, r8, hq, h⟩ := cal_o h
      refine cx_i (va_runV (As := [.int a1]) (rest := []) ⟨hx, hb, hml, hown, hgt⟩ (z_Reader_readBank l D cI cZ cC cJ cA P s0 hAO M6 a1 M7 r8 hq) (cwV 1 hgt (gV wd_3_169 wd_3_171 sl__ChipMap_Reader____ChipMap_Reader___readBank____I_Z_____ChipMap_Reader___readBank____I_Z__ wd_0_4 wd_3_172) rfl rfl rfl (by decide +kernel) ⟨Nat.le_of_ble_eq_true rfl, Nat.le_of_ble_eq_true rfl⟩) (prV hP hK hD hO hAO hS (va_recv hK hP (ci := 10) (q0 := 21) rfl gX_21)) rfl rfl hl.1 rfl (lv_room (Nat.le_of_ble_eq_true rfl)) dX10_readRegister_56 ⟨Nat.le_of_ble_eq_true rfl, Nat.le_of_ble_eq_true rfl⟩) hS (fun H locs hP hD hS => ?_)
      refine lv_if_eq hx hb dX10_readRegister_59 (tgt := 71) rfl (fun hc => ?_) (fun hc => ?_)
      · have h := br_T hc h
        refine lv_iconst (v := 0) hx hb dX10_readRegister_71 (by decide) ?_
        exact rt_z (w := (wX cI cZ cC cJ cA P)) hx hb hr hlk rfl hP hD hS h dX10_readRegister_72
      · have h := br_F hc h
        refine lv_aload_n hx hb dX10_readRegister_62 rfl (lv_at hl 0 rfl) ?_
        refine lv_bipush (v := 123) hx hb dX10_readRegister_63 (by decide) ?_
        obtain ⟨M9, r10, hq, h⟩ := cal_o h
        refine cx_i (va_runV (As := [.int 123]) (rest := []) ⟨hx, hb, hml, hown, hgt⟩ (z_Reader_take l D cI cZ cC cJ cA P s0 hAO M7 123 M9 r10 hq) (cwV 1 hgt (gV wd_3_158 wd_3_160 sl__ChipMap_Reader____ChipMap_Reader___take____C_Z_____ChipMap_Reader___take____C_Z__ wd_0_4 wd_3_161) rfl rfl rfl (by decide +kernel) ⟨Nat.le_of_ble_eq_true rfl, Nat.le_of_ble_eq_true rfl⟩) (prV hP hK hD hO hAO hS (va_recv hK hP (ci := 10) (q0 := 21) rfl gX_21)) rfl rfl hl.1 rfl (lv_room (Nat.le_of_ble_eq_true rfl)) dX10_readRegister_65 ⟨Nat.le_of_ble_eq_true rfl, Nat.le_of_ble_eq_true rfl⟩) hS (fun H locs hP hD hS => ?_)
        refine lv_if_ne hx hb dX10_readRegister_68 (tgt := 73) rfl (fun hc => ?_) (fun hc => ?_)
        · have h := br_F hc h
          refine lv_iconst (v := 0) hx hb dX10_readRegister_73 (by decide) ?_
          refine lv_istore_n hx hb dX10_readRegister_74 rfl hl (Nat.le_of_ble_eq_true rfl) (lv' := [(2, .int 0), (0, .ref (P 21)), (1, .int a1)]) rfl (fun ls hl => ?_)
          have hl := lv_sub hl [1, 2, 0] (l' := [(0, .ref (P 21)), (1, .int a1), (2, .int 0)]) rfl
          exact b_Reader_readRegister_75 hx hb hml hr hlk hgt hown hK hO hAO hE 4000 M9 a1 0 H _ ls hl hP hD hS h
        · have h := br_T hc h
          refine lv_iconst (v := 0) hx hb dX10_readRegister_71 (by decide) ?_
          exact rt_z (w := (wX cI cZ cC cJ cA P)) hx hb hr hlk rfl hP hD hS h dX10_readRegister_72
  · have h := br_T hc h
    refine lv_iconst (v := 0) hx hb dX10_readRegister_22 (by decide) ?_
    exact rt_z (w := (wX cI cZ cC cJ cA P)) hx hb hr hlk rfl hP hD hS h dX10_readRegister_23
set_option maxHeartbeats 4000000 in
set_option maxRecDepth 20000 in
theorem z_Reader_readRegister (l : Launch) (D : va_G) (cI cZ cC cJ cA : ClassId) (P : Nat → Nat) (s0 : State) (hAO : ∀ q, (aP P 77) q → s0.heap.size ≤ q) (qS : Nat → Nat) (hE : xE s0 qS) (M : Mm) (a1 : Int32) (M' : Mm) (r' : Int32) (h : q_Reader_readRegister M a1 = some (M', r')) : Met l yX10_readRegister wsX10_readRegister ({ frames := 6, cells := 0, slots := 0, locals := 135 }) (va_Pc [.ref (P 21), .int a1] (gPre s0 D [(cI, .int), (cZ, .boolean), (cC, .char), (cJ, .long), (cA, .array .int)] (aP P 77) ((wX cI cZ cC cJ cA P) M))) (gQi D (aP P 77) ((wX cI cZ cC cJ cA P) M') r') 0 0 (aP P 77) := by
  refine Met.ofW (cc := cX10_readRegister) (maxL := 3) (ret := (some .boolean)) (by decide) rfl ?_
  intro p e s m args below meth c s₁ B hml hv
  obtain ⟨rfl, hP, hK, hD, hO⟩ := hv
  have hx := B.exec
  have hb := B.bytes
  have hr := B.returns
  have hlk := B.notSynchronized
  have hgt := fun w (h : w ∈ GT) => atoms_spec (ws := wsX10_readRegister) B.pre w (List.mem_cons_of_mem _ h)
  have hown : s.vm.findClass RX10 = some m.cls := findClass_of_methodNamed B.named
  have hS : va_S (aP P 77) s.heap s.heap [] := va_S.rf
  have hl := lv_entry ([.ref (P 21), .int a1]) (n := 3) (Nat.le_of_ble_eq_true rfl)
  rw [lg_entry_eq]
  generalize (lg_sl ([.ref (P 21), .int a1]) ++ List.replicate (3 - (lg_sl ([.ref (P 21), .int a1])).length) Slot.unset).toArray = ls at hl ⊢
  have hl : lv_has ls 3 [(0, .ref (P 21)), (1, .int a1)] := hl
  exact b_Reader_readRegister_0 hx hb hml hr hlk hgt hown hK hO hAO hE M a1 s.heap [] ls hl hP hD hS h
def q_Reader_readRegisters_24 (kf2 : Mm → Int32 → Rs) (M : Mm) (v1 : Int32) : Rs := cal (q_Reader_readRegister M v1) fun M1 r2 => if r2 = 0 then (some (M1, 0)) else (lt' (stI M1 1 (upd (M1.1 1) 0 (v1 + 1))) fun M3 => kf2 M3 (v1 + 1))
def q_Reader_readRegisters_2  : Nat → Mm → Int32 → Rs
  | 0, _, _ => none
  | n' + 1, M, v1 => if 16 ≤ v1 then (some (M, 1)) else (if v1 ≤ 0 then (q_Reader_readRegisters_24 (q_Reader_readRegisters_2 n') M v1) else (cal (q_Reader_next M) fun M1 r2 => if r2 = 64 then (q_Reader_readRegisters_24 (q_Reader_readRegisters_2 n') M1 v1) else (some (M1, 1))))
def q_Reader_readRegisters  (M : Mm)  : Rs := q_Reader_readRegisters_2 4000 M 0
set_option maxHeartbeats 4000000 in
set_option maxRecDepth 20000 in
theorem b_Reader_readRegisters_24 {p : Program} {l : Launch} {e : Env} {s s0 : State} {m : MethodId} {args : Array Value} {below : List Frame} {meth : Method} {c : Code} {D : va_G} {cI cZ cC cJ cA : ClassId} {P : Nat → Nat} {M' : Mm} {r' : Int32} {kf2 : Mm → Int32 → Rs} {qS : Nat → Nat} (hx : p.tables.exec = Jvm.exec) (hb : c.code = cX10_readRegisters) (hml : c.maxLocals = 2) (hr : meth.sig.returnType = (some .boolean)) (hlk : meth.locks = false) (hgt : ∀ w ∈ GT, w.before args s = true) (hown : s.vm.findClass RX10 = some m.cls) (hK : va_K D vwCl [(cI, .int), (cZ, .boolean), (cC, .char), (cJ, .long), (cA, .array .int)] s) (hO : Old s0 s) (hAO : ∀ q, (aP P 77) q → s0.heap.size ≤ q) (hE : xE s0 qS) (kk2 : ∀ (M : Mm) (v1 : Int32) (H : Heap) (locs : List Loc) (ls : Array Slot), lv_has ls 2 [(0, .ref (P 21)), (1, .int v1)] → va_P D vwCl ((wX cI cZ cC cJ cA P) M) H → va_D (aP P 77) ((wX cI cZ cC cJ cA P) M) → va_S (aP P 77) s.heap H locs → kf2 M v1 = some (M', r') → W p l e ({ frames := 7, cells := 0, slots := 0, locals := 157 }) s m args below meth c H locs 0 0 (MQ below (gQi D (aP P 77) ((wX cI cZ cC cJ cA P) M') r') args s 0 0 (aP P 77)) (F0 m 2 ls [])) : ∀ (M : Mm) (v1 : Int32) (H : Heap) (locs : List Loc) (ls : Array Slot), lv_has ls 2 [(0, .ref (P 21)), (1, .int v1)] → va_P D vwCl ((wX cI cZ cC cJ cA P) M) H → va_D (aP P 77) ((wX cI cZ cC cJ cA P) M) → va_S (aP P 77) s.heap H locs → q_Reader_readRegisters_24 kf2 M v1 = some (M', r') → W p l e ({ frames := 7, cells := 0, slots := 0, locals := 157 }) s m args below meth c H locs 0 0 (MQ below (gQi D (aP P 77) ((wX cI cZ cC cJ cA P) M') r') args s 0 0 (aP P 77)) (F0 m 24 ls []) := by
  intro M v1 H locs ls hl hP hD hS h
  unfold q_Reader_readRegisters_24 at h
  refine lv_aload_n hx hb dX10_readRegisters_24 rfl (lv_at hl 0 rfl) ?_
  refine lv_iload_n hx hb dX10_readRegisters_25 rfl (lv_at hl 1 rfl) ?_
  obtain ⟨M1, r2, hq, h⟩ := cal_o h
  refine cx_i (va_runV (As := [.int v1]) (rest := []) ⟨hx, hb, hml, hown, hgt⟩ (z_Reader_readRegister l D cI cZ cC cJ cA P s0 hAO qS hE M v1 M1 r2 hq) (cwV 1 hgt (gV wd_3_154 wd_3_156 sl__ChipMap_Reader____ChipMap_Reader___readRegister____I_Z_____ChipMap_Reader___readRegister____I_Z__ wd_0_4 wd_3_157) rfl rfl rfl (by decide +kernel) ⟨Nat.le_of_ble_eq_true rfl, Nat.le_of_ble_eq_true rfl⟩) (prV hP hK hD hO hAO hS (va_recv hK hP (ci := 10) (q0 := 21) rfl gX_21)) rfl rfl hl.1 rfl (lv_room (Nat.le_of_ble_eq_true rfl)) dX10_readRegisters_26 ⟨Nat.le_of_ble_eq_true rfl, Nat.le_of_ble_eq_true rfl⟩) hS (fun H locs hP hD hS => ?_)
  refine lv_if_ne hx hb dX10_readRegisters_29 (tgt := 34) rfl (fun hc => ?_) (fun hc => ?_)
  · have h := br_F hc h
    refine lv_aload_n hx hb dX10_readRegisters_34 rfl (lv_at hl 0 rfl) ?_
    refine va_get (D := D) (ci := 10) (v := .ref (P 1)) (C := RX10) (T := TX10) (N := 4) hx hb hgt iwX10 hown hK hP 21 gX_21 rfl 0 (Nat.le_of_ble_eq_true rfl) (hgt _ wd_0_187) (fun _ h9 => h9) rfl dX10_readRegisters_35 ?_
    refine lv_iload_n hx hb dX10_readRegisters_38 rfl (lv_at hl 1 rfl) ?_
    refine lv_iconst (v := 1) hx hb dX10_readRegisters_39 (by decide) ?_
    refine lv_iadd hx hb dX10_readRegisters_40 ?_
    refine pm_put (w := (wX cI cZ cC cJ cA P)) (D := D) (ci := 4) (x := (v1 + 1)) (ty := .int) (C := RX4) (T := TX4) (N := 15) hx hb hgt iwX4 tyX4 tyX4_ok nmX4 hown hK hP hD hS 1 gX_1 rfl 0 (Nat.le_of_ble_eq_true rfl) (hgt _ wd_0_96) (fun _ h9 => h9) rfl (by decide +kernel) rfl rfl (Nat.le_of_ble_eq_true rfl) (sX_1_0 _) dX10_readRegisters_41 (fun M3 eM3 H locs hP hD hS => ?_)
    have h := lt_o eM3 h
    refine lv_iinc (v := (v1 + 1)) hx hb dX10_readRegisters_44 hl (k := 1) rfl rfl (Nat.le_of_ble_eq_true rfl) (lv' := [(1, .int (v1 + 1)), (0, .ref (P 21))]) rfl (fun ls hl => ?_)
    refine lv_goto hx hb dX10_readRegisters_47 (tgt := 2) rfl ?_
    have hl := lv_sub hl [1, 0] (l' := [(0, .ref (P 21)), (1, .int (v1 + 1))]) rfl
    exact kk2 M3 (v1 + 1) H locs ls hl hP hD hS h
  · have h := br_T hc h
    refine lv_iconst (v := 0) hx hb dX10_readRegisters_32 (by decide) ?_
    exact rt_z (w := (wX cI cZ cC cJ cA P)) hx hb hr hlk rfl hP hD hS h dX10_readRegisters_33
set_option maxHeartbeats 4000000 in
set_option maxRecDepth 20000 in
theorem b_Reader_readRegisters_2 {p : Program} {l : Launch} {e : Env} {s s0 : State} {m : MethodId} {args : Array Value} {below : List Frame} {meth : Method} {c : Code} {D : va_G} {cI cZ cC cJ cA : ClassId} {P : Nat → Nat} {M' : Mm} {r' : Int32}  {qS : Nat → Nat} (hx : p.tables.exec = Jvm.exec) (hb : c.code = cX10_readRegisters) (hml : c.maxLocals = 2) (hr : meth.sig.returnType = (some .boolean)) (hlk : meth.locks = false) (hgt : ∀ w ∈ GT, w.before args s = true) (hown : s.vm.findClass RX10 = some m.cls) (hK : va_K D vwCl [(cI, .int), (cZ, .boolean), (cC, .char), (cJ, .long), (cA, .array .int)] s) (hO : Old s0 s) (hAO : ∀ q, (aP P 77) q → s0.heap.size ≤ q) (hE : xE s0 qS)  : ∀ (n' : Nat) (M : Mm) (v1 : Int32) (H : Heap) (locs : List Loc) (ls : Array Slot), lv_has ls 2 [(0, .ref (P 21)), (1, .int v1)] → va_P D vwCl ((wX cI cZ cC cJ cA P) M) H → va_D (aP P 77) ((wX cI cZ cC cJ cA P) M) → va_S (aP P 77) s.heap H locs → q_Reader_readRegisters_2 n' M v1 = some (M', r') → W p l e ({ frames := 7, cells := 0, slots := 0, locals := 157 }) s m args below meth c H locs 0 0 (MQ below (gQi D (aP P 77) ((wX cI cZ cC cJ cA P) M') r') args s 0 0 (aP P 77)) (F0 m 2 ls []) := by
  intro n'
  induction n' with
  | zero => exact fun _ _ _ _ _ _ _ _ _ h => (rs_n h).elim
  | succ n' ih =>
    intro M v1 H locs ls hl hP hD hS h
    rw [q_Reader_readRegisters_2] at h
    refine lv_iload_n hx hb dX10_readRegisters_2 rfl (lv_at hl 1 rfl) ?_
    refine lv_bipush (v := 16) hx hb dX10_readRegisters_3 (by decide) ?_
    refine lv_icmp_ge hx hb dX10_readRegisters_5 (tgt := 50) rfl (fun hc => ?_) (fun hc => ?_)
    · have h := br_T hc h
      refine lv_iconst (v := 1) hx hb dX10_readRegisters_50 (by decide) ?_
      exact rt_z (w := (wX cI cZ cC cJ cA P)) hx hb hr hlk rfl hP hD hS h dX10_readRegisters_51
    · have h := br_F hc h
      refine lv_iload_n hx hb dX10_readRegisters_8 rfl (lv_at hl 1 rfl) ?_
      refine lv_if_le hx hb dX10_readRegisters_9 (tgt := 24) rfl (fun hc => ?_) (fun hc => ?_)
      · have h := br_T hc h
        have hl := lv_sub hl [0, 1] (l' := [(0, .ref (P 21)), (1, .int v1)]) rfl
        exact b_Reader_readRegisters_24 hx hb hml hr hlk hgt hown hK hO hAO hE ih M v1 H _ ls hl hP hD hS h
      · have h := br_F hc h
        refine lv_aload_n hx hb dX10_readRegisters_12 rfl (lv_at hl 0 rfl) ?_
        obtain ⟨M1, r2, hq, h⟩ := cal_o h
        refine cx_i (va_runV (As := []) (rest := []) ⟨hx, hb, hml, hown, hgt⟩ (z_Reader_next l D cI cZ cC cJ cA P s0 hAO M M1 r2 hq) (cwV 0 hgt (gV wd_3_150 wd_3_152 sl__ChipMap_Reader____ChipMap_Reader___next_____C_____ChipMap_Reader___next_____C__ wd_0_4 wd_3_153) rfl rfl rfl (by decide +kernel) ⟨Nat.le_of_ble_eq_true rfl, Nat.le_of_ble_eq_true rfl⟩) (prV hP hK hD hO hAO hS (va_recv hK hP (ci := 10) (q0 := 21) rfl gX_21)) rfl rfl hl.1 rfl (lv_room (Nat.le_of_ble_eq_true rfl)) dX10_readRegisters_13 ⟨Nat.le_of_ble_eq_true rfl, Nat.le_of_ble_eq_true rfl⟩) hS (fun H locs hP hD hS => ?_)
        refine lv_bipush (v := 64) hx hb dX10_readRegisters_16 (by decide) ?_
        refine lv_icmp_eq hx hb dX10_readRegisters_18 (tgt := 24) rfl (fun hc => ?_) (fun hc => ?_)
        · have h := br_T hc h
          have hl := lv_sub hl [0, 1] (l' := [(0, .ref (P 21)), (1, .int v1)]) rfl
          exact b_Reader_readRegisters_24 hx hb hml hr hlk hgt hown hK hO hAO hE ih M1 v1 H _ ls hl hP hD hS h
        · have h := br_F hc h
          refine lv_goto hx hb dX10_readRegisters_21 (tgt := 50) rfl ?_
          refine lv_iconst (v := 1) hx hb dX10_readRegisters_50 (by decide) ?_
          exact rt_z (w := (wX cI cZ cC cJ cA P)) hx hb hr hlk rfl hP hD hS h dX10_readRegisters_51
set_option maxHeartbeats 4000000 in
set_option maxRecDepth 20000 in
theorem b_Reader_readRegisters_0 {p : Program} {l : Launch} {e : Env} {s s0 : State} {m : MethodId} {args : Array Value} {below : List Frame} {meth : Method} {c : Code} {D : va_G} {cI cZ cC cJ cA : ClassId} {P : Nat → Nat} {M' : Mm} {r' : Int32}  {qS : Nat → Nat} (hx : p.tables.exec = Jvm.exec) (hb : c.code = cX10_readRegisters) (hml : c.maxLocals = 2) (hr : meth.sig.returnType = (some .boolean)) (hlk : meth.locks = false) (hgt : ∀ w ∈ GT, w.before args s = true) (hown : s.vm.findClass RX10 = some m.cls) (hK : va_K D vwCl [(cI, .int), (cZ, .boolean), (cC, .char), (cJ, .long), (cA, .array .int)] s) (hO : Old s0 s) (hAO : ∀ q, (aP P 77) q → s0.heap.size ≤ q) (hE : xE s0 qS)  : ∀ (M : Mm)  (H : Heap) (locs : List Loc) (ls : Array Slot), lv_has ls 2 [(0, .ref (P 21))] → va_P D vwCl ((wX cI cZ cC cJ cA P) M) H → va_D (aP P 77) ((wX cI cZ cC cJ cA P) M) → va_S (aP P 77) s.heap H locs → q_Reader_readRegisters M = some (M', r') → W p l e ({ frames := 7, cells := 0, slots := 0, locals := 157 }) s m args below meth c H locs 0 0 (MQ below (gQi D (aP P 77) ((wX cI cZ cC cJ cA P) M') r') args s 0 0 (aP P 77)) (F0 m 0 ls []) := by
  intro M H locs ls hl hP hD hS h
  unfold q_Reader_readRegisters at h
  refine lv_iconst (v := 0) hx hb dX10_readRegisters_0 (by decide) ?_
  refine lv_istore_n hx hb dX10_readRegisters_1 rfl hl (Nat.le_of_ble_eq_true rfl) (lv' := [(1, .int 0), (0, .ref (P 21))]) rfl (fun ls hl => ?_)
  have hl := lv_sub hl [1, 0] (l' := [(0, .ref (P 21)), (1, .int 0)]) rfl
  exact b_Reader_readRegisters_2 hx hb hml hr hlk hgt hown hK hO hAO hE 4000 M 0 H _ ls hl hP hD hS h
set_option maxHeartbeats 4000000 in
set_option maxRecDepth 20000 in
theorem z_Reader_readRegisters (l : Launch) (D : va_G) (cI cZ cC cJ cA : ClassId) (P : Nat → Nat) (s0 : State) (hAO : ∀ q, (aP P 77) q → s0.heap.size ≤ q) (qS : Nat → Nat) (hE : xE s0 qS) (M : Mm)  (M' : Mm) (r' : Int32) (h : q_Reader_readRegisters M = some (M', r')) : Met l yX10_readRegisters wsX10_readRegisters ({ frames := 7, cells := 0, slots := 0, locals := 157 }) (va_Pc [.ref (P 21)] (gPre s0 D [(cI, .int), (cZ, .boolean), (cC, .char), (cJ, .long), (cA, .array .int)] (aP P 77) ((wX cI cZ cC cJ cA P) M))) (gQi D (aP P 77) ((wX cI cZ cC cJ cA P) M') r') 0 0 (aP P 77) := by
  refine Met.ofW (cc := cX10_readRegisters) (maxL := 2) (ret := (some .boolean)) (by decide) rfl ?_
  intro p e s m args below meth c s₁ B hml hv
  obtain ⟨rfl, hP, hK, hD, hO⟩ := hv
  have hx := B.exec
  have hb := B.bytes
  have hr := B.returns
  have hlk := B.notSynchronized
  have hgt := fun w (h : w ∈ GT) => atoms_spec (ws := wsX10_readRegisters) B.pre w (List.mem_cons_of_mem _ h)
  have hown : s.vm.findClass RX10 = some m.cls := findClass_of_methodNamed B.named
  have hS : va_S (aP P 77) s.heap s.heap [] := va_S.rf
  have hl := lv_entry ([.ref (P 21)]) (n := 2) (Nat.le_of_ble_eq_true rfl)
  rw [lg_entry_eq]
  generalize (lg_sl ([.ref (P 21)]) ++ List.replicate (2 - (lg_sl ([.ref (P 21)])).length) Slot.unset).toArray = ls at hl ⊢
  have hl : lv_has ls 2 [(0, .ref (P 21))] := hl
  exact b_Reader_readRegisters_0 hx hb hml hr hlk hgt hown hK hO hAO hE M s.heap [] ls hl hP hD hS h
end
section
def q_String_isLatin1_1  (M : Mm)  : Rs := some (M, 1)
set_option maxHeartbeats 4000000 in
set_option maxRecDepth 20000 in
theorem b_String_isLatin1_1_0 {p : Program} {l : Launch} {e : Env} {s s0 : State} {m : MethodId} {args : Array Value} {below : List Frame} {meth : Method} {c : Code} {D : va_G} {cI cZ cC cJ cA : ClassId} {P : Nat → Nat} {M' : Mm} {r' : Int32}  {qS : Nat → Nat} (hx : p.tables.exec = Jvm.exec) (hb : c.code = cJ0_isLatin1) (hml : c.maxLocals = 1) (hr : meth.sig.returnType = (some .boolean)) (hlk : meth.locks = false) (hgt : ∀ w ∈ GT, w.before args s = true) (hown : s.vm.findClass RJ0 = some m.cls) (hK : va_K D vwCl [(cI, .int), (cZ, .boolean), (cC, .char), (cJ, .long), (cA, .array .int)] s) (hO : Old s0 s) (hAO : ∀ q, (aP P 77) q → s0.heap.size ≤ q) (hE : xE s0 qS)  : ∀ (M : Mm)  (H : Heap) (locs : List Loc) (ls : Array Slot), lv_has ls 1 [(0, .ref (qS 1))] → va_P D vwCl ((wX cI cZ cC cJ cA P) M) H → va_D (aP P 77) ((wX cI cZ cC cJ cA P) M) → va_S (aP P 77) s.heap H locs → q_String_isLatin1_1 M = some (M', r') → W p l e ({ frames := 0, cells := 0, slots := 0, locals := 0 }) s m args below meth c H locs 0 0 (MQ below (gQi D (aP P 77) ((wX cI cZ cC cJ cA P) M') r') args s 0 0 (aP P 77)) (F0 m 0 ls []) := by
  intro M H locs ls hl hP hD hS h
  unfold q_String_isLatin1_1 at h
  refine va_gets hx hb (hE.z hO hAO) hS hown (hgt _ wd_0_235) (fun _ h => h) dJ0_isLatin1_0 ?_
  refine lv_if_eq hx hb dJ0_isLatin1_3 (tgt := 17) rfl (fun hc => ?_) (fun hc => ?_)
  · exact absurd hc (by decide)
  · skip
    refine lv_aload_n hx hb dJ0_isLatin1_6 rfl (lv_at hl 0 rfl) ?_
    refine vk_getf hx hb (hE.c hO hAO (i := 1) (by decide)) hS hown (hgt _ wd_7_1) (fun _ h => h) dJ0_isLatin1_7 ?_
    refine lv_if_ne hx hb dJ0_isLatin1_10 (tgt := 17) rfl (fun hc => ?_) (fun hc => ?_)
    · exact absurd hc (by decide)
    · skip
      refine lv_iconst (v := 1) hx hb dJ0_isLatin1_13 (by decide) ?_
      refine lv_goto hx hb dJ0_isLatin1_14 (tgt := 18) rfl ?_
      exact rt_z (w := (wX cI cZ cC cJ cA P)) hx hb hr hlk rfl hP hD hS h dJ0_isLatin1_18
set_option maxHeartbeats 4000000 in
set_option maxRecDepth 20000 in
theorem z_String_isLatin1_1 (l : Launch) (D : va_G) (cI cZ cC cJ cA : ClassId) (P : Nat → Nat) (s0 : State) (hAO : ∀ q, (aP P 77) q → s0.heap.size ≤ q) (qS : Nat → Nat) (hE : xE s0 qS) (M : Mm)  (M' : Mm) (r' : Int32) (h : q_String_isLatin1_1 M = some (M', r')) : Met l yJ0_isLatin1 wsJ0_isLatin1 ({ frames := 0, cells := 0, slots := 0, locals := 0 }) (va_Pc [.ref (qS 1)] (gPre s0 D [(cI, .int), (cZ, .boolean), (cC, .char), (cJ, .long), (cA, .array .int)] (aP P 77) ((wX cI cZ cC cJ cA P) M))) (gQi D (aP P 77) ((wX cI cZ cC cJ cA P) M') r') 0 0 (aP P 77) := by
  refine Met.ofW (cc := cJ0_isLatin1) (maxL := 1) (ret := (some .boolean)) (by decide) rfl ?_
  intro p e s m args below meth c s₁ B hml hv
  obtain ⟨rfl, hP, hK, hD, hO⟩ := hv
  have hx := B.exec
  have hb := B.bytes
  have hr := B.returns
  have hlk := B.notSynchronized
  have hgt := fun w (h : w ∈ GT) => atoms_spec (ws := wsJ0_isLatin1) B.pre w (List.mem_cons_of_mem _ h)
  have hown : s.vm.findClass RJ0 = some m.cls := findClass_of_methodNamed B.named
  have hS : va_S (aP P 77) s.heap s.heap [] := va_S.rf
  have hl := lv_entry ([.ref (qS 1)]) (n := 1) (Nat.le_of_ble_eq_true rfl)
  rw [lg_entry_eq]
  generalize (lg_sl ([.ref (qS 1)]) ++ List.replicate (1 - (lg_sl ([.ref (qS 1)])).length) Slot.unset).toArray = ls at hl ⊢
  have hl : lv_has ls 1 [(0, .ref (qS 1))] := hl
  exact b_String_isLatin1_1_0 hx hb hml hr hlk hgt hown hK hO hAO hE M s.heap [] ls hl hP hD hS h
def q_String_coder_1  (M : Mm)  : Rs := some (M, 0)
set_option maxHeartbeats 4000000 in
set_option maxRecDepth 20000 in
theorem b_String_coder_1_0 {p : Program} {l : Launch} {e : Env} {s s0 : State} {m : MethodId} {args : Array Value} {below : List Frame} {meth : Method} {c : Code} {D : va_G} {cI cZ cC cJ cA : ClassId} {P : Nat → Nat} {M' : Mm} {r' : Int32}  {qS : Nat → Nat} (hx : p.tables.exec = Jvm.exec) (hb : c.code = cJ0_coder) (hml : c.maxLocals = 1) (hr : meth.sig.returnType = (some .byte)) (hlk : meth.locks = false) (hgt : ∀ w ∈ GT, w.before args s = true) (hown : s.vm.findClass RJ0 = some m.cls) (hK : va_K D vwCl [(cI, .int), (cZ, .boolean), (cC, .char), (cJ, .long), (cA, .array .int)] s) (hO : Old s0 s) (hAO : ∀ q, (aP P 77) q → s0.heap.size ≤ q) (hE : xE s0 qS)  : ∀ (M : Mm)  (H : Heap) (locs : List Loc) (ls : Array Slot), lv_has ls 1 [(0, .ref (qS 1))] → va_P D vwCl ((wX cI cZ cC cJ cA P) M) H → va_D (aP P 77) ((wX cI cZ cC cJ cA P) M) → va_S (aP P 77) s.heap H locs → q_String_coder_1 M = some (M', r') → W p l e ({ frames := 0, cells := 0, slots := 0, locals := 0 }) s m args below meth c H locs 0 0 (MQ below (gQi D (aP P 77) ((wX cI cZ cC cJ cA P) M') r') args s 0 0 (aP P 77)) (F0 m 0 ls []) := by
  intro M H locs ls hl hP hD hS h
  unfold q_String_coder_1 at h
  refine va_gets hx hb (hE.z hO hAO) hS hown (hgt _ wd_0_235) (fun _ h => h) dJ0_coder_0 ?_
  refine lv_if_eq hx hb dJ0_coder_3 (tgt := 13) rfl (fun hc => ?_) (fun hc => ?_)
  · exact absurd hc (by decide)
  · skip
    refine lv_aload_n hx hb dJ0_coder_6 rfl (lv_at hl 0 rfl) ?_
    refine vk_getf hx hb (hE.c hO hAO (i := 1) (by decide)) hS hown (hgt _ wd_7_1) (fun _ h => h) dJ0_coder_7 ?_
    refine lv_goto hx hb dJ0_coder_10 (tgt := 14) rfl ?_
    exact rt_z (w := (wX cI cZ cC cJ cA P)) hx hb hr hlk rfl hP hD hS h dJ0_coder_14
set_option maxHeartbeats 4000000 in
set_option maxRecDepth 20000 in
theorem z_String_coder_1 (l : Launch) (D : va_G) (cI cZ cC cJ cA : ClassId) (P : Nat → Nat) (s0 : State) (hAO : ∀ q, (aP P 77) q → s0.heap.size ≤ q) (qS : Nat → Nat) (hE : xE s0 qS) (M : Mm)  (M' : Mm) (r' : Int32) (h : q_String_coder_1 M = some (M', r')) : Met l yJ0_coder wsJ0_coder ({ frames := 0, cells := 0, slots := 0, locals := 0 }) (va_Pc [.ref (qS 1)] (gPre s0 D [(cI, .int), (cZ, .boolean), (cC, .char), (cJ, .long), (cA, .array .int)] (aP P 77) ((wX cI cZ cC cJ cA P) M))) (gQi D (aP P 77) ((wX cI cZ cC cJ cA P) M') r') 0 0 (aP P 77) := by
  refine Met.ofW (cc := cJ0_coder) (maxL := 1) (ret := (some .byte)) (by decide) rfl ?_
  intro p e s m args below meth c s₁ B hml hv
  obtain ⟨rfl, hP, hK, hD, hO⟩ := hv
  have hx := B.exec
  have hb := B.bytes
  have hr := B.returns
  have hlk := B.notSynchronized
  have hgt := fun w (h : w ∈ GT) => atoms_spec (ws := wsJ0_coder) B.pre w (List.mem_cons_of_mem _ h)
  have hown : s.vm.findClass RJ0 = some m.cls := findClass_of_methodNamed B.named
  have hS : va_S (aP P 77) s.heap s.heap [] := va_S.rf
  have hl := lv_entry ([.ref (qS 1)]) (n := 1) (Nat.le_of_ble_eq_true rfl)
  rw [lg_entry_eq]
  generalize (lg_sl ([.ref (qS 1)]) ++ List.replicate (1 - (lg_sl ([.ref (qS 1)])).length) Slot.unset).toArray = ls at hl ⊢
  have hl : lv_has ls 1 [(0, .ref (qS 1))] := hl
  exact b_String_coder_1_0 hx hb hml hr hlk hgt hown hK hO hAO hE M s.heap [] ls hl hP hD hS h
def q_String_length_1  (M : Mm)  : Rs := cal (q_String_coder_1 M) fun M1 r2 => some (M1, ((3 : Int32) >>> (r2 &&& 31)))
set_option maxHeartbeats 4000000 in
set_option maxRecDepth 20000 in
theorem b_String_length_1_0 {p : Program} {l : Launch} {e : Env} {s s0 : State} {m : MethodId} {args : Array Value} {below : List Frame} {meth : Method} {c : Code} {D : va_G} {cI cZ cC cJ cA : ClassId} {P : Nat → Nat} {M' : Mm} {r' : Int32}  {qS : Nat → Nat} (hx : p.tables.exec = Jvm.exec) (hb : c.code = cJ0_length) (hml : c.maxLocals = 1) (hr : meth.sig.returnType = (some .int)) (hlk : meth.locks = false) (hgt : ∀ w ∈ GT, w.before args s = true) (hown : s.vm.findClass RJ0 = some m.cls) (hK : va_K D vwCl [(cI, .int), (cZ, .boolean), (cC, .char), (cJ, .long), (cA, .array .int)] s) (hO : Old s0 s) (hAO : ∀ q, (aP P 77) q → s0.heap.size ≤ q) (hE : xE s0 qS)  : ∀ (M : Mm)  (H : Heap) (locs : List Loc) (ls : Array Slot), lv_has ls 1 [(0, .ref (qS 1))] → va_P D vwCl ((wX cI cZ cC cJ cA P) M) H → va_D (aP P 77) ((wX cI cZ cC cJ cA P) M) → va_S (aP P 77) s.heap H locs → q_String_length_1 M = some (M', r') → W p l e ({ frames := 1, cells := 0, slots := 0, locals := 20 }) s m args below meth c H locs 0 0 (MQ below (gQi D (aP P 77) ((wX cI cZ cC cJ cA P) M') r') args s 0 0 (aP P 77)) (F0 m 0 ls []) := by
  intro M H locs ls hl hP hD hS h
  unfold q_String_length_1 at h
  refine lv_aload_n hx hb dJ0_length_0 rfl (lv_at hl 0 rfl) ?_
  refine vk_getf hx hb (hE.v hO hAO (i := 1) (by decide)) hS hown (hgt _ wd_7_0) (fun _ h => h) dJ0_length_1 ?_
  refine va_tlen (v := 3) hx hb (hE.t hO hAO (i := 1) (by decide)) hS (by decide) dJ0_length_4 ?_
  refine lv_aload_n hx hb dJ0_length_5 rfl (lv_at hl 0 rfl) ?_
  obtain ⟨M1, r2, hq, h⟩ := cal_o h
  refine cx_i (va_runV (As := []) (rest := [.int 3]) ⟨hx, hb, hml, hown, hgt⟩ (z_String_coder_1 l D cI cZ cC cJ cA P s0 hAO qS hE M M1 r2 hq) (cwV 0 hgt (gV wd_0_231 wd_0_232 wd_0_233 wd_0_7 wd_0_234) rfl rfl rfl (by decide +kernel) ⟨Nat.le_of_ble_eq_true rfl, Nat.le_of_ble_eq_true rfl⟩) (prV hP hK hD hO hAO hS (hE.recv hO hAO hS (i := 1) (by decide))) rfl rfl hl.1 rfl (lv_room (Nat.le_of_ble_eq_true rfl)) dJ0_length_6 ⟨Nat.le_of_ble_eq_true rfl, Nat.le_of_ble_eq_true rfl⟩) hS (fun H locs hP hD hS => ?_)
  refine lv_ishr hx hb dJ0_length_9 ?_
  exact rt_i (w := (wX cI cZ cC cJ cA P)) hx hb hr hlk hP hD hS h dJ0_length_10
set_option maxHeartbeats 4000000 in
set_option maxRecDepth 20000 in
theorem z_String_length_1 (l : Launch) (D : va_G) (cI cZ cC cJ cA : ClassId) (P : Nat → Nat) (s0 : State) (hAO : ∀ q, (aP P 77) q → s0.heap.size ≤ q) (qS : Nat → Nat) (hE : xE s0 qS) (M : Mm)  (M' : Mm) (r' : Int32) (h : q_String_length_1 M = some (M', r')) : Met l yJ0_length wsJ0_length ({ frames := 1, cells := 0, slots := 0, locals := 20 }) (va_Pc [.ref (qS 1)] (gPre s0 D [(cI, .int), (cZ, .boolean), (cC, .char), (cJ, .long), (cA, .array .int)] (aP P 77) ((wX cI cZ cC cJ cA P) M))) (gQi D (aP P 77) ((wX cI cZ cC cJ cA P) M') r') 0 0 (aP P 77) := by
  refine Met.ofW (cc := cJ0_length) (maxL := 1) (ret := (some .int)) (by decide) rfl ?_
  intro p e s m args below meth c s₁ B hml hv
  obtain ⟨rfl, hP, hK, hD, hO⟩ := hv
  have hx := B.exec
  have hb := B.bytes
  have hr := B.returns
  have hlk := B.notSynchronized
  have hgt := fun w (h : w ∈ GT) => atoms_spec (ws := wsJ0_length) B.pre w (List.mem_cons_of_mem _ h)
  have hown : s.vm.findClass RJ0 = some m.cls := findClass_of_methodNamed B.named
  have hS : va_S (aP P 77) s.heap s.heap [] := va_S.rf
  have hl := lv_entry ([.ref (qS 1)]) (n := 1) (Nat.le_of_ble_eq_true rfl)
  rw [lg_entry_eq]
  generalize (lg_sl ([.ref (qS 1)]) ++ List.replicate (1 - (lg_sl ([.ref (qS 1)])).length) Slot.unset).toArray = ls at hl ⊢
  have hl : lv_has ls 1 [(0, .ref (qS 1))] := hl
  exact b_String_length_1_0 hx hb hml hr hlk hgt hown hK hO hAO hE M s.heap [] ls hl hP hD hS h
def q_StringLatin1_indexOfChar_1_7  : Nat → Mm → Int32 → Int32 → Int32 → Rs
  | 0, _, _, _, _ => none
  | n' + 1, M, v3, v4, v5 => if v3 ≤ v5 then (some (M, (-1))) else (ix v5 3 <| if (sB 1 (v5 : Int32).toNatClampNeg) = v4 then (some (M, v5)) else (q_StringLatin1_indexOfChar_1_7 n' M v3 v4 (v5 + 1)))
def q_StringLatin1_indexOfChar_1  (M : Mm) (a1 : Int32) (a2 : Int32) (a3 : Int32) : Rs := lt' ((a1 : Int32).toInt8.toInt32) fun x1 => q_StringLatin1_indexOfChar_1_7 4000 M a3 x1 a2
set_option maxHeartbeats 4000000 in
set_option maxRecDepth 20000 in
theorem b_StringLatin1_indexOfChar_1_7 {p : Program} {l : Launch} {e : Env} {s s0 : State} {m : MethodId} {args : Array Value} {below : List Frame} {meth : Method} {c : Code} {D : va_G} {cI cZ cC cJ cA : ClassId} {P : Nat → Nat} {M' : Mm} {r' : Int32}  {qS : Nat → Nat} (hx : p.tables.exec = Jvm.exec) (hb : c.code = cJ3_indexOfChar) (hml : c.maxLocals = 6) (hr : meth.sig.returnType = (some .int)) (hlk : meth.locks = false) (hgt : ∀ w ∈ GT, w.before args s = true) (hown : s.vm.findClass RJ3 = some m.cls) (hK : va_K D vwCl [(cI, .int), (cZ, .boolean), (cC, .char), (cJ, .long), (cA, .array .int)] s) (hO : Old s0 s) (hAO : ∀ q, (aP P 77) q → s0.heap.size ≤ q) (hE : xE s0 qS)  : ∀ (n' : Nat) (M : Mm) (v3 : Int32) (v4 : Int32) (v5 : Int32) (H : Heap) (locs : List Loc) (ls : Array Slot), lv_has ls 6 [(0, .ref (qS 3)), (3, .int v3), (4, .int v4), (5, .int v5)] → va_P D vwCl ((wX cI cZ cC cJ cA P) M) H → va_D (aP P 77) ((wX cI cZ cC cJ cA P) M) → va_S (aP P 77) s.heap H locs → q_StringLatin1_indexOfChar_1_7 n' M v3 v4 v5 = some (M', r') → W p l e ({ frames := 0, cells := 0, slots := 0, locals := 0 }) s m args below meth c H locs 0 0 (MQ below (gQi D (aP P 77) ((wX cI cZ cC cJ cA P) M') r') args s 0 0 (aP P 77)) (F0 m 7 ls []) := by
  intro n'
  induction n' with
  | zero => exact fun _ _ _ _ _ _ _ _ _ _ _ h => (rs_n h).elim
  | succ n' ih =>
    intro M v3 v4 v5 H locs ls hl hP hD hS h
    rw [q_StringLatin1_indexOfChar_1_7] at h
    refine lv_iload hx hb dJ3_indexOfChar_7 (lv_at hl 3 rfl) ?_
    refine lv_iload_n hx hb dJ3_indexOfChar_9 rfl (lv_at hl 1 rfl) ?_
    refine lv_icmp_ge hx hb dJ3_indexOfChar_10 (tgt := 31) rfl (fun hc => ?_) (fun hc => ?_)
    · have h := br_T hc h
      refine lv_iconst (v := (-1)) hx hb dJ3_indexOfChar_31 (by decide) ?_
      exact rt_i (w := (wX cI cZ cC cJ cA P)) hx hb hr hlk hP hD hS h dJ3_indexOfChar_32
    · have h := br_F hc h
      refine lv_aload_n hx hb dJ3_indexOfChar_13 rfl (lv_at hl 0 rfl) ?_
      refine lv_iload hx hb dJ3_indexOfChar_14 (lv_at hl 3 rfl) ?_
      refine va_tb (v := .int (sB 1 (v5 : Int32).toNatClampNeg)) hx hb (hE.t hO hAO (i := 1) (by decide)) hS (ix_l h) rfl dJ3_indexOfChar_16 ?_
      have h := ix_r h
      refine lv_iload hx hb dJ3_indexOfChar_17 (lv_at hl 2 rfl) ?_
      refine lv_icmp_ne hx hb dJ3_indexOfChar_19 (tgt := 25) rfl (fun hc => ?_) (fun hc => ?_)
      · have h := br_F hc h
        refine lv_iinc (v := (v5 + 1)) hx hb dJ3_indexOfChar_25 hl (k := 3) rfl rfl (Nat.le_of_ble_eq_true rfl) (lv' := [(5, .int (v5 + 1)), (0, .ref (qS 3)), (3, .int v3), (4, .int v4)]) rfl (fun ls hl => ?_)
        refine lv_goto hx hb dJ3_indexOfChar_28 (tgt := 7) rfl ?_
        have hl := lv_sub hl [1, 2, 3, 0] (l' := [(0, .ref (qS 3)), (3, .int v3), (4, .int v4), (5, .int (v5 + 1))]) rfl
        exact ih M v3 v4 (v5 + 1) H locs ls hl hP hD hS h
      · have h := br_T hc h
        refine lv_iload hx hb dJ3_indexOfChar_22 (lv_at hl 3 rfl) ?_
        exact rt_i (w := (wX cI cZ cC cJ cA P)) hx hb hr hlk hP hD hS h dJ3_indexOfChar_24
set_option maxHeartbeats 4000000 in
set_option maxRecDepth 20000 in
theorem b_StringLatin1_indexOfChar_1_0 {p : Program} {l : Launch} {e : Env} {s s0 : State} {m : MethodId} {args : Array Value} {below : List Frame} {meth : Method} {c : Code} {D : va_G} {cI cZ cC cJ cA : ClassId} {P : Nat → Nat} {M' : Mm} {r' : Int32}  {qS : Nat → Nat} (hx : p.tables.exec = Jvm.exec) (hb : c.code = cJ3_indexOfChar) (hml : c.maxLocals = 6) (hr : meth.sig.returnType = (some .int)) (hlk : meth.locks = false) (hgt : ∀ w ∈ GT, w.before args s = true) (hown : s.vm.findClass RJ3 = some m.cls) (hK : va_K D vwCl [(cI, .int), (cZ, .boolean), (cC, .char), (cJ, .long), (cA, .array .int)] s) (hO : Old s0 s) (hAO : ∀ q, (aP P 77) q → s0.heap.size ≤ q) (hE : xE s0 qS)  : ∀ (M : Mm) (a1 : Int32) (a2 : Int32) (a3 : Int32) (H : Heap) (locs : List Loc) (ls : Array Slot), lv_has ls 6 [(0, .ref (qS 3)), (1, .int a1), (2, .int a2), (3, .int a3)] → va_P D vwCl ((wX cI cZ cC cJ cA P) M) H → va_D (aP P 77) ((wX cI cZ cC cJ cA P) M) → va_S (aP P 77) s.heap H locs → q_StringLatin1_indexOfChar_1 M a1 a2 a3 = some (M', r') → W p l e ({ frames := 0, cells := 0, slots := 0, locals := 0 }) s m args below meth c H locs 0 0 (MQ below (gQi D (aP P 77) ((wX cI cZ cC cJ cA P) M') r') args s 0 0 (aP P 77)) (F0 m 0 ls []) := by
  intro M a1 a2 a3 H locs ls hl hP hD hS h
  unfold q_StringLatin1_indexOfChar_1 at h
  refine lv_iload_n hx hb dJ3_indexOfChar_0 rfl (lv_at hl 1 rfl) ?_
  refine lv_i2b (v := (a1 : Int32).toInt8.toInt32) hx hb dJ3_indexOfChar_1 rfl ?_
  refine lv_topi (fun x1 ex1 => ?_)
  have h := lt_o ex1 h
  refine lv_istore hx hb dJ3_indexOfChar_2 hl (Nat.le_of_ble_eq_true rfl) (lv' := [(4, .int x1), (0, .ref (qS 3)), (1, .int a1), (2, .int a2), (3, .int a3)]) rfl (fun ls hl => ?_)
  refine lv_iload_n hx hb dJ3_indexOfChar_4 rfl (lv_at hl 3 rfl) ?_
  refine lv_istore hx hb dJ3_indexOfChar_5 hl (Nat.le_of_ble_eq_true rfl) (lv' := [(5, .int a2), (4, .int x1), (0, .ref (qS 3)), (1, .int a1), (2, .int a2), (3, .int a3)]) rfl (fun ls hl => ?_)
  have hl := lv_sub hl [2, 5, 1, 0] (l' := [(0, .ref (qS 3)), (3, .int a3), (4, .int x1), (5, .int a2)]) rfl
  exact b_StringLatin1_indexOfChar_1_7 hx hb hml hr hlk hgt hown hK hO hAO hE 4000 M a3 x1 a2 H _ ls hl hP hD hS h
set_option maxHeartbeats 4000000 in
set_option maxRecDepth 20000 in
theorem z_StringLatin1_indexOfChar_1 (l : Launch) (D : va_G) (cI cZ cC cJ cA : ClassId) (P : Nat → Nat) (s0 : State) (hAO : ∀ q, (aP P 77) q → s0.heap.size ≤ q) (qS : Nat → Nat) (hE : xE s0 qS) (M : Mm) (a1 : Int32) (a2 : Int32) (a3 : Int32) (M' : Mm) (r' : Int32) (h : q_StringLatin1_indexOfChar_1 M a1 a2 a3 = some (M', r')) : Met l yJ3_indexOfChar wsJ3_indexOfChar ({ frames := 0, cells := 0, slots := 0, locals := 0 }) (va_Pc [.ref (qS 3), .int a1, .int a2, .int a3] (gPre s0 D [(cI, .int), (cZ, .boolean), (cC, .char), (cJ, .long), (cA, .array .int)] (aP P 77) ((wX cI cZ cC cJ cA P) M))) (gQi D (aP P 77) ((wX cI cZ cC cJ cA P) M') r') 0 0 (aP P 77) := by
  refine Met.ofW (cc := cJ3_indexOfChar) (maxL := 6) (ret := (some .int)) (by decide) rfl ?_
  intro p e s m args below meth c s₁ B hml hv
  obtain ⟨rfl, hP, hK, hD, hO⟩ := hv
  have hx := B.exec
  have hb := B.bytes
  have hr := B.returns
  have hlk := B.notSynchronized
  have hgt := fun w (h : w ∈ GT) => atoms_spec (ws := wsJ3_indexOfChar) B.pre w (List.mem_cons_of_mem _ h)
  have hown : s.vm.findClass RJ3 = some m.cls := findClass_of_methodNamed B.named
  have hS : va_S (aP P 77) s.heap s.heap [] := va_S.rf
  have hl := lv_entry ([.ref (qS 3), .int a1, .int a2, .int a3]) (n := 6) (Nat.le_of_ble_eq_true rfl)
  rw [lg_entry_eq]
  generalize (lg_sl ([.ref (qS 3), .int a1, .int a2, .int a3]) ++ List.replicate (6 - (lg_sl ([.ref (qS 3), .int a1, .int a2, .int a3])).length) Slot.unset).toArray = ls at hl ⊢
  have hl : lv_has ls 6 [(0, .ref (qS 3)), (1, .int a1), (2, .int a2), (3, .int a3)] := hl
  exact b_StringLatin1_indexOfChar_1_0 hx hb hml hr hlk hgt hown hK hO hAO hE M a1 a2 a3 s.heap [] ls hl hP hD hS h
def q_StringLatin1_indexOf_1  (M : Mm) (a1 : Int32) (a2 : Int32) (a3 : Int32) : Rs := cal (q_StringLatin1_canEncode M a1) fun M1 r2 => if r2 = 0 then (some (M1, (-1))) else (lt' (if (a2 : Int32) < 0 then 0 else a2) fun x3 => lt' (if (3 : Int32) < a3 then 3 else a3) fun x4 => if x3 < x4 then (cal (q_StringLatin1_indexOfChar_1 M1 a1 x3 x4) fun M5 r6 => some (M5, r6)) else (some (M1, (-1))))
set_option maxHeartbeats 4000000 in
set_option maxRecDepth 20000 in
theorem b_StringLatin1_indexOf_1_0 {p : Program} {l : Launch} {e : Env} {s s0 : State} {m : MethodId} {args : Array Value} {below : List Frame} {meth : Method} {c : Code} {D : va_G} {cI cZ cC cJ cA : ClassId} {P : Nat → Nat} {M' : Mm} {r' : Int32}  {qS : Nat → Nat} (hx : p.tables.exec = Jvm.exec) (hb : c.code = cJ3_indexOf_BIIII) (hml : c.maxLocals = 4) (hr : meth.sig.returnType = (some .int)) (hlk : meth.locks = false) (hgt : ∀ w ∈ GT, w.before args s = true) (hown : s.vm.findClass RJ3 = some m.cls) (hK : va_K D vwCl [(cI, .int), (cZ, .boolean), (cC, .char), (cJ, .long), (cA, .array .int)] s) (hO : Old s0 s) (hAO : ∀ q, (aP P 77) q → s0.heap.size ≤ q) (hE : xE s0 qS)  : ∀ (M : Mm) (a1 : Int32) (a2 : Int32) (a3 : Int32) (H : Heap) (locs : List Loc) (ls : Array Slot), lv_has ls 4 [(0, .ref (qS 3)), (1, .int a1), (2, .int a2), (3, .int a3)] → va_P D vwCl ((wX cI cZ cC cJ cA P) M) H → va_D (aP P 77) ((wX cI cZ cC cJ cA P) M) → va_S (aP P 77) s.heap H locs → q_StringLatin1_indexOf_1 M a1 a2 a3 = some (M', r') → W p l e ({ frames := 1, cells := 0, slots := 0, locals := 25 }) s m args below meth c H locs 0 0 (MQ below (gQi D (aP P 77) ((wX cI cZ cC cJ cA P) M') r') args s 0 0 (aP P 77)) (F0 m 0 ls []) := by
  intro M a1 a2 a3 H locs ls hl hP hD hS h
  unfold q_StringLatin1_indexOf_1 at h
  refine lv_iload_n hx hb dJ3_indexOf_BIIII_0 rfl (lv_at hl 1 rfl) ?_
  obtain ⟨M1, r2, hq, h⟩ := cal_o h
  refine cx_i (va_runS (As := [.int a1]) (rest := []) ⟨hx, hb, hml, hown, hgt⟩ (z_StringLatin1_canEncode l D cI cZ cC cJ cA P s0 hAO M a1 M1 r2 hq) (va_cwS 1 hgt (gS wd_3_202 wd_3_203 wd_0_16 wd_3_204) rfl rfl rfl (by decide +kernel) ⟨Nat.le_of_ble_eq_true rfl, Nat.le_of_ble_eq_true rfl⟩) (prS hP hK hD hO hAO hS) rfl rfl hl.1 rfl (lv_room (Nat.le_of_ble_eq_true rfl)) dJ3_indexOf_BIIII_1 ⟨Nat.le_of_ble_eq_true rfl, Nat.le_of_ble_eq_true rfl⟩) hS (fun H locs hP hD hS => ?_)
  refine lv_if_ne hx hb dJ3_indexOf_BIIII_4 (tgt := 9) rfl (fun hc => ?_) (fun hc => ?_)
  · have h := br_F hc h
    refine lv_iload_n hx hb dJ3_indexOf_BIIII_9 rfl (lv_at hl 2 rfl) ?_
    refine lv_iconst (v := 0) hx hb dJ3_indexOf_BIIII_10 (by decide) ?_
    refine va_mmax hx hb (hml.trans hl.1.symm) hown (hgt _ wd_3_205) (hgt _ wd_3_206) (hgt _ wd_0_17) (hgt _ wd_3_207) (Nat.le_of_ble_eq_true rfl) (Nat.le_of_ble_eq_true rfl) (Nat.zero_le _) (Nat.zero_le _) dJ3_indexOf_BIIII_11 ?_
    refine lv_topi (fun x3 ex3 => ?_)
    have h := lt_o ex3 h
    refine lv_istore_n hx hb dJ3_indexOf_BIIII_14 rfl hl (Nat.le_of_ble_eq_true rfl) (lv' := [(2, .int x3), (0, .ref (qS 3)), (1, .int a1), (3, .int a3)]) rfl (fun ls hl => ?_)
    refine lv_iload_n hx hb dJ3_indexOf_BIIII_15 rfl (lv_at hl 3 rfl) ?_
    refine lv_aload_n hx hb dJ3_indexOf_BIIII_16 rfl (lv_at hl 1 rfl) ?_
    refine va_tlen (v := 3) hx hb (hE.t hO hAO (i := 1) (by decide)) hS (by decide) dJ3_indexOf_BIIII_17 ?_
    refine va_mmin hx hb (hml.trans hl.1.symm) hown (hgt _ wd_3_208) (hgt _ wd_3_59) (hgt _ wd_0_17) (hgt _ wd_3_60) (Nat.le_of_ble_eq_true rfl) (Nat.le_of_ble_eq_true rfl) (Nat.zero_le _) (Nat.zero_le _) dJ3_indexOf_BIIII_18 ?_
    refine lv_topi (fun x4 ex4 => ?_)
    have h := lt_o ex4 h
    refine lv_istore_n hx hb dJ3_indexOf_BIIII_21 rfl hl (Nat.le_of_ble_eq_true rfl) (lv' := [(3, .int x4), (2, .int x3), (0, .ref (qS 3)), (1, .int a1)]) rfl (fun ls hl => ?_)
    refine lv_iload_n hx hb dJ3_indexOf_BIIII_22 rfl (lv_at hl 1 rfl) ?_
    refine lv_iload_n hx hb dJ3_indexOf_BIIII_23 rfl (lv_at hl 0 rfl) ?_
    refine lv_icmp_lt hx hb dJ3_indexOf_BIIII_24 (tgt := 29) rfl (fun hc => ?_) (fun hc => ?_)
    · have h := br_T hc h
      refine lv_aload_n hx hb dJ3_indexOf_BIIII_29 rfl (lv_at hl 2 rfl) ?_
      refine lv_iload_n hx hb dJ3_indexOf_BIIII_30 rfl (lv_at hl 3 rfl) ?_
      refine lv_iload_n hx hb dJ3_indexOf_BIIII_31 rfl (lv_at hl 1 rfl) ?_
      refine lv_iload_n hx hb dJ3_indexOf_BIIII_32 rfl (lv_at hl 0 rfl) ?_
      obtain ⟨M5, r6, hq, h⟩ := cal_o h
      refine cx_i (va_runS (As := [.ref (qS 3), .int a1, .int x3, .int x4]) (rest := []) ⟨hx, hb, hml, hown, hgt⟩ (z_StringLatin1_indexOfChar_1 l D cI cZ cC cJ cA P s0 hAO qS hE M1 a1 x3 x4 M5 r6 hq) (va_cwS 4 hgt (gS wd_3_209 wd_3_210 wd_0_16 wd_3_211) rfl rfl rfl (by decide +kernel) ⟨Nat.le_of_ble_eq_true rfl, Nat.le_of_ble_eq_true rfl⟩) (prS hP hK hD hO hAO hS) rfl rfl hl.1 rfl (lv_room (Nat.le_of_ble_eq_true rfl)) dJ3_indexOf_BIIII_33 ⟨Nat.le_of_ble_eq_true rfl, Nat.le_of_ble_eq_true rfl⟩) hS (fun H locs hP hD hS => ?_)
      exact rt_i (w := (wX cI cZ cC cJ cA P)) hx hb hr hlk hP hD hS h dJ3_indexOf_BIIII_36
    · have h := br_F hc h
      refine lv_iconst (v := (-1)) hx hb dJ3_indexOf_BIIII_27 (by decide) ?_
      exact rt_i (w := (wX cI cZ cC cJ cA P)) hx hb hr hlk hP hD hS h dJ3_indexOf_BIIII_28
  · have h := br_T hc h
    refine lv_iconst (v := (-1)) hx hb dJ3_indexOf_BIIII_7 (by decide) ?_
    exact rt_i (w := (wX cI cZ cC cJ cA P)) hx hb hr hlk hP hD hS h dJ3_indexOf_BIIII_8
set_option maxHeartbeats 4000000 in
set_option maxRecDepth 20000 in
theorem z_StringLatin1_indexOf_1 (l : Launch) (D : va_G) (cI cZ cC cJ cA : ClassId) (P : Nat → Nat) (s0 : State) (hAO : ∀ q, (aP P 77) q → s0.heap.size ≤ q) (qS : Nat → Nat) (hE : xE s0 qS) (M : Mm) (a1 : Int32) (a2 : Int32) (a3 : Int32) (M' : Mm) (r' : Int32) (h : q_StringLatin1_indexOf_1 M a1 a2 a3 = some (M', r')) : Met l yJ3_indexOf_BIIII wsJ3_indexOf_BIIII ({ frames := 1, cells := 0, slots := 0, locals := 25 }) (va_Pc [.ref (qS 3), .int a1, .int a2, .int a3] (gPre s0 D [(cI, .int), (cZ, .boolean), (cC, .char), (cJ, .long), (cA, .array .int)] (aP P 77) ((wX cI cZ cC cJ cA P) M))) (gQi D (aP P 77) ((wX cI cZ cC cJ cA P) M') r') 0 0 (aP P 77) := by
  refine Met.ofW (cc := cJ3_indexOf_BIIII) (maxL := 4) (ret := (some .int)) (by decide) rfl ?_
  intro p e s m args below meth c s₁ B hml hv
  obtain ⟨rfl, hP, hK, hD, hO⟩ := hv
  have hx := B.exec
  have hb := B.bytes
  have hr := B.returns
  have hlk := B.notSynchronized
  have hgt := fun w (h : w ∈ GT) => atoms_spec (ws := wsJ3_indexOf_BIIII) B.pre w (List.mem_cons_of_mem _ h)
  have hown : s.vm.findClass RJ3 = some m.cls := findClass_of_methodNamed B.named
  have hS : va_S (aP P 77) s.heap s.heap [] := va_S.rf
  have hl := lv_entry ([.ref (qS 3), .int a1, .int a2, .int a3]) (n := 4) (Nat.le_of_ble_eq_true rfl)
  rw [lg_entry_eq]
  generalize (lg_sl ([.ref (qS 3), .int a1, .int a2, .int a3]) ++ List.replicate (4 - (lg_sl ([.ref (qS 3), .int a1, .int a2, .int a3])).length) Slot.unset).toArray = ls at hl ⊢
  have hl : lv_has ls 4 [(0, .ref (qS 3)), (1, .int a1), (2, .int a2), (3, .int a3)] := hl
  exact b_StringLatin1_indexOf_1_0 hx hb hml hr hlk hgt hown hK hO hAO hE M a1 a2 a3 s.heap [] ls hl hP hD hS h
def q_String_indexOf_3  (M : Mm) (a1 : Int32) (a2 : Int32) : Rs := cal (q_String_isLatin1_1 M) fun M1 r2 => if r2 = 0 then (cal (q_String_length_1 M1) fun M3 r4 => none) else (cal (q_String_length_1 M1) fun M3 r4 => cal (q_StringLatin1_indexOf_1 M3 a1 a2 r4) fun M5 r6 => some (M5, r6))
set_option maxHeartbeats 4000000 in
set_option maxRecDepth 20000 in
theorem b_String_indexOf_3_0 {p : Program} {l : Launch} {e : Env} {s s0 : State} {m : MethodId} {args : Array Value} {below : List Frame} {meth : Method} {c : Code} {D : va_G} {cI cZ cC cJ cA : ClassId} {P : Nat → Nat} {M' : Mm} {r' : Int32}  {qS : Nat → Nat} (hx : p.tables.exec = Jvm.exec) (hb : c.code = cJ0_indexOf_III) (hml : c.maxLocals = 3) (hr : meth.sig.returnType = (some .int)) (hlk : meth.locks = false) (hgt : ∀ w ∈ GT, w.before args s = true) (hown : s.vm.findClass RJ0 = some m.cls) (hK : va_K D vwCl [(cI, .int), (cZ, .boolean), (cC, .char), (cJ, .long), (cA, .array .int)] s) (hO : Old s0 s) (hAO : ∀ q, (aP P 77) q → s0.heap.size ≤ q) (hE : xE s0 qS)  : ∀ (M : Mm) (a1 : Int32) (a2 : Int32) (H : Heap) (locs : List Loc) (ls : Array Slot), lv_has ls 3 [(0, .ref (qS 1)), (1, .int a1), (2, .int a2)] → va_P D vwCl ((wX cI cZ cC cJ cA P) M) H → va_D (aP P 77) ((wX cI cZ cC cJ cA P) M) → va_S (aP P 77) s.heap H locs → q_String_indexOf_3 M a1 a2 = some (M', r') → W p l e ({ frames := 2, cells := 0, slots := 0, locals := 48 }) s m args below meth c H locs 0 0 (MQ below (gQi D (aP P 77) ((wX cI cZ cC cJ cA P) M') r') args s 0 0 (aP P 77)) (F0 m 0 ls []) := by
  intro M a1 a2 H locs ls hl hP hD hS h
  unfold q_String_indexOf_3 at h
  refine lv_aload_n hx hb dJ0_indexOf_III_0 rfl (lv_at hl 0 rfl) ?_
  obtain ⟨M1, r2, hq, h⟩ := cal_o h
  refine cx_i (va_runV (As := []) (rest := []) ⟨hx, hb, hml, hown, hgt⟩ (z_String_isLatin1_1 l D cI cZ cC cJ cA P s0 hAO qS hE M M1 r2 hq) (cwV 0 hgt (gV wd_3_194 wd_3_195 wd_3_196 wd_0_7 wd_3_197) rfl rfl rfl (by decide +kernel) ⟨Nat.le_of_ble_eq_true rfl, Nat.le_of_ble_eq_true rfl⟩) (prV hP hK hD hO hAO hS (hE.recv hO hAO hS (i := 1) (by decide))) rfl rfl hl.1 rfl (lv_room (Nat.le_of_ble_eq_true rfl)) dJ0_indexOf_III_1 ⟨Nat.le_of_ble_eq_true rfl, Nat.le_of_ble_eq_true rfl⟩) hS (fun H locs hP hD hS => ?_)
  refine lv_if_eq hx hb dJ0_indexOf_III_4 (tgt := 23) rfl (fun hc => ?_) (fun hc => ?_)
  · have h := br_T hc h
    refine lv_aload_n hx hb dJ0_indexOf_III_23 rfl (lv_at hl 0 rfl) ?_
    refine vk_getf hx hb (hE.v hO hAO (i := 1) (by decide)) hS hown (hgt _ wd_7_0) (fun _ h => h) dJ0_indexOf_III_24 ?_
    refine lv_iload_n hx hb dJ0_indexOf_III_27 rfl (lv_at hl 1 rfl) ?_
    refine lv_iload_n hx hb dJ0_indexOf_III_28 rfl (lv_at hl 2 rfl) ?_
    refine lv_aload_n hx hb dJ0_indexOf_III_29 rfl (lv_at hl 0 rfl) ?_
    obtain ⟨M3, r4, hq, h⟩ := cal_o h
    refine cx_i (va_runV (As := []) (rest := [.int a2, .int a1, .ref (qS 3)]) ⟨hx, hb, hml, hown, hgt⟩ (z_String_length_1 l D cI cZ cC cJ cA P s0 hAO qS hE M1 M3 r4 hq) (cwV 0 hgt (gV wd_3_198 wd_0_228 wd_0_229 wd_0_7 wd_0_230) rfl rfl rfl (by decide +kernel) ⟨Nat.le_of_ble_eq_true rfl, Nat.le_of_ble_eq_true rfl⟩) (prV hP hK hD hO hAO hS (hE.recv hO hAO hS (i := 1) (by decide))) rfl rfl hl.1 rfl (lv_room (Nat.le_of_ble_eq_true rfl)) dJ0_indexOf_III_30 ⟨Nat.le_of_ble_eq_true rfl, Nat.le_of_ble_eq_true rfl⟩) hS (fun H locs hP hD hS => ?_)
    exact (rs_n h).elim
  · have h := br_F hc h
    refine lv_aload_n hx hb dJ0_indexOf_III_7 rfl (lv_at hl 0 rfl) ?_
    refine vk_getf hx hb (hE.v hO hAO (i := 1) (by decide)) hS hown (hgt _ wd_7_0) (fun _ h => h) dJ0_indexOf_III_8 ?_
    refine lv_iload_n hx hb dJ0_indexOf_III_11 rfl (lv_at hl 1 rfl) ?_
    refine lv_iload_n hx hb dJ0_indexOf_III_12 rfl (lv_at hl 2 rfl) ?_
    refine lv_aload_n hx hb dJ0_indexOf_III_13 rfl (lv_at hl 0 rfl) ?_
    obtain ⟨M3, r4, hq, h⟩ := cal_o h
    refine cx_i (va_runV (As := []) (rest := [.int a2, .int a1, .ref (qS 3)]) ⟨hx, hb, hml, hown, hgt⟩ (z_String_length_1 l D cI cZ cC cJ cA P s0 hAO qS hE M1 M3 r4 hq) (cwV 0 hgt (gV wd_3_198 wd_0_228 wd_0_229 wd_0_7 wd_0_230) rfl rfl rfl (by decide +kernel) ⟨Nat.le_of_ble_eq_true rfl, Nat.le_of_ble_eq_true rfl⟩) (prV hP hK hD hO hAO hS (hE.recv hO hAO hS (i := 1) (by decide))) rfl rfl hl.1 rfl (lv_room (Nat.le_of_ble_eq_true rfl)) dJ0_indexOf_III_14 ⟨Nat.le_of_ble_eq_true rfl, Nat.le_of_ble_eq_true rfl⟩) hS (fun H locs hP hD hS => ?_)
    obtain ⟨M5, r6, hq, h⟩ := cal_o h
    refine cx_i (va_runS (As := [.ref (qS 3), .int a1, .int a2, .int r4]) (rest := []) ⟨hx, hb, hml, hown, hgt⟩ (z_StringLatin1_indexOf_1 l D cI cZ cC cJ cA P s0 hAO qS hE M3 a1 a2 r4 M5 r6 hq) (va_cwS 4 hgt (gS wd_3_199 wd_3_200 wd_0_16 wd_3_201) rfl rfl rfl (by decide +kernel) ⟨Nat.le_of_ble_eq_true rfl, Nat.le_of_ble_eq_true rfl⟩) (prS hP hK hD hO hAO hS) rfl rfl hl.1 rfl (lv_room (Nat.le_of_ble_eq_true rfl)) dJ0_indexOf_III_17 ⟨Nat.le_of_ble_eq_true rfl, Nat.le_of_ble_eq_true rfl⟩) hS (fun H locs hP hD hS => ?_)
    refine lv_goto hx hb dJ0_indexOf_III_20 (tgt := 36) rfl ?_
    exact rt_i (w := (wX cI cZ cC cJ cA P)) hx hb hr hlk hP hD hS h dJ0_indexOf_III_36
set_option maxHeartbeats 4000000 in
set_option maxRecDepth 20000 in
theorem z_String_indexOf_3 (l : Launch) (D : va_G) (cI cZ cC cJ cA : ClassId) (P : Nat → Nat) (s0 : State) (hAO : ∀ q, (aP P 77) q → s0.heap.size ≤ q) (qS : Nat → Nat) (hE : xE s0 qS) (M : Mm) (a1 : Int32) (a2 : Int32) (M' : Mm) (r' : Int32) (h : q_String_indexOf_3 M a1 a2 = some (M', r')) : Met l yJ0_indexOf_III wsJ0_indexOf_III ({ frames := 2, cells := 0, slots := 0, locals := 48 }) (va_Pc [.ref (qS 1), .int a1, .int a2] (gPre s0 D [(cI, .int), (cZ, .boolean), (cC, .char), (cJ, .long), (cA, .array .int)] (aP P 77) ((wX cI cZ cC cJ cA P) M))) (gQi D (aP P 77) ((wX cI cZ cC cJ cA P) M') r') 0 0 (aP P 77) := by
  refine Met.ofW (cc := cJ0_indexOf_III) (maxL := 3) (ret := (some .int)) (by decide) rfl ?_
  intro p e s m args below meth c s₁ B hml hv
  obtain ⟨rfl, hP, hK, hD, hO⟩ := hv
  have hx := B.exec
  have hb := B.bytes
  have hr := B.returns
  have hlk := B.notSynchronized
  have hgt := fun w (h : w ∈ GT) => atoms_spec (ws := wsJ0_indexOf_III) B.pre w (List.mem_cons_of_mem _ h)
  have hown : s.vm.findClass RJ0 = some m.cls := findClass_of_methodNamed B.named
  have hS : va_S (aP P 77) s.heap s.heap [] := va_S.rf
  have hl := lv_entry ([.ref (qS 1), .int a1, .int a2]) (n := 3) (Nat.le_of_ble_eq_true rfl)
  rw [lg_entry_eq]
  generalize (lg_sl ([.ref (qS 1), .int a1, .int a2]) ++ List.replicate (3 - (lg_sl ([.ref (qS 1), .int a1, .int a2])).length) Slot.unset).toArray = ls at hl ⊢
  have hl : lv_has ls 3 [(0, .ref (qS 1)), (1, .int a1), (2, .int a2)] := hl
  exact b_String_indexOf_3_0 hx hb hml hr hlk hgt hown hK hO hAO hE M a1 a2 s.heap [] ls hl hP hD hS h
def q_String_indexOf_2  (M : Mm) (a1 : Int32) : Rs := cal (q_String_indexOf_3 M a1 0) fun M1 r2 => some (M1, r2)
set_option maxHeartbeats 4000000 in
set_option maxRecDepth 20000 in
theorem b_String_indexOf_2_0 {p : Program} {l : Launch} {e : Env} {s s0 : State} {m : MethodId} {args : Array Value} {below : List Frame} {meth : Method} {c : Code} {D : va_G} {cI cZ cC cJ cA : ClassId} {P : Nat → Nat} {M' : Mm} {r' : Int32}  {qS : Nat → Nat} (hx : p.tables.exec = Jvm.exec) (hb : c.code = cJ0_indexOf_II) (hml : c.maxLocals = 2) (hr : meth.sig.returnType = (some .int)) (hlk : meth.locks = false) (hgt : ∀ w ∈ GT, w.before args s = true) (hown : s.vm.findClass RJ0 = some m.cls) (hK : va_K D vwCl [(cI, .int), (cZ, .boolean), (cC, .char), (cJ, .long), (cA, .array .int)] s) (hO : Old s0 s) (hAO : ∀ q, (aP P 77) q → s0.heap.size ≤ q) (hE : xE s0 qS)  : ∀ (M : Mm) (a1 : Int32) (H : Heap) (locs : List Loc) (ls : Array Slot), lv_has ls 2 [(0, .ref (qS 1)), (1, .int a1)] → va_P D vwCl ((wX cI cZ cC cJ cA P) M) H → va_D (aP P 77) ((wX cI cZ cC cJ cA P) M) → va_S (aP P 77) s.heap H locs → q_String_indexOf_2 M a1 = some (M', r') → W p l e ({ frames := 3, cells := 0, slots := 0, locals := 70 }) s m args below meth c H locs 0 0 (MQ below (gQi D (aP P 77) ((wX cI cZ cC cJ cA P) M') r') args s 0 0 (aP P 77)) (F0 m 0 ls []) := by
  intro M a1 H locs ls hl hP hD hS h
  unfold q_String_indexOf_2 at h
  refine lv_aload_n hx hb dJ0_indexOf_II_0 rfl (lv_at hl 0 rfl) ?_
  refine lv_iload_n hx hb dJ0_indexOf_II_1 rfl (lv_at hl 1 rfl) ?_
  refine lv_iconst (v := 0) hx hb dJ0_indexOf_II_2 (by decide) ?_
  obtain ⟨M1, r2, hq, h⟩ := cal_o h
  refine cx_i (va_runV (As := [.int a1, .int 0]) (rest := []) ⟨hx, hb, hml, hown, hgt⟩ (z_String_indexOf_3 l D cI cZ cC cJ cA P s0 hAO qS hE M a1 0 M1 r2 hq) (cwV 2 hgt (gV wd_3_190 wd_3_191 wd_3_192 wd_0_7 wd_3_193) rfl rfl rfl (by decide +kernel) ⟨Nat.le_of_ble_eq_true rfl, Nat.le_of_ble_eq_true rfl⟩) (prV hP hK hD hO hAO hS (hE.recv hO hAO hS (i := 1) (by decide))) rfl rfl hl.1 rfl (lv_room (Nat.le_of_ble_eq_true rfl)) dJ0_indexOf_II_3 ⟨Nat.le_of_ble_eq_true rfl, Nat.le_of_ble_eq_true rfl⟩) hS (fun H locs hP hD hS => ?_)
  exact rt_i (w := (wX cI cZ cC cJ cA P)) hx hb hr hlk hP hD hS h dJ0_indexOf_II_6
set_option maxHeartbeats 4000000 in
set_option maxRecDepth 20000 in
theorem z_String_indexOf_2 (l : Launch) (D : va_G) (cI cZ cC cJ cA : ClassId) (P : Nat → Nat) (s0 : State) (hAO : ∀ q, (aP P 77) q → s0.heap.size ≤ q) (qS : Nat → Nat) (hE : xE s0 qS) (M : Mm) (a1 : Int32) (M' : Mm) (r' : Int32) (h : q_String_indexOf_2 M a1 = some (M', r')) : Met l yJ0_indexOf_II wsJ0_indexOf_II ({ frames := 3, cells := 0, slots := 0, locals := 70 }) (va_Pc [.ref (qS 1), .int a1] (gPre s0 D [(cI, .int), (cZ, .boolean), (cC, .char), (cJ, .long), (cA, .array .int)] (aP P 77) ((wX cI cZ cC cJ cA P) M))) (gQi D (aP P 77) ((wX cI cZ cC cJ cA P) M') r') 0 0 (aP P 77) := by
  refine Met.ofW (cc := cJ0_indexOf_II) (maxL := 2) (ret := (some .int)) (by decide) rfl ?_
  intro p e s m args below meth c s₁ B hml hv
  obtain ⟨rfl, hP, hK, hD, hO⟩ := hv
  have hx := B.exec
  have hb := B.bytes
  have hr := B.returns
  have hlk := B.notSynchronized
  have hgt := fun w (h : w ∈ GT) => atoms_spec (ws := wsJ0_indexOf_II) B.pre w (List.mem_cons_of_mem _ h)
  have hown : s.vm.findClass RJ0 = some m.cls := findClass_of_methodNamed B.named
  have hS : va_S (aP P 77) s.heap s.heap [] := va_S.rf
  have hl := lv_entry ([.ref (qS 1), .int a1]) (n := 2) (Nat.le_of_ble_eq_true rfl)
  rw [lg_entry_eq]
  generalize (lg_sl ([.ref (qS 1), .int a1]) ++ List.replicate (2 - (lg_sl ([.ref (qS 1), .int a1])).length) Slot.unset).toArray = ls at hl ⊢
  have hl : lv_has ls 2 [(0, .ref (qS 1)), (1, .int a1)] := hl
  exact b_String_indexOf_2_0 hx hb hml hr hlk hgt hown hK hO hAO hE M a1 s.heap [] ls hl hP hD hS h
def q_Reader_oneOf_1_23  (M : Mm) (v2 : Int32) : Rs := if v2 < 0 then (some (M, (-1))) else (some (M, v2))
def q_Reader_oneOf_1  (M : Mm)  : Rs := cal (q_Reader_next M) fun M1 r2 => cal (q_String_indexOf_2 M1 r2) fun M3 r4 => if r4 < 0 then (q_Reader_oneOf_1_23 M3 r4) else (lt' (stI M3 21 (upd (M3.1 21) 3 ((M3.1 21 3) + 1))) fun M5 => q_Reader_oneOf_1_23 M5 r4)
set_option maxHeartbeats 4000000 in
set_option maxRecDepth 20000 in
theorem b_Reader_oneOf_1_23 {p : Program} {l : Launch} {e : Env} {s s0 : State} {m : MethodId} {args : Array Value} {below : List Frame} {meth : Method} {c : Code} {D : va_G} {cI cZ cC cJ cA : ClassId} {P : Nat → Nat} {M' : Mm} {r' : Int32}  {qS : Nat → Nat} (hx : p.tables.exec = Jvm.exec) (hb : c.code = cX10_oneOf) (hml : c.maxLocals = 3) (hr : meth.sig.returnType = (some .int)) (hlk : meth.locks = false) (hgt : ∀ w ∈ GT, w.before args s = true) (hown : s.vm.findClass RX10 = some m.cls) (hK : va_K D vwCl [(cI, .int), (cZ, .boolean), (cC, .char), (cJ, .long), (cA, .array .int)] s) (hO : Old s0 s) (hAO : ∀ q, (aP P 77) q → s0.heap.size ≤ q) (hE : xE s0 qS)  : ∀ (M : Mm) (v2 : Int32) (H : Heap) (locs : List Loc) (ls : Array Slot), lv_has ls 3 [(2, .int v2)] → va_P D vwCl ((wX cI cZ cC cJ cA P) M) H → va_D (aP P 77) ((wX cI cZ cC cJ cA P) M) → va_S (aP P 77) s.heap H locs → q_Reader_oneOf_1_23 M v2 = some (M', r') → W p l e ({ frames := 4, cells := 0, slots := 0, locals := 91 }) s m args below meth c H locs 0 0 (MQ below (gQi D (aP P 77) ((wX cI cZ cC cJ cA P) M') r') args s 0 0 (aP P 77)) (F0 m 23 ls []) := by
  intro M v2 H locs ls hl hP hD hS h
  unfold q_Reader_oneOf_1_23 at h
  refine lv_iload_n hx hb dX10_oneOf_23 rfl (lv_at hl 0 rfl) ?_
  refine lv_if_lt hx hb dX10_oneOf_24 (tgt := 31) rfl (fun hc => ?_) (fun hc => ?_)
  · have h := br_T hc h
    refine lv_iconst (v := (-1)) hx hb dX10_oneOf_31 (by decide) ?_
    exact rt_i (w := (wX cI cZ cC cJ cA P)) hx hb hr hlk hP hD hS h dX10_oneOf_32
  · have h := br_F hc h
    refine lv_iload_n hx hb dX10_oneOf_27 rfl (lv_at hl 0 rfl) ?_
    refine lv_goto hx hb dX10_oneOf_28 (tgt := 32) rfl ?_
    exact rt_i (w := (wX cI cZ cC cJ cA P)) hx hb hr hlk hP hD hS h dX10_oneOf_32
set_option maxHeartbeats 4000000 in
set_option maxRecDepth 20000 in
theorem b_Reader_oneOf_1_0 {p : Program} {l : Launch} {e : Env} {s s0 : State} {m : MethodId} {args : Array Value} {below : List Frame} {meth : Method} {c : Code} {D : va_G} {cI cZ cC cJ cA : ClassId} {P : Nat → Nat} {M' : Mm} {r' : Int32}  {qS : Nat → Nat} (hx : p.tables.exec = Jvm.exec) (hb : c.code = cX10_oneOf) (hml : c.maxLocals = 3) (hr : meth.sig.returnType = (some .int)) (hlk : meth.locks = false) (hgt : ∀ w ∈ GT, w.before args s = true) (hown : s.vm.findClass RX10 = some m.cls) (hK : va_K D vwCl [(cI, .int), (cZ, .boolean), (cC, .char), (cJ, .long), (cA, .array .int)] s) (hO : Old s0 s) (hAO : ∀ q, (aP P 77) q → s0.heap.size ≤ q) (hE : xE s0 qS)  : ∀ (M : Mm)  (H : Heap) (locs : List Loc) (ls : Array Slot), lv_has ls 3 [(0, .ref (P 21)), (1, .ref (qS 1))] → va_P D vwCl ((wX cI cZ cC cJ cA P) M) H → va_D (aP P 77) ((wX cI cZ cC cJ cA P) M) → va_S (aP P 77) s.heap H locs → q_Reader_oneOf_1 M = some (M', r') → W p l e ({ frames := 4, cells := 0, slots := 0, locals := 91 }) s m args below meth c H locs 0 0 (MQ below (gQi D (aP P 77) ((wX cI cZ cC cJ cA P) M') r') args s 0 0 (aP P 77)) (F0 m 0 ls []) := by
  intro M H locs ls hl hP hD hS h
  unfold q_Reader_oneOf_1 at h
  refine lv_aload_n hx hb dX10_oneOf_0 rfl (lv_at hl 1 rfl) ?_
  refine lv_aload_n hx hb dX10_oneOf_1 rfl (lv_at hl 0 rfl) ?_
  obtain ⟨M1, r2, hq, h⟩ := cal_o h
  refine cx_i (va_runV (As := []) (rest := [.ref (qS 1)]) ⟨hx, hb, hml, hown, hgt⟩ (z_Reader_next l D cI cZ cC cJ cA P s0 hAO M M1 r2 hq) (cwV 0 hgt (gV wd_3_150 wd_3_152 sl__ChipMap_Reader____ChipMap_Reader___next_____C_____ChipMap_Reader___next_____C__ wd_0_4 wd_3_153) rfl rfl rfl (by decide +kernel) ⟨Nat.le_of_ble_eq_true rfl, Nat.le_of_ble_eq_true rfl⟩) (prV hP hK hD hO hAO hS (va_recv hK hP (ci := 10) (q0 := 21) rfl gX_21)) rfl rfl hl.1 rfl (lv_room (Nat.le_of_ble_eq_true rfl)) dX10_oneOf_2 ⟨Nat.le_of_ble_eq_true rfl, Nat.le_of_ble_eq_true rfl⟩) hS (fun H locs hP hD hS => ?_)
  obtain ⟨M3, r4, hq, h⟩ := cal_o h
  refine cx_i (va_runV (As := [.int r2]) (rest := []) ⟨hx, hb, hml, hown, hgt⟩ (z_String_indexOf_2 l D cI cZ cC cJ cA P s0 hAO qS hE M1 r2 M3 r4 hq) (cwV 1 hgt (gV wd_3_186 wd_3_187 wd_3_188 wd_0_7 wd_3_189) rfl rfl rfl (by decide +kernel) ⟨Nat.le_of_ble_eq_true rfl, Nat.le_of_ble_eq_true rfl⟩) (prV hP hK hD hO hAO hS (hE.recv hO hAO hS (i := 1) (by decide))) rfl rfl hl.1 rfl (lv_room (Nat.le_of_ble_eq_true rfl)) dX10_oneOf_5 ⟨Nat.le_of_ble_eq_true rfl, Nat.le_of_ble_eq_true rfl⟩) hS (fun H locs hP hD hS => ?_)
  refine lv_istore_n hx hb dX10_oneOf_8 rfl hl (Nat.le_of_ble_eq_true rfl) (lv' := [(2, .int r4), (0, .ref (P 21)), (1, .ref (qS 1))]) rfl (fun ls hl => ?_)
  refine lv_iload_n hx hb dX10_oneOf_9 rfl (lv_at hl 0 rfl) ?_
  refine lv_if_lt hx hb dX10_oneOf_10 (tgt := 23) rfl (fun hc => ?_) (fun hc => ?_)
  · have h := br_T hc h
    have hl := lv_sub hl [0] (l' := [(2, .int r4)]) rfl
    exact b_Reader_oneOf_1_23 hx hb hml hr hlk hgt hown hK hO hAO hE M3 r4 H _ ls hl hP hD hS h
  · have h := br_F hc h
    refine lv_aload_n hx hb dX10_oneOf_13 rfl (lv_at hl 1 rfl) ?_
    refine lv_dup hx hb dX10_oneOf_14 rfl ?_
    refine va_get (D := D) (ci := 10) (v := .int (M3.1 21 3)) (C := RX10) (T := TX10) (N := 4) hx hb hgt iwX10 hown hK hP 21 gX_21 rfl 3 (Nat.le_of_ble_eq_true rfl) (hgt _ wd_0_191) (fun _ h9 => h9) rfl dX10_oneOf_15 ?_
    refine lv_iconst (v := 1) hx hb dX10_oneOf_18 (by decide) ?_
    refine lv_iadd hx hb dX10_oneOf_19 ?_
    refine pm_put (w := (wX cI cZ cC cJ cA P)) (D := D) (ci := 10) (x := ((M3.1 21 3) + 1)) (ty := .int) (C := RX10) (T := TX10) (N := 4) hx hb hgt iwX10 tyX10 tyX10_ok nmX10 hown hK hP hD hS 21 gX_21 rfl 3 (Nat.le_of_ble_eq_true rfl) (hgt _ wd_0_191) (fun _ h9 => h9) rfl (by decide +kernel) rfl rfl (Nat.le_of_ble_eq_true rfl) (sX_21_3 _) dX10_oneOf_20 (fun M5 eM5 H locs hP hD hS => ?_)
    have h := lt_o eM5 h
    have hl := lv_sub hl [0] (l' := [(2, .int r4)]) rfl
    exact b_Reader_oneOf_1_23 hx hb hml hr hlk hgt hown hK hO hAO hE M5 r4 H _ ls hl hP hD hS h
set_option maxHeartbeats 4000000 in
set_option maxRecDepth 20000 in
theorem z_Reader_oneOf_1 (l : Launch) (D : va_G) (cI cZ cC cJ cA : ClassId) (P : Nat → Nat) (s0 : State) (hAO : ∀ q, (aP P 77) q → s0.heap.size ≤ q) (qS : Nat → Nat) (hE : xE s0 qS) (M : Mm)  (M' : Mm) (r' : Int32) (h : q_Reader_oneOf_1 M = some (M', r')) : Met l yX10_oneOf wsX10_oneOf ({ frames := 4, cells := 0, slots := 0, locals := 91 }) (va_Pc [.ref (P 21), .ref (qS 1)] (gPre s0 D [(cI, .int), (cZ, .boolean), (cC, .char), (cJ, .long), (cA, .array .int)] (aP P 77) ((wX cI cZ cC cJ cA P) M))) (gQi D (aP P 77) ((wX cI cZ cC cJ cA P) M') r') 0 0 (aP P 77) := by
  refine Met.ofW (cc := cX10_oneOf) (maxL := 3) (ret := (some .int)) (by decide) rfl ?_
  intro p e s m args below meth c s₁ B hml hv
  obtain ⟨rfl, hP, hK, hD, hO⟩ := hv
  have hx := B.exec
  have hb := B.bytes
  have hr := B.returns
  have hlk := B.notSynchronized
  have hgt := fun w (h : w ∈ GT) => atoms_spec (ws := wsX10_oneOf) B.pre w (List.mem_cons_of_mem _ h)
  have hown : s.vm.findClass RX10 = some m.cls := findClass_of_methodNamed B.named
  have hS : va_S (aP P 77) s.heap s.heap [] := va_S.rf
  have hl := lv_entry ([.ref (P 21), .ref (qS 1)]) (n := 3) (Nat.le_of_ble_eq_true rfl)
  rw [lg_entry_eq]
  generalize (lg_sl ([.ref (P 21), .ref (qS 1)]) ++ List.replicate (3 - (lg_sl ([.ref (P 21), .ref (qS 1)])).length) Slot.unset).toArray = ls at hl ⊢
  have hl : lv_has ls 3 [(0, .ref (P 21)), (1, .ref (qS 1))] := hl
  exact b_Reader_oneOf_1_0 hx hb hml hr hlk hgt hown hK hO hAO hE M s.heap [] ls hl hP hD hS h
def q_Reader_readRule_119  (M : Mm) (v1 : Int32) (t0 : Int32) (t1 : Int32) : Rs := ix t1 12 <| lt' (stI M 18 (upd (M.1 18) (t1 : Int32).toNatClampNeg t0)) fun M1 => ix v1 12 <| if (M1.1 18 (v1 : Int32).toNatClampNeg) = (-1) then (some (M1, 0)) else (cal (q_Reader_take M1 59) fun M2 r3 => if r3 = 0 then (some (M2, 0)) else (some (M2, 1)))
def q_Reader_readRule  (M : Mm) (a1 : Int32) : Rs := ix a1 12 <| lt' (stI M 19 (upd (M.1 19) (a1 : Int32).toNatClampNeg (M.1 21 3))) fun M1 => cal (q_Reader_name M1) fun M2 r3 => ix a1 12 <| lt' (stI M2 16 (upd (M2.1 16) (a1 : Int32).toNatClampNeg r3)) fun M4 => ix a1 12 <| if (M4.1 16 (a1 : Int32).toNatClampNeg) = (-1) then (some (M4, 0)) else (cal (q_Reader_oneOf_1 M4) fun M5 r6 => ix a1 12 <| lt' (stI M5 15 (upd (M5.1 15) (a1 : Int32).toNatClampNeg r6)) fun M7 => ix a1 12 <| if (M7.1 15 (a1 : Int32).toNatClampNeg) = (-1) then (some (M7, 0)) else (ix a1 12 <| lt' (stI M7 20 (upd (M7.1 20) (a1 : Int32).toNatClampNeg (M7.1 21 3))) fun M8 => cal (q_Reader_name M8) fun M9 r10 => ix a1 12 <| lt' (stI M9 17 (upd (M9.1 17) (a1 : Int32).toNatClampNeg r10)) fun M11 => ix a1 12 <| if (M11.1 17 (a1 : Int32).toNatClampNeg) = (-1) then (some (M11, 0)) else (ix a1 12 <| if (M11.1 15 (a1 : Int32).toNatClampNeg) = 1 then (cal (q_Reader_numberBehindSign M11) fun M12 r13 => q_Reader_readRule_119 M12 a1 r13 a1) else (q_Reader_readRule_119 M11 a1 0 a1))))
set_option maxHeartbeats 4000000 in
set_option maxRecDepth 20000 in
theorem b_Reader_readRule_119 {p : Program} {l : Launch} {e : Env} {s s0 : State} {m : MethodId} {args : Array Value} {below : List Frame} {meth : Method} {c : Code} {D : va_G} {cI cZ cC cJ cA : ClassId} {P : Nat → Nat} {M' : Mm} {r' : Int32}  {qS : Nat → Nat} (hx : p.tables.exec = Jvm.exec) (hb : c.code = cX10_readRule) (hml : c.maxLocals = 3) (hr : meth.sig.returnType = (some .boolean)) (hlk : meth.locks = false) (hgt : ∀ w ∈ GT, w.before args s = true) (hown : s.vm.findClass RX10 = some m.cls) (hK : va_K D vwCl [(cI, .int), (cZ, .boolean), (cC, .char), (cJ, .long), (cA, .array .int)] s) (hO : Old s0 s) (hAO : ∀ q, (aP P 77) q → s0.heap.size ≤ q) (hE : xE s0 qS)  : ∀ (M : Mm) (v1 : Int32) (t0 : Int32) (t1 : Int32) (H : Heap) (locs : List Loc) (ls : Array Slot), lv_has ls 3 [(0, .ref (P 21)), (1, .int v1), (2, .ref (P 14))] → va_P D vwCl ((wX cI cZ cC cJ cA P) M) H → va_D (aP P 77) ((wX cI cZ cC cJ cA P) M) → va_S (aP P 77) s.heap H locs → q_Reader_readRule_119 M v1 t0 t1 = some (M', r') → W p l e ({ frames := 5, cells := 0, slots := 0, locals := 113 }) s m args below meth c H locs 0 0 (MQ below (gQi D (aP P 77) ((wX cI cZ cC cJ cA P) M') r') args s 0 0 (aP P 77)) (F0 m 119 ls [.int t0, .int t1, .ref (P 18)]) := by
  intro M v1 t0 t1 H locs ls hl hP hD hS h
  unfold q_Reader_readRule_119 at h
  refine pm_iast (w := (wX cI cZ cC cJ cA P)) hx hb hK hP hD hS 18 0 gX_18 rfl sX_18 (ix_l h) dX10_readRule_119 (fun M1 eM1 H locs hP hD hS => ?_)
  have h := ix_r h
  have h := lt_o eM1 h
  refine lv_aload_n hx hb dX10_readRule_120 rfl (lv_at hl 2 rfl) ?_
  refine va_get (D := D) (ci := 11) (v := .ref (P 18)) (C := RX11) (T := TX11) (N := 7) hx hb hgt iwX11 hown hK hP 14 gX_14 rfl 4 (Nat.le_of_ble_eq_true rfl) (hgt _ wd_0_70) (fun _ h9 => h9) rfl dX10_readRule_121 ?_
  refine lv_iload_n hx hb dX10_readRule_124 rfl (lv_at hl 1 rfl) ?_
  refine va_iald hx hb hK hP 18 0 gX_18 rfl (ix_l h) dX10_readRule_125 ?_
  have h := ix_r h
  refine lv_iconst (v := (-1)) hx hb dX10_readRule_126 (by decide) ?_
  refine lv_icmp_eq hx hb dX10_readRule_127 (tgt := 143) rfl (fun hc => ?_) (fun hc => ?_)
  · have h := br_T hc h
    refine lv_iconst (v := 0) hx hb dX10_readRule_143 (by decide) ?_
    exact rt_z (w := (wX cI cZ cC cJ cA P)) hx hb hr hlk rfl hP hD hS h dX10_readRule_144
  · have h := br_F hc h
    refine lv_aload_n hx hb dX10_readRule_130 rfl (lv_at hl 0 rfl) ?_
    refine lv_bipush (v := 59) hx hb dX10_readRule_131 (by decide) ?_
    obtain ⟨M2, r3, hq, h⟩ := cal_o h
    refine cx_i (va_runV (As := [.int 59]) (rest := []) ⟨hx, hb, hml, hown, hgt⟩ (z_Reader_take l D cI cZ cC cJ cA P s0 hAO M1 59 M2 r3 hq) (cwV 1 hgt (gV wd_3_158 wd_3_160 sl__ChipMap_Reader____ChipMap_Reader___take____C_Z_____ChipMap_Reader___take____C_Z__ wd_0_4 wd_3_161) rfl rfl rfl (by decide +kernel) ⟨Nat.le_of_ble_eq_true rfl, Nat.le_of_ble_eq_true rfl⟩) (prV hP hK hD hO hAO hS (va_recv hK hP (ci := 10) (q0 := 21) rfl gX_21)) rfl rfl hl.1 rfl (lv_room (Nat.le_of_ble_eq_true rfl)) dX10_readRule_133 ⟨Nat.le_of_ble_eq_true rfl, Nat.le_of_ble_eq_true rfl⟩) hS (fun H locs hP hD hS => ?_)
    refine lv_if_eq hx hb dX10_readRule_136 (tgt := 143) rfl (fun hc => ?_) (fun hc => ?_)
    · have h := br_T hc h
      refine lv_iconst (v := 0) hx hb dX10_readRule_143 (by decide) ?_
      exact rt_z (w := (wX cI cZ cC cJ cA P)) hx hb hr hlk rfl hP hD hS h dX10_readRule_144
    · have h := br_F hc h
      refine lv_iconst (v := 1) hx hb dX10_readRule_139 (by decide) ?_
      refine lv_goto hx hb dX10_readRule_140 (tgt := 144) rfl ?_
      exact rt_z (w := (wX cI cZ cC cJ cA P)) hx hb hr hlk rfl hP hD hS h dX10_readRule_144
set_option maxHeartbeats 4000000 in
set_option maxRecDepth 20000 in
theorem b_Reader_readRule_0 {p : Program} {l : Launch} {e : Env} {s s0 : State} {m : MethodId} {args : Array Value} {below : List Frame} {meth : Method} {c : Code} {D : va_G} {cI cZ cC cJ cA : ClassId} {P : Nat → Nat} {M' : Mm} {r' : Int32}  {qS : Nat → Nat} (hx : p.tables.exec = Jvm.exec) (hb : c.code = cX10_readRule) (hml : c.maxLocals = 3) (hr : meth.sig.returnType = (some .boolean)) (hlk : meth.locks = false) (hgt : ∀ w ∈ GT, w.before args s = true) (hown : s.vm.findClass RX10 = some m.cls) (hK : va_K D vwCl [(cI, .int), (cZ, .boolean), (cC, .char), (cJ, .long), (cA, .array .int)] s) (hO : Old s0 s) (hAO : ∀ q, (aP P 77) q → s0.heap.size ≤ q) (hE : xE s0 qS)  : ∀ (M : Mm) (a1 : Int32) (H : Heap) (locs : List Loc) (ls : Array Slot), lv_has ls 3 [(0, .ref (P 21)), (1, .int a1)] → va_P D vwCl ((wX cI cZ cC cJ cA P) M) H → va_D (aP P 77) ((wX cI cZ cC cJ cA P) M) → va_S (aP P 77) s.heap H locs → q_Reader_readRule M a1 = some (M', r') → W p l e ({ frames := 5, cells := 0, slots := 0, locals := 113 }) s m args below meth c H locs 0 0 (MQ below (gQi D (aP P 77) ((wX cI cZ cC cJ cA P) M') r') args s 0 0 (aP P 77)) (F0 m 0 ls []) := by
  intro M a1 H locs ls hl hP hD hS h
  unfold q_Reader_readRule at h
  refine lv_aload_n hx hb dX10_readRule_0 rfl (lv_at hl 0 rfl) ?_
  refine va_get (D := D) (ci := 10) (v := .ref (P 1)) (C := RX10) (T := TX10) (N := 4) hx hb hgt iwX10 hown hK hP 21 gX_21 rfl 0 (Nat.le_of_ble_eq_true rfl) (hgt _ wd_0_187) (fun _ h9 => h9) rfl dX10_readRule_1 ?_
  refine va_get (D := D) (ci := 4) (v := .ref (P 14)) (C := RX4) (T := TX4) (N := 15) hx hb hgt iwX4 hown hK hP 1 gX_1 rfl 14 (Nat.le_of_ble_eq_true rfl) (hgt _ wd_0_148) (fun _ h9 => h9) rfl dX10_readRule_4 ?_
  refine lv_astore_n hx hb dX10_readRule_7 rfl hl (Nat.le_of_ble_eq_true rfl) (lv' := [(2, .ref (P 14)), (0, .ref (P 21)), (1, .int a1)]) rfl (fun ls hl => ?_)
  refine lv_aload_n hx hb dX10_readRule_8 rfl (lv_at hl 0 rfl) ?_
  refine va_get (D := D) (ci := 11) (v := .ref (P 19)) (C := RX11) (T := TX11) (N := 7) hx hb hgt iwX11 hown hK hP 14 gX_14 rfl 5 (Nat.le_of_ble_eq_true rfl) (hgt _ wd_0_73) (fun _ h9 => h9) rfl dX10_readRule_9 ?_
  refine lv_iload_n hx hb dX10_readRule_12 rfl (lv_at hl 2 rfl) ?_
  refine lv_aload_n hx hb dX10_readRule_13 rfl (lv_at hl 1 rfl) ?_
  refine va_get (D := D) (ci := 10) (v := .int (M.1 21 3)) (C := RX10) (T := TX10) (N := 4) hx hb hgt iwX10 hown hK hP 21 gX_21 rfl 3 (Nat.le_of_ble_eq_true rfl) (hgt _ wd_0_191) (fun _ h9 => h9) rfl dX10_readRule_14 ?_
  refine pm_iast (w := (wX cI cZ cC cJ cA P)) hx hb hK hP hD hS 19 0 gX_19 rfl sX_19 (ix_l h) dX10_readRule_17 (fun M1 eM1 H locs hP hD hS => ?_)
  have h := ix_r h
  have h := lt_o eM1 h
  refine lv_aload_n hx hb dX10_readRule_18 rfl (lv_at hl 0 rfl) ?_
  refine va_get (D := D) (ci := 11) (v := .ref (P 16)) (C := RX11) (T := TX11) (N := 7) hx hb hgt iwX11 hown hK hP 14 gX_14 rfl 2 (Nat.le_of_ble_eq_true rfl) (hgt _ wd_0_62) (fun _ h9 => h9) rfl dX10_readRule_19 ?_
  refine lv_iload_n hx hb dX10_readRule_22 rfl (lv_at hl 2 rfl) ?_
  refine lv_aload_n hx hb dX10_readRule_23 rfl (lv_at hl 1 rfl) ?_
  obtain ⟨M2, r3, hq, h⟩ := cal_o h
  refine cx_i (va_runV (As := []) (rest := [.int a1, .ref (P 16)]) ⟨hx, hb, hml, hown, hgt⟩ (z_Reader_name l D cI cZ cC cJ cA P s0 hAO M1 M2 r3 hq) (cwV 0 hgt (gV wd_3_173 wd_3_175 sl__ChipMap_Reader____ChipMap_Reader___name_____I_____ChipMap_Reader___name_____I__ wd_0_4 wd_3_176) rfl rfl rfl (by decide +kernel) ⟨Nat.le_of_ble_eq_true rfl, Nat.le_of_ble_eq_true rfl⟩) (prV hP hK hD hO hAO hS (va_recv hK hP (ci := 10) (q0 := 21) rfl gX_21)) rfl rfl hl.1 rfl (lv_room (Nat.le_of_ble_eq_true rfl)) dX10_readRule_24 ⟨Nat.le_of_ble_eq_true rfl, Nat.le_of_ble_eq_true rfl⟩) hS (fun H locs hP hD hS => ?_)
  refine pm_iast (w := (wX cI cZ cC cJ cA P)) hx hb hK hP hD hS 16 0 gX_16 rfl sX_16 (ix_l h) dX10_readRule_27 (fun M4 eM4 H locs hP hD hS => ?_)
  have h := ix_r h
  have h := lt_o eM4 h
  refine lv_aload_n hx hb dX10_readRule_28 rfl (lv_at hl 0 rfl) ?_
  refine va_get (D := D) (ci := 11) (v := .ref (P 16)) (C := RX11) (T := TX11) (N := 7) hx hb hgt iwX11 hown hK hP 14 gX_14 rfl 2 (Nat.le_of_ble_eq_true rfl) (hgt _ wd_0_62) (fun _ h9 => h9) rfl dX10_readRule_29 ?_
  refine lv_iload_n hx hb dX10_readRule_32 rfl (lv_at hl 2 rfl) ?_
  refine va_iald hx hb hK hP 16 0 gX_16 rfl (ix_l h) dX10_readRule_33 ?_
  have h := ix_r h
  refine lv_iconst (v := (-1)) hx hb dX10_readRule_34 (by decide) ?_
  refine lv_icmp_ne hx hb dX10_readRule_35 (tgt := 40) rfl (fun hc => ?_) (fun hc => ?_)
  · have h := br_F hc h
    refine lv_aload_n hx hb dX10_readRule_40 rfl (lv_at hl 0 rfl) ?_
    refine va_get (D := D) (ci := 11) (v := .ref (P 15)) (C := RX11) (T := TX11) (N := 7) hx hb hgt iwX11 hown hK hP 14 gX_14 rfl 1 (Nat.le_of_ble_eq_true rfl) (hgt _ wd_0_58) (fun _ h9 => h9) rfl dX10_readRule_41 ?_
    refine lv_iload_n hx hb dX10_readRule_44 rfl (lv_at hl 2 rfl) ?_
    refine lv_aload_n hx hb dX10_readRule_45 rfl (lv_at hl 1 rfl) ?_
    refine va_ldcS hx hb hown (hE.l1.warm hO.1) dX10_readRule_46 ?_
    obtain ⟨M5, r6, hq, h⟩ := cal_o h
    refine cx_i (va_runV (As := [.ref (qS 1)]) (rest := [.int a1, .ref (P 15)]) ⟨hx, hb, hml, hown, hgt⟩ (z_Reader_oneOf_1 l D cI cZ cC cJ cA P s0 hAO qS hE M4 M5 r6 hq) (cwV 1 hgt (gV wd_3_182 wd_3_184 sl__ChipMap_Reader____ChipMap_Reader___oneOf____Ljava_lang_String__I_____ChipMap_Reader___oneOf____Ljava_lang_String__I__ wd_0_4 wd_3_185) rfl rfl rfl (by decide +kernel) ⟨Nat.le_of_ble_eq_true rfl, Nat.le_of_ble_eq_true rfl⟩) (prV hP hK hD hO hAO hS (va_recv hK hP (ci := 10) (q0 := 21) rfl gX_21)) rfl rfl hl.1 rfl (lv_room (Nat.le_of_ble_eq_true rfl)) dX10_readRule_48 ⟨Nat.le_of_ble_eq_true rfl, Nat.le_of_ble_eq_true rfl⟩) hS (fun H locs hP hD hS => ?_)
    refine pm_iast (w := (wX cI cZ cC cJ cA P)) hx hb hK hP hD hS 15 0 gX_15 rfl sX_15 (ix_l h) dX10_readRule_51 (fun M7 eM7 H locs hP hD hS => ?_)
    have h := ix_r h
    have h := lt_o eM7 h
    refine lv_aload_n hx hb dX10_readRule_52 rfl (lv_at hl 0 rfl) ?_
    refine va_get (D := D) (ci := 11) (v := .ref (P 15)) (C := RX11) (T := TX11) (N := 7) hx hb hgt iwX11 hown hK hP 14 gX_14 rfl 1 (Nat.le_of_ble_eq_true rfl) (hgt _ wd_0_58) (fun _ h9 => h9) rfl dX10_readRule_53 ?_
    refine lv_iload_n hx hb dX10_readRule_56 rfl (lv_at hl 2 rfl) ?_
    refine va_iald hx hb hK hP 15 0 gX_15 rfl (ix_l h) dX10_readRule_57 ?_
    have h := ix_r h
    refine lv_iconst (v := (-1)) hx hb dX10_readRule_58 (by decide) ?_
    refine lv_icmp_ne hx hb dX10_readRule_59 (tgt := 64) rfl (fun hc => ?_) (fun hc => ?_)
    · have h := br_F hc h
      refine lv_aload_n hx hb dX10_readRule_64 rfl (lv_at hl 0 rfl) ?_
      refine va_get (D := D) (ci := 11) (v := .ref (P 20)) (C := RX11) (T := TX11) (N := 7) hx hb hgt iwX11 hown hK hP 14 gX_14 rfl 6 (Nat.le_of_ble_eq_true rfl) (hgt _ wd_0_76) (fun _ h9 => h9) rfl dX10_readRule_65 ?_
      refine lv_iload_n hx hb dX10_readRule_68 rfl (lv_at hl 2 rfl) ?_
      refine lv_aload_n hx hb dX10_readRule_69 rfl (lv_at hl 1 rfl) ?_
      refine va_get (D := D) (ci := 10) (v := .int (M7.1 21 3)) (C := RX10) (T := TX10) (N := 4) hx hb hgt iwX10 hown hK hP 21 gX_21 rfl 3 (Nat.le_of_ble_eq_true rfl) (hgt _ wd_0_191) (fun _ h9 => h9) rfl dX10_readRule_70 ?_
      refine pm_iast (w := (wX cI cZ cC cJ cA P)) hx hb hK hP hD hS 20 0 gX_20 rfl sX_20 (ix_l h) dX10_readRule_73 (fun M8 eM8 H locs hP hD hS => ?_)
      have h := ix_r h
      have h := lt_o eM8 h
      refine lv_aload_n hx hb dX10_readRule_74 rfl (lv_at hl 0 rfl) ?_
      refine va_get (D := D) (ci := 11) (v := .ref (P 17)) (C := RX11) (T := TX11) (N := 7) hx hb hgt iwX11 hown hK hP 14 gX_14 rfl 3 (Nat.le_of_ble_eq_true rfl) (hgt _ wd_0_66) (fun _ h9 => h9) rfl dX10_readRule_75 ?_
      refine lv_iload_n hx hb dX10_readRule_78 rfl (lv_at hl 2 rfl) ?_
      refine lv_aload_n hx hb dX10_readRule_79 rfl (lv_at hl 1 rfl) ?_
      obtain ⟨M9, r10, hq, h⟩ := cal_o h
      refine cx_i (va_runV (As := []) (rest := [.int a1, .ref (P 17)]) ⟨hx, hb, hml, hown, hgt⟩ (z_Reader_name l D cI cZ cC cJ cA P s0 hAO M8 M9 r10 hq) (cwV 0 hgt (gV wd_3_173 wd_3_175 sl__ChipMap_Reader____ChipMap_Reader___name_____I_____ChipMap_Reader___name_____I__ wd_0_4 wd_3_176) rfl rfl rfl (by decide +kernel) ⟨Nat.le_of_ble_eq_true rfl, Nat.le_of_ble_eq_true rfl⟩) (prV hP hK hD hO hAO hS (va_recv hK hP (ci := 10) (q0 := 21) rfl gX_21)) rfl rfl hl.1 rfl (lv_room (Nat.le_of_ble_eq_true rfl)) dX10_readRule_80 ⟨Nat.le_of_ble_eq_true rfl, Nat.le_of_ble_eq_true rfl⟩) hS (fun H locs hP hD hS => ?_)
      refine pm_iast (w := (wX cI cZ cC cJ cA P)) hx hb hK hP hD hS 17 0 gX_17 rfl sX_17 (ix_l h) dX10_readRule_83 (fun M11 eM11 H locs hP hD hS => ?_)
      have h := ix_r h
      have h := lt_o eM11 h
      refine lv_aload_n hx hb dX10_readRule_84 rfl (lv_at hl 0 rfl) ?_
      refine va_get (D := D) (ci := 11) (v := .ref (P 17)) (C := RX11) (T := TX11) (N := 7) hx hb hgt iwX11 hown hK hP 14 gX_14 rfl 3 (Nat.le_of_ble_eq_true rfl) (hgt _ wd_0_66) (fun _ h9 => h9) rfl dX10_readRule_85 ?_
      refine lv_iload_n hx hb dX10_readRule_88 rfl (lv_at hl 2 rfl) ?_
      refine va_iald hx hb hK hP 17 0 gX_17 rfl (ix_l h) dX10_readRule_89 ?_
      have h := ix_r h
      refine lv_iconst (v := (-1)) hx hb dX10_readRule_90 (by decide) ?_
      refine lv_icmp_ne hx hb dX10_readRule_91 (tgt := 96) rfl (fun hc => ?_) (fun hc => ?_)
      · have h := br_F hc h
        refine lv_aload_n hx hb dX10_readRule_96 rfl (lv_at hl 0 rfl) ?_
        refine va_get (D := D) (ci := 11) (v := .ref (P 18)) (C := RX11) (T := TX11) (N := 7) hx hb hgt iwX11 hown hK hP 14 gX_14 rfl 4 (Nat.le_of_ble_eq_true rfl) (hgt _ wd_0_70) (fun _ h9 => h9) rfl dX10_readRule_97 ?_
        refine lv_iload_n hx hb dX10_readRule_100 rfl (lv_at hl 2 rfl) ?_
        refine lv_aload_n hx hb dX10_readRule_101 rfl (lv_at hl 0 rfl) ?_
        refine va_get (D := D) (ci := 11) (v := .ref (P 15)) (C := RX11) (T := TX11) (N := 7) hx hb hgt iwX11 hown hK hP 14 gX_14 rfl 1 (Nat.le_of_ble_eq_true rfl) (hgt _ wd_0_58) (fun _ h9 => h9) rfl dX10_readRule_102 ?_
        refine lv_iload_n hx hb dX10_readRule_105 rfl (lv_at hl 2 rfl) ?_
        refine va_iald hx hb hK hP 15 0 gX_15 rfl (ix_l h) dX10_readRule_106 ?_
        have h := ix_r h
        refine lv_iconst (v := 1) hx hb dX10_readRule_107 (by decide) ?_
        refine lv_icmp_ne hx hb dX10_readRule_108 (tgt := 118) rfl (fun hc => ?_) (fun hc => ?_)
        · have h := br_F hc h
          refine lv_iconst (v := 0) hx hb dX10_readRule_118 (by decide) ?_
          have hl := lv_sub hl [1, 2, 0] (l' := [(0, .ref (P 21)), (1, .int a1), (2, .ref (P 14))]) rfl
          exact b_Reader_readRule_119 hx hb hml hr hlk hgt hown hK hO hAO hE M11 a1 0 a1 H _ ls hl hP hD hS h
        · have h := br_T hc h
          refine lv_aload_n hx hb dX10_readRule_111 rfl (lv_at hl 1 rfl) ?_
          obtain ⟨M12, r13, hq, h⟩ := cal_o h
          refine cx_i (va_runV (As := []) (rest := [.int a1, .ref (P 18)]) ⟨hx, hb, hml, hown, hgt⟩ (z_Reader_numberBehindSign l D cI cZ cC cJ cA P s0 hAO M11 M12 r13 hq) (cwV 0 hgt (gV wd_4_21 wd_4_23 sl__ChipMap_Reader____ChipMap_Reader___numberBehindSign_____I_____ChipMap_Reader___numberBehindSign_____I__ wd_0_4 wd_4_24) rfl rfl rfl (by decide +kernel) ⟨Nat.le_of_ble_eq_true rfl, Nat.le_of_ble_eq_true rfl⟩) (prV hP hK hD hO hAO hS (va_recv hK hP (ci := 10) (q0 := 21) rfl gX_21)) rfl rfl hl.1 rfl (lv_room (Nat.le_of_ble_eq_true rfl)) dX10_readRule_112 ⟨Nat.le_of_ble_eq_true rfl, Nat.le_of_ble_eq_true rfl⟩) hS (fun H locs hP hD hS => ?_)
          refine lv_goto hx hb dX10_readRule_115 (tgt := 119) rfl ?_
          have hl := lv_sub hl [1, 2, 0] (l' := [(0, .ref (P 21)), (1, .int a1), (2, .ref (P 14))]) rfl
          exact b_Reader_readRule_119 hx hb hml hr hlk hgt hown hK hO hAO hE M12 a1 r13 a1 H _ ls hl hP hD hS h
      · have h := br_T hc h
        refine lv_iconst (v := 0) hx hb dX10_readRule_94 (by decide) ?_
        exact rt_z (w := (wX cI cZ cC cJ cA P)) hx hb hr hlk rfl hP hD hS h dX10_readRule_95
    · have h := br_T hc h
      refine lv_iconst (v := 0) hx hb dX10_readRule_62 (by decide) ?_
      exact rt_z (w := (wX cI cZ cC cJ cA P)) hx hb hr hlk rfl hP hD hS h dX10_readRule_63
  · have h := br_T hc h
    refine lv_iconst (v := 0) hx hb dX10_readRule_38 (by decide) ?_
    exact rt_z (w := (wX cI cZ cC cJ cA P)) hx hb hr hlk rfl hP hD hS h dX10_readRule_39
set_option maxHeartbeats 4000000 in
set_option maxRecDepth 20000 in
theorem z_Reader_readRule (l : Launch) (D : va_G) (cI cZ cC cJ cA : ClassId) (P : Nat → Nat) (s0 : State) (hAO : ∀ q, (aP P 77) q → s0.heap.size ≤ q) (qS : Nat → Nat) (hE : xE s0 qS) (M : Mm) (a1 : Int32) (M' : Mm) (r' : Int32) (h : q_Reader_readRule M a1 = some (M', r')) : Met l yX10_readRule wsX10_readRule ({ frames := 5, cells := 0, slots := 0, locals := 113 }) (va_Pc [.ref (P 21), .int a1] (gPre s0 D [(cI, .int), (cZ, .boolean), (cC, .char), (cJ, .long), (cA, .array .int)] (aP P 77) ((wX cI cZ cC cJ cA P) M))) (gQi D (aP P 77) ((wX cI cZ cC cJ cA P) M') r') 0 0 (aP P 77) := by
  refine Met.ofW (cc := cX10_readRule) (maxL := 3) (ret := (some .boolean)) (by decide) rfl ?_
  intro p e s m args below meth c s₁ B hml hv
  obtain ⟨rfl, hP, hK, hD, hO⟩ := hv
  have hx := B.exec
  have hb := B.bytes
  have hr := B.returns
  have hlk := B.notSynchronized
  have hgt := fun w (h : w ∈ GT) => atoms_spec (ws := wsX10_readRule) B.pre w (List.mem_cons_of_mem _ h)
  have hown : s.vm.findClass RX10 = some m.cls := findClass_of_methodNamed B.named
  have hS : va_S (aP P 77) s.heap s.heap [] := va_S.rf
  have hl := lv_entry ([.ref (P 21), .int a1]) (n := 3) (Nat.le_of_ble_eq_true rfl)
  rw [lg_entry_eq]
  generalize (lg_sl ([.ref (P 21), .int a1]) ++ List.replicate (3 - (lg_sl ([.ref (P 21), .int a1])).length) Slot.unset).toArray = ls at hl ⊢
  have hl : lv_has ls 3 [(0, .ref (P 21)), (1, .int a1)] := hl
  exact b_Reader_readRule_0 hx hb hml hr hlk hgt hown hK hO hAO hE M a1 s.heap [] ls hl hP hD hS h
end
