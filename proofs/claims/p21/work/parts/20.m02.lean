section
def q_ChipMapModel_readRule_190  (M : Mm)  : Rs := lt' (stI M 0 (upd (M.1 0) 20 ((M.1 0 20) + 1))) fun M1 => cal (q_ChipMapModel_take M1 59) fun M2 r3 => bz r3 (some (M2, r3))
def q_ChipMapModel_readRule_100  (M : Mm) (v1 : Int32) : Rs := lt' (stI M 0 (upd (M.1 0) 3 ((M.1 0 3) + 1))) fun M1 => ix v1 13 <| lt' (stI M1 19 (upd (M1.1 19) (v1 : Int32).toNatClampNeg (M1.1 0 3))) fun M2 => cal (q_ChipMapModel_here M2) fun M3 r4 => ix v1 13 <| lt' (stI M3 16 (upd (M3.1 16) (v1 : Int32).toNatClampNeg (r4 - 65))) fun M5 => cal (q_ChipMapModel_takeName M5) fun M6 r7 => if r7 = 0 then (some (M6, 0)) else (ix v1 13 <| lt' (stI M6 17 (upd (M6.1 17) (v1 : Int32).toNatClampNeg 0)) fun M8 => ix v1 13 <| if (M8.1 14 (v1 : Int32).toNatClampNeg) = 38 then (cal (q_ChipMapModel_take M8 61) fun M9 r10 => if r10 = 0 then (some (M9, 0)) else (cal (q_ChipMapModel_takeHex M9 1 4) fun M11 r12 => if r12 = 0 then (some (M11, 0)) else (ix v1 13 <| lt' (stI M11 17 (upd (M11.1 17) (v1 : Int32).toNatClampNeg (M11.1 0 70))) fun M13 => q_ChipMapModel_readRule_190 M13))) else (q_ChipMapModel_readRule_190 M8))
def q_ChipMapModel_readRule  (M : Mm)  : Rs := lt' (M.1 0 20) fun x1 => if x1 = 12 then (cal (q_ChipMapModel_wrong M 1 (M.1 0 3)) fun M2 r3 => bz r3 (some (M2, r3))) else (ix x1 13 <| lt' (stI M 18 (upd (M.1 18) (x1 : Int32).toNatClampNeg (M.1 0 3))) fun M2 => cal (q_ChipMapModel_here M2) fun M3 r4 => ix x1 13 <| lt' (stI M3 15 (upd (M3.1 15) (x1 : Int32).toNatClampNeg (r4 - 65))) fun M5 => cal (q_ChipMapModel_takeName M5) fun M6 r7 => if r7 = 0 then (some (M6, 0)) else (cal (q_ChipMapModel_here M6) fun M8 r9 => ix x1 13 <| lt' (stI M8 14 (upd (M8.1 14) (x1 : Int32).toNatClampNeg r9)) fun M10 => cal (q_ChipMapModel_here M10) fun M11 r12 => if r12 = 60 then (q_ChipMapModel_readRule_100 M11 x1) else (cal (q_ChipMapModel_here M11) fun M13 r14 => if r14 = 38 then (q_ChipMapModel_readRule_100 M13 x1) else (cal (q_ChipMapModel_here M13) fun M15 r16 => if r16 = 33 then (q_ChipMapModel_readRule_100 M15 x1) else (cal (q_ChipMapModel_wrong M15 1 (M15.1 0 3)) fun M17 r18 => bz r18 (some (M17, r18)))))))
set_option maxHeartbeats 4000000 in
set_option maxRecDepth 20000 in
theorem b_ChipMapModel_readRule_190 {p : Program} {l : Launch} {e : Env} {s s0 : State} {m : MethodId} {args : Array Value} {below : List Frame} {meth : Method} {c : Code} {D : va_G} {cI cZ cC cJ cA : ClassId} {P : Nat → Nat} {M' : Mm} {r' : Int32}  (hx : p.tables.exec = Jvm.exec) (hb : c.code = cX1_readRule) (hml : c.maxLocals = 2) (hr : meth.sig.returnType = (some .boolean)) (hlk : meth.locks = false) (hgt : ∀ w ∈ GT, w.before args s = true) (hown : s.vm.findClass RX1 = some m.cls) (hK : va_K D vwCl [(cI, .int), (cZ, .boolean), (cC, .char), (cJ, .long), (cA, .array .int)] s) (hO : Old s0 s) (hAO : ∀ q, (aP P 51) q → s0.heap.size ≤ q)  : ∀ (M : Mm)  (H : Heap) (locs : List Loc) (ls : Array Slot), lv_has ls 2 [(0, .ref (P 0))] → va_P D vwCl ((wY cI cZ cC cJ cA P) M) H → va_D (aP P 51) ((wY cI cZ cC cJ cA P) M) → va_S (aP P 51) s.heap H locs → q_ChipMapModel_readRule_190 M = some (M', r') → W p l e ({ frames := 2, cells := 0, slots := 0, locals := 45 }) s m args below meth c H locs 0 0 (MQ below (gQi D (aP P 51) ((wY cI cZ cC cJ cA P) M') r') args s 0 0 (aP P 51)) (F0 m 190 ls []) := by
  intro M H locs ls hl hP hD hS h
  unfold q_ChipMapModel_readRule_190 at h
  refine lv_aload_n hx hb dX1_readRule_190 rfl (lv_at hl 0 rfl) ?_
  refine lv_dup hx hb dX1_readRule_191 rfl ?_
  refine va_get (D := D) (ci := 1) (v := .int (M.1 0 20)) (C := RX1) (T := TX1) (N := 76) hx hb hgt iwX1 hown hK hP 0 gY_0 rfl 20 (Nat.le_of_ble_eq_true rfl) (hgt _ wd_4_221) (fun _ h9 => h9) rfl dX1_readRule_192 ?_
  refine lv_iconst (v := 1) hx hb dX1_readRule_195 (by decide) ?_
  refine lv_iadd hx hb dX1_readRule_196 ?_
  refine pm_put (w := (wY cI cZ cC cJ cA P)) (D := D) (ci := 1) (x := ((M.1 0 20) + 1)) (ty := .int) (C := RX1) (T := TX1) (N := 76) hx hb hgt iwX1 tyX1 tyX1_ok nmX1 hown hK hP hD hS 0 gY_0 rfl 20 (Nat.le_of_ble_eq_true rfl) (hgt _ wd_4_221) (fun _ h9 => h9) rfl (by decide +kernel) rfl rfl (Nat.le_of_ble_eq_true rfl) (sY_0_20 _) dX1_readRule_197 (fun M1 eM1 H locs hP hD hS => ?_)
  have h := lt_o eM1 h
  refine lv_aload_n hx hb dX1_readRule_200 rfl (lv_at hl 0 rfl) ?_
  refine lv_bipush (v := 59) hx hb dX1_readRule_201 (by decide) ?_
  obtain ⟨M2, r3, hq, h⟩ := cal_o h
  refine cx_i (va_runV (As := [.int 59]) (rest := []) ⟨hx, hb, hml, hown, hgt⟩ (z_ChipMapModel_take l D cI cZ cC cJ cA P s0 hAO M1 59 M2 r3 hq) (cwV 1 hgt (gV wd_5_212 wd_5_214 sl__ChipMapModel____ChipMapModel___take____I_Z_____ChipMapModel___take____I_Z__ wd_0_15 wd_5_215) rfl rfl rfl (by decide +kernel) ⟨Nat.le_of_ble_eq_true rfl, Nat.le_of_ble_eq_true rfl⟩) (prV hP hK hD hO hAO hS (va_recv hK hP (ci := 1) (q0 := 0) rfl gY_0)) rfl rfl hl.1 rfl (lv_room (Nat.le_of_ble_eq_true rfl)) dX1_readRule_203 ⟨Nat.le_of_ble_eq_true rfl, Nat.le_of_ble_eq_true rfl⟩) hS (fun H locs hP hD hS => ?_)
  exact rt_z (w := (wY cI cZ cC cJ cA P)) hx hb hr hlk (bz_l h) hP hD hS (bz_r h) dX1_readRule_206
set_option maxHeartbeats 4000000 in
set_option maxRecDepth 20000 in
theorem b_ChipMapModel_readRule_100 {p : Program} {l : Launch} {e : Env} {s s0 : State} {m : MethodId} {args : Array Value} {below : List Frame} {meth : Method} {c : Code} {D : va_G} {cI cZ cC cJ cA : ClassId} {P : Nat → Nat} {M' : Mm} {r' : Int32}  (hx : p.tables.exec = Jvm.exec) (hb : c.code = cX1_readRule) (hml : c.maxLocals = 2) (hr : meth.sig.returnType = (some .boolean)) (hlk : meth.locks = false) (hgt : ∀ w ∈ GT, w.before args s = true) (hown : s.vm.findClass RX1 = some m.cls) (hK : va_K D vwCl [(cI, .int), (cZ, .boolean), (cC, .char), (cJ, .long), (cA, .array .int)] s) (hO : Old s0 s) (hAO : ∀ q, (aP P 51) q → s0.heap.size ≤ q)  : ∀ (M : Mm) (v1 : Int32) (H : Heap) (locs : List Loc) (ls : Array Slot), lv_has ls 2 [(0, .ref (P 0)), (1, .int v1)] → va_P D vwCl ((wY cI cZ cC cJ cA P) M) H → va_D (aP P 51) ((wY cI cZ cC cJ cA P) M) → va_S (aP P 51) s.heap H locs → q_ChipMapModel_readRule_100 M v1 = some (M', r') → W p l e ({ frames := 2, cells := 0, slots := 0, locals := 45 }) s m args below meth c H locs 0 0 (MQ below (gQi D (aP P 51) ((wY cI cZ cC cJ cA P) M') r') args s 0 0 (aP P 51)) (F0 m 100 ls []) := by
  intro M v1 H locs ls hl hP hD hS h
  unfold q_ChipMapModel_readRule_100 at h
  refine lv_aload_n hx hb dX1_readRule_100 rfl (lv_at hl 0 rfl) ?_
  refine lv_dup hx hb dX1_readRule_101 rfl ?_
  refine va_get (D := D) (ci := 1) (v := .int (M.1 0 3)) (C := RX1) (T := TX1) (N := 76) hx hb hgt iwX1 hown hK hP 0 gY_0 rfl 3 (Nat.le_of_ble_eq_true rfl) (hgt _ wd_4_204) (fun _ h9 => h9) rfl dX1_readRule_102 ?_
  refine lv_iconst (v := 1) hx hb dX1_readRule_105 (by decide) ?_
  refine lv_iadd hx hb dX1_readRule_106 ?_
  refine pm_put (w := (wY cI cZ cC cJ cA P)) (D := D) (ci := 1) (x := ((M.1 0 3) + 1)) (ty := .int) (C := RX1) (T := TX1) (N := 76) hx hb hgt iwX1 tyX1 tyX1_ok nmX1 hown hK hP hD hS 0 gY_0 rfl 3 (Nat.le_of_ble_eq_true rfl) (hgt _ wd_4_204) (fun _ h9 => h9) rfl (by decide +kernel) rfl rfl (Nat.le_of_ble_eq_true rfl) (sY_0_3 _) dX1_readRule_107 (fun M1 eM1 H locs hP hD hS => ?_)
  have h := lt_o eM1 h
  refine lv_aload_n hx hb dX1_readRule_110 rfl (lv_at hl 0 rfl) ?_
  refine va_get (D := D) (ci := 1) (v := .ref (P 19)) (C := RX1) (T := TX1) (N := 76) hx hb hgt iwX1 hown hK hP 0 gY_0 rfl 26 (Nat.le_of_ble_eq_true rfl) (hgt _ wd_4_227) (fun _ h9 => h9) rfl dX1_readRule_111 ?_
  refine lv_iload_n hx hb dX1_readRule_114 rfl (lv_at hl 1 rfl) ?_
  refine lv_aload_n hx hb dX1_readRule_115 rfl (lv_at hl 0 rfl) ?_
  refine va_get (D := D) (ci := 1) (v := .int (M1.1 0 3)) (C := RX1) (T := TX1) (N := 76) hx hb hgt iwX1 hown hK hP 0 gY_0 rfl 3 (Nat.le_of_ble_eq_true rfl) (hgt _ wd_4_204) (fun _ h9 => h9) rfl dX1_readRule_116 ?_
  refine pm_iast (w := (wY cI cZ cC cJ cA P)) hx hb hK hP hD hS 19 0 gY_19 rfl sY_19 (ix_l h) dX1_readRule_119 (fun M2 eM2 H locs hP hD hS => ?_)
  have h := ix_r h
  have h := lt_o eM2 h
  refine lv_aload_n hx hb dX1_readRule_120 rfl (lv_at hl 0 rfl) ?_
  refine va_get (D := D) (ci := 1) (v := .ref (P 16)) (C := RX1) (T := TX1) (N := 76) hx hb hgt iwX1 hown hK hP 0 gY_0 rfl 23 (Nat.le_of_ble_eq_true rfl) (hgt _ wd_4_224) (fun _ h9 => h9) rfl dX1_readRule_121 ?_
  refine lv_iload_n hx hb dX1_readRule_124 rfl (lv_at hl 1 rfl) ?_
  refine lv_aload_n hx hb dX1_readRule_125 rfl (lv_at hl 0 rfl) ?_
  obtain ⟨M3, r4, hq, h⟩ := cal_o h
  refine cx_i (va_runV (As := []) (rest := [.int v1, .ref (P 16)]) ⟨hx, hb, hml, hown, hgt⟩ (z_ChipMapModel_here l D cI cZ cC cJ cA P s0 hAO M2 M3 r4 hq) (cwV 0 hgt (gV wd_5_216 wd_5_218 sl__ChipMapModel____ChipMapModel___here_____I_____ChipMapModel___here_____I__ wd_0_15 wd_5_219) rfl rfl rfl (by decide +kernel) ⟨Nat.le_of_ble_eq_true rfl, Nat.le_of_ble_eq_true rfl⟩) (prV hP hK hD hO hAO hS (va_recv hK hP (ci := 1) (q0 := 0) rfl gY_0)) rfl rfl hl.1 rfl (lv_room (Nat.le_of_ble_eq_true rfl)) dX1_readRule_126 ⟨Nat.le_of_ble_eq_true rfl, Nat.le_of_ble_eq_true rfl⟩) hS (fun H locs hP hD hS => ?_)
  refine lv_bipush (v := 65) hx hb dX1_readRule_129 (by decide) ?_
  refine lv_isub hx hb dX1_readRule_131 ?_
  refine pm_iast (w := (wY cI cZ cC cJ cA P)) hx hb hK hP hD hS 16 0 gY_16 rfl sY_16 (ix_l h) dX1_readRule_132 (fun M5 eM5 H locs hP hD hS => ?_)
  have h := ix_r h
  have h := lt_o eM5 h
  refine lv_aload_n hx hb dX1_readRule_133 rfl (lv_at hl 0 rfl) ?_
  obtain ⟨M6, r7, hq, h⟩ := cal_o h
  refine cx_i (va_runV (As := []) (rest := []) ⟨hx, hb, hml, hown, hgt⟩ (z_ChipMapModel_takeName l D cI cZ cC cJ cA P s0 hAO M5 M6 r7 hq) (cwV 0 hgt (gV wd_5_227 wd_5_229 sl__ChipMapModel____ChipMapModel___takeName_____Z_____ChipMapModel___takeName_____Z__ wd_0_15 wd_5_230) rfl rfl rfl (by decide +kernel) ⟨Nat.le_of_ble_eq_true rfl, Nat.le_of_ble_eq_true rfl⟩) (prV hP hK hD hO hAO hS (va_recv hK hP (ci := 1) (q0 := 0) rfl gY_0)) rfl rfl hl.1 rfl (lv_room (Nat.le_of_ble_eq_true rfl)) dX1_readRule_134 ⟨Nat.le_of_ble_eq_true rfl, Nat.le_of_ble_eq_true rfl⟩) hS (fun H locs hP hD hS => ?_)
  refine lv_if_ne hx hb dX1_readRule_137 (tgt := 142) rfl (fun hc => ?_) (fun hc => ?_)
  · have h := br_F hc h
    refine lv_aload_n hx hb dX1_readRule_142 rfl (lv_at hl 0 rfl) ?_
    refine va_get (D := D) (ci := 1) (v := .ref (P 17)) (C := RX1) (T := TX1) (N := 76) hx hb hgt iwX1 hown hK hP 0 gY_0 rfl 24 (Nat.le_of_ble_eq_true rfl) (hgt _ wd_4_225) (fun _ h9 => h9) rfl dX1_readRule_143 ?_
    refine lv_iload_n hx hb dX1_readRule_146 rfl (lv_at hl 1 rfl) ?_
    refine lv_iconst (v := 0) hx hb dX1_readRule_147 (by decide) ?_
    refine pm_iast (w := (wY cI cZ cC cJ cA P)) hx hb hK hP hD hS 17 0 gY_17 rfl sY_17 (ix_l h) dX1_readRule_148 (fun M8 eM8 H locs hP hD hS => ?_)
    have h := ix_r h
    have h := lt_o eM8 h
    refine lv_aload_n hx hb dX1_readRule_149 rfl (lv_at hl 0 rfl) ?_
    refine va_get (D := D) (ci := 1) (v := .ref (P 14)) (C := RX1) (T := TX1) (N := 76) hx hb hgt iwX1 hown hK hP 0 gY_0 rfl 21 (Nat.le_of_ble_eq_true rfl) (hgt _ wd_4_222) (fun _ h9 => h9) rfl dX1_readRule_150 ?_
    refine lv_iload_n hx hb dX1_readRule_153 rfl (lv_at hl 1 rfl) ?_
    refine va_iald hx hb hK hP 14 0 gY_14 rfl (ix_l h) dX1_readRule_154 ?_
    have h := ix_r h
    refine lv_bipush (v := 38) hx hb dX1_readRule_155 (by decide) ?_
    refine lv_icmp_ne hx hb dX1_readRule_157 (tgt := 190) rfl (fun hc => ?_) (fun hc => ?_)
    · have h := br_F hc h
      have hl := lv_sub hl [0] (l' := [(0, .ref (P 0))]) rfl
      exact b_ChipMapModel_readRule_190 hx hb hml hr hlk hgt hown hK hO hAO M8 H _ ls hl hP hD hS h
    · have h := br_T hc h
      refine lv_aload_n hx hb dX1_readRule_160 rfl (lv_at hl 0 rfl) ?_
      refine lv_bipush (v := 61) hx hb dX1_readRule_161 (by decide) ?_
      obtain ⟨M9, r10, hq, h⟩ := cal_o h
      refine cx_i (va_runV (As := [.int 61]) (rest := []) ⟨hx, hb, hml, hown, hgt⟩ (z_ChipMapModel_take l D cI cZ cC cJ cA P s0 hAO M8 61 M9 r10 hq) (cwV 1 hgt (gV wd_5_212 wd_5_214 sl__ChipMapModel____ChipMapModel___take____I_Z_____ChipMapModel___take____I_Z__ wd_0_15 wd_5_215) rfl rfl rfl (by decide +kernel) ⟨Nat.le_of_ble_eq_true rfl, Nat.le_of_ble_eq_true rfl⟩) (prV hP hK hD hO hAO hS (va_recv hK hP (ci := 1) (q0 := 0) rfl gY_0)) rfl rfl hl.1 rfl (lv_room (Nat.le_of_ble_eq_true rfl)) dX1_readRule_163 ⟨Nat.le_of_ble_eq_true rfl, Nat.le_of_ble_eq_true rfl⟩) hS (fun H locs hP hD hS => ?_)
      refine lv_if_eq hx hb dX1_readRule_166 (tgt := 178) rfl (fun hc => ?_) (fun hc => ?_)
      · have h := br_T hc h
        refine lv_iconst (v := 0) hx hb dX1_readRule_178 (by decide) ?_
        exact rt_z (w := (wY cI cZ cC cJ cA P)) hx hb hr hlk rfl hP hD hS h dX1_readRule_179
      · have h := br_F hc h
        refine lv_aload_n hx hb dX1_readRule_169 rfl (lv_at hl 0 rfl) ?_
        refine lv_iconst (v := 1) hx hb dX1_readRule_170 (by decide) ?_
        refine lv_iconst (v := 4) hx hb dX1_readRule_171 (by decide) ?_
        obtain ⟨M11, r12, hq, h⟩ := cal_o h
        refine cx_i (va_runV (As := [.int 1, .int 4]) (rest := []) ⟨hx, hb, hml, hown, hgt⟩ (z_ChipMapModel_takeHex l D cI cZ cC cJ cA P s0 hAO M9 1 4 M11 r12 hq) (cwV 2 hgt (gV wd_5_220 wd_5_222 sl__ChipMapModel____ChipMapModel___takeHex____II_Z_____ChipMapModel___takeHex____II_Z__ wd_0_15 wd_5_223) rfl rfl rfl (by decide +kernel) ⟨Nat.le_of_ble_eq_true rfl, Nat.le_of_ble_eq_true rfl⟩) (prV hP hK hD hO hAO hS (va_recv hK hP (ci := 1) (q0 := 0) rfl gY_0)) rfl rfl hl.1 rfl (lv_room (Nat.le_of_ble_eq_true rfl)) dX1_readRule_172 ⟨Nat.le_of_ble_eq_true rfl, Nat.le_of_ble_eq_true rfl⟩) hS (fun H locs hP hD hS => ?_)
        refine lv_if_ne hx hb dX1_readRule_175 (tgt := 180) rfl (fun hc => ?_) (fun hc => ?_)
        · have h := br_F hc h
          refine lv_aload_n hx hb dX1_readRule_180 rfl (lv_at hl 0 rfl) ?_
          refine va_get (D := D) (ci := 1) (v := .ref (P 17)) (C := RX1) (T := TX1) (N := 76) hx hb hgt iwX1 hown hK hP 0 gY_0 rfl 24 (Nat.le_of_ble_eq_true rfl) (hgt _ wd_4_225) (fun _ h9 => h9) rfl dX1_readRule_181 ?_
          refine lv_iload_n hx hb dX1_readRule_184 rfl (lv_at hl 1 rfl) ?_
          refine lv_aload_n hx hb dX1_readRule_185 rfl (lv_at hl 0 rfl) ?_
          refine va_get (D := D) (ci := 1) (v := .int (M11.1 0 70)) (C := RX1) (T := TX1) (N := 76) hx hb hgt iwX1 hown hK hP 0 gY_0 rfl 70 (Nat.le_of_ble_eq_true rfl) (hgt _ wd_5_31) (fun _ h9 => h9) rfl dX1_readRule_186 ?_
          refine pm_iast (w := (wY cI cZ cC cJ cA P)) hx hb hK hP hD hS 17 0 gY_17 rfl sY_17 (ix_l h) dX1_readRule_189 (fun M13 eM13 H locs hP hD hS => ?_)
          have h := ix_r h
          have h := lt_o eM13 h
          have hl := lv_sub hl [0] (l' := [(0, .ref (P 0))]) rfl
          exact b_ChipMapModel_readRule_190 hx hb hml hr hlk hgt hown hK hO hAO M13 H _ ls hl hP hD hS h
        · have h := br_T hc h
          refine lv_iconst (v := 0) hx hb dX1_readRule_178 (by decide) ?_
          exact rt_z (w := (wY cI cZ cC cJ cA P)) hx hb hr hlk rfl hP hD hS h dX1_readRule_179
  · have h := br_T hc h
    refine lv_iconst (v := 0) hx hb dX1_readRule_140 (by decide) ?_
    exact rt_z (w := (wY cI cZ cC cJ cA P)) hx hb hr hlk rfl hP hD hS h dX1_readRule_141
set_option maxHeartbeats 4000000 in
set_option maxRecDepth 20000 in
theorem b_ChipMapModel_readRule_0 {p : Program} {l : Launch} {e : Env} {s s0 : State} {m : MethodId} {args : Array Value} {below : List Frame} {meth : Method} {c : Code} {D : va_G} {cI cZ cC cJ cA : ClassId} {P : Nat → Nat} {M' : Mm} {r' : Int32}  (hx : p.tables.exec = Jvm.exec) (hb : c.code = cX1_readRule) (hml : c.maxLocals = 2) (hr : meth.sig.returnType = (some .boolean)) (hlk : meth.locks = false) (hgt : ∀ w ∈ GT, w.before args s = true) (hown : s.vm.findClass RX1 = some m.cls) (hK : va_K D vwCl [(cI, .int), (cZ, .boolean), (cC, .char), (cJ, .long), (cA, .array .int)] s) (hO : Old s0 s) (hAO : ∀ q, (aP P 51) q → s0.heap.size ≤ q)  : ∀ (M : Mm)  (H : Heap) (locs : List Loc) (ls : Array Slot), lv_has ls 2 [(0, .ref (P 0))] → va_P D vwCl ((wY cI cZ cC cJ cA P) M) H → va_D (aP P 51) ((wY cI cZ cC cJ cA P) M) → va_S (aP P 51) s.heap H locs → q_ChipMapModel_readRule M = some (M', r') → W p l e ({ frames := 2, cells := 0, slots := 0, locals := 45 }) s m args below meth c H locs 0 0 (MQ below (gQi D (aP P 51) ((wY cI cZ cC cJ cA P) M') r') args s 0 0 (aP P 51)) (F0 m 0 ls []) := by
  intro M H locs ls hl hP hD hS h
  unfold q_ChipMapModel_readRule at h
  refine lv_aload_n hx hb dX1_readRule_0 rfl (lv_at hl 0 rfl) ?_
  refine va_get (D := D) (ci := 1) (v := .int (M.1 0 20)) (C := RX1) (T := TX1) (N := 76) hx hb hgt iwX1 hown hK hP 0 gY_0 rfl 20 (Nat.le_of_ble_eq_true rfl) (hgt _ wd_4_221) (fun _ h9 => h9) rfl dX1_readRule_1 ?_
  refine lv_topi (fun x1 ex1 => ?_)
  have h := lt_o ex1 h
  refine lv_istore_n hx hb dX1_readRule_4 rfl hl (Nat.le_of_ble_eq_true rfl) (lv' := [(1, .int x1), (0, .ref (P 0))]) rfl (fun ls hl => ?_)
  refine lv_iload_n hx hb dX1_readRule_5 rfl (lv_at hl 0 rfl) ?_
  refine lv_bipush (v := 12) hx hb dX1_readRule_6 (by decide) ?_
  refine lv_icmp_ne hx hb dX1_readRule_8 (tgt := 21) rfl (fun hc => ?_) (fun hc => ?_)
  · have h := br_F hc h
    refine lv_aload_n hx hb dX1_readRule_21 rfl (lv_at hl 1 rfl) ?_
    refine va_get (D := D) (ci := 1) (v := .ref (P 18)) (C := RX1) (T := TX1) (N := 76) hx hb hgt iwX1 hown hK hP 0 gY_0 rfl 25 (Nat.le_of_ble_eq_true rfl) (hgt _ wd_4_226) (fun _ h9 => h9) rfl dX1_readRule_22 ?_
    refine lv_iload_n hx hb dX1_readRule_25 rfl (lv_at hl 0 rfl) ?_
    refine lv_aload_n hx hb dX1_readRule_26 rfl (lv_at hl 1 rfl) ?_
    refine va_get (D := D) (ci := 1) (v := .int (M.1 0 3)) (C := RX1) (T := TX1) (N := 76) hx hb hgt iwX1 hown hK hP 0 gY_0 rfl 3 (Nat.le_of_ble_eq_true rfl) (hgt _ wd_4_204) (fun _ h9 => h9) rfl dX1_readRule_27 ?_
    refine pm_iast (w := (wY cI cZ cC cJ cA P)) hx hb hK hP hD hS 18 0 gY_18 rfl sY_18 (ix_l h) dX1_readRule_30 (fun M2 eM2 H locs hP hD hS => ?_)
    have h := ix_r h
    have h := lt_o eM2 h
    refine lv_aload_n hx hb dX1_readRule_31 rfl (lv_at hl 1 rfl) ?_
    refine va_get (D := D) (ci := 1) (v := .ref (P 15)) (C := RX1) (T := TX1) (N := 76) hx hb hgt iwX1 hown hK hP 0 gY_0 rfl 22 (Nat.le_of_ble_eq_true rfl) (hgt _ wd_4_223) (fun _ h9 => h9) rfl dX1_readRule_32 ?_
    refine lv_iload_n hx hb dX1_readRule_35 rfl (lv_at hl 0 rfl) ?_
    refine lv_aload_n hx hb dX1_readRule_36 rfl (lv_at hl 1 rfl) ?_
    obtain ⟨M3, r4, hq, h⟩ := cal_o h
    refine cx_i (va_runV (As := []) (rest := [.int x1, .ref (P 15)]) ⟨hx, hb, hml, hown, hgt⟩ (z_ChipMapModel_here l D cI cZ cC cJ cA P s0 hAO M2 M3 r4 hq) (cwV 0 hgt (gV wd_5_216 wd_5_218 sl__ChipMapModel____ChipMapModel___here_____I_____ChipMapModel___here_____I__ wd_0_15 wd_5_219) rfl rfl rfl (by decide +kernel) ⟨Nat.le_of_ble_eq_true rfl, Nat.le_of_ble_eq_true rfl⟩) (prV hP hK hD hO hAO hS (va_recv hK hP (ci := 1) (q0 := 0) rfl gY_0)) rfl rfl hl.1 rfl (lv_room (Nat.le_of_ble_eq_true rfl)) dX1_readRule_37 ⟨Nat.le_of_ble_eq_true rfl, Nat.le_of_ble_eq_true rfl⟩) hS (fun H locs hP hD hS => ?_)
    refine lv_bipush (v := 65) hx hb dX1_readRule_40 (by decide) ?_
    refine lv_isub hx hb dX1_readRule_42 ?_
    refine pm_iast (w := (wY cI cZ cC cJ cA P)) hx hb hK hP hD hS 15 0 gY_15 rfl sY_15 (ix_l h) dX1_readRule_43 (fun M5 eM5 H locs hP hD hS => ?_)
    have h := ix_r h
    have h := lt_o eM5 h
    refine lv_aload_n hx hb dX1_readRule_44 rfl (lv_at hl 1 rfl) ?_
    obtain ⟨M6, r7, hq, h⟩ := cal_o h
    refine cx_i (va_runV (As := []) (rest := []) ⟨hx, hb, hml, hown, hgt⟩ (z_ChipMapModel_takeName l D cI cZ cC cJ cA P s0 hAO M5 M6 r7 hq) (cwV 0 hgt (gV wd_5_227 wd_5_229 sl__ChipMapModel____ChipMapModel___takeName_____Z_____ChipMapModel___takeName_____Z__ wd_0_15 wd_5_230) rfl rfl rfl (by decide +kernel) ⟨Nat.le_of_ble_eq_true rfl, Nat.le_of_ble_eq_true rfl⟩) (prV hP hK hD hO hAO hS (va_recv hK hP (ci := 1) (q0 := 0) rfl gY_0)) rfl rfl hl.1 rfl (lv_room (Nat.le_of_ble_eq_true rfl)) dX1_readRule_45 ⟨Nat.le_of_ble_eq_true rfl, Nat.le_of_ble_eq_true rfl⟩) hS (fun H locs hP hD hS => ?_)
    refine lv_if_ne hx hb dX1_readRule_48 (tgt := 53) rfl (fun hc => ?_) (fun hc => ?_)
    · have h := br_F hc h
      refine lv_aload_n hx hb dX1_readRule_53 rfl (lv_at hl 1 rfl) ?_
      refine va_get (D := D) (ci := 1) (v := .ref (P 14)) (C := RX1) (T := TX1) (N := 76) hx hb hgt iwX1 hown hK hP 0 gY_0 rfl 21 (Nat.le_of_ble_eq_true rfl) (hgt _ wd_4_222) (fun _ h9 => h9) rfl dX1_readRule_54 ?_
      refine lv_iload_n hx hb dX1_readRule_57 rfl (lv_at hl 0 rfl) ?_
      refine lv_aload_n hx hb dX1_readRule_58 rfl (lv_at hl 1 rfl) ?_
      obtain ⟨M8, r9, hq, h⟩ := cal_o h
      refine cx_i (va_runV (As := []) (rest := [.int x1, .ref (P 14)]) ⟨hx, hb, hml, hown, hgt⟩ (z_ChipMapModel_here l D cI cZ cC cJ cA P s0 hAO M6 M8 r9 hq) (cwV 0 hgt (gV wd_5_216 wd_5_218 sl__ChipMapModel____ChipMapModel___here_____I_____ChipMapModel___here_____I__ wd_0_15 wd_5_219) rfl rfl rfl (by decide +kernel) ⟨Nat.le_of_ble_eq_true rfl, Nat.le_of_ble_eq_true rfl⟩) (prV hP hK hD hO hAO hS (va_recv hK hP (ci := 1) (q0 := 0) rfl gY_0)) rfl rfl hl.1 rfl (lv_room (Nat.le_of_ble_eq_true rfl)) dX1_readRule_59 ⟨Nat.le_of_ble_eq_true rfl, Nat.le_of_ble_eq_true rfl⟩) hS (fun H locs hP hD hS => ?_)
      refine pm_iast (w := (wY cI cZ cC cJ cA P)) hx hb hK hP hD hS 14 0 gY_14 rfl sY_14 (ix_l h) dX1_readRule_62 (fun M10 eM10 H locs hP hD hS => ?_)
      have h := ix_r h
      have h := lt_o eM10 h
      refine lv_aload_n hx hb dX1_readRule_63 rfl (lv_at hl 1 rfl) ?_
      obtain ⟨M11, r12, hq, h⟩ := cal_o h
      refine cx_i (va_runV (As := []) (rest := []) ⟨hx, hb, hml, hown, hgt⟩ (z_ChipMapModel_here l D cI cZ cC cJ cA P s0 hAO M10 M11 r12 hq) (cwV 0 hgt (gV wd_5_216 wd_5_218 sl__ChipMapModel____ChipMapModel___here_____I_____ChipMapModel___here_____I__ wd_0_15 wd_5_219) rfl rfl rfl (by decide +kernel) ⟨Nat.le_of_ble_eq_true rfl, Nat.le_of_ble_eq_true rfl⟩) (prV hP hK hD hO hAO hS (va_recv hK hP (ci := 1) (q0 := 0) rfl gY_0)) rfl rfl hl.1 rfl (lv_room (Nat.le_of_ble_eq_true rfl)) dX1_readRule_64 ⟨Nat.le_of_ble_eq_true rfl, Nat.le_of_ble_eq_true rfl⟩) hS (fun H locs hP hD hS => ?_)
      refine lv_bipush (v := 60) hx hb dX1_readRule_67 (by decide) ?_
      refine lv_icmp_eq hx hb dX1_readRule_69 (tgt := 100) rfl (fun hc => ?_) (fun hc => ?_)
      · have h := br_T hc h
        have hl := lv_sub hl [1, 0] (l' := [(0, .ref (P 0)), (1, .int x1)]) rfl
        exact b_ChipMapModel_readRule_100 hx hb hml hr hlk hgt hown hK hO hAO M11 x1 H _ ls hl hP hD hS h
      · have h := br_F hc h
        refine lv_aload_n hx hb dX1_readRule_72 rfl (lv_at hl 1 rfl) ?_
        obtain ⟨M13, r14, hq, h⟩ := cal_o h
        refine cx_i (va_runV (As := []) (rest := []) ⟨hx, hb, hml, hown, hgt⟩ (z_ChipMapModel_here l D cI cZ cC cJ cA P s0 hAO M11 M13 r14 hq) (cwV 0 hgt (gV wd_5_216 wd_5_218 sl__ChipMapModel____ChipMapModel___here_____I_____ChipMapModel___here_____I__ wd_0_15 wd_5_219) rfl rfl rfl (by decide +kernel) ⟨Nat.le_of_ble_eq_true rfl, Nat.le_of_ble_eq_true rfl⟩) (prV hP hK hD hO hAO hS (va_recv hK hP (ci := 1) (q0 := 0) rfl gY_0)) rfl rfl hl.1 rfl (lv_room (Nat.le_of_ble_eq_true rfl)) dX1_readRule_73 ⟨Nat.le_of_ble_eq_true rfl, Nat.le_of_ble_eq_true rfl⟩) hS (fun H locs hP hD hS => ?_)
        refine lv_bipush (v := 38) hx hb dX1_readRule_76 (by decide) ?_
        refine lv_icmp_eq hx hb dX1_readRule_78 (tgt := 100) rfl (fun hc => ?_) (fun hc => ?_)
        · have h := br_T hc h
          have hl := lv_sub hl [1, 0] (l' := [(0, .ref (P 0)), (1, .int x1)]) rfl
          exact b_ChipMapModel_readRule_100 hx hb hml hr hlk hgt hown hK hO hAO M13 x1 H _ ls hl hP hD hS h
        · have h := br_F hc h
          refine lv_aload_n hx hb dX1_readRule_81 rfl (lv_at hl 1 rfl) ?_
          obtain ⟨M15, r16, hq, h⟩ := cal_o h
          refine cx_i (va_runV (As := []) (rest := []) ⟨hx, hb, hml, hown, hgt⟩ (z_ChipMapModel_here l D cI cZ cC cJ cA P s0 hAO M13 M15 r16 hq) (cwV 0 hgt (gV wd_5_216 wd_5_218 sl__ChipMapModel____ChipMapModel___here_____I_____ChipMapModel___here_____I__ wd_0_15 wd_5_219) rfl rfl rfl (by decide +kernel) ⟨Nat.le_of_ble_eq_true rfl, Nat.le_of_ble_eq_true rfl⟩) (prV hP hK hD hO hAO hS (va_recv hK hP (ci := 1) (q0 := 0) rfl gY_0)) rfl rfl hl.1 rfl (lv_room (Nat.le_of_ble_eq_true rfl)) dX1_readRule_82 ⟨Nat.le_of_ble_eq_true rfl, Nat.le_of_ble_eq_true rfl⟩) hS (fun H locs hP hD hS => ?_)
          refine lv_bipush (v := 33) hx hb dX1_readRule_85 (by decide) ?_
          refine lv_icmp_eq hx hb dX1_readRule_87 (tgt := 100) rfl (fun hc => ?_) (fun hc => ?_)
          · have h := br_T hc h
            have hl := lv_sub hl [1, 0] (l' := [(0, .ref (P 0)), (1, .int x1)]) rfl
            exact b_ChipMapModel_readRule_100 hx hb hml hr hlk hgt hown hK hO hAO M15 x1 H _ ls hl hP hD hS h
          · have h := br_F hc h
            refine lv_aload_n hx hb dX1_readRule_90 rfl (lv_at hl 1 rfl) ?_
            refine lv_iconst (v := 1) hx hb dX1_readRule_91 (by decide) ?_
            refine lv_aload_n hx hb dX1_readRule_92 rfl (lv_at hl 1 rfl) ?_
            refine va_get (D := D) (ci := 1) (v := .int (M15.1 0 3)) (C := RX1) (T := TX1) (N := 76) hx hb hgt iwX1 hown hK hP 0 gY_0 rfl 3 (Nat.le_of_ble_eq_true rfl) (hgt _ wd_4_204) (fun _ h9 => h9) rfl dX1_readRule_93 ?_
            obtain ⟨M17, r18, hq, h⟩ := cal_o h
            refine cx_i (va_runV (As := [.int 1, .int (M15.1 0 3)]) (rest := []) ⟨hx, hb, hml, hown, hgt⟩ (z_ChipMapModel_wrong l D cI cZ cC cJ cA P s0 hAO M15 1 (M15.1 0 3) M17 r18 hq) (cwV 2 hgt (gV wd_5_208 wd_5_210 sl__ChipMapModel____ChipMapModel___wrong____II_Z_____ChipMapModel___wrong____II_Z__ wd_0_15 wd_5_211) rfl rfl rfl (by decide +kernel) ⟨Nat.le_of_ble_eq_true rfl, Nat.le_of_ble_eq_true rfl⟩) (prV hP hK hD hO hAO hS (va_recv hK hP (ci := 1) (q0 := 0) rfl gY_0)) rfl rfl hl.1 rfl (lv_room (Nat.le_of_ble_eq_true rfl)) dX1_readRule_96 ⟨Nat.le_of_ble_eq_true rfl, Nat.le_of_ble_eq_true rfl⟩) hS (fun H locs hP hD hS => ?_)
            exact rt_z (w := (wY cI cZ cC cJ cA P)) hx hb hr hlk (bz_l h) hP hD hS (bz_r h) dX1_readRule_99
    · have h := br_T hc h
      refine lv_iconst (v := 0) hx hb dX1_readRule_51 (by decide) ?_
      exact rt_z (w := (wY cI cZ cC cJ cA P)) hx hb hr hlk rfl hP hD hS h dX1_readRule_52
  · have h := br_T hc h
    refine lv_aload_n hx hb dX1_readRule_11 rfl (lv_at hl 1 rfl) ?_
    refine lv_iconst (v := 1) hx hb dX1_readRule_12 (by decide) ?_
    refine lv_aload_n hx hb dX1_readRule_13 rfl (lv_at hl 1 rfl) ?_
    refine va_get (D := D) (ci := 1) (v := .int (M.1 0 3)) (C := RX1) (T := TX1) (N := 76) hx hb hgt iwX1 hown hK hP 0 gY_0 rfl 3 (Nat.le_of_ble_eq_true rfl) (hgt _ wd_4_204) (fun _ h9 => h9) rfl dX1_readRule_14 ?_
    obtain ⟨M2, r3, hq, h⟩ := cal_o h
    refine cx_i (va_runV (As := [.int 1, .int (M.1 0 3)]) (rest := []) ⟨hx, hb, hml, hown, hgt⟩ (z_ChipMapModel_wrong l D cI cZ cC cJ cA P s0 hAO M 1 (M.1 0 3) M2 r3 hq) (cwV 2 hgt (gV wd_5_208 wd_5_210 sl__ChipMapModel____ChipMapModel___wrong____II_Z_____ChipMapModel___wrong____II_Z__ wd_0_15 wd_5_211) rfl rfl rfl (by decide +kernel) ⟨Nat.le_of_ble_eq_true rfl, Nat.le_of_ble_eq_true rfl⟩) (prV hP hK hD hO hAO hS (va_recv hK hP (ci := 1) (q0 := 0) rfl gY_0)) rfl rfl hl.1 rfl (lv_room (Nat.le_of_ble_eq_true rfl)) dX1_readRule_17 ⟨Nat.le_of_ble_eq_true rfl, Nat.le_of_ble_eq_true rfl⟩) hS (fun H locs hP hD hS => ?_)
    exact rt_z (w := (wY cI cZ cC cJ cA P)) hx hb hr hlk (bz_l h) hP hD hS (bz_r h) dX1_readRule_20
set_option maxHeartbeats 4000000 in
set_option maxRecDepth 20000 in
theorem z_ChipMapModel_readRule (l : Launch) (D : va_G) (cI cZ cC cJ cA : ClassId) (P : Nat → Nat) (s0 : State) (hAO : ∀ q, (aP P 51) q → s0.heap.size ≤ q) (M : Mm)  (M' : Mm) (r' : Int32) (h : q_ChipMapModel_readRule M = some (M', r')) : Met l yX1_readRule wsX1_readRule ({ frames := 2, cells := 0, slots := 0, locals := 45 }) (va_Pc [.ref (P 0)] (gPre s0 D [(cI, .int), (cZ, .boolean), (cC, .char), (cJ, .long), (cA, .array .int)] (aP P 51) ((wY cI cZ cC cJ cA P) M))) (gQi D (aP P 51) ((wY cI cZ cC cJ cA P) M') r') 0 0 (aP P 51) := by
  refine Met.ofW (cc := cX1_readRule) (maxL := 2) (ret := (some .boolean)) (by decide) rfl ?_
  intro p e s m args below meth c s₁ B hml hv
  obtain ⟨rfl, hP, hK, hD, hO⟩ := hv
  have hx := B.exec
  have hb := B.bytes
  have hr := B.returns
  have hlk := B.notSynchronized
  have hgt := fun w (h : w ∈ GT) => atoms_spec (ws := wsX1_readRule) B.pre w (List.mem_cons_of_mem _ h)
  have hown : s.vm.findClass RX1 = some m.cls := findClass_of_methodNamed B.named
  have hS : va_S (aP P 51) s.heap s.heap [] := va_S.rf
  have hl := lv_entry ([.ref (P 0)]) (n := 2) (Nat.le_of_ble_eq_true rfl)
  rw [lg_entry_eq]
  generalize (lg_sl ([.ref (P 0)]) ++ List.replicate (2 - (lg_sl ([.ref (P 0)])).length) Slot.unset).toArray = ls at hl ⊢
  have hl : lv_has ls 2 [(0, .ref (P 0))] := hl
  exact b_ChipMapModel_readRule_0 hx hb hml hr hlk hgt hown hK hO hAO M s.heap [] ls hl hP hD hS h
def q_ChipMapModel_named_2  : Nat → Mm → Int32 → Int32 → Int32 → Rs
  | 0, _, _, _, _ => none
  | n' + 1, M, v1, v2, v3 => if v2 ≤ v3 then (some (M, (-1))) else (ix v3 140 <| if (M.1 7 (v3 : Int32).toNatClampNeg) = v1 then (some (M, v3)) else (q_ChipMapModel_named_2 n' M v1 v2 (v3 + 1)))
def q_ChipMapModel_named  (M : Mm) (a1 : Int32) (a2 : Int32) : Rs := q_ChipMapModel_named_2 4000 M a1 a2 0
set_option maxHeartbeats 4000000 in
set_option maxRecDepth 20000 in
theorem b_ChipMapModel_named_2 {p : Program} {l : Launch} {e : Env} {s s0 : State} {m : MethodId} {args : Array Value} {below : List Frame} {meth : Method} {c : Code} {D : va_G} {cI cZ cC cJ cA : ClassId} {P : Nat → Nat} {M' : Mm} {r' : Int32}  (hx : p.tables.exec = Jvm.exec) (hb : c.code = cX1_named) (hml : c.maxLocals = 4) (hr : meth.sig.returnType = (some .int)) (hlk : meth.locks = false) (hgt : ∀ w ∈ GT, w.before args s = true) (hown : s.vm.findClass RX1 = some m.cls) (hK : va_K D vwCl [(cI, .int), (cZ, .boolean), (cC, .char), (cJ, .long), (cA, .array .int)] s) (hO : Old s0 s) (hAO : ∀ q, (aP P 51) q → s0.heap.size ≤ q)  : ∀ (n' : Nat) (M : Mm) (v1 : Int32) (v2 : Int32) (v3 : Int32) (H : Heap) (locs : List Loc) (ls : Array Slot), lv_has ls 4 [(0, .ref (P 0)), (1, .int v1), (2, .int v2), (3, .int v3)] → va_P D vwCl ((wY cI cZ cC cJ cA P) M) H → va_D (aP P 51) ((wY cI cZ cC cJ cA P) M) → va_S (aP P 51) s.heap H locs → q_ChipMapModel_named_2 n' M v1 v2 v3 = some (M', r') → W p l e ({ frames := 0, cells := 0, slots := 0, locals := 0 }) s m args below meth c H locs 0 0 (MQ below (gQi D (aP P 51) ((wY cI cZ cC cJ cA P) M') r') args s 0 0 (aP P 51)) (F0 m 2 ls []) := by
  intro n'
  induction n' with
  | zero => exact fun _ _ _ _ _ _ _ _ _ _ _ h => (rs_n h).elim
  | succ n' ih =>
    intro M v1 v2 v3 H locs ls hl hP hD hS h
    rw [q_ChipMapModel_named_2] at h
    refine lv_iload_n hx hb dX1_named_2 rfl (lv_at hl 3 rfl) ?_
    refine lv_iload_n hx hb dX1_named_3 rfl (lv_at hl 2 rfl) ?_
    refine lv_icmp_ge hx hb dX1_named_4 (tgt := 25) rfl (fun hc => ?_) (fun hc => ?_)
    · have h := br_T hc h
      refine lv_iconst (v := (-1)) hx hb dX1_named_25 (by decide) ?_
      exact rt_i (w := (wY cI cZ cC cJ cA P)) hx hb hr hlk hP hD hS h dX1_named_26
    · have h := br_F hc h
      refine lv_aload_n hx hb dX1_named_7 rfl (lv_at hl 0 rfl) ?_
      refine va_get (D := D) (ci := 1) (v := .ref (P 7)) (C := RX1) (T := TX1) (N := 76) hx hb hgt iwX1 hown hK hP 0 gY_0 rfl 13 (Nat.le_of_ble_eq_true rfl) (hgt _ wd_4_214) (fun _ h9 => h9) rfl dX1_named_8 ?_
      refine lv_iload_n hx hb dX1_named_11 rfl (lv_at hl 3 rfl) ?_
      refine va_iald hx hb hK hP 7 0 gY_7 rfl (ix_l h) dX1_named_12 ?_
      have h := ix_r h
      refine lv_iload_n hx hb dX1_named_13 rfl (lv_at hl 1 rfl) ?_
      refine lv_icmp_ne hx hb dX1_named_14 (tgt := 19) rfl (fun hc => ?_) (fun hc => ?_)
      · have h := br_F hc h
        refine lv_iinc (v := (v3 + 1)) hx hb dX1_named_19 hl (k := 3) rfl rfl (Nat.le_of_ble_eq_true rfl) (lv' := [(3, .int (v3 + 1)), (0, .ref (P 0)), (1, .int v1), (2, .int v2)]) rfl (fun ls hl => ?_)
        refine lv_goto hx hb dX1_named_22 (tgt := 2) rfl ?_
        have hl := lv_sub hl [1, 2, 3, 0] (l' := [(0, .ref (P 0)), (1, .int v1), (2, .int v2), (3, .int (v3 + 1))]) rfl
        exact ih M v1 v2 (v3 + 1) H locs ls hl hP hD hS h
      · have h := br_T hc h
        refine lv_iload_n hx hb dX1_named_17 rfl (lv_at hl 3 rfl) ?_
        exact rt_i (w := (wY cI cZ cC cJ cA P)) hx hb hr hlk hP hD hS h dX1_named_18
set_option maxHeartbeats 4000000 in
set_option maxRecDepth 20000 in
theorem b_ChipMapModel_named_0 {p : Program} {l : Launch} {e : Env} {s s0 : State} {m : MethodId} {args : Array Value} {below : List Frame} {meth : Method} {c : Code} {D : va_G} {cI cZ cC cJ cA : ClassId} {P : Nat → Nat} {M' : Mm} {r' : Int32}  (hx : p.tables.exec = Jvm.exec) (hb : c.code = cX1_named) (hml : c.maxLocals = 4) (hr : meth.sig.returnType = (some .int)) (hlk : meth.locks = false) (hgt : ∀ w ∈ GT, w.before args s = true) (hown : s.vm.findClass RX1 = some m.cls) (hK : va_K D vwCl [(cI, .int), (cZ, .boolean), (cC, .char), (cJ, .long), (cA, .array .int)] s) (hO : Old s0 s) (hAO : ∀ q, (aP P 51) q → s0.heap.size ≤ q)  : ∀ (M : Mm) (a1 : Int32) (a2 : Int32) (H : Heap) (locs : List Loc) (ls : Array Slot), lv_has ls 4 [(0, .ref (P 0)), (1, .int a1), (2, .int a2)] → va_P D vwCl ((wY cI cZ cC cJ cA P) M) H → va_D (aP P 51) ((wY cI cZ cC cJ cA P) M) → va_S (aP P 51) s.heap H locs → q_ChipMapModel_named M a1 a2 = some (M', r') → W p l e ({ frames := 0, cells := 0, slots := 0, locals := 0 }) s m args below meth c H locs 0 0 (MQ below (gQi D (aP P 51) ((wY cI cZ cC cJ cA P) M') r') args s 0 0 (aP P 51)) (F0 m 0 ls []) := by
  intro M a1 a2 H locs ls hl hP hD hS h
  unfold q_ChipMapModel_named at h
  refine lv_iconst (v := 0) hx hb dX1_named_0 (by decide) ?_
  refine lv_istore_n hx hb dX1_named_1 rfl hl (Nat.le_of_ble_eq_true rfl) (lv' := [(3, .int 0), (0, .ref (P 0)), (1, .int a1), (2, .int a2)]) rfl (fun ls hl => ?_)
  have hl := lv_sub hl [1, 2, 3, 0] (l' := [(0, .ref (P 0)), (1, .int a1), (2, .int a2), (3, .int 0)]) rfl
  exact b_ChipMapModel_named_2 hx hb hml hr hlk hgt hown hK hO hAO 4000 M a1 a2 0 H _ ls hl hP hD hS h
set_option maxHeartbeats 4000000 in
set_option maxRecDepth 20000 in
theorem z_ChipMapModel_named (l : Launch) (D : va_G) (cI cZ cC cJ cA : ClassId) (P : Nat → Nat) (s0 : State) (hAO : ∀ q, (aP P 51) q → s0.heap.size ≤ q) (M : Mm) (a1 : Int32) (a2 : Int32) (M' : Mm) (r' : Int32) (h : q_ChipMapModel_named M a1 a2 = some (M', r')) : Met l yX1_named wsX1_named ({ frames := 0, cells := 0, slots := 0, locals := 0 }) (va_Pc [.ref (P 0), .int a1, .int a2] (gPre s0 D [(cI, .int), (cZ, .boolean), (cC, .char), (cJ, .long), (cA, .array .int)] (aP P 51) ((wY cI cZ cC cJ cA P) M))) (gQi D (aP P 51) ((wY cI cZ cC cJ cA P) M') r') 0 0 (aP P 51) := by
  refine Met.ofW (cc := cX1_named) (maxL := 4) (ret := (some .int)) (by decide) rfl ?_
  intro p e s m args below meth c s₁ B hml hv
  obtain ⟨rfl, hP, hK, hD, hO⟩ := hv
  have hx := B.exec
  have hb := B.bytes
  have hr := B.returns
  have hlk := B.notSynchronized
  have hgt := fun w (h : w ∈ GT) => atoms_spec (ws := wsX1_named) B.pre w (List.mem_cons_of_mem _ h)
  have hown : s.vm.findClass RX1 = some m.cls := findClass_of_methodNamed B.named
  have hS : va_S (aP P 51) s.heap s.heap [] := va_S.rf
  have hl := lv_entry ([.ref (P 0), .int a1, .int a2]) (n := 4) (Nat.le_of_ble_eq_true rfl)
  rw [lg_entry_eq]
  generalize (lg_sl ([.ref (P 0), .int a1, .int a2]) ++ List.replicate (4 - (lg_sl ([.ref (P 0), .int a1, .int a2])).length) Slot.unset).toArray = ls at hl ⊢
  have hl : lv_has ls 4 [(0, .ref (P 0)), (1, .int a1), (2, .int a2)] := hl
  exact b_ChipMapModel_named_0 hx hb hml hr hlk hgt hown hK hO hAO M a1 a2 s.heap [] ls hl hP hD hS h
def q_ChipMapModel_fits  (M : Mm) (a1 : Int32) (a2 : Int32) : Rs := ix a1 140 <| ix a1 140 <| if ((a2 : Int32) >>> ((((M.1 9 (a1 : Int32).toNatClampNeg) - (M.1 10 (a1 : Int32).toNatClampNeg)) + 1) &&& 31)) = 0 then (some (M, 1)) else (some (M, 0))
set_option maxHeartbeats 4000000 in
set_option maxRecDepth 20000 in
theorem b_ChipMapModel_fits_0 {p : Program} {l : Launch} {e : Env} {s s0 : State} {m : MethodId} {args : Array Value} {below : List Frame} {meth : Method} {c : Code} {D : va_G} {cI cZ cC cJ cA : ClassId} {P : Nat → Nat} {M' : Mm} {r' : Int32}  (hx : p.tables.exec = Jvm.exec) (hb : c.code = cX1_fits) (hml : c.maxLocals = 3) (hr : meth.sig.returnType = (some .boolean)) (hlk : meth.locks = false) (hgt : ∀ w ∈ GT, w.before args s = true) (hown : s.vm.findClass RX1 = some m.cls) (hK : va_K D vwCl [(cI, .int), (cZ, .boolean), (cC, .char), (cJ, .long), (cA, .array .int)] s) (hO : Old s0 s) (hAO : ∀ q, (aP P 51) q → s0.heap.size ≤ q)  : ∀ (M : Mm) (a1 : Int32) (a2 : Int32) (H : Heap) (locs : List Loc) (ls : Array Slot), lv_has ls 3 [(0, .ref (P 0)), (1, .int a1), (2, .int a2)] → va_P D vwCl ((wY cI cZ cC cJ cA P) M) H → va_D (aP P 51) ((wY cI cZ cC cJ cA P) M) → va_S (aP P 51) s.heap H locs → q_ChipMapModel_fits M a1 a2 = some (M', r') → W p l e ({ frames := 0, cells := 0, slots := 0, locals := 0 }) s m args below meth c H locs 0 0 (MQ below (gQi D (aP P 51) ((wY cI cZ cC cJ cA P) M') r') args s 0 0 (aP P 51)) (F0 m 0 ls []) := by
  intro M a1 a2 H locs ls hl hP hD hS h
  unfold q_ChipMapModel_fits at h
  refine lv_iload_n hx hb dX1_fits_0 rfl (lv_at hl 2 rfl) ?_
  refine lv_aload_n hx hb dX1_fits_1 rfl (lv_at hl 0 rfl) ?_
  refine va_get (D := D) (ci := 1) (v := .ref (P 9)) (C := RX1) (T := TX1) (N := 76) hx hb hgt iwX1 hown hK hP 0 gY_0 rfl 15 (Nat.le_of_ble_eq_true rfl) (hgt _ wd_4_216) (fun _ h9 => h9) rfl dX1_fits_2 ?_
  refine lv_iload_n hx hb dX1_fits_5 rfl (lv_at hl 1 rfl) ?_
  refine va_iald hx hb hK hP 9 0 gY_9 rfl (ix_l h) dX1_fits_6 ?_
  have h := ix_r h
  refine lv_aload_n hx hb dX1_fits_7 rfl (lv_at hl 0 rfl) ?_
  refine va_get (D := D) (ci := 1) (v := .ref (P 10)) (C := RX1) (T := TX1) (N := 76) hx hb hgt iwX1 hown hK hP 0 gY_0 rfl 16 (Nat.le_of_ble_eq_true rfl) (hgt _ wd_4_217) (fun _ h9 => h9) rfl dX1_fits_8 ?_
  refine lv_iload_n hx hb dX1_fits_11 rfl (lv_at hl 1 rfl) ?_
  refine va_iald hx hb hK hP 10 0 gY_10 rfl (ix_l h) dX1_fits_12 ?_
  have h := ix_r h
  refine lv_isub hx hb dX1_fits_13 ?_
  refine lv_iconst (v := 1) hx hb dX1_fits_14 (by decide) ?_
  refine lv_iadd hx hb dX1_fits_15 ?_
  refine lv_ishr hx hb dX1_fits_16 ?_
  refine lv_if_ne hx hb dX1_fits_17 (tgt := 24) rfl (fun hc => ?_) (fun hc => ?_)
  · have h := br_F hc h
    refine lv_iconst (v := 0) hx hb dX1_fits_24 (by decide) ?_
    exact rt_z (w := (wY cI cZ cC cJ cA P)) hx hb hr hlk rfl hP hD hS h dX1_fits_25
  · have h := br_T hc h
    refine lv_iconst (v := 1) hx hb dX1_fits_20 (by decide) ?_
    refine lv_goto hx hb dX1_fits_21 (tgt := 25) rfl ?_
    exact rt_z (w := (wY cI cZ cC cJ cA P)) hx hb hr hlk rfl hP hD hS h dX1_fits_25
set_option maxHeartbeats 4000000 in
set_option maxRecDepth 20000 in
theorem z_ChipMapModel_fits (l : Launch) (D : va_G) (cI cZ cC cJ cA : ClassId) (P : Nat → Nat) (s0 : State) (hAO : ∀ q, (aP P 51) q → s0.heap.size ≤ q) (M : Mm) (a1 : Int32) (a2 : Int32) (M' : Mm) (r' : Int32) (h : q_ChipMapModel_fits M a1 a2 = some (M', r')) : Met l yX1_fits wsX1_fits ({ frames := 0, cells := 0, slots := 0, locals := 0 }) (va_Pc [.ref (P 0), .int a1, .int a2] (gPre s0 D [(cI, .int), (cZ, .boolean), (cC, .char), (cJ, .long), (cA, .array .int)] (aP P 51) ((wY cI cZ cC cJ cA P) M))) (gQi D (aP P 51) ((wY cI cZ cC cJ cA P) M') r') 0 0 (aP P 51) := by
  refine Met.ofW (cc := cX1_fits) (maxL := 3) (ret := (some .boolean)) (by decide) rfl ?_
  intro p e s m args below meth c s₁ B hml hv
  obtain ⟨rfl, hP, hK, hD, hO⟩ := hv
  have hx := B.exec
  have hb := B.bytes
  have hr := B.returns
  have hlk := B.notSynchronized
  have hgt := fun w (h : w ∈ GT) => atoms_spec (ws := wsX1_fits) B.pre w (List.mem_cons_of_mem _ h)
  have hown : s.vm.findClass RX1 = some m.cls := findClass_of_methodNamed B.named
  have hS : va_S (aP P 51) s.heap s.heap [] := va_S.rf
  have hl := lv_entry ([.ref (P 0), .int a1, .int a2]) (n := 3) (Nat.le_of_ble_eq_true rfl)
  rw [lg_entry_eq]
  generalize (lg_sl ([.ref (P 0), .int a1, .int a2]) ++ List.replicate (3 - (lg_sl ([.ref (P 0), .int a1, .int a2])).length) Slot.unset).toArray = ls at hl ⊢
  have hl : lv_has ls 3 [(0, .ref (P 0)), (1, .int a1), (2, .int a2)] := hl
  exact b_ChipMapModel_fits_0 hx hb hml hr hlk hgt hown hK hO hAO M a1 a2 s.heap [] ls hl hP hD hS h
def q_ChipMapModel_fieldsRight_149 (kf2 : Mm → Int32 → Rs) (M : Mm) (v1 : Int32) (v2 : Int32) : Rs := if v2 = 0 then (ix v1 140 <| cal (q_ChipMapModel_wrong M 2 (M.1 13 (v1 : Int32).toNatClampNeg)) fun M1 r2 => bz r2 (some (M1, r2))) else (kf2 M (v1 + 1))
def q_ChipMapModel_fieldsRight_142 (kf2 : Mm → Int32 → Rs) (kf83 : Mm → Int32 → Int32 → Int32 → Rs) (M : Mm) (v1 : Int32) (v3 : Int32) (t0 : Int32) : Rs := kf83 M v1 t0 (v3 + 1)
def q_ChipMapModel_fieldsRight_137 (kf2 : Mm → Int32 → Rs) (kf83 : Mm → Int32 → Int32 → Int32 → Rs) (M : Mm) (v1 : Int32) (v3 : Int32) : Rs := q_ChipMapModel_fieldsRight_142 kf2 kf83 M v1 v3 1
def q_ChipMapModel_fieldsRight_83 (kf2 : Mm → Int32 → Rs) : Nat → Mm → Int32 → Int32 → Int32 → Rs
  | 0, _, _, _, _ => none
  | n' + 1, M, v1, v2, v3 => if v1 ≤ v3 then (q_ChipMapModel_fieldsRight_149 kf2 M v1 v2) else (if v2 = 0 then (q_ChipMapModel_fieldsRight_149 kf2 M v1 v2) else (ix v3 140 <| ix v1 140 <| if (M.1 12 (v3 : Int32).toNatClampNeg) = (M.1 12 (v1 : Int32).toNatClampNeg) then (ix v3 140 <| ix v1 140 <| if (M.1 9 (v3 : Int32).toNatClampNeg) < (M.1 10 (v1 : Int32).toNatClampNeg) then (q_ChipMapModel_fieldsRight_137 kf2 (q_ChipMapModel_fieldsRight_83 kf2 n') M v1 v3) else (ix v3 140 <| ix v1 140 <| if (M.1 10 (v3 : Int32).toNatClampNeg) ≤ (M.1 9 (v1 : Int32).toNatClampNeg) then (q_ChipMapModel_fieldsRight_142 kf2 (q_ChipMapModel_fieldsRight_83 kf2 n') M v1 v3 0) else (q_ChipMapModel_fieldsRight_137 kf2 (q_ChipMapModel_fieldsRight_83 kf2 n') M v1 v3))) else (q_ChipMapModel_fieldsRight_137 kf2 (q_ChipMapModel_fieldsRight_83 kf2 n') M v1 v3)))
def q_ChipMapModel_fieldsRight_80 (kf2 : Mm → Int32 → Rs) (M : Mm) (v1 : Int32) (t0 : Int32) : Rs := q_ChipMapModel_fieldsRight_83 kf2 4000 M v1 t0 0
def q_ChipMapModel_fieldsRight_79 (kf2 : Mm → Int32 → Rs) (M : Mm) (v1 : Int32) : Rs := q_ChipMapModel_fieldsRight_80 kf2 M v1 0
def q_ChipMapModel_fieldsRight_56 (kf2 : Mm → Int32 → Rs) (M : Mm) (v1 : Int32) (t0 : Int32) : Rs := if t0 = 0 then (q_ChipMapModel_fieldsRight_79 kf2 M v1) else (ix v1 140 <| cal (q_ChipMapModel_fits M v1 (M.1 11 (v1 : Int32).toNatClampNeg)) fun M1 r2 => if r2 = 0 then (q_ChipMapModel_fieldsRight_79 kf2 M1 v1) else (q_ChipMapModel_fieldsRight_80 kf2 M1 v1 1))
def q_ChipMapModel_fieldsRight_55 (kf2 : Mm → Int32 → Rs) (M : Mm) (v1 : Int32) : Rs := q_ChipMapModel_fieldsRight_56 kf2 M v1 0
def q_ChipMapModel_fieldsRight_2  : Nat → Mm → Int32 → Rs
  | 0, _, _ => none
  | n' + 1, M, v1 => if (M.1 0 12) ≤ v1 then (some (M, 1)) else (ix v1 140 <| cal (q_ChipMapModel_named M (M.1 7 (v1 : Int32).toNatClampNeg) v1) fun M1 r2 => if r2 = (-1) then (ix v1 140 <| if 15 < (M1.1 9 (v1 : Int32).toNatClampNeg) then (q_ChipMapModel_fieldsRight_55 (q_ChipMapModel_fieldsRight_2 n') M1 v1) else (ix v1 140 <| ix v1 140 <| if (M1.1 9 (v1 : Int32).toNatClampNeg) < (M1.1 10 (v1 : Int32).toNatClampNeg) then (q_ChipMapModel_fieldsRight_55 (q_ChipMapModel_fieldsRight_2 n') M1 v1) else (q_ChipMapModel_fieldsRight_56 (q_ChipMapModel_fieldsRight_2 n') M1 v1 1))) else (q_ChipMapModel_fieldsRight_55 (q_ChipMapModel_fieldsRight_2 n') M1 v1))
def q_ChipMapModel_fieldsRight  (M : Mm)  : Rs := q_ChipMapModel_fieldsRight_2 4000 M 0
set_option maxHeartbeats 4000000 in
set_option maxRecDepth 20000 in
theorem b_ChipMapModel_fieldsRight_149 {p : Program} {l : Launch} {e : Env} {s s0 : State} {m : MethodId} {args : Array Value} {below : List Frame} {meth : Method} {c : Code} {D : va_G} {cI cZ cC cJ cA : ClassId} {P : Nat → Nat} {M' : Mm} {r' : Int32} {kf2 : Mm → Int32 → Rs} (hx : p.tables.exec = Jvm.exec) (hb : c.code = cX1_fieldsRight) (hml : c.maxLocals = 4) (hr : meth.sig.returnType = (some .boolean)) (hlk : meth.locks = false) (hgt : ∀ w ∈ GT, w.before args s = true) (hown : s.vm.findClass RX1 = some m.cls) (hK : va_K D vwCl [(cI, .int), (cZ, .boolean), (cC, .char), (cJ, .long), (cA, .array .int)] s) (hO : Old s0 s) (hAO : ∀ q, (aP P 51) q → s0.heap.size ≤ q) (kk2 : ∀ (M : Mm) (v1 : Int32) (H : Heap) (locs : List Loc) (ls : Array Slot), lv_has ls 4 [(0, .ref (P 0)), (1, .int v1)] → va_P D vwCl ((wY cI cZ cC cJ cA P) M) H → va_D (aP P 51) ((wY cI cZ cC cJ cA P) M) → va_S (aP P 51) s.heap H locs → kf2 M v1 = some (M', r') → W p l e ({ frames := 1, cells := 0, slots := 0, locals := 23 }) s m args below meth c H locs 0 0 (MQ below (gQi D (aP P 51) ((wY cI cZ cC cJ cA P) M') r') args s 0 0 (aP P 51)) (F0 m 2 ls [])) : ∀ (M : Mm) (v1 : Int32) (v2 : Int32) (H : Heap) (locs : List Loc) (ls : Array Slot), lv_has ls 4 [(0, .ref (P 0)), (1, .int v1), (2, .int v2)] → va_P D vwCl ((wY cI cZ cC cJ cA P) M) H → va_D (aP P 51) ((wY cI cZ cC cJ cA P) M) → va_S (aP P 51) s.heap H locs → q_ChipMapModel_fieldsRight_149 kf2 M v1 v2 = some (M', r') → W p l e ({ frames := 1, cells := 0, slots := 0, locals := 23 }) s m args below meth c H locs 0 0 (MQ below (gQi D (aP P 51) ((wY cI cZ cC cJ cA P) M') r') args s 0 0 (aP P 51)) (F0 m 149 ls []) := by
  intro M v1 v2 H locs ls hl hP hD hS h
  unfold q_ChipMapModel_fieldsRight_149 at h
  refine lv_iload_n hx hb dX1_fieldsRight_149 rfl (lv_at hl 2 rfl) ?_
  refine lv_if_ne hx hb dX1_fieldsRight_150 (tgt := 165) rfl (fun hc => ?_) (fun hc => ?_)
  · have h := br_F hc h
    refine lv_iinc (v := (v1 + 1)) hx hb dX1_fieldsRight_165 hl (k := 1) rfl rfl (Nat.le_of_ble_eq_true rfl) (lv' := [(1, .int (v1 + 1)), (0, .ref (P 0)), (2, .int v2)]) rfl (fun ls hl => ?_)
    refine lv_goto hx hb dX1_fieldsRight_168 (tgt := 2) rfl ?_
    have hl := lv_sub hl [1, 0] (l' := [(0, .ref (P 0)), (1, .int (v1 + 1))]) rfl
    exact kk2 M (v1 + 1) H locs ls hl hP hD hS h
  · have h := br_T hc h
    refine lv_aload_n hx hb dX1_fieldsRight_153 rfl (lv_at hl 0 rfl) ?_
    refine lv_iconst (v := 2) hx hb dX1_fieldsRight_154 (by decide) ?_
    refine lv_aload_n hx hb dX1_fieldsRight_155 rfl (lv_at hl 0 rfl) ?_
    refine va_get (D := D) (ci := 1) (v := .ref (P 13)) (C := RX1) (T := TX1) (N := 76) hx hb hgt iwX1 hown hK hP 0 gY_0 rfl 19 (Nat.le_of_ble_eq_true rfl) (hgt _ wd_4_220) (fun _ h9 => h9) rfl dX1_fieldsRight_156 ?_
    refine lv_iload_n hx hb dX1_fieldsRight_159 rfl (lv_at hl 1 rfl) ?_
    refine va_iald hx hb hK hP 13 0 gY_13 rfl (ix_l h) dX1_fieldsRight_160 ?_
    have h := ix_r h
    obtain ⟨M1, r2, hq, h⟩ := cal_o h
    refine cx_i (va_runV (As := [.int 2, .int (M.1 13 (v1 : Int32).toNatClampNeg)]) (rest := []) ⟨hx, hb, hml, hown, hgt⟩ (z_ChipMapModel_wrong l D cI cZ cC cJ cA P s0 hAO M 2 (M.1 13 (v1 : Int32).toNatClampNeg) M1 r2 hq) (cwV 2 hgt (gV wd_5_208 wd_5_210 sl__ChipMapModel____ChipMapModel___wrong____II_Z_____ChipMapModel___wrong____II_Z__ wd_0_15 wd_5_211) rfl rfl rfl (by decide +kernel) ⟨Nat.le_of_ble_eq_true rfl, Nat.le_of_ble_eq_true rfl⟩) (prV hP hK hD hO hAO hS (va_recv hK hP (ci := 1) (q0 := 0) rfl gY_0)) rfl rfl hl.1 rfl (lv_room (Nat.le_of_ble_eq_true rfl)) dX1_fieldsRight_161 ⟨Nat.le_of_ble_eq_true rfl, Nat.le_of_ble_eq_true rfl⟩) hS (fun H locs hP hD hS => ?_)
    exact rt_z (w := (wY cI cZ cC cJ cA P)) hx hb hr hlk (bz_l h) hP hD hS (bz_r h) dX1_fieldsRight_164
set_option maxHeartbeats 4000000 in
set_option maxRecDepth 20000 in
theorem b_ChipMapModel_fieldsRight_142 {p : Program} {l : Launch} {e : Env} {s s0 : State} {m : MethodId} {args : Array Value} {below : List Frame} {meth : Method} {c : Code} {D : va_G} {cI cZ cC cJ cA : ClassId} {P : Nat → Nat} {M' : Mm} {r' : Int32} {kf2 : Mm → Int32 → Rs} {kf83 : Mm → Int32 → Int32 → Int32 → Rs} (hx : p.tables.exec = Jvm.exec) (hb : c.code = cX1_fieldsRight) (hml : c.maxLocals = 4) (hr : meth.sig.returnType = (some .boolean)) (hlk : meth.locks = false) (hgt : ∀ w ∈ GT, w.before args s = true) (hown : s.vm.findClass RX1 = some m.cls) (hK : va_K D vwCl [(cI, .int), (cZ, .boolean), (cC, .char), (cJ, .long), (cA, .array .int)] s) (hO : Old s0 s) (hAO : ∀ q, (aP P 51) q → s0.heap.size ≤ q) (kk2 : ∀ (M : Mm) (v1 : Int32) (H : Heap) (locs : List Loc) (ls : Array Slot), lv_has ls 4 [(0, .ref (P 0)), (1, .int v1)] → va_P D vwCl ((wY cI cZ cC cJ cA P) M) H → va_D (aP P 51) ((wY cI cZ cC cJ cA P) M) → va_S (aP P 51) s.heap H locs → kf2 M v1 = some (M', r') → W p l e ({ frames := 1, cells := 0, slots := 0, locals := 23 }) s m args below meth c H locs 0 0 (MQ below (gQi D (aP P 51) ((wY cI cZ cC cJ cA P) M') r') args s 0 0 (aP P 51)) (F0 m 2 ls [])) (kk83 : ∀ (M : Mm) (v1 : Int32) (v2 : Int32) (v3 : Int32) (H : Heap) (locs : List Loc) (ls : Array Slot), lv_has ls 4 [(0, .ref (P 0)), (1, .int v1), (2, .int v2), (3, .int v3)] → va_P D vwCl ((wY cI cZ cC cJ cA P) M) H → va_D (aP P 51) ((wY cI cZ cC cJ cA P) M) → va_S (aP P 51) s.heap H locs → kf83 M v1 v2 v3 = some (M', r') → W p l e ({ frames := 1, cells := 0, slots := 0, locals := 23 }) s m args below meth c H locs 0 0 (MQ below (gQi D (aP P 51) ((wY cI cZ cC cJ cA P) M') r') args s 0 0 (aP P 51)) (F0 m 83 ls [])) : ∀ (M : Mm) (v1 : Int32) (v3 : Int32) (t0 : Int32) (H : Heap) (locs : List Loc) (ls : Array Slot), lv_has ls 4 [(0, .ref (P 0)), (1, .int v1), (3, .int v3)] → va_P D vwCl ((wY cI cZ cC cJ cA P) M) H → va_D (aP P 51) ((wY cI cZ cC cJ cA P) M) → va_S (aP P 51) s.heap H locs → q_ChipMapModel_fieldsRight_142 kf2 kf83 M v1 v3 t0 = some (M', r') → W p l e ({ frames := 1, cells := 0, slots := 0, locals := 23 }) s m args below meth c H locs 0 0 (MQ below (gQi D (aP P 51) ((wY cI cZ cC cJ cA P) M') r') args s 0 0 (aP P 51)) (F0 m 142 ls [.int t0]) := by
  intro M v1 v3 t0 H locs ls hl hP hD hS h
  unfold q_ChipMapModel_fieldsRight_142 at h
  refine lv_istore_n hx hb dX1_fieldsRight_142 rfl hl (Nat.le_of_ble_eq_true rfl) (lv' := [(2, .int t0), (0, .ref (P 0)), (1, .int v1), (3, .int v3)]) rfl (fun ls hl => ?_)
  refine lv_iinc (v := (v3 + 1)) hx hb dX1_fieldsRight_143 hl (k := 3) rfl rfl (Nat.le_of_ble_eq_true rfl) (lv' := [(3, .int (v3 + 1)), (2, .int t0), (0, .ref (P 0)), (1, .int v1)]) rfl (fun ls hl => ?_)
  refine lv_goto hx hb dX1_fieldsRight_146 (tgt := 83) rfl ?_
  have hl := lv_sub hl [2, 3, 1, 0] (l' := [(0, .ref (P 0)), (1, .int v1), (2, .int t0), (3, .int (v3 + 1))]) rfl
  exact kk83 M v1 t0 (v3 + 1) H locs ls hl hP hD hS h
set_option maxHeartbeats 4000000 in
set_option maxRecDepth 20000 in
theorem b_ChipMapModel_fieldsRight_137 {p : Program} {l : Launch} {e : Env} {s s0 : State} {m : MethodId} {args : Array Value} {below : List Frame} {meth : Method} {c : Code} {D : va_G} {cI cZ cC cJ cA : ClassId} {P : Nat → Nat} {M' : Mm} {r' : Int32} {kf2 : Mm → Int32 → Rs} {kf83 : Mm → Int32 → Int32 → Int32 → Rs} (hx : p.tables.exec = Jvm.exec) (hb : c.code = cX1_fieldsRight) (hml : c.maxLocals = 4) (hr : meth.sig.returnType = (some .boolean)) (hlk : meth.locks = false) (hgt : ∀ w ∈ GT, w.before args s = true) (hown : s.vm.findClass RX1 = some m.cls) (hK : va_K D vwCl [(cI, .int), (cZ, .boolean), (cC, .char), (cJ, .long), (cA, .array .int)] s) (hO : Old s0 s) (hAO : ∀ q, (aP P 51) q → s0.heap.size ≤ q) (kk2 : ∀ (M : Mm) (v1 : Int32) (H : Heap) (locs : List Loc) (ls : Array Slot), lv_has ls 4 [(0, .ref (P 0)), (1, .int v1)] → va_P D vwCl ((wY cI cZ cC cJ cA P) M) H → va_D (aP P 51) ((wY cI cZ cC cJ cA P) M) → va_S (aP P 51) s.heap H locs → kf2 M v1 = some (M', r') → W p l e ({ frames := 1, cells := 0, slots := 0, locals := 23 }) s m args below meth c H locs 0 0 (MQ below (gQi D (aP P 51) ((wY cI cZ cC cJ cA P) M') r') args s 0 0 (aP P 51)) (F0 m 2 ls [])) (kk83 : ∀ (M : Mm) (v1 : Int32) (v2 : Int32) (v3 : Int32) (H : Heap) (locs : List Loc) (ls : Array Slot), lv_has ls 4 [(0, .ref (P 0)), (1, .int v1), (2, .int v2), (3, .int v3)] → va_P D vwCl ((wY cI cZ cC cJ cA P) M) H → va_D (aP P 51) ((wY cI cZ cC cJ cA P) M) → va_S (aP P 51) s.heap H locs → kf83 M v1 v2 v3 = some (M', r') → W p l e ({ frames := 1, cells := 0, slots := 0, locals := 23 }) s m args below meth c H locs 0 0 (MQ below (gQi D (aP P 51) ((wY cI cZ cC cJ cA P) M') r') args s 0 0 (aP P 51)) (F0 m 83 ls [])) : ∀ (M : Mm) (v1 : Int32) (v3 : Int32) (H : Heap) (locs : List Loc) (ls : Array Slot), lv_has ls 4 [(0, .ref (P 0)), (1, .int v1), (3, .int v3)] → va_P D vwCl ((wY cI cZ cC cJ cA P) M) H → va_D (aP P 51) ((wY cI cZ cC cJ cA P) M) → va_S (aP P 51) s.heap H locs → q_ChipMapModel_fieldsRight_137 kf2 kf83 M v1 v3 = some (M', r') → W p l e ({ frames := 1, cells := 0, slots := 0, locals := 23 }) s m args below meth c H locs 0 0 (MQ below (gQi D (aP P 51) ((wY cI cZ cC cJ cA P) M') r') args s 0 0 (aP P 51)) (F0 m 137 ls []) := by
  intro M v1 v3 H locs ls hl hP hD hS h
  unfold q_ChipMapModel_fieldsRight_137 at h
  refine lv_iconst (v := 1) hx hb dX1_fieldsRight_137 (by decide) ?_
  refine lv_goto hx hb dX1_fieldsRight_138 (tgt := 142) rfl ?_
  have hl := lv_sub hl [0, 1, 2] (l' := [(0, .ref (P 0)), (1, .int v1), (3, .int v3)]) rfl
  exact b_ChipMapModel_fieldsRight_142 hx hb hml hr hlk hgt hown hK hO hAO kk2 kk83 M v1 v3 1 H _ ls hl hP hD hS h
set_option maxHeartbeats 4000000 in
set_option maxRecDepth 20000 in
theorem b_ChipMapModel_fieldsRight_83 {p : Program} {l : Launch} {e : Env} {s s0 : State} {m : MethodId} {args : Array Value} {below : List Frame} {meth : Method} {c : Code} {D : va_G} {cI cZ cC cJ cA : ClassId} {P : Nat → Nat} {M' : Mm} {r' : Int32} {kf2 : Mm → Int32 → Rs} (hx : p.tables.exec = Jvm.exec) (hb : c.code = cX1_fieldsRight) (hml : c.maxLocals = 4) (hr : meth.sig.returnType = (some .boolean)) (hlk : meth.locks = false) (hgt : ∀ w ∈ GT, w.before args s = true) (hown : s.vm.findClass RX1 = some m.cls) (hK : va_K D vwCl [(cI, .int), (cZ, .boolean), (cC, .char), (cJ, .long), (cA, .array .int)] s) (hO : Old s0 s) (hAO : ∀ q, (aP P 51) q → s0.heap.size ≤ q) (kk2 : ∀ (M : Mm) (v1 : Int32) (H : Heap) (locs : List Loc) (ls : Array Slot), lv_has ls 4 [(0, .ref (P 0)), (1, .int v1)] → va_P D vwCl ((wY cI cZ cC cJ cA P) M) H → va_D (aP P 51) ((wY cI cZ cC cJ cA P) M) → va_S (aP P 51) s.heap H locs → kf2 M v1 = some (M', r') → W p l e ({ frames := 1, cells := 0, slots := 0, locals := 23 }) s m args below meth c H locs 0 0 (MQ below (gQi D (aP P 51) ((wY cI cZ cC cJ cA P) M') r') args s 0 0 (aP P 51)) (F0 m 2 ls [])) : ∀ (n' : Nat) (M : Mm) (v1 : Int32) (v2 : Int32) (v3 : Int32) (H : Heap) (locs : List Loc) (ls : Array Slot), lv_has ls 4 [(0, .ref (P 0)), (1, .int v1), (2, .int v2), (3, .int v3)] → va_P D vwCl ((wY cI cZ cC cJ cA P) M) H → va_D (aP P 51) ((wY cI cZ cC cJ cA P) M) → va_S (aP P 51) s.heap H locs → q_ChipMapModel_fieldsRight_83 kf2 n' M v1 v2 v3 = some (M', r') → W p l e ({ frames := 1, cells := 0, slots := 0, locals := 23 }) s m args below meth c H locs 0 0 (MQ below (gQi D (aP P 51) ((wY cI cZ cC cJ cA P) M') r') args s 0 0 (aP P 51)) (F0 m 83 ls []) := by
  intro n'
  induction n' with
  | zero => exact fun _ _ _ _ _ _ _ _ _ _ _ h => (rs_n h).elim
  | succ n' ih =>
    intro M v1 v2 v3 H locs ls hl hP hD hS h
    rw [q_ChipMapModel_fieldsRight_83] at h
    refine lv_iload_n hx hb dX1_fieldsRight_83 rfl (lv_at hl 3 rfl) ?_
    refine lv_iload_n hx hb dX1_fieldsRight_84 rfl (lv_at hl 1 rfl) ?_
    refine lv_icmp_ge hx hb dX1_fieldsRight_85 (tgt := 149) rfl (fun hc => ?_) (fun hc => ?_)
    · have h := br_T hc h
      have hl := lv_sub hl [0, 1, 2] (l' := [(0, .ref (P 0)), (1, .int v1), (2, .int v2)]) rfl
      exact b_ChipMapModel_fieldsRight_149 hx hb hml hr hlk hgt hown hK hO hAO kk2 M v1 v2 H _ ls hl hP hD hS h
    · have h := br_F hc h
      refine lv_iload_n hx hb dX1_fieldsRight_88 rfl (lv_at hl 2 rfl) ?_
      refine lv_if_eq hx hb dX1_fieldsRight_89 (tgt := 149) rfl (fun hc => ?_) (fun hc => ?_)
      · have h := br_T hc h
        have hl := lv_sub hl [0, 1, 2] (l' := [(0, .ref (P 0)), (1, .int v1), (2, .int v2)]) rfl
        exact b_ChipMapModel_fieldsRight_149 hx hb hml hr hlk hgt hown hK hO hAO kk2 M v1 v2 H _ ls hl hP hD hS h
      · have h := br_F hc h
        refine lv_aload_n hx hb dX1_fieldsRight_92 rfl (lv_at hl 0 rfl) ?_
        refine va_get (D := D) (ci := 1) (v := .ref (P 12)) (C := RX1) (T := TX1) (N := 76) hx hb hgt iwX1 hown hK hP 0 gY_0 rfl 18 (Nat.le_of_ble_eq_true rfl) (hgt _ wd_4_219) (fun _ h9 => h9) rfl dX1_fieldsRight_93 ?_
        refine lv_iload_n hx hb dX1_fieldsRight_96 rfl (lv_at hl 3 rfl) ?_
        refine va_iald hx hb hK hP 12 0 gY_12 rfl (ix_l h) dX1_fieldsRight_97 ?_
        have h := ix_r h
        refine lv_aload_n hx hb dX1_fieldsRight_98 rfl (lv_at hl 0 rfl) ?_
        refine va_get (D := D) (ci := 1) (v := .ref (P 12)) (C := RX1) (T := TX1) (N := 76) hx hb hgt iwX1 hown hK hP 0 gY_0 rfl 18 (Nat.le_of_ble_eq_true rfl) (hgt _ wd_4_219) (fun _ h9 => h9) rfl dX1_fieldsRight_99 ?_
        refine lv_iload_n hx hb dX1_fieldsRight_102 rfl (lv_at hl 1 rfl) ?_
        refine va_iald hx hb hK hP 12 0 gY_12 rfl (ix_l h) dX1_fieldsRight_103 ?_
        have h := ix_r h
        refine lv_icmp_ne hx hb dX1_fieldsRight_104 (tgt := 137) rfl (fun hc => ?_) (fun hc => ?_)
        · have h := br_F hc h
          have hl := lv_sub hl [0, 1, 3] (l' := [(0, .ref (P 0)), (1, .int v1), (3, .int v3)]) rfl
          exact b_ChipMapModel_fieldsRight_137 hx hb hml hr hlk hgt hown hK hO hAO kk2 ih M v1 v3 H _ ls hl hP hD hS h
        · have h := br_T hc h
          refine lv_aload_n hx hb dX1_fieldsRight_107 rfl (lv_at hl 0 rfl) ?_
          refine va_get (D := D) (ci := 1) (v := .ref (P 9)) (C := RX1) (T := TX1) (N := 76) hx hb hgt iwX1 hown hK hP 0 gY_0 rfl 15 (Nat.le_of_ble_eq_true rfl) (hgt _ wd_4_216) (fun _ h9 => h9) rfl dX1_fieldsRight_108 ?_
          refine lv_iload_n hx hb dX1_fieldsRight_111 rfl (lv_at hl 3 rfl) ?_
          refine va_iald hx hb hK hP 9 0 gY_9 rfl (ix_l h) dX1_fieldsRight_112 ?_
          have h := ix_r h
          refine lv_aload_n hx hb dX1_fieldsRight_113 rfl (lv_at hl 0 rfl) ?_
          refine va_get (D := D) (ci := 1) (v := .ref (P 10)) (C := RX1) (T := TX1) (N := 76) hx hb hgt iwX1 hown hK hP 0 gY_0 rfl 16 (Nat.le_of_ble_eq_true rfl) (hgt _ wd_4_217) (fun _ h9 => h9) rfl dX1_fieldsRight_114 ?_
          refine lv_iload_n hx hb dX1_fieldsRight_117 rfl (lv_at hl 1 rfl) ?_
          refine va_iald hx hb hK hP 10 0 gY_10 rfl (ix_l h) dX1_fieldsRight_118 ?_
          have h := ix_r h
          refine lv_icmp_lt hx hb dX1_fieldsRight_119 (tgt := 137) rfl (fun hc => ?_) (fun hc => ?_)
          · have h := br_T hc h
            have hl := lv_sub hl [0, 1, 3] (l' := [(0, .ref (P 0)), (1, .int v1), (3, .int v3)]) rfl
            exact b_ChipMapModel_fieldsRight_137 hx hb hml hr hlk hgt hown hK hO hAO kk2 ih M v1 v3 H _ ls hl hP hD hS h
          · have h := br_F hc h
            refine lv_aload_n hx hb dX1_fieldsRight_122 rfl (lv_at hl 0 rfl) ?_
            refine va_get (D := D) (ci := 1) (v := .ref (P 10)) (C := RX1) (T := TX1) (N := 76) hx hb hgt iwX1 hown hK hP 0 gY_0 rfl 16 (Nat.le_of_ble_eq_true rfl) (hgt _ wd_4_217) (fun _ h9 => h9) rfl dX1_fieldsRight_123 ?_
            refine lv_iload_n hx hb dX1_fieldsRight_126 rfl (lv_at hl 3 rfl) ?_
            refine va_iald hx hb hK hP 10 0 gY_10 rfl (ix_l h) dX1_fieldsRight_127 ?_
            have h := ix_r h
            refine lv_aload_n hx hb dX1_fieldsRight_128 rfl (lv_at hl 0 rfl) ?_
            refine va_get (D := D) (ci := 1) (v := .ref (P 9)) (C := RX1) (T := TX1) (N := 76) hx hb hgt iwX1 hown hK hP 0 gY_0 rfl 15 (Nat.le_of_ble_eq_true rfl) (hgt _ wd_4_216) (fun _ h9 => h9) rfl dX1_fieldsRight_129 ?_
            refine lv_iload_n hx hb dX1_fieldsRight_132 rfl (lv_at hl 1 rfl) ?_
            refine va_iald hx hb hK hP 9 0 gY_9 rfl (ix_l h) dX1_fieldsRight_133 ?_
            have h := ix_r h
            refine lv_icmp_le hx hb dX1_fieldsRight_134 (tgt := 141) rfl (fun hc => ?_) (fun hc => ?_)
            · have h := br_T hc h
              refine lv_iconst (v := 0) hx hb dX1_fieldsRight_141 (by decide) ?_
              have hl := lv_sub hl [0, 1, 3] (l' := [(0, .ref (P 0)), (1, .int v1), (3, .int v3)]) rfl
              exact b_ChipMapModel_fieldsRight_142 hx hb hml hr hlk hgt hown hK hO hAO kk2 ih M v1 v3 0 H _ ls hl hP hD hS h
            · have h := br_F hc h
              have hl := lv_sub hl [0, 1, 3] (l' := [(0, .ref (P 0)), (1, .int v1), (3, .int v3)]) rfl
              exact b_ChipMapModel_fieldsRight_137 hx hb hml hr hlk hgt hown hK hO hAO kk2 ih M v1 v3 H _ ls hl hP hD hS h
set_option maxHeartbeats 4000000 in
set_option maxRecDepth 20000 in
theorem b_ChipMapModel_fieldsRight_80 {p : Program} {l : Launch} {e : Env} {s s0 : State} {m : MethodId} {args : Array Value} {below : List Frame} {meth : Method} {c : Code} {D : va_G} {cI cZ cC cJ cA : ClassId} {P : Nat → Nat} {M' : Mm} {r' : Int32} {kf2 : Mm → Int32 → Rs} (hx : p.tables.exec = Jvm.exec) (hb : c.code = cX1_fieldsRight) (hml : c.maxLocals = 4) (hr : meth.sig.returnType = (some .boolean)) (hlk : meth.locks = false) (hgt : ∀ w ∈ GT, w.before args s = true) (hown : s.vm.findClass RX1 = some m.cls) (hK : va_K D vwCl [(cI, .int), (cZ, .boolean), (cC, .char), (cJ, .long), (cA, .array .int)] s) (hO : Old s0 s) (hAO : ∀ q, (aP P 51) q → s0.heap.size ≤ q) (kk2 : ∀ (M : Mm) (v1 : Int32) (H : Heap) (locs : List Loc) (ls : Array Slot), lv_has ls 4 [(0, .ref (P 0)), (1, .int v1)] → va_P D vwCl ((wY cI cZ cC cJ cA P) M) H → va_D (aP P 51) ((wY cI cZ cC cJ cA P) M) → va_S (aP P 51) s.heap H locs → kf2 M v1 = some (M', r') → W p l e ({ frames := 1, cells := 0, slots := 0, locals := 23 }) s m args below meth c H locs 0 0 (MQ below (gQi D (aP P 51) ((wY cI cZ cC cJ cA P) M') r') args s 0 0 (aP P 51)) (F0 m 2 ls [])) : ∀ (M : Mm) (v1 : Int32) (t0 : Int32) (H : Heap) (locs : List Loc) (ls : Array Slot), lv_has ls 4 [(0, .ref (P 0)), (1, .int v1)] → va_P D vwCl ((wY cI cZ cC cJ cA P) M) H → va_D (aP P 51) ((wY cI cZ cC cJ cA P) M) → va_S (aP P 51) s.heap H locs → q_ChipMapModel_fieldsRight_80 kf2 M v1 t0 = some (M', r') → W p l e ({ frames := 1, cells := 0, slots := 0, locals := 23 }) s m args below meth c H locs 0 0 (MQ below (gQi D (aP P 51) ((wY cI cZ cC cJ cA P) M') r') args s 0 0 (aP P 51)) (F0 m 80 ls [.int t0]) := by
  intro M v1 t0 H locs ls hl hP hD hS h
  unfold q_ChipMapModel_fieldsRight_80 at h
  refine lv_istore_n hx hb dX1_fieldsRight_80 rfl hl (Nat.le_of_ble_eq_true rfl) (lv' := [(2, .int t0), (0, .ref (P 0)), (1, .int v1)]) rfl (fun ls hl => ?_)
  refine lv_iconst (v := 0) hx hb dX1_fieldsRight_81 (by decide) ?_
  refine lv_istore_n hx hb dX1_fieldsRight_82 rfl hl (Nat.le_of_ble_eq_true rfl) (lv' := [(3, .int 0), (2, .int t0), (0, .ref (P 0)), (1, .int v1)]) rfl (fun ls hl => ?_)
  have hl := lv_sub hl [2, 3, 1, 0] (l' := [(0, .ref (P 0)), (1, .int v1), (2, .int t0), (3, .int 0)]) rfl
  exact b_ChipMapModel_fieldsRight_83 hx hb hml hr hlk hgt hown hK hO hAO kk2 4000 M v1 t0 0 H _ ls hl hP hD hS h
set_option maxHeartbeats 4000000 in
set_option maxRecDepth 20000 in
theorem b_ChipMapModel_fieldsRight_79 {p : Program} {l : Launch} {e : Env} {s s0 : State} {m : MethodId} {args : Array Value} {below : List Frame} {meth : Method} {c : Code} {D : va_G} {cI cZ cC cJ cA : ClassId} {P : Nat → Nat} {M' : Mm} {r' : Int32} {kf2 : Mm → Int32 → Rs} (hx : p.tables.exec = Jvm.exec) (hb : c.code = cX1_fieldsRight) (hml : c.maxLocals = 4) (hr : meth.sig.returnType = (some .boolean)) (hlk : meth.locks = false) (hgt : ∀ w ∈ GT, w.before args s = true) (hown : s.vm.findClass RX1 = some m.cls) (hK : va_K D vwCl [(cI, .int), (cZ, .boolean), (cC, .char), (cJ, .long), (cA, .array .int)] s) (hO : Old s0 s) (hAO : ∀ q, (aP P 51) q → s0.heap.size ≤ q) (kk2 : ∀ (M : Mm) (v1 : Int32) (H : Heap) (locs : List Loc) (ls : Array Slot), lv_has ls 4 [(0, .ref (P 0)), (1, .int v1)] → va_P D vwCl ((wY cI cZ cC cJ cA P) M) H → va_D (aP P 51) ((wY cI cZ cC cJ cA P) M) → va_S (aP P 51) s.heap H locs → kf2 M v1 = some (M', r') → W p l e ({ frames := 1, cells := 0, slots := 0, locals := 23 }) s m args below meth c H locs 0 0 (MQ below (gQi D (aP P 51) ((wY cI cZ cC cJ cA P) M') r') args s 0 0 (aP P 51)) (F0 m 2 ls [])) : ∀ (M : Mm) (v1 : Int32) (H : Heap) (locs : List Loc) (ls : Array Slot), lv_has ls 4 [(0, .ref (P 0)), (1, .int v1)] → va_P D vwCl ((wY cI cZ cC cJ cA P) M) H → va_D (aP P 51) ((wY cI cZ cC cJ cA P) M) → va_S (aP P 51) s.heap H locs → q_ChipMapModel_fieldsRight_79 kf2 M v1 = some (M', r') → W p l e ({ frames := 1, cells := 0, slots := 0, locals := 23 }) s m args below meth c H locs 0 0 (MQ below (gQi D (aP P 51) ((wY cI cZ cC cJ cA P) M') r') args s 0 0 (aP P 51)) (F0 m 79 ls []) := by
  intro M v1 H locs ls hl hP hD hS h
  unfold q_ChipMapModel_fieldsRight_79 at h
  refine lv_iconst (v := 0) hx hb dX1_fieldsRight_79 (by decide) ?_
  have hl := lv_sub hl [0, 1] (l' := [(0, .ref (P 0)), (1, .int v1)]) rfl
  exact b_ChipMapModel_fieldsRight_80 hx hb hml hr hlk hgt hown hK hO hAO kk2 M v1 0 H _ ls hl hP hD hS h
set_option maxHeartbeats 4000000 in
set_option maxRecDepth 20000 in
theorem b_ChipMapModel_fieldsRight_56 {p : Program} {l : Launch} {e : Env} {s s0 : State} {m : MethodId} {args : Array Value} {below : List Frame} {meth : Method} {c : Code} {D : va_G} {cI cZ cC cJ cA : ClassId} {P : Nat → Nat} {M' : Mm} {r' : Int32} {kf2 : Mm → Int32 → Rs} (hx : p.tables.exec = Jvm.exec) (hb : c.code = cX1_fieldsRight) (hml : c.maxLocals = 4) (hr : meth.sig.returnType = (some .boolean)) (hlk : meth.locks = false) (hgt : ∀ w ∈ GT, w.before args s = true) (hown : s.vm.findClass RX1 = some m.cls) (hK : va_K D vwCl [(cI, .int), (cZ, .boolean), (cC, .char), (cJ, .long), (cA, .array .int)] s) (hO : Old s0 s) (hAO : ∀ q, (aP P 51) q → s0.heap.size ≤ q) (kk2 : ∀ (M : Mm) (v1 : Int32) (H : Heap) (locs : List Loc) (ls : Array Slot), lv_has ls 4 [(0, .ref (P 0)), (1, .int v1)] → va_P D vwCl ((wY cI cZ cC cJ cA P) M) H → va_D (aP P 51) ((wY cI cZ cC cJ cA P) M) → va_S (aP P 51) s.heap H locs → kf2 M v1 = some (M', r') → W p l e ({ frames := 1, cells := 0, slots := 0, locals := 23 }) s m args below meth c H locs 0 0 (MQ below (gQi D (aP P 51) ((wY cI cZ cC cJ cA P) M') r') args s 0 0 (aP P 51)) (F0 m 2 ls [])) : ∀ (M : Mm) (v1 : Int32) (t0 : Int32) (H : Heap) (locs : List Loc) (ls : Array Slot), lv_has ls 4 [(0, .ref (P 0)), (1, .int v1)] → va_P D vwCl ((wY cI cZ cC cJ cA P) M) H → va_D (aP P 51) ((wY cI cZ cC cJ cA P) M) → va_S (aP P 51) s.heap H locs → q_ChipMapModel_fieldsRight_56 kf2 M v1 t0 = some (M', r') → W p l e ({ frames := 1, cells := 0, slots := 0, locals := 23 }) s m args below meth c H locs 0 0 (MQ below (gQi D (aP P 51) ((wY cI cZ cC cJ cA P) M') r') args s 0 0 (aP P 51)) (F0 m 56 ls [.int t0]) := by
  intro M v1 t0 H locs ls hl hP hD hS h
  unfold q_ChipMapModel_fieldsRight_56 at h
  refine lv_istore_n hx hb dX1_fieldsRight_56 rfl hl (Nat.le_of_ble_eq_true rfl) (lv' := [(2, .int t0), (0, .ref (P 0)), (1, .int v1)]) rfl (fun ls hl => ?_)
  refine lv_iload_n hx hb dX1_fieldsRight_57 rfl (lv_at hl 0 rfl) ?_
  refine lv_if_eq hx hb dX1_fieldsRight_58 (tgt := 79) rfl (fun hc => ?_) (fun hc => ?_)
  · have h := br_T hc h
    have hl := lv_sub hl [1, 2] (l' := [(0, .ref (P 0)), (1, .int v1)]) rfl
    exact b_ChipMapModel_fieldsRight_79 hx hb hml hr hlk hgt hown hK hO hAO kk2 M v1 H _ ls hl hP hD hS h
  · have h := br_F hc h
    refine lv_aload_n hx hb dX1_fieldsRight_61 rfl (lv_at hl 1 rfl) ?_
    refine lv_iload_n hx hb dX1_fieldsRight_62 rfl (lv_at hl 2 rfl) ?_
    refine lv_aload_n hx hb dX1_fieldsRight_63 rfl (lv_at hl 1 rfl) ?_
    refine va_get (D := D) (ci := 1) (v := .ref (P 11)) (C := RX1) (T := TX1) (N := 76) hx hb hgt iwX1 hown hK hP 0 gY_0 rfl 17 (Nat.le_of_ble_eq_true rfl) (hgt _ wd_4_218) (fun _ h9 => h9) rfl dX1_fieldsRight_64 ?_
    refine lv_iload_n hx hb dX1_fieldsRight_67 rfl (lv_at hl 2 rfl) ?_
    refine va_iald hx hb hK hP 11 0 gY_11 rfl (ix_l h) dX1_fieldsRight_68 ?_
    have h := ix_r h
    obtain ⟨M1, r2, hq, h⟩ := cal_o h
    refine cx_i (va_runV (As := [.int v1, .int (M.1 11 (v1 : Int32).toNatClampNeg)]) (rest := []) ⟨hx, hb, hml, hown, hgt⟩ (z_ChipMapModel_fits l D cI cZ cC cJ cA P s0 hAO M v1 (M.1 11 (v1 : Int32).toNatClampNeg) M1 r2 hq) (cwV 2 hgt (gV wd_6_17 wd_6_19 sl__ChipMapModel____ChipMapModel___fits____II_Z_____ChipMapModel___fits____II_Z__ wd_0_15 wd_6_20) rfl rfl rfl (by decide +kernel) ⟨Nat.le_of_ble_eq_true rfl, Nat.le_of_ble_eq_true rfl⟩) (prV hP hK hD hO hAO hS (va_recv hK hP (ci := 1) (q0 := 0) rfl gY_0)) rfl rfl hl.1 rfl (lv_room (Nat.le_of_ble_eq_true rfl)) dX1_fieldsRight_69 ⟨Nat.le_of_ble_eq_true rfl, Nat.le_of_ble_eq_true rfl⟩) hS (fun H locs hP hD hS => ?_)
    refine lv_if_eq hx hb dX1_fieldsRight_72 (tgt := 79) rfl (fun hc => ?_) (fun hc => ?_)
    · have h := br_T hc h
      have hl := lv_sub hl [1, 2] (l' := [(0, .ref (P 0)), (1, .int v1)]) rfl
      exact b_ChipMapModel_fieldsRight_79 hx hb hml hr hlk hgt hown hK hO hAO kk2 M1 v1 H _ ls hl hP hD hS h
    · have h := br_F hc h
      refine lv_iconst (v := 1) hx hb dX1_fieldsRight_75 (by decide) ?_
      refine lv_goto hx hb dX1_fieldsRight_76 (tgt := 80) rfl ?_
      have hl := lv_sub hl [1, 2] (l' := [(0, .ref (P 0)), (1, .int v1)]) rfl
      exact b_ChipMapModel_fieldsRight_80 hx hb hml hr hlk hgt hown hK hO hAO kk2 M1 v1 1 H _ ls hl hP hD hS h
set_option maxHeartbeats 4000000 in
set_option maxRecDepth 20000 in
theorem b_ChipMapModel_fieldsRight_55 {p : Program} {l : Launch} {e : Env} {s s0 : State} {m : MethodId} {args : Array Value} {below : List Frame} {meth : Method} {c : Code} {D : va_G} {cI cZ cC cJ cA : ClassId} {P : Nat → Nat} {M' : Mm} {r' : Int32} {kf2 : Mm → Int32 → Rs} (hx : p.tables.exec = Jvm.exec) (hb : c.code = cX1_fieldsRight) (hml : c.maxLocals = 4) (hr : meth.sig.returnType = (some .boolean)) (hlk : meth.locks = false) (hgt : ∀ w ∈ GT, w.before args s = true) (hown : s.vm.findClass RX1 = some m.cls) (hK : va_K D vwCl [(cI, .int), (cZ, .boolean), (cC, .char), (cJ, .long), (cA, .array .int)] s) (hO : Old s0 s) (hAO : ∀ q, (aP P 51) q → s0.heap.size ≤ q) (kk2 : ∀ (M : Mm) (v1 : Int32) (H : Heap) (locs : List Loc) (ls : Array Slot), lv_has ls 4 [(0, .ref (P 0)), (1, .int v1)] → va_P D vwCl ((wY cI cZ cC cJ cA P) M) H → va_D (aP P 51) ((wY cI cZ cC cJ cA P) M) → va_S (aP P 51) s.heap H locs → kf2 M v1 = some (M', r') → W p l e ({ frames := 1, cells := 0, slots := 0, locals := 23 }) s m args below meth c H locs 0 0 (MQ below (gQi D (aP P 51) ((wY cI cZ cC cJ cA P) M') r') args s 0 0 (aP P 51)) (F0 m 2 ls [])) : ∀ (M : Mm) (v1 : Int32) (H : Heap) (locs : List Loc) (ls : Array Slot), lv_has ls 4 [(0, .ref (P 0)), (1, .int v1)] → va_P D vwCl ((wY cI cZ cC cJ cA P) M) H → va_D (aP P 51) ((wY cI cZ cC cJ cA P) M) → va_S (aP P 51) s.heap H locs → q_ChipMapModel_fieldsRight_55 kf2 M v1 = some (M', r') → W p l e ({ frames := 1, cells := 0, slots := 0, locals := 23 }) s m args below meth c H locs 0 0 (MQ below (gQi D (aP P 51) ((wY cI cZ cC cJ cA P) M') r') args s 0 0 (aP P 51)) (F0 m 55 ls []) := by
  intro M v1 H locs ls hl hP hD hS h
  unfold q_ChipMapModel_fieldsRight_55 at h
  refine lv_iconst (v := 0) hx hb dX1_fieldsRight_55 (by decide) ?_
  have hl := lv_sub hl [0, 1] (l' := [(0, .ref (P 0)), (1, .int v1)]) rfl
  exact b_ChipMapModel_fieldsRight_56 hx hb hml hr hlk hgt hown hK hO hAO kk2 M v1 0 H _ ls hl hP hD hS h
set_option maxHeartbeats 4000000 in
set_option maxRecDepth 20000 in
theorem b_ChipMapModel_fieldsRight_2 {p : Program} {l : Launch} {e : Env} {s s0 : State} {m : MethodId} {args : Array Value} {below : List Frame} {meth : Method} {c : Code} {D : va_G} {cI cZ cC cJ cA : ClassId} {P : Nat → Nat} {M' : Mm} {r' : Int32}  (hx : p.tables.exec = Jvm.exec) (hb : c.code = cX1_fieldsRight) (hml : c.maxLocals = 4) (hr : meth.sig.returnType = (some .boolean)) (hlk : meth.locks = false) (hgt : ∀ w ∈ GT, w.before args s = true) (hown : s.vm.findClass RX1 = some m.cls) (hK : va_K D vwCl [(cI, .int), (cZ, .boolean), (cC, .char), (cJ, .long), (cA, .array .int)] s) (hO : Old s0 s) (hAO : ∀ q, (aP P 51) q → s0.heap.size ≤ q)  : ∀ (n' : Nat) (M : Mm) (v1 : Int32) (H : Heap) (locs : List Loc) (ls : Array Slot), lv_has ls 4 [(0, .ref (P 0)), (1, .int v1)] → va_P D vwCl ((wY cI cZ cC cJ cA P) M) H → va_D (aP P 51) ((wY cI cZ cC cJ cA P) M) → va_S (aP P 51) s.heap H locs → q_ChipMapModel_fieldsRight_2 n' M v1 = some (M', r') → W p l e ({ frames := 1, cells := 0, slots := 0, locals := 23 }) s m args below meth c H locs 0 0 (MQ below (gQi D (aP P 51) ((wY cI cZ cC cJ cA P) M') r') args s 0 0 (aP P 51)) (F0 m 2 ls []) := by
  intro n'
  induction n' with
  | zero => exact fun _ _ _ _ _ _ _ _ _ h => (rs_n h).elim
  | succ n' ih =>
    intro M v1 H locs ls hl hP hD hS h
    rw [q_ChipMapModel_fieldsRight_2] at h
    refine lv_iload_n hx hb dX1_fieldsRight_2 rfl (lv_at hl 1 rfl) ?_
    refine lv_aload_n hx hb dX1_fieldsRight_3 rfl (lv_at hl 0 rfl) ?_
    refine va_get (D := D) (ci := 1) (v := .int (M.1 0 12)) (C := RX1) (T := TX1) (N := 76) hx hb hgt iwX1 hown hK hP 0 gY_0 rfl 12 (Nat.le_of_ble_eq_true rfl) (hgt _ wd_4_213) (fun _ h9 => h9) rfl dX1_fieldsRight_4 ?_
    refine lv_icmp_ge hx hb dX1_fieldsRight_7 (tgt := 171) rfl (fun hc => ?_) (fun hc => ?_)
    · have h := br_T hc h
      refine lv_iconst (v := 1) hx hb dX1_fieldsRight_171 (by decide) ?_
      exact rt_z (w := (wY cI cZ cC cJ cA P)) hx hb hr hlk rfl hP hD hS h dX1_fieldsRight_172
    · have h := br_F hc h
      refine lv_aload_n hx hb dX1_fieldsRight_10 rfl (lv_at hl 0 rfl) ?_
      refine lv_aload_n hx hb dX1_fieldsRight_11 rfl (lv_at hl 0 rfl) ?_
      refine va_get (D := D) (ci := 1) (v := .ref (P 7)) (C := RX1) (T := TX1) (N := 76) hx hb hgt iwX1 hown hK hP 0 gY_0 rfl 13 (Nat.le_of_ble_eq_true rfl) (hgt _ wd_4_214) (fun _ h9 => h9) rfl dX1_fieldsRight_12 ?_
      refine lv_iload_n hx hb dX1_fieldsRight_15 rfl (lv_at hl 1 rfl) ?_
      refine va_iald hx hb hK hP 7 0 gY_7 rfl (ix_l h) dX1_fieldsRight_16 ?_
      have h := ix_r h
      refine lv_iload_n hx hb dX1_fieldsRight_17 rfl (lv_at hl 1 rfl) ?_
      obtain ⟨M1, r2, hq, h⟩ := cal_o h
      refine cx_i (va_runV (As := [.int (M.1 7 (v1 : Int32).toNatClampNeg), .int v1]) (rest := []) ⟨hx, hb, hml, hown, hgt⟩ (z_ChipMapModel_named l D cI cZ cC cJ cA P s0 hAO M (M.1 7 (v1 : Int32).toNatClampNeg) v1 M1 r2 hq) (cwV 2 hgt (gV wd_6_13 wd_6_15 sl__ChipMapModel____ChipMapModel___named____II_I_____ChipMapModel___named____II_I__ wd_0_15 wd_6_16) rfl rfl rfl (by decide +kernel) ⟨Nat.le_of_ble_eq_true rfl, Nat.le_of_ble_eq_true rfl⟩) (prV hP hK hD hO hAO hS (va_recv hK hP (ci := 1) (q0 := 0) rfl gY_0)) rfl rfl hl.1 rfl (lv_room (Nat.le_of_ble_eq_true rfl)) dX1_fieldsRight_18 ⟨Nat.le_of_ble_eq_true rfl, Nat.le_of_ble_eq_true rfl⟩) hS (fun H locs hP hD hS => ?_)
      refine lv_iconst (v := (-1)) hx hb dX1_fieldsRight_21 (by decide) ?_
      refine lv_icmp_ne hx hb dX1_fieldsRight_22 (tgt := 55) rfl (fun hc => ?_) (fun hc => ?_)
      · have h := br_F hc h
        have hl := lv_sub hl [0, 1] (l' := [(0, .ref (P 0)), (1, .int v1)]) rfl
        exact b_ChipMapModel_fieldsRight_55 hx hb hml hr hlk hgt hown hK hO hAO ih M1 v1 H _ ls hl hP hD hS h
      · have h := br_T hc h
        refine lv_aload_n hx hb dX1_fieldsRight_25 rfl (lv_at hl 0 rfl) ?_
        refine va_get (D := D) (ci := 1) (v := .ref (P 9)) (C := RX1) (T := TX1) (N := 76) hx hb hgt iwX1 hown hK hP 0 gY_0 rfl 15 (Nat.le_of_ble_eq_true rfl) (hgt _ wd_4_216) (fun _ h9 => h9) rfl dX1_fieldsRight_26 ?_
        refine lv_iload_n hx hb dX1_fieldsRight_29 rfl (lv_at hl 1 rfl) ?_
        refine va_iald hx hb hK hP 9 0 gY_9 rfl (ix_l h) dX1_fieldsRight_30 ?_
        have h := ix_r h
        refine lv_bipush (v := 15) hx hb dX1_fieldsRight_31 (by decide) ?_
        refine lv_icmp_gt hx hb dX1_fieldsRight_33 (tgt := 55) rfl (fun hc => ?_) (fun hc => ?_)
        · have h := br_T hc h
          have hl := lv_sub hl [0, 1] (l' := [(0, .ref (P 0)), (1, .int v1)]) rfl
          exact b_ChipMapModel_fieldsRight_55 hx hb hml hr hlk hgt hown hK hO hAO ih M1 v1 H _ ls hl hP hD hS h
        · have h := br_F hc h
          refine lv_aload_n hx hb dX1_fieldsRight_36 rfl (lv_at hl 0 rfl) ?_
          refine va_get (D := D) (ci := 1) (v := .ref (P 9)) (C := RX1) (T := TX1) (N := 76) hx hb hgt iwX1 hown hK hP 0 gY_0 rfl 15 (Nat.le_of_ble_eq_true rfl) (hgt _ wd_4_216) (fun _ h9 => h9) rfl dX1_fieldsRight_37 ?_
          refine lv_iload_n hx hb dX1_fieldsRight_40 rfl (lv_at hl 1 rfl) ?_
          refine va_iald hx hb hK hP 9 0 gY_9 rfl (ix_l h) dX1_fieldsRight_41 ?_
          have h := ix_r h
          refine lv_aload_n hx hb dX1_fieldsRight_42 rfl (lv_at hl 0 rfl) ?_
          refine va_get (D := D) (ci := 1) (v := .ref (P 10)) (C := RX1) (T := TX1) (N := 76) hx hb hgt iwX1 hown hK hP 0 gY_0 rfl 16 (Nat.le_of_ble_eq_true rfl) (hgt _ wd_4_217) (fun _ h9 => h9) rfl dX1_fieldsRight_43 ?_
          refine lv_iload_n hx hb dX1_fieldsRight_46 rfl (lv_at hl 1 rfl) ?_
          refine va_iald hx hb hK hP 10 0 gY_10 rfl (ix_l h) dX1_fieldsRight_47 ?_
          have h := ix_r h
          refine lv_icmp_lt hx hb dX1_fieldsRight_48 (tgt := 55) rfl (fun hc => ?_) (fun hc => ?_)
          · have h := br_T hc h
            have hl := lv_sub hl [0, 1] (l' := [(0, .ref (P 0)), (1, .int v1)]) rfl
            exact b_ChipMapModel_fieldsRight_55 hx hb hml hr hlk hgt hown hK hO hAO ih M1 v1 H _ ls hl hP hD hS h
          · have h := br_F hc h
            refine lv_iconst (v := 1) hx hb dX1_fieldsRight_51 (by decide) ?_
            refine lv_goto hx hb dX1_fieldsRight_52 (tgt := 56) rfl ?_
            have hl := lv_sub hl [0, 1] (l' := [(0, .ref (P 0)), (1, .int v1)]) rfl
            exact b_ChipMapModel_fieldsRight_56 hx hb hml hr hlk hgt hown hK hO hAO ih M1 v1 1 H _ ls hl hP hD hS h
set_option maxHeartbeats 4000000 in
set_option maxRecDepth 20000 in
theorem b_ChipMapModel_fieldsRight_0 {p : Program} {l : Launch} {e : Env} {s s0 : State} {m : MethodId} {args : Array Value} {below : List Frame} {meth : Method} {c : Code} {D : va_G} {cI cZ cC cJ cA : ClassId} {P : Nat → Nat} {M' : Mm} {r' : Int32}  (hx : p.tables.exec = Jvm.exec) (hb : c.code = cX1_fieldsRight) (hml : c.maxLocals = 4) (hr : meth.sig.returnType = (some .boolean)) (hlk : meth.locks = false) (hgt : ∀ w ∈ GT, w.before args s = true) (hown : s.vm.findClass RX1 = some m.cls) (hK : va_K D vwCl [(cI, .int), (cZ, .boolean), (cC, .char), (cJ, .long), (cA, .array .int)] s) (hO : Old s0 s) (hAO : ∀ q, (aP P 51) q → s0.heap.size ≤ q)  : ∀ (M : Mm)  (H : Heap) (locs : List Loc) (ls : Array Slot), lv_has ls 4 [(0, .ref (P 0))] → va_P D vwCl ((wY cI cZ cC cJ cA P) M) H → va_D (aP P 51) ((wY cI cZ cC cJ cA P) M) → va_S (aP P 51) s.heap H locs → q_ChipMapModel_fieldsRight M = some (M', r') → W p l e ({ frames := 1, cells := 0, slots := 0, locals := 23 }) s m args below meth c H locs 0 0 (MQ below (gQi D (aP P 51) ((wY cI cZ cC cJ cA P) M') r') args s 0 0 (aP P 51)) (F0 m 0 ls []) := by
  intro M H locs ls hl hP hD hS h
  unfold q_ChipMapModel_fieldsRight at h
  refine lv_iconst (v := 0) hx hb dX1_fieldsRight_0 (by decide) ?_
  refine lv_istore_n hx hb dX1_fieldsRight_1 rfl hl (Nat.le_of_ble_eq_true rfl) (lv' := [(1, .int 0), (0, .ref (P 0))]) rfl (fun ls hl => ?_)
  have hl := lv_sub hl [1, 0] (l' := [(0, .ref (P 0)), (1, .int 0)]) rfl
  exact b_ChipMapModel_fieldsRight_2 hx hb hml hr hlk hgt hown hK hO hAO 4000 M 0 H _ ls hl hP hD hS h
set_option maxHeartbeats 4000000 in
set_option maxRecDepth 20000 in
theorem z_ChipMapModel_fieldsRight (l : Launch) (D : va_G) (cI cZ cC cJ cA : ClassId) (P : Nat → Nat) (s0 : State) (hAO : ∀ q, (aP P 51) q → s0.heap.size ≤ q) (M : Mm)  (M' : Mm) (r' : Int32) (h : q_ChipMapModel_fieldsRight M = some (M', r')) : Met l yX1_fieldsRight wsX1_fieldsRight ({ frames := 1, cells := 0, slots := 0, locals := 23 }) (va_Pc [.ref (P 0)] (gPre s0 D [(cI, .int), (cZ, .boolean), (cC, .char), (cJ, .long), (cA, .array .int)] (aP P 51) ((wY cI cZ cC cJ cA P) M))) (gQi D (aP P 51) ((wY cI cZ cC cJ cA P) M') r') 0 0 (aP P 51) := by
  refine Met.ofW (cc := cX1_fieldsRight) (maxL := 4) (ret := (some .boolean)) (by decide) rfl ?_
  intro p e s m args below meth c s₁ B hml hv
  obtain ⟨rfl, hP, hK, hD, hO⟩ := hv
  have hx := B.exec
  have hb := B.bytes
  have hr := B.returns
  have hlk := B.notSynchronized
  have hgt := fun w (h : w ∈ GT) => atoms_spec (ws := wsX1_fieldsRight) B.pre w (List.mem_cons_of_mem _ h)
  have hown : s.vm.findClass RX1 = some m.cls := findClass_of_methodNamed B.named
  have hS : va_S (aP P 51) s.heap s.heap [] := va_S.rf
  have hl := lv_entry ([.ref (P 0)]) (n := 4) (Nat.le_of_ble_eq_true rfl)
  rw [lg_entry_eq]
  generalize (lg_sl ([.ref (P 0)]) ++ List.replicate (4 - (lg_sl ([.ref (P 0)])).length) Slot.unset).toArray = ls at hl ⊢
  have hl : lv_has ls 4 [(0, .ref (P 0))] := hl
  exact b_ChipMapModel_fieldsRight_0 hx hb hml hr hlk hgt hown hK hO hAO M s.heap [] ls hl hP hD hS h
end
section
def q_ChipMapModel_registersRight_195 (kf103 : Mm → Int32 → Rs) (kf113 : Mm → Int32 → Int32 → Rs) (M : Mm) (v1 : Int32) (v2 : Int32) : Rs := kf113 M v1 (v2 + 1)
def q_ChipMapModel_registersRight_163 (kf103 : Mm → Int32 → Rs) (kf113 : Mm → Int32 → Int32 → Rs) (M : Mm) (v1 : Int32) (v2 : Int32) (t0 : Int32) : Rs := ix v2 17 <| ix v1 17 <| if (M.1 2 (v2 : Int32).toNatClampNeg) = (M.1 2 (v1 : Int32).toNatClampNeg) then (if t0 = 0 then (ix v1 17 <| cal (q_ChipMapModel_wrong M 3 (M.1 5 (v1 : Int32).toNatClampNeg)) fun M1 r2 => bz r2 (some (M1, r2))) else (q_ChipMapModel_registersRight_195 kf103 kf113 M v1 v2)) else (q_ChipMapModel_registersRight_195 kf103 kf113 M v1 v2)
def q_ChipMapModel_registersRight_162 (kf103 : Mm → Int32 → Rs) (kf113 : Mm → Int32 → Int32 → Rs) (M : Mm) (v1 : Int32) (v2 : Int32) : Rs := q_ChipMapModel_registersRight_163 kf103 kf113 M v1 v2 0
def q_ChipMapModel_registersRight_113 (kf103 : Mm → Int32 → Rs) : Nat → Mm → Int32 → Int32 → Rs
  | 0, _, _, _ => none
  | n' + 1, M, v1, v2 => if v1 ≤ v2 then (kf103 M (v1 + 1)) else (ix v1 17 <| if (M.1 3 (v1 : Int32).toNatClampNeg) = (-1) then (q_ChipMapModel_registersRight_162 kf103 (q_ChipMapModel_registersRight_113 kf103 n') M v1 v2) else (ix v2 17 <| ix v1 17 <| if (M.1 3 (v2 : Int32).toNatClampNeg) = (M.1 3 (v1 : Int32).toNatClampNeg) then (ix v2 17 <| ix v1 17 <| if (M.1 4 (v2 : Int32).toNatClampNeg) = (M.1 4 (v1 : Int32).toNatClampNeg) then (q_ChipMapModel_registersRight_162 kf103 (q_ChipMapModel_registersRight_113 kf103 n') M v1 v2) else (q_ChipMapModel_registersRight_163 kf103 (q_ChipMapModel_registersRight_113 kf103 n') M v1 v2 1)) else (q_ChipMapModel_registersRight_162 kf103 (q_ChipMapModel_registersRight_113 kf103 n') M v1 v2)))
def q_ChipMapModel_registersRight_103  : Nat → Mm → Int32 → Rs
  | 0, _, _ => none
  | n' + 1, M, v1 => if (M.1 0 6) ≤ v1 then (some (M, 1)) else (q_ChipMapModel_registersRight_113 (q_ChipMapModel_registersRight_103 n') 4000 M v1 0)
def q_ChipMapModel_registersRight_83  (M : Mm) (v1 : Int32) : Rs := ix v1 17 <| cal (q_ChipMapModel_wrong M 3 (M.1 6 (v1 : Int32).toNatClampNeg)) fun M1 r2 => bz r2 (some (M1, r2))
def q_ChipMapModel_registersRight_95 (kf2 : Mm → Int32 → Rs) (M : Mm) (v1 : Int32) : Rs := kf2 M (v1 + 1)
def q_ChipMapModel_registersRight_2  : Nat → Mm → Int32 → Rs
  | 0, _, _ => none
  | n' + 1, M, v1 => if (M.1 0 6) ≤ v1 then (q_ChipMapModel_registersRight_103 4000 M 0) else (ix v1 17 <| if (M.1 3 (v1 : Int32).toNatClampNeg) = (-1) then (q_ChipMapModel_registersRight_95 (q_ChipMapModel_registersRight_2 n') M v1) else (ix v1 17 <| cal (q_ChipMapModel_named M (M.1 3 (v1 : Int32).toNatClampNeg) (M.1 0 12)) fun M1 r2 => if r2 = (-1) then (q_ChipMapModel_registersRight_83 M1 v1) else (ix r2 140 <| if (M1.1 8 (r2 : Int32).toNatClampNeg) = 119 then (ix r2 140 <| ix (M1.1 12 (r2 : Int32).toNatClampNeg) 17 <| if (M1.1 3 ((M1.1 12 (r2 : Int32).toNatClampNeg) : Int32).toNatClampNeg) = (-1) then (ix v1 17 <| cal (q_ChipMapModel_fits M1 r2 (M1.1 4 (v1 : Int32).toNatClampNeg)) fun M3 r4 => if r4 = 0 then (q_ChipMapModel_registersRight_83 M3 v1) else (q_ChipMapModel_registersRight_95 (q_ChipMapModel_registersRight_2 n') M3 v1)) else (q_ChipMapModel_registersRight_83 M1 v1)) else (q_ChipMapModel_registersRight_83 M1 v1))))
def q_ChipMapModel_registersRight  (M : Mm)  : Rs := q_ChipMapModel_registersRight_2 4000 M 0
set_option maxHeartbeats 4000000 in
set_option maxRecDepth 20000 in
theorem b_ChipMapModel_registersRight_195 {p : Program} {l : Launch} {e : Env} {s s0 : State} {m : MethodId} {args : Array Value} {below : List Frame} {meth : Method} {c : Code} {D : va_G} {cI cZ cC cJ cA : ClassId} {P : Nat → Nat} {M' : Mm} {r' : Int32} {kf103 : Mm → Int32 → Rs} {kf113 : Mm → Int32 → Int32 → Rs} (hx : p.tables.exec = Jvm.exec) (hb : c.code = cX1_registersRight) (hml : c.maxLocals = 4) (hr : meth.sig.returnType = (some .boolean)) (hlk : meth.locks = false) (hgt : ∀ w ∈ GT, w.before args s = true) (hown : s.vm.findClass RX1 = some m.cls) (hK : va_K D vwCl [(cI, .int), (cZ, .boolean), (cC, .char), (cJ, .long), (cA, .array .int)] s) (hO : Old s0 s) (hAO : ∀ q, (aP P 51) q → s0.heap.size ≤ q) (kk103 : ∀ (M : Mm) (v1 : Int32) (H : Heap) (locs : List Loc) (ls : Array Slot), lv_has ls 4 [(0, .ref (P 0)), (1, .int v1)] → va_P D vwCl ((wY cI cZ cC cJ cA P) M) H → va_D (aP P 51) ((wY cI cZ cC cJ cA P) M) → va_S (aP P 51) s.heap H locs → kf103 M v1 = some (M', r') → W p l e ({ frames := 1, cells := 0, slots := 0, locals := 23 }) s m args below meth c H locs 0 0 (MQ below (gQi D (aP P 51) ((wY cI cZ cC cJ cA P) M') r') args s 0 0 (aP P 51)) (F0 m 103 ls [])) (kk113 : ∀ (M : Mm) (v1 : Int32) (v2 : Int32) (H : Heap) (locs : List Loc) (ls : Array Slot), lv_has ls 4 [(0, .ref (P 0)), (1, .int v1), (2, .int v2)] → va_P D vwCl ((wY cI cZ cC cJ cA P) M) H → va_D (aP P 51) ((wY cI cZ cC cJ cA P) M) → va_S (aP P 51) s.heap H locs → kf113 M v1 v2 = some (M', r') → W p l e ({ frames := 1, cells := 0, slots := 0, locals := 23 }) s m args below meth c H locs 0 0 (MQ below (gQi D (aP P 51) ((wY cI cZ cC cJ cA P) M') r') args s 0 0 (aP P 51)) (F0 m 113 ls [])) : ∀ (M : Mm) (v1 : Int32) (v2 : Int32) (H : Heap) (locs : List Loc) (ls : Array Slot), lv_has ls 4 [(0, .ref (P 0)), (1, .int v1), (2, .int v2)] → va_P D vwCl ((wY cI cZ cC cJ cA P) M) H → va_D (aP P 51) ((wY cI cZ cC cJ cA P) M) → va_S (aP P 51) s.heap H locs → q_ChipMapModel_registersRight_195 kf103 kf113 M v1 v2 = some (M', r') → W p l e ({ frames := 1, cells := 0, slots := 0, locals := 23 }) s m args below meth c H locs 0 0 (MQ below (gQi D (aP P 51) ((wY cI cZ cC cJ cA P) M') r') args s 0 0 (aP P 51)) (F0 m 195 ls []) := by
  intro M v1 v2 H locs ls hl hP hD hS h
  unfold q_ChipMapModel_registersRight_195 at h
  refine lv_iinc (v := (v2 + 1)) hx hb dX1_registersRight_195 hl (k := 2) rfl rfl (Nat.le_of_ble_eq_true rfl) (lv' := [(2, .int (v2 + 1)), (0, .ref (P 0)), (1, .int v1)]) rfl (fun ls hl => ?_)
  refine lv_goto hx hb dX1_registersRight_198 (tgt := 113) rfl ?_
  have hl := lv_sub hl [1, 2, 0] (l' := [(0, .ref (P 0)), (1, .int v1), (2, .int (v2 + 1))]) rfl
  exact kk113 M v1 (v2 + 1) H locs ls hl hP hD hS h
set_option maxHeartbeats 4000000 in
set_option maxRecDepth 20000 in
theorem b_ChipMapModel_registersRight_163 {p : Program} {l : Launch} {e : Env} {s s0 : State} {m : MethodId} {args : Array Value} {below : List Frame} {meth : Method} {c : Code} {D : va_G} {cI cZ cC cJ cA : ClassId} {P : Nat → Nat} {M' : Mm} {r' : Int32} {kf103 : Mm → Int32 → Rs} {kf113 : Mm → Int32 → Int32 → Rs} (hx : p.tables.exec = Jvm.exec) (hb : c.code = cX1_registersRight) (hml : c.maxLocals = 4) (hr : meth.sig.returnType = (some .boolean)) (hlk : meth.locks = false) (hgt : ∀ w ∈ GT, w.before args s = true) (hown : s.vm.findClass RX1 = some m.cls) (hK : va_K D vwCl [(cI, .int), (cZ, .boolean), (cC, .char), (cJ, .long), (cA, .array .int)] s) (hO : Old s0 s) (hAO : ∀ q, (aP P 51) q → s0.heap.size ≤ q) (kk103 : ∀ (M : Mm) (v1 : Int32) (H : Heap) (locs : List Loc) (ls : Array Slot), lv_has ls 4 [(0, .ref (P 0)), (1, .int v1)] → va_P D vwCl ((wY cI cZ cC cJ cA P) M) H → va_D (aP P 51) ((wY cI cZ cC cJ cA P) M) → va_S (aP P 51) s.heap H locs → kf103 M v1 = some (M', r') → W p l e ({ frames := 1, cells := 0, slots := 0, locals := 23 }) s m args below meth c H locs 0 0 (MQ below (gQi D (aP P 51) ((wY cI cZ cC cJ cA P) M') r') args s 0 0 (aP P 51)) (F0 m 103 ls [])) (kk113 : ∀ (M : Mm) (v1 : Int32) (v2 : Int32) (H : Heap) (locs : List Loc) (ls : Array Slot), lv_has ls 4 [(0, .ref (P 0)), (1, .int v1), (2, .int v2)] → va_P D vwCl ((wY cI cZ cC cJ cA P) M) H → va_D (aP P 51) ((wY cI cZ cC cJ cA P) M) → va_S (aP P 51) s.heap H locs → kf113 M v1 v2 = some (M', r') → W p l e ({ frames := 1, cells := 0, slots := 0, locals := 23 }) s m args below meth c H locs 0 0 (MQ below (gQi D (aP P 51) ((wY cI cZ cC cJ cA P) M') r') args s 0 0 (aP P 51)) (F0 m 113 ls [])) : ∀ (M : Mm) (v1 : Int32) (v2 : Int32) (t0 : Int32) (H : Heap) (locs : List Loc) (ls : Array Slot), lv_has ls 4 [(0, .ref (P 0)), (1, .int v1), (2, .int v2)] → va_P D vwCl ((wY cI cZ cC cJ cA P) M) H → va_D (aP P 51) ((wY cI cZ cC cJ cA P) M) → va_S (aP P 51) s.heap H locs → q_ChipMapModel_registersRight_163 kf103 kf113 M v1 v2 t0 = some (M', r') → W p l e ({ frames := 1, cells := 0, slots := 0, locals := 23 }) s m args below meth c H locs 0 0 (MQ below (gQi D (aP P 51) ((wY cI cZ cC cJ cA P) M') r') args s 0 0 (aP P 51)) (F0 m 163 ls [.int t0]) := by
  intro M v1 v2 t0 H locs ls hl hP hD hS h
  unfold q_ChipMapModel_registersRight_163 at h
  refine lv_istore_n hx hb dX1_registersRight_163 rfl hl (Nat.le_of_ble_eq_true rfl) (lv' := [(3, .int t0), (0, .ref (P 0)), (1, .int v1), (2, .int v2)]) rfl (fun ls hl => ?_)
  refine lv_aload_n hx hb dX1_registersRight_164 rfl (lv_at hl 1 rfl) ?_
  refine va_get (D := D) (ci := 1) (v := .ref (P 2)) (C := RX1) (T := TX1) (N := 76) hx hb hgt iwX1 hown hK hP 0 gY_0 rfl 7 (Nat.le_of_ble_eq_true rfl) (hgt _ wd_4_208) (fun _ h9 => h9) rfl dX1_registersRight_165 ?_
  refine lv_iload_n hx hb dX1_registersRight_168 rfl (lv_at hl 3 rfl) ?_
  refine va_iald hx hb hK hP 2 0 gY_2 rfl (ix_l h) dX1_registersRight_169 ?_
  have h := ix_r h
  refine lv_aload_n hx hb dX1_registersRight_170 rfl (lv_at hl 1 rfl) ?_
  refine va_get (D := D) (ci := 1) (v := .ref (P 2)) (C := RX1) (T := TX1) (N := 76) hx hb hgt iwX1 hown hK hP 0 gY_0 rfl 7 (Nat.le_of_ble_eq_true rfl) (hgt _ wd_4_208) (fun _ h9 => h9) rfl dX1_registersRight_171 ?_
  refine lv_iload_n hx hb dX1_registersRight_174 rfl (lv_at hl 2 rfl) ?_
  refine va_iald hx hb hK hP 2 0 gY_2 rfl (ix_l h) dX1_registersRight_175 ?_
  have h := ix_r h
  refine lv_icmp_ne hx hb dX1_registersRight_176 (tgt := 195) rfl (fun hc => ?_) (fun hc => ?_)
  · have h := br_F hc h
    have hl := lv_sub hl [1, 2, 3] (l' := [(0, .ref (P 0)), (1, .int v1), (2, .int v2)]) rfl
    exact b_ChipMapModel_registersRight_195 hx hb hml hr hlk hgt hown hK hO hAO kk103 kk113 M v1 v2 H _ ls hl hP hD hS h
  · have h := br_T hc h
    refine lv_iload_n hx hb dX1_registersRight_179 rfl (lv_at hl 0 rfl) ?_
    refine lv_if_ne hx hb dX1_registersRight_180 (tgt := 195) rfl (fun hc => ?_) (fun hc => ?_)
    · have h := br_F hc h
      have hl := lv_sub hl [1, 2, 3] (l' := [(0, .ref (P 0)), (1, .int v1), (2, .int v2)]) rfl
      exact b_ChipMapModel_registersRight_195 hx hb hml hr hlk hgt hown hK hO hAO kk103 kk113 M v1 v2 H _ ls hl hP hD hS h
    · have h := br_T hc h
      refine lv_aload_n hx hb dX1_registersRight_183 rfl (lv_at hl 1 rfl) ?_
      refine lv_iconst (v := 3) hx hb dX1_registersRight_184 (by decide) ?_
      refine lv_aload_n hx hb dX1_registersRight_185 rfl (lv_at hl 1 rfl) ?_
      refine va_get (D := D) (ci := 1) (v := .ref (P 5)) (C := RX1) (T := TX1) (N := 76) hx hb hgt iwX1 hown hK hP 0 gY_0 rfl 10 (Nat.le_of_ble_eq_true rfl) (hgt _ wd_4_211) (fun _ h9 => h9) rfl dX1_registersRight_186 ?_
      refine lv_iload_n hx hb dX1_registersRight_189 rfl (lv_at hl 2 rfl) ?_
      refine va_iald hx hb hK hP 5 0 gY_5 rfl (ix_l h) dX1_registersRight_190 ?_
      have h := ix_r h
      obtain ⟨M1, r2, hq, h⟩ := cal_o h
      refine cx_i (va_runV (As := [.int 3, .int (M.1 5 (v1 : Int32).toNatClampNeg)]) (rest := []) ⟨hx, hb, hml, hown, hgt⟩ (z_ChipMapModel_wrong l D cI cZ cC cJ cA P s0 hAO M 3 (M.1 5 (v1 : Int32).toNatClampNeg) M1 r2 hq) (cwV 2 hgt (gV wd_5_208 wd_5_210 sl__ChipMapModel____ChipMapModel___wrong____II_Z_____ChipMapModel___wrong____II_Z__ wd_0_15 wd_5_211) rfl rfl rfl (by decide +kernel) ⟨Nat.le_of_ble_eq_true rfl, Nat.le_of_ble_eq_true rfl⟩) (prV hP hK hD hO hAO hS (va_recv hK hP (ci := 1) (q0 := 0) rfl gY_0)) rfl rfl hl.1 rfl (lv_room (Nat.le_of_ble_eq_true rfl)) dX1_registersRight_191 ⟨Nat.le_of_ble_eq_true rfl, Nat.le_of_ble_eq_true rfl⟩) hS (fun H locs hP hD hS => ?_)
      exact rt_z (w := (wY cI cZ cC cJ cA P)) hx hb hr hlk (bz_l h) hP hD hS (bz_r h) dX1_registersRight_194
set_option maxHeartbeats 4000000 in
set_option maxRecDepth 20000 in
theorem b_ChipMapModel_registersRight_162 {p : Program} {l : Launch} {e : Env} {s s0 : State} {m : MethodId} {args : Array Value} {below : List Frame} {meth : Method} {c : Code} {D : va_G} {cI cZ cC cJ cA : ClassId} {P : Nat → Nat} {M' : Mm} {r' : Int32} {kf103 : Mm → Int32 → Rs} {kf113 : Mm → Int32 → Int32 → Rs} (hx : p.tables.exec = Jvm.exec) (hb : c.code = cX1_registersRight) (hml : c.maxLocals = 4) (hr : meth.sig.returnType = (some .boolean)) (hlk : meth.locks = false) (hgt : ∀ w ∈ GT, w.before args s = true) (hown : s.vm.findClass RX1 = some m.cls) (hK : va_K D vwCl [(cI, .int), (cZ, .boolean), (cC, .char), (cJ, .long), (cA, .array .int)] s) (hO : Old s0 s) (hAO : ∀ q, (aP P 51) q → s0.heap.size ≤ q) (kk103 : ∀ (M : Mm) (v1 : Int32) (H : Heap) (locs : List Loc) (ls : Array Slot), lv_has ls 4 [(0, .ref (P 0)), (1, .int v1)] → va_P D vwCl ((wY cI cZ cC cJ cA P) M) H → va_D (aP P 51) ((wY cI cZ cC cJ cA P) M) → va_S (aP P 51) s.heap H locs → kf103 M v1 = some (M', r') → W p l e ({ frames := 1, cells := 0, slots := 0, locals := 23 }) s m args below meth c H locs 0 0 (MQ below (gQi D (aP P 51) ((wY cI cZ cC cJ cA P) M') r') args s 0 0 (aP P 51)) (F0 m 103 ls [])) (kk113 : ∀ (M : Mm) (v1 : Int32) (v2 : Int32) (H : Heap) (locs : List Loc) (ls : Array Slot), lv_has ls 4 [(0, .ref (P 0)), (1, .int v1), (2, .int v2)] → va_P D vwCl ((wY cI cZ cC cJ cA P) M) H → va_D (aP P 51) ((wY cI cZ cC cJ cA P) M) → va_S (aP P 51) s.heap H locs → kf113 M v1 v2 = some (M', r') → W p l e ({ frames := 1, cells := 0, slots := 0, locals := 23 }) s m args below meth c H locs 0 0 (MQ below (gQi D (aP P 51) ((wY cI cZ cC cJ cA P) M') r') args s 0 0 (aP P 51)) (F0 m 113 ls [])) : ∀ (M : Mm) (v1 : Int32) (v2 : Int32) (H : Heap) (locs : List Loc) (ls : Array Slot), lv_has ls 4 [(0, .ref (P 0)), (1, .int v1), (2, .int v2)] → va_P D vwCl ((wY cI cZ cC cJ cA P) M) H → va_D (aP P 51) ((wY cI cZ cC cJ cA P) M) → va_S (aP P 51) s.heap H locs → q_ChipMapModel_registersRight_162 kf103 kf113 M v1 v2 = some (M', r') → W p l e ({ frames := 1, cells := 0, slots := 0, locals := 23 }) s m args below meth c H locs 0 0 (MQ below (gQi D (aP P 51) ((wY cI cZ cC cJ cA P) M') r') args s 0 0 (aP P 51)) (F0 m 162 ls []) := by
  intro M v1 v2 H locs ls hl hP hD hS h
  unfold q_ChipMapModel_registersRight_162 at h
  refine lv_iconst (v := 0) hx hb dX1_registersRight_162 (by decide) ?_
  have hl := lv_sub hl [0, 1, 2] (l' := [(0, .ref (P 0)), (1, .int v1), (2, .int v2)]) rfl
  exact b_ChipMapModel_registersRight_163 hx hb hml hr hlk hgt hown hK hO hAO kk103 kk113 M v1 v2 0 H _ ls hl hP hD hS h
set_option maxHeartbeats 4000000 in
set_option maxRecDepth 20000 in
theorem b_ChipMapModel_registersRight_113 {p : Program} {l : Launch} {e : Env} {s s0 : State} {m : MethodId} {args : Array Value} {below : List Frame} {meth : Method} {c : Code} {D : va_G} {cI cZ cC cJ cA : ClassId} {P : Nat → Nat} {M' : Mm} {r' : Int32} {kf103 : Mm → Int32 → Rs} (hx : p.tables.exec = Jvm.exec) (hb : c.code = cX1_registersRight) (hml : c.maxLocals = 4) (hr : meth.sig.returnType = (some .boolean)) (hlk : meth.locks = false) (hgt : ∀ w ∈ GT, w.before args s = true) (hown : s.vm.findClass RX1 = some m.cls) (hK : va_K D vwCl [(cI, .int), (cZ, .boolean), (cC, .char), (cJ, .long), (cA, .array .int)] s) (hO : Old s0 s) (hAO : ∀ q, (aP P 51) q → s0.heap.size ≤ q) (kk103 : ∀ (M : Mm) (v1 : Int32) (H : Heap) (locs : List Loc) (ls : Array Slot), lv_has ls 4 [(0, .ref (P 0)), (1, .int v1)] → va_P D vwCl ((wY cI cZ cC cJ cA P) M) H → va_D (aP P 51) ((wY cI cZ cC cJ cA P) M) → va_S (aP P 51) s.heap H locs → kf103 M v1 = some (M', r') → W p l e ({ frames := 1, cells := 0, slots := 0, locals := 23 }) s m args below meth c H locs 0 0 (MQ below (gQi D (aP P 51) ((wY cI cZ cC cJ cA P) M') r') args s 0 0 (aP P 51)) (F0 m 103 ls [])) : ∀ (n' : Nat) (M : Mm) (v1 : Int32) (v2 : Int32) (H : Heap) (locs : List Loc) (ls : Array Slot), lv_has ls 4 [(0, .ref (P 0)), (1, .int v1), (2, .int v2)] → va_P D vwCl ((wY cI cZ cC cJ cA P) M) H → va_D (aP P 51) ((wY cI cZ cC cJ cA P) M) → va_S (aP P 51) s.heap H locs → q_ChipMapModel_registersRight_113 kf103 n' M v1 v2 = some (M', r') → W p l e ({ frames := 1, cells := 0, slots := 0, locals := 23 }) s m args below meth c H locs 0 0 (MQ below (gQi D (aP P 51) ((wY cI cZ cC cJ cA P) M') r') args s 0 0 (aP P 51)) (F0 m 113 ls []) := by
  intro n'
  induction n' with
  | zero => exact fun _ _ _ _ _ _ _ _ _ _ h => (rs_n h).elim
  | succ n' ih =>
    intro M v1 v2 H locs ls hl hP hD hS h
    rw [q_ChipMapModel_registersRight_113] at h
    refine lv_iload_n hx hb dX1_registersRight_113 rfl (lv_at hl 2 rfl) ?_
    refine lv_iload_n hx hb dX1_registersRight_114 rfl (lv_at hl 1 rfl) ?_
    refine lv_icmp_ge hx hb dX1_registersRight_115 (tgt := 201) rfl (fun hc => ?_) (fun hc => ?_)
    · have h := br_T hc h
      refine lv_iinc (v := (v1 + 1)) hx hb dX1_registersRight_201 hl (k := 1) rfl rfl (Nat.le_of_ble_eq_true rfl) (lv' := [(1, .int (v1 + 1)), (0, .ref (P 0)), (2, .int v2)]) rfl (fun ls hl => ?_)
      refine lv_goto hx hb dX1_registersRight_204 (tgt := 103) rfl ?_
      have hl := lv_sub hl [1, 0] (l' := [(0, .ref (P 0)), (1, .int (v1 + 1))]) rfl
      exact kk103 M (v1 + 1) H locs ls hl hP hD hS h
    · have h := br_F hc h
      refine lv_aload_n hx hb dX1_registersRight_118 rfl (lv_at hl 0 rfl) ?_
      refine va_get (D := D) (ci := 1) (v := .ref (P 3)) (C := RX1) (T := TX1) (N := 76) hx hb hgt iwX1 hown hK hP 0 gY_0 rfl 8 (Nat.le_of_ble_eq_true rfl) (hgt _ wd_4_209) (fun _ h9 => h9) rfl dX1_registersRight_119 ?_
      refine lv_iload_n hx hb dX1_registersRight_122 rfl (lv_at hl 1 rfl) ?_
      refine va_iald hx hb hK hP 3 0 gY_3 rfl (ix_l h) dX1_registersRight_123 ?_
      have h := ix_r h
      refine lv_iconst (v := (-1)) hx hb dX1_registersRight_124 (by decide) ?_
      refine lv_icmp_eq hx hb dX1_registersRight_125 (tgt := 162) rfl (fun hc => ?_) (fun hc => ?_)
      · have h := br_T hc h
        have hl := lv_sub hl [0, 1, 2] (l' := [(0, .ref (P 0)), (1, .int v1), (2, .int v2)]) rfl
        exact b_ChipMapModel_registersRight_162 hx hb hml hr hlk hgt hown hK hO hAO kk103 ih M v1 v2 H _ ls hl hP hD hS h
      · have h := br_F hc h
        refine lv_aload_n hx hb dX1_registersRight_128 rfl (lv_at hl 0 rfl) ?_
        refine va_get (D := D) (ci := 1) (v := .ref (P 3)) (C := RX1) (T := TX1) (N := 76) hx hb hgt iwX1 hown hK hP 0 gY_0 rfl 8 (Nat.le_of_ble_eq_true rfl) (hgt _ wd_4_209) (fun _ h9 => h9) rfl dX1_registersRight_129 ?_
        refine lv_iload_n hx hb dX1_registersRight_132 rfl (lv_at hl 2 rfl) ?_
        refine va_iald hx hb hK hP 3 0 gY_3 rfl (ix_l h) dX1_registersRight_133 ?_
        have h := ix_r h
        refine lv_aload_n hx hb dX1_registersRight_134 rfl (lv_at hl 0 rfl) ?_
        refine va_get (D := D) (ci := 1) (v := .ref (P 3)) (C := RX1) (T := TX1) (N := 76) hx hb hgt iwX1 hown hK hP 0 gY_0 rfl 8 (Nat.le_of_ble_eq_true rfl) (hgt _ wd_4_209) (fun _ h9 => h9) rfl dX1_registersRight_135 ?_
        refine lv_iload_n hx hb dX1_registersRight_138 rfl (lv_at hl 1 rfl) ?_
        refine va_iald hx hb hK hP 3 0 gY_3 rfl (ix_l h) dX1_registersRight_139 ?_
        have h := ix_r h
        refine lv_icmp_ne hx hb dX1_registersRight_140 (tgt := 162) rfl (fun hc => ?_) (fun hc => ?_)
        · have h := br_F hc h
          have hl := lv_sub hl [0, 1, 2] (l' := [(0, .ref (P 0)), (1, .int v1), (2, .int v2)]) rfl
          exact b_ChipMapModel_registersRight_162 hx hb hml hr hlk hgt hown hK hO hAO kk103 ih M v1 v2 H _ ls hl hP hD hS h
        · have h := br_T hc h
          refine lv_aload_n hx hb dX1_registersRight_143 rfl (lv_at hl 0 rfl) ?_
          refine va_get (D := D) (ci := 1) (v := .ref (P 4)) (C := RX1) (T := TX1) (N := 76) hx hb hgt iwX1 hown hK hP 0 gY_0 rfl 9 (Nat.le_of_ble_eq_true rfl) (hgt _ wd_4_210) (fun _ h9 => h9) rfl dX1_registersRight_144 ?_
          refine lv_iload_n hx hb dX1_registersRight_147 rfl (lv_at hl 2 rfl) ?_
          refine va_iald hx hb hK hP 4 0 gY_4 rfl (ix_l h) dX1_registersRight_148 ?_
          have h := ix_r h
          refine lv_aload_n hx hb dX1_registersRight_149 rfl (lv_at hl 0 rfl) ?_
          refine va_get (D := D) (ci := 1) (v := .ref (P 4)) (C := RX1) (T := TX1) (N := 76) hx hb hgt iwX1 hown hK hP 0 gY_0 rfl 9 (Nat.le_of_ble_eq_true rfl) (hgt _ wd_4_210) (fun _ h9 => h9) rfl dX1_registersRight_150 ?_
          refine lv_iload_n hx hb dX1_registersRight_153 rfl (lv_at hl 1 rfl) ?_
          refine va_iald hx hb hK hP 4 0 gY_4 rfl (ix_l h) dX1_registersRight_154 ?_
          have h := ix_r h
          refine lv_icmp_eq hx hb dX1_registersRight_155 (tgt := 162) rfl (fun hc => ?_) (fun hc => ?_)
          · have h := br_T hc h
            have hl := lv_sub hl [0, 1, 2] (l' := [(0, .ref (P 0)), (1, .int v1), (2, .int v2)]) rfl
            exact b_ChipMapModel_registersRight_162 hx hb hml hr hlk hgt hown hK hO hAO kk103 ih M v1 v2 H _ ls hl hP hD hS h
          · have h := br_F hc h
            refine lv_iconst (v := 1) hx hb dX1_registersRight_158 (by decide) ?_
            refine lv_goto hx hb dX1_registersRight_159 (tgt := 163) rfl ?_
            have hl := lv_sub hl [0, 1, 2] (l' := [(0, .ref (P 0)), (1, .int v1), (2, .int v2)]) rfl
            exact b_ChipMapModel_registersRight_163 hx hb hml hr hlk hgt hown hK hO hAO kk103 ih M v1 v2 1 H _ ls hl hP hD hS h
set_option maxHeartbeats 4000000 in
set_option maxRecDepth 20000 in
theorem b_ChipMapModel_registersRight_103 {p : Program} {l : Launch} {e : Env} {s s0 : State} {m : MethodId} {args : Array Value} {below : List Frame} {meth : Method} {c : Code} {D : va_G} {cI cZ cC cJ cA : ClassId} {P : Nat → Nat} {M' : Mm} {r' : Int32}  (hx : p.tables.exec = Jvm.exec) (hb : c.code = cX1_registersRight) (hml : c.maxLocals = 4) (hr : meth.sig.returnType = (some .boolean)) (hlk : meth.locks = false) (hgt : ∀ w ∈ GT, w.before args s = true) (hown : s.vm.findClass RX1 = some m.cls) (hK : va_K D vwCl [(cI, .int), (cZ, .boolean), (cC, .char), (cJ, .long), (cA, .array .int)] s) (hO : Old s0 s) (hAO : ∀ q, (aP P 51) q → s0.heap.size ≤ q)  : ∀ (n' : Nat) (M : Mm) (v1 : Int32) (H : Heap) (locs : List Loc) (ls : Array Slot), lv_has ls 4 [(0, .ref (P 0)), (1, .int v1)] → va_P D vwCl ((wY cI cZ cC cJ cA P) M) H → va_D (aP P 51) ((wY cI cZ cC cJ cA P) M) → va_S (aP P 51) s.heap H locs → q_ChipMapModel_registersRight_103 n' M v1 = some (M', r') → W p l e ({ frames := 1, cells := 0, slots := 0, locals := 23 }) s m args below meth c H locs 0 0 (MQ below (gQi D (aP P 51) ((wY cI cZ cC cJ cA P) M') r') args s 0 0 (aP P 51)) (F0 m 103 ls []) := by
  intro n'
  induction n' with
  | zero => exact fun _ _ _ _ _ _ _ _ _ h => (rs_n h).elim
  | succ n' ih =>
    intro M v1 H locs ls hl hP hD hS h
    rw [q_ChipMapModel_registersRight_103] at h
    refine lv_iload_n hx hb dX1_registersRight_103 rfl (lv_at hl 1 rfl) ?_
    refine lv_aload_n hx hb dX1_registersRight_104 rfl (lv_at hl 0 rfl) ?_
    refine va_get (D := D) (ci := 1) (v := .int (M.1 0 6)) (C := RX1) (T := TX1) (N := 76) hx hb hgt iwX1 hown hK hP 0 gY_0 rfl 6 (Nat.le_of_ble_eq_true rfl) (hgt _ wd_4_207) (fun _ h9 => h9) rfl dX1_registersRight_105 ?_
    refine lv_icmp_ge hx hb dX1_registersRight_108 (tgt := 207) rfl (fun hc => ?_) (fun hc => ?_)
    · have h := br_T hc h
      refine lv_iconst (v := 1) hx hb dX1_registersRight_207 (by decide) ?_
      exact rt_z (w := (wY cI cZ cC cJ cA P)) hx hb hr hlk rfl hP hD hS h dX1_registersRight_208
    · have h := br_F hc h
      refine lv_iconst (v := 0) hx hb dX1_registersRight_111 (by decide) ?_
      refine lv_istore_n hx hb dX1_registersRight_112 rfl hl (Nat.le_of_ble_eq_true rfl) (lv' := [(2, .int 0), (0, .ref (P 0)), (1, .int v1)]) rfl (fun ls hl => ?_)
      have hl := lv_sub hl [1, 2, 0] (l' := [(0, .ref (P 0)), (1, .int v1), (2, .int 0)]) rfl
      exact b_ChipMapModel_registersRight_113 hx hb hml hr hlk hgt hown hK hO hAO ih 4000 M v1 0 H _ ls hl hP hD hS h
set_option maxHeartbeats 4000000 in
set_option maxRecDepth 20000 in
theorem b_ChipMapModel_registersRight_83 {p : Program} {l : Launch} {e : Env} {s s0 : State} {m : MethodId} {args : Array Value} {below : List Frame} {meth : Method} {c : Code} {D : va_G} {cI cZ cC cJ cA : ClassId} {P : Nat → Nat} {M' : Mm} {r' : Int32}  (hx : p.tables.exec = Jvm.exec) (hb : c.code = cX1_registersRight) (hml : c.maxLocals = 4) (hr : meth.sig.returnType = (some .boolean)) (hlk : meth.locks = false) (hgt : ∀ w ∈ GT, w.before args s = true) (hown : s.vm.findClass RX1 = some m.cls) (hK : va_K D vwCl [(cI, .int), (cZ, .boolean), (cC, .char), (cJ, .long), (cA, .array .int)] s) (hO : Old s0 s) (hAO : ∀ q, (aP P 51) q → s0.heap.size ≤ q)  : ∀ (M : Mm) (v1 : Int32) (H : Heap) (locs : List Loc) (ls : Array Slot), lv_has ls 4 [(0, .ref (P 0)), (1, .int v1)] → va_P D vwCl ((wY cI cZ cC cJ cA P) M) H → va_D (aP P 51) ((wY cI cZ cC cJ cA P) M) → va_S (aP P 51) s.heap H locs → q_ChipMapModel_registersRight_83 M v1 = some (M', r') → W p l e ({ frames := 1, cells := 0, slots := 0, locals := 23 }) s m args below meth c H locs 0 0 (MQ below (gQi D (aP P 51) ((wY cI cZ cC cJ cA P) M') r') args s 0 0 (aP P 51)) (F0 m 83 ls []) := by
  intro M v1 H locs ls hl hP hD hS h
  unfold q_ChipMapModel_registersRight_83 at h
  refine lv_aload_n hx hb dX1_registersRight_83 rfl (lv_at hl 0 rfl) ?_
  refine lv_iconst (v := 3) hx hb dX1_registersRight_84 (by decide) ?_
  refine lv_aload_n hx hb dX1_registersRight_85 rfl (lv_at hl 0 rfl) ?_
  refine va_get (D := D) (ci := 1) (v := .ref (P 6)) (C := RX1) (T := TX1) (N := 76) hx hb hgt iwX1 hown hK hP 0 gY_0 rfl 11 (Nat.le_of_ble_eq_true rfl) (hgt _ wd_4_212) (fun _ h9 => h9) rfl dX1_registersRight_86 ?_
  refine lv_iload_n hx hb dX1_registersRight_89 rfl (lv_at hl 1 rfl) ?_
  refine va_iald hx hb hK hP 6 0 gY_6 rfl (ix_l h) dX1_registersRight_90 ?_
  have h := ix_r h
  obtain ⟨M1, r2, hq, h⟩ := cal_o h
  refine cx_i (va_runV (As := [.int 3, .int (M.1 6 (v1 : Int32).toNatClampNeg)]) (rest := []) ⟨hx, hb, hml, hown, hgt⟩ (z_ChipMapModel_wrong l D cI cZ cC cJ cA P s0 hAO M 3 (M.1 6 (v1 : Int32).toNatClampNeg) M1 r2 hq) (cwV 2 hgt (gV wd_5_208 wd_5_210 sl__ChipMapModel____ChipMapModel___wrong____II_Z_____ChipMapModel___wrong____II_Z__ wd_0_15 wd_5_211) rfl rfl rfl (by decide +kernel) ⟨Nat.le_of_ble_eq_true rfl, Nat.le_of_ble_eq_true rfl⟩) (prV hP hK hD hO hAO hS (va_recv hK hP (ci := 1) (q0 := 0) rfl gY_0)) rfl rfl hl.1 rfl (lv_room (Nat.le_of_ble_eq_true rfl)) dX1_registersRight_91 ⟨Nat.le_of_ble_eq_true rfl, Nat.le_of_ble_eq_true rfl⟩) hS (fun H locs hP hD hS => ?_)
  exact rt_z (w := (wY cI cZ cC cJ cA P)) hx hb hr hlk (bz_l h) hP hD hS (bz_r h) dX1_registersRight_94
set_option maxHeartbeats 4000000 in
set_option maxRecDepth 20000 in
theorem b_ChipMapModel_registersRight_95 {p : Program} {l : Launch} {e : Env} {s s0 : State} {m : MethodId} {args : Array Value} {below : List Frame} {meth : Method} {c : Code} {D : va_G} {cI cZ cC cJ cA : ClassId} {P : Nat → Nat} {M' : Mm} {r' : Int32} {kf2 : Mm → Int32 → Rs} (hx : p.tables.exec = Jvm.exec) (hb : c.code = cX1_registersRight) (hml : c.maxLocals = 4) (hr : meth.sig.returnType = (some .boolean)) (hlk : meth.locks = false) (hgt : ∀ w ∈ GT, w.before args s = true) (hown : s.vm.findClass RX1 = some m.cls) (hK : va_K D vwCl [(cI, .int), (cZ, .boolean), (cC, .char), (cJ, .long), (cA, .array .int)] s) (hO : Old s0 s) (hAO : ∀ q, (aP P 51) q → s0.heap.size ≤ q) (kk2 : ∀ (M : Mm) (v1 : Int32) (H : Heap) (locs : List Loc) (ls : Array Slot), lv_has ls 4 [(0, .ref (P 0)), (1, .int v1)] → va_P D vwCl ((wY cI cZ cC cJ cA P) M) H → va_D (aP P 51) ((wY cI cZ cC cJ cA P) M) → va_S (aP P 51) s.heap H locs → kf2 M v1 = some (M', r') → W p l e ({ frames := 1, cells := 0, slots := 0, locals := 23 }) s m args below meth c H locs 0 0 (MQ below (gQi D (aP P 51) ((wY cI cZ cC cJ cA P) M') r') args s 0 0 (aP P 51)) (F0 m 2 ls [])) : ∀ (M : Mm) (v1 : Int32) (H : Heap) (locs : List Loc) (ls : Array Slot), lv_has ls 4 [(0, .ref (P 0)), (1, .int v1)] → va_P D vwCl ((wY cI cZ cC cJ cA P) M) H → va_D (aP P 51) ((wY cI cZ cC cJ cA P) M) → va_S (aP P 51) s.heap H locs → q_ChipMapModel_registersRight_95 kf2 M v1 = some (M', r') → W p l e ({ frames := 1, cells := 0, slots := 0, locals := 23 }) s m args below meth c H locs 0 0 (MQ below (gQi D (aP P 51) ((wY cI cZ cC cJ cA P) M') r') args s 0 0 (aP P 51)) (F0 m 95 ls []) := by
  intro M v1 H locs ls hl hP hD hS h
  unfold q_ChipMapModel_registersRight_95 at h
  refine lv_iinc (v := (v1 + 1)) hx hb dX1_registersRight_95 hl (k := 1) rfl rfl (Nat.le_of_ble_eq_true rfl) (lv' := [(1, .int (v1 + 1)), (0, .ref (P 0))]) rfl (fun ls hl => ?_)
  refine lv_goto hx hb dX1_registersRight_98 (tgt := 2) rfl ?_
  have hl := lv_sub hl [1, 0] (l' := [(0, .ref (P 0)), (1, .int (v1 + 1))]) rfl
  exact kk2 M (v1 + 1) H locs ls hl hP hD hS h
set_option maxHeartbeats 4000000 in
set_option maxRecDepth 20000 in
theorem b_ChipMapModel_registersRight_2 {p : Program} {l : Launch} {e : Env} {s s0 : State} {m : MethodId} {args : Array Value} {below : List Frame} {meth : Method} {c : Code} {D : va_G} {cI cZ cC cJ cA : ClassId} {P : Nat → Nat} {M' : Mm} {r' : Int32}  (hx : p.tables.exec = Jvm.exec) (hb : c.code = cX1_registersRight) (hml : c.maxLocals = 4) (hr : meth.sig.returnType = (some .boolean)) (hlk : meth.locks = false) (hgt : ∀ w ∈ GT, w.before args s = true) (hown : s.vm.findClass RX1 = some m.cls) (hK : va_K D vwCl [(cI, .int), (cZ, .boolean), (cC, .char), (cJ, .long), (cA, .array .int)] s) (hO : Old s0 s) (hAO : ∀ q, (aP P 51) q → s0.heap.size ≤ q)  : ∀ (n' : Nat) (M : Mm) (v1 : Int32) (H : Heap) (locs : List Loc) (ls : Array Slot), lv_has ls 4 [(0, .ref (P 0)), (1, .int v1)] → va_P D vwCl ((wY cI cZ cC cJ cA P) M) H → va_D (aP P 51) ((wY cI cZ cC cJ cA P) M) → va_S (aP P 51) s.heap H locs → q_ChipMapModel_registersRight_2 n' M v1 = some (M', r') → W p l e ({ frames := 1, cells := 0, slots := 0, locals := 23 }) s m args below meth c H locs 0 0 (MQ below (gQi D (aP P 51) ((wY cI cZ cC cJ cA P) M') r') args s 0 0 (aP P 51)) (F0 m 2 ls []) := by
  intro n'
  induction n' with
  | zero => exact fun _ _ _ _ _ _ _ _ _ h => (rs_n h).elim
  | succ n' ih =>
    intro M v1 H locs ls hl hP hD hS h
    rw [q_ChipMapModel_registersRight_2] at h
    refine lv_iload_n hx hb dX1_registersRight_2 rfl (lv_at hl 1 rfl) ?_
    refine lv_aload_n hx hb dX1_registersRight_3 rfl (lv_at hl 0 rfl) ?_
    refine va_get (D := D) (ci := 1) (v := .int (M.1 0 6)) (C := RX1) (T := TX1) (N := 76) hx hb hgt iwX1 hown hK hP 0 gY_0 rfl 6 (Nat.le_of_ble_eq_true rfl) (hgt _ wd_4_207) (fun _ h9 => h9) rfl dX1_registersRight_4 ?_
    refine lv_icmp_ge hx hb dX1_registersRight_7 (tgt := 101) rfl (fun hc => ?_) (fun hc => ?_)
    · have h := br_T hc h
      refine lv_iconst (v := 0) hx hb dX1_registersRight_101 (by decide) ?_
      refine lv_istore_n hx hb dX1_registersRight_102 rfl hl (Nat.le_of_ble_eq_true rfl) (lv' := [(1, .int 0), (0, .ref (P 0))]) rfl (fun ls hl => ?_)
      have hl := lv_sub hl [1, 0] (l' := [(0, .ref (P 0)), (1, .int 0)]) rfl
      exact b_ChipMapModel_registersRight_103 hx hb hml hr hlk hgt hown hK hO hAO 4000 M 0 H _ ls hl hP hD hS h
    · have h := br_F hc h
      refine lv_aload_n hx hb dX1_registersRight_10 rfl (lv_at hl 0 rfl) ?_
      refine va_get (D := D) (ci := 1) (v := .ref (P 3)) (C := RX1) (T := TX1) (N := 76) hx hb hgt iwX1 hown hK hP 0 gY_0 rfl 8 (Nat.le_of_ble_eq_true rfl) (hgt _ wd_4_209) (fun _ h9 => h9) rfl dX1_registersRight_11 ?_
      refine lv_iload_n hx hb dX1_registersRight_14 rfl (lv_at hl 1 rfl) ?_
      refine va_iald hx hb hK hP 3 0 gY_3 rfl (ix_l h) dX1_registersRight_15 ?_
      have h := ix_r h
      refine lv_iconst (v := (-1)) hx hb dX1_registersRight_16 (by decide) ?_
      refine lv_icmp_ne hx hb dX1_registersRight_17 (tgt := 23) rfl (fun hc => ?_) (fun hc => ?_)
      · have h := br_F hc h
        refine lv_aload_n hx hb dX1_registersRight_23 rfl (lv_at hl 0 rfl) ?_
        refine lv_aload_n hx hb dX1_registersRight_24 rfl (lv_at hl 0 rfl) ?_
        refine va_get (D := D) (ci := 1) (v := .ref (P 3)) (C := RX1) (T := TX1) (N := 76) hx hb hgt iwX1 hown hK hP 0 gY_0 rfl 8 (Nat.le_of_ble_eq_true rfl) (hgt _ wd_4_209) (fun _ h9 => h9) rfl dX1_registersRight_25 ?_
        refine lv_iload_n hx hb dX1_registersRight_28 rfl (lv_at hl 1 rfl) ?_
        refine va_iald hx hb hK hP 3 0 gY_3 rfl (ix_l h) dX1_registersRight_29 ?_
        have h := ix_r h
        refine lv_aload_n hx hb dX1_registersRight_30 rfl (lv_at hl 0 rfl) ?_
        refine va_get (D := D) (ci := 1) (v := .int (M.1 0 12)) (C := RX1) (T := TX1) (N := 76) hx hb hgt iwX1 hown hK hP 0 gY_0 rfl 12 (Nat.le_of_ble_eq_true rfl) (hgt _ wd_4_213) (fun _ h9 => h9) rfl dX1_registersRight_31 ?_
        obtain ⟨M1, r2, hq, h⟩ := cal_o h
        refine cx_i (va_runV (As := [.int (M.1 3 (v1 : Int32).toNatClampNeg), .int (M.1 0 12)]) (rest := []) ⟨hx, hb, hml, hown, hgt⟩ (z_ChipMapModel_named l D cI cZ cC cJ cA P s0 hAO M (M.1 3 (v1 : Int32).toNatClampNeg) (M.1 0 12) M1 r2 hq) (cwV 2 hgt (gV wd_6_13 wd_6_15 sl__ChipMapModel____ChipMapModel___named____II_I_____ChipMapModel___named____II_I__ wd_0_15 wd_6_16) rfl rfl rfl (by decide +kernel) ⟨Nat.le_of_ble_eq_true rfl, Nat.le_of_ble_eq_true rfl⟩) (prV hP hK hD hO hAO hS (va_recv hK hP (ci := 1) (q0 := 0) rfl gY_0)) rfl rfl hl.1 rfl (lv_room (Nat.le_of_ble_eq_true rfl)) dX1_registersRight_34 ⟨Nat.le_of_ble_eq_true rfl, Nat.le_of_ble_eq_true rfl⟩) hS (fun H locs hP hD hS => ?_)
        refine lv_istore_n hx hb dX1_registersRight_37 rfl hl (Nat.le_of_ble_eq_true rfl) (lv' := [(2, .int r2), (0, .ref (P 0)), (1, .int v1)]) rfl (fun ls hl => ?_)
        refine lv_iload_n hx hb dX1_registersRight_38 rfl (lv_at hl 0 rfl) ?_
        refine lv_iconst (v := (-1)) hx hb dX1_registersRight_39 (by decide) ?_
        refine lv_icmp_eq hx hb dX1_registersRight_40 (tgt := 83) rfl (fun hc => ?_) (fun hc => ?_)
        · have h := br_T hc h
          have hl := lv_sub hl [1, 2] (l' := [(0, .ref (P 0)), (1, .int v1)]) rfl
          exact b_ChipMapModel_registersRight_83 hx hb hml hr hlk hgt hown hK hO hAO M1 v1 H _ ls hl hP hD hS h
        · have h := br_F hc h
          refine lv_aload_n hx hb dX1_registersRight_43 rfl (lv_at hl 1 rfl) ?_
          refine va_get (D := D) (ci := 1) (v := .ref (P 8)) (C := RX1) (T := TX1) (N := 76) hx hb hgt iwX1 hown hK hP 0 gY_0 rfl 14 (Nat.le_of_ble_eq_true rfl) (hgt _ wd_4_215) (fun _ h9 => h9) rfl dX1_registersRight_44 ?_
          refine lv_iload_n hx hb dX1_registersRight_47 rfl (lv_at hl 0 rfl) ?_
          refine va_iald hx hb hK hP 8 0 gY_8 rfl (ix_l h) dX1_registersRight_48 ?_
          have h := ix_r h
          refine lv_bipush (v := 119) hx hb dX1_registersRight_49 (by decide) ?_
          refine lv_icmp_ne hx hb dX1_registersRight_51 (tgt := 83) rfl (fun hc => ?_) (fun hc => ?_)
          · have h := br_F hc h
            have hl := lv_sub hl [1, 2] (l' := [(0, .ref (P 0)), (1, .int v1)]) rfl
            exact b_ChipMapModel_registersRight_83 hx hb hml hr hlk hgt hown hK hO hAO M1 v1 H _ ls hl hP hD hS h
          · have h := br_T hc h
            refine lv_aload_n hx hb dX1_registersRight_54 rfl (lv_at hl 1 rfl) ?_
            refine va_get (D := D) (ci := 1) (v := .ref (P 3)) (C := RX1) (T := TX1) (N := 76) hx hb hgt iwX1 hown hK hP 0 gY_0 rfl 8 (Nat.le_of_ble_eq_true rfl) (hgt _ wd_4_209) (fun _ h9 => h9) rfl dX1_registersRight_55 ?_
            refine lv_aload_n hx hb dX1_registersRight_58 rfl (lv_at hl 1 rfl) ?_
            refine va_get (D := D) (ci := 1) (v := .ref (P 12)) (C := RX1) (T := TX1) (N := 76) hx hb hgt iwX1 hown hK hP 0 gY_0 rfl 18 (Nat.le_of_ble_eq_true rfl) (hgt _ wd_4_219) (fun _ h9 => h9) rfl dX1_registersRight_59 ?_
            refine lv_iload_n hx hb dX1_registersRight_62 rfl (lv_at hl 0 rfl) ?_
            refine va_iald hx hb hK hP 12 0 gY_12 rfl (ix_l h) dX1_registersRight_63 ?_
            have h := ix_r h
            refine va_iald hx hb hK hP 3 0 gY_3 rfl (ix_l h) dX1_registersRight_64 ?_
            have h := ix_r h
            refine lv_iconst (v := (-1)) hx hb dX1_registersRight_65 (by decide) ?_
            refine lv_icmp_ne hx hb dX1_registersRight_66 (tgt := 83) rfl (fun hc => ?_) (fun hc => ?_)
            · have h := br_F hc h
              have hl := lv_sub hl [1, 2] (l' := [(0, .ref (P 0)), (1, .int v1)]) rfl
              exact b_ChipMapModel_registersRight_83 hx hb hml hr hlk hgt hown hK hO hAO M1 v1 H _ ls hl hP hD hS h
            · have h := br_T hc h
              refine lv_aload_n hx hb dX1_registersRight_69 rfl (lv_at hl 1 rfl) ?_
              refine lv_iload_n hx hb dX1_registersRight_70 rfl (lv_at hl 0 rfl) ?_
              refine lv_aload_n hx hb dX1_registersRight_71 rfl (lv_at hl 1 rfl) ?_
              refine va_get (D := D) (ci := 1) (v := .ref (P 4)) (C := RX1) (T := TX1) (N := 76) hx hb hgt iwX1 hown hK hP 0 gY_0 rfl 9 (Nat.le_of_ble_eq_true rfl) (hgt _ wd_4_210) (fun _ h9 => h9) rfl dX1_registersRight_72 ?_
              refine lv_iload_n hx hb dX1_registersRight_75 rfl (lv_at hl 2 rfl) ?_
              refine va_iald hx hb hK hP 4 0 gY_4 rfl (ix_l h) dX1_registersRight_76 ?_
              have h := ix_r h
              obtain ⟨M3, r4, hq, h⟩ := cal_o h
              refine cx_i (va_runV (As := [.int r2, .int (M1.1 4 (v1 : Int32).toNatClampNeg)]) (rest := []) ⟨hx, hb, hml, hown, hgt⟩ (z_ChipMapModel_fits l D cI cZ cC cJ cA P s0 hAO M1 r2 (M1.1 4 (v1 : Int32).toNatClampNeg) M3 r4 hq) (cwV 2 hgt (gV wd_6_17 wd_6_19 sl__ChipMapModel____ChipMapModel___fits____II_Z_____ChipMapModel___fits____II_Z__ wd_0_15 wd_6_20) rfl rfl rfl (by decide +kernel) ⟨Nat.le_of_ble_eq_true rfl, Nat.le_of_ble_eq_true rfl⟩) (prV hP hK hD hO hAO hS (va_recv hK hP (ci := 1) (q0 := 0) rfl gY_0)) rfl rfl hl.1 rfl (lv_room (Nat.le_of_ble_eq_true rfl)) dX1_registersRight_77 ⟨Nat.le_of_ble_eq_true rfl, Nat.le_of_ble_eq_true rfl⟩) hS (fun H locs hP hD hS => ?_)
              refine lv_if_ne hx hb dX1_registersRight_80 (tgt := 95) rfl (fun hc => ?_) (fun hc => ?_)
              · have h := br_F hc h
                have hl := lv_sub hl [1, 2] (l' := [(0, .ref (P 0)), (1, .int v1)]) rfl
                exact b_ChipMapModel_registersRight_95 hx hb hml hr hlk hgt hown hK hO hAO ih M3 v1 H _ ls hl hP hD hS h
              · have h := br_T hc h
                have hl := lv_sub hl [1, 2] (l' := [(0, .ref (P 0)), (1, .int v1)]) rfl
                exact b_ChipMapModel_registersRight_83 hx hb hml hr hlk hgt hown hK hO hAO M3 v1 H _ ls hl hP hD hS h
      · have h := br_T hc h
        refine lv_goto hx hb dX1_registersRight_20 (tgt := 95) rfl ?_
        have hl := lv_sub hl [0, 1] (l' := [(0, .ref (P 0)), (1, .int v1)]) rfl
        exact b_ChipMapModel_registersRight_95 hx hb hml hr hlk hgt hown hK hO hAO ih M v1 H _ ls hl hP hD hS h
set_option maxHeartbeats 4000000 in
set_option maxRecDepth 20000 in
theorem b_ChipMapModel_registersRight_0 {p : Program} {l : Launch} {e : Env} {s s0 : State} {m : MethodId} {args : Array Value} {below : List Frame} {meth : Method} {c : Code} {D : va_G} {cI cZ cC cJ cA : ClassId} {P : Nat → Nat} {M' : Mm} {r' : Int32}  (hx : p.tables.exec = Jvm.exec) (hb : c.code = cX1_registersRight) (hml : c.maxLocals = 4) (hr : meth.sig.returnType = (some .boolean)) (hlk : meth.locks = false) (hgt : ∀ w ∈ GT, w.before args s = true) (hown : s.vm.findClass RX1 = some m.cls) (hK : va_K D vwCl [(cI, .int), (cZ, .boolean), (cC, .char), (cJ, .long), (cA, .array .int)] s) (hO : Old s0 s) (hAO : ∀ q, (aP P 51) q → s0.heap.size ≤ q)  : ∀ (M : Mm)  (H : Heap) (locs : List Loc) (ls : Array Slot), lv_has ls 4 [(0, .ref (P 0))] → va_P D vwCl ((wY cI cZ cC cJ cA P) M) H → va_D (aP P 51) ((wY cI cZ cC cJ cA P) M) → va_S (aP P 51) s.heap H locs → q_ChipMapModel_registersRight M = some (M', r') → W p l e ({ frames := 1, cells := 0, slots := 0, locals := 23 }) s m args below meth c H locs 0 0 (MQ below (gQi D (aP P 51) ((wY cI cZ cC cJ cA P) M') r') args s 0 0 (aP P 51)) (F0 m 0 ls []) := by
  intro M H locs ls hl hP hD hS h
  unfold q_ChipMapModel_registersRight at h
  refine lv_iconst (v := 0) hx hb dX1_registersRight_0 (by decide) ?_
  refine lv_istore_n hx hb dX1_registersRight_1 rfl hl (Nat.le_of_ble_eq_true rfl) (lv' := [(1, .int 0), (0, .ref (P 0))]) rfl (fun ls hl => ?_)
  have hl := lv_sub hl [1, 0] (l' := [(0, .ref (P 0)), (1, .int 0)]) rfl
  exact b_ChipMapModel_registersRight_2 hx hb hml hr hlk hgt hown hK hO hAO 4000 M 0 H _ ls hl hP hD hS h
set_option maxHeartbeats 4000000 in
set_option maxRecDepth 20000 in
theorem z_ChipMapModel_registersRight (l : Launch) (D : va_G) (cI cZ cC cJ cA : ClassId) (P : Nat → Nat) (s0 : State) (hAO : ∀ q, (aP P 51) q → s0.heap.size ≤ q) (M : Mm)  (M' : Mm) (r' : Int32) (h : q_ChipMapModel_registersRight M = some (M', r')) : Met l yX1_registersRight wsX1_registersRight ({ frames := 1, cells := 0, slots := 0, locals := 23 }) (va_Pc [.ref (P 0)] (gPre s0 D [(cI, .int), (cZ, .boolean), (cC, .char), (cJ, .long), (cA, .array .int)] (aP P 51) ((wY cI cZ cC cJ cA P) M))) (gQi D (aP P 51) ((wY cI cZ cC cJ cA P) M') r') 0 0 (aP P 51) := by
  refine Met.ofW (cc := cX1_registersRight) (maxL := 4) (ret := (some .boolean)) (by decide) rfl ?_
  intro p e s m args below meth c s₁ B hml hv
  obtain ⟨rfl, hP, hK, hD, hO⟩ := hv
  have hx := B.exec
  have hb := B.bytes
  have hr := B.returns
  have hlk := B.notSynchronized
  have hgt := fun w (h : w ∈ GT) => atoms_spec (ws := wsX1_registersRight) B.pre w (List.mem_cons_of_mem _ h)
  have hown : s.vm.findClass RX1 = some m.cls := findClass_of_methodNamed B.named
  have hS : va_S (aP P 51) s.heap s.heap [] := va_S.rf
  have hl := lv_entry ([.ref (P 0)]) (n := 4) (Nat.le_of_ble_eq_true rfl)
  rw [lg_entry_eq]
  generalize (lg_sl ([.ref (P 0)]) ++ List.replicate (4 - (lg_sl ([.ref (P 0)])).length) Slot.unset).toArray = ls at hl ⊢
  have hl : lv_has ls 4 [(0, .ref (P 0))] := hl
  exact b_ChipMapModel_registersRight_0 hx hb hml hr hlk hgt hown hK hO hAO M s.heap [] ls hl hP hD hS h
def q_ChipMapModel_isLooked  (M : Mm) (a1 : Int32) : Rs := if a1 = (-1) then (some (M, 0)) else (ix a1 140 <| if (M.1 8 (a1 : Int32).toNatClampNeg) = 114 then (some (M, 0)) else (ix a1 140 <| if (M.1 8 (a1 : Int32).toNatClampNeg) = 99 then (some (M, 0)) else (some (M, 1))))
set_option maxHeartbeats 4000000 in
set_option maxRecDepth 20000 in
theorem b_ChipMapModel_isLooked_0 {p : Program} {l : Launch} {e : Env} {s s0 : State} {m : MethodId} {args : Array Value} {below : List Frame} {meth : Method} {c : Code} {D : va_G} {cI cZ cC cJ cA : ClassId} {P : Nat → Nat} {M' : Mm} {r' : Int32}  (hx : p.tables.exec = Jvm.exec) (hb : c.code = cX1_isLooked) (hml : c.maxLocals = 2) (hr : meth.sig.returnType = (some .boolean)) (hlk : meth.locks = false) (hgt : ∀ w ∈ GT, w.before args s = true) (hown : s.vm.findClass RX1 = some m.cls) (hK : va_K D vwCl [(cI, .int), (cZ, .boolean), (cC, .char), (cJ, .long), (cA, .array .int)] s) (hO : Old s0 s) (hAO : ∀ q, (aP P 51) q → s0.heap.size ≤ q)  : ∀ (M : Mm) (a1 : Int32) (H : Heap) (locs : List Loc) (ls : Array Slot), lv_has ls 2 [(0, .ref (P 0)), (1, .int a1)] → va_P D vwCl ((wY cI cZ cC cJ cA P) M) H → va_D (aP P 51) ((wY cI cZ cC cJ cA P) M) → va_S (aP P 51) s.heap H locs → q_ChipMapModel_isLooked M a1 = some (M', r') → W p l e ({ frames := 0, cells := 0, slots := 0, locals := 0 }) s m args below meth c H locs 0 0 (MQ below (gQi D (aP P 51) ((wY cI cZ cC cJ cA P) M') r') args s 0 0 (aP P 51)) (F0 m 0 ls []) := by
  intro M a1 H locs ls hl hP hD hS h
  unfold q_ChipMapModel_isLooked at h
  refine lv_iload_n hx hb dX1_isLooked_0 rfl (lv_at hl 1 rfl) ?_
  refine lv_iconst (v := (-1)) hx hb dX1_isLooked_1 (by decide) ?_
  refine lv_icmp_eq hx hb dX1_isLooked_2 (tgt := 31) rfl (fun hc => ?_) (fun hc => ?_)
  · have h := br_T hc h
    refine lv_iconst (v := 0) hx hb dX1_isLooked_31 (by decide) ?_
    exact rt_z (w := (wY cI cZ cC cJ cA P)) hx hb hr hlk rfl hP hD hS h dX1_isLooked_32
  · have h := br_F hc h
    refine lv_aload_n hx hb dX1_isLooked_5 rfl (lv_at hl 0 rfl) ?_
    refine va_get (D := D) (ci := 1) (v := .ref (P 8)) (C := RX1) (T := TX1) (N := 76) hx hb hgt iwX1 hown hK hP 0 gY_0 rfl 14 (Nat.le_of_ble_eq_true rfl) (hgt _ wd_4_215) (fun _ h9 => h9) rfl dX1_isLooked_6 ?_
    refine lv_iload_n hx hb dX1_isLooked_9 rfl (lv_at hl 1 rfl) ?_
    refine va_iald hx hb hK hP 8 0 gY_8 rfl (ix_l h) dX1_isLooked_10 ?_
    have h := ix_r h
    refine lv_bipush (v := 114) hx hb dX1_isLooked_11 (by decide) ?_
    refine lv_icmp_eq hx hb dX1_isLooked_13 (tgt := 31) rfl (fun hc => ?_) (fun hc => ?_)
    · have h := br_T hc h
      refine lv_iconst (v := 0) hx hb dX1_isLooked_31 (by decide) ?_
      exact rt_z (w := (wY cI cZ cC cJ cA P)) hx hb hr hlk rfl hP hD hS h dX1_isLooked_32
    · have h := br_F hc h
      refine lv_aload_n hx hb dX1_isLooked_16 rfl (lv_at hl 0 rfl) ?_
      refine va_get (D := D) (ci := 1) (v := .ref (P 8)) (C := RX1) (T := TX1) (N := 76) hx hb hgt iwX1 hown hK hP 0 gY_0 rfl 14 (Nat.le_of_ble_eq_true rfl) (hgt _ wd_4_215) (fun _ h9 => h9) rfl dX1_isLooked_17 ?_
      refine lv_iload_n hx hb dX1_isLooked_20 rfl (lv_at hl 1 rfl) ?_
      refine va_iald hx hb hK hP 8 0 gY_8 rfl (ix_l h) dX1_isLooked_21 ?_
      have h := ix_r h
      refine lv_bipush (v := 99) hx hb dX1_isLooked_22 (by decide) ?_
      refine lv_icmp_eq hx hb dX1_isLooked_24 (tgt := 31) rfl (fun hc => ?_) (fun hc => ?_)
      · have h := br_T hc h
        refine lv_iconst (v := 0) hx hb dX1_isLooked_31 (by decide) ?_
        exact rt_z (w := (wY cI cZ cC cJ cA P)) hx hb hr hlk rfl hP hD hS h dX1_isLooked_32
      · have h := br_F hc h
        refine lv_iconst (v := 1) hx hb dX1_isLooked_27 (by decide) ?_
        refine lv_goto hx hb dX1_isLooked_28 (tgt := 32) rfl ?_
        exact rt_z (w := (wY cI cZ cC cJ cA P)) hx hb hr hlk rfl hP hD hS h dX1_isLooked_32
set_option maxHeartbeats 4000000 in
set_option maxRecDepth 20000 in
theorem z_ChipMapModel_isLooked (l : Launch) (D : va_G) (cI cZ cC cJ cA : ClassId) (P : Nat → Nat) (s0 : State) (hAO : ∀ q, (aP P 51) q → s0.heap.size ≤ q) (M : Mm) (a1 : Int32) (M' : Mm) (r' : Int32) (h : q_ChipMapModel_isLooked M a1 = some (M', r')) : Met l yX1_isLooked wsX1_isLooked ({ frames := 0, cells := 0, slots := 0, locals := 0 }) (va_Pc [.ref (P 0), .int a1] (gPre s0 D [(cI, .int), (cZ, .boolean), (cC, .char), (cJ, .long), (cA, .array .int)] (aP P 51) ((wY cI cZ cC cJ cA P) M))) (gQi D (aP P 51) ((wY cI cZ cC cJ cA P) M') r') 0 0 (aP P 51) := by
  refine Met.ofW (cc := cX1_isLooked) (maxL := 2) (ret := (some .boolean)) (by decide) rfl ?_
  intro p e s m args below meth c s₁ B hml hv
  obtain ⟨rfl, hP, hK, hD, hO⟩ := hv
  have hx := B.exec
  have hb := B.bytes
  have hr := B.returns
  have hlk := B.notSynchronized
  have hgt := fun w (h : w ∈ GT) => atoms_spec (ws := wsX1_isLooked) B.pre w (List.mem_cons_of_mem _ h)
  have hown : s.vm.findClass RX1 = some m.cls := findClass_of_methodNamed B.named
  have hS : va_S (aP P 51) s.heap s.heap [] := va_S.rf
  have hl := lv_entry ([.ref (P 0), .int a1]) (n := 2) (Nat.le_of_ble_eq_true rfl)
  rw [lg_entry_eq]
  generalize (lg_sl ([.ref (P 0), .int a1]) ++ List.replicate (2 - (lg_sl ([.ref (P 0), .int a1])).length) Slot.unset).toArray = ls at hl ⊢
  have hl : lv_has ls 2 [(0, .ref (P 0)), (1, .int a1)] := hl
  exact b_ChipMapModel_isLooked_0 hx hb hml hr hlk hgt hown hK hO hAO M a1 s.heap [] ls hl hP hD hS h
def q_ChipMapModel_rulesRight_125 (kf2 : Mm → Int32 → Rs) (M : Mm) (v1 : Int32) (t0 : Int32) : Rs := if t0 = 0 then (ix v1 13 <| cal (q_ChipMapModel_wrong M 4 (M.1 19 (v1 : Int32).toNatClampNeg)) fun M1 r2 => bz r2 (some (M1, r2))) else (kf2 M (v1 + 1))
def q_ChipMapModel_rulesRight_116 (kf2 : Mm → Int32 → Rs) (M : Mm) (v1 : Int32) : Rs := q_ChipMapModel_rulesRight_125 kf2 M v1 0
def q_ChipMapModel_rulesRight_98 (kf2 : Mm → Int32 → Rs) (M : Mm) (v1 : Int32) (v3 : Int32) : Rs := ix v1 13 <| cal (q_ChipMapModel_fits M v3 (M.1 17 (v1 : Int32).toNatClampNeg)) fun M1 r2 => if r2 = 0 then (q_ChipMapModel_rulesRight_116 kf2 M1 v1) else (q_ChipMapModel_rulesRight_125 kf2 M1 v1 1)
def q_ChipMapModel_rulesRight_2  : Nat → Mm → Int32 → Rs
  | 0, _, _ => none
  | n' + 1, M, v1 => if (M.1 0 20) ≤ v1 then (some (M, 1)) else (ix v1 13 <| cal (q_ChipMapModel_named M (M.1 15 (v1 : Int32).toNatClampNeg) (M.1 0 12)) fun M1 r2 => ix v1 13 <| cal (q_ChipMapModel_named M1 (M1.1 16 (v1 : Int32).toNatClampNeg) (M1.1 0 12)) fun M3 r4 => cal (q_ChipMapModel_isLooked M3 r2) fun M5 r6 => if r6 = 0 then (ix v1 13 <| cal (q_ChipMapModel_wrong M5 4 (M5.1 18 (v1 : Int32).toNatClampNeg)) fun M7 r8 => bz r8 (some (M7, r8))) else (ix v1 13 <| if (M5.1 14 (v1 : Int32).toNatClampNeg) = 38 then (if r4 = (-1) then (q_ChipMapModel_rulesRight_116 (q_ChipMapModel_rulesRight_2 n') M5 v1) else (ix r4 140 <| if (M5.1 8 (r4 : Int32).toNatClampNeg) = 119 then (q_ChipMapModel_rulesRight_98 (q_ChipMapModel_rulesRight_2 n') M5 v1 r4) else (ix r4 140 <| if (M5.1 8 (r4 : Int32).toNatClampNeg) = 111 then (q_ChipMapModel_rulesRight_98 (q_ChipMapModel_rulesRight_2 n') M5 v1 r4) else (q_ChipMapModel_rulesRight_116 (q_ChipMapModel_rulesRight_2 n') M5 v1)))) else (cal (q_ChipMapModel_isLooked M5 r4) fun M7 r8 => q_ChipMapModel_rulesRight_125 (q_ChipMapModel_rulesRight_2 n') M7 v1 r8)))
def q_ChipMapModel_rulesRight  (M : Mm)  : Rs := q_ChipMapModel_rulesRight_2 4000 M 0
set_option maxHeartbeats 4000000 in
set_option maxRecDepth 20000 in
theorem b_ChipMapModel_rulesRight_125 {p : Program} {l : Launch} {e : Env} {s s0 : State} {m : MethodId} {args : Array Value} {below : List Frame} {meth : Method} {c : Code} {D : va_G} {cI cZ cC cJ cA : ClassId} {P : Nat → Nat} {M' : Mm} {r' : Int32} {kf2 : Mm → Int32 → Rs} (hx : p.tables.exec = Jvm.exec) (hb : c.code = cX1_rulesRight) (hml : c.maxLocals = 5) (hr : meth.sig.returnType = (some .boolean)) (hlk : meth.locks = false) (hgt : ∀ w ∈ GT, w.before args s = true) (hown : s.vm.findClass RX1 = some m.cls) (hK : va_K D vwCl [(cI, .int), (cZ, .boolean), (cC, .char), (cJ, .long), (cA, .array .int)] s) (hO : Old s0 s) (hAO : ∀ q, (aP P 51) q → s0.heap.size ≤ q) (kk2 : ∀ (M : Mm) (v1 : Int32) (H : Heap) (locs : List Loc) (ls : Array Slot), lv_has ls 5 [(0, .ref (P 0)), (1, .int v1)] → va_P D vwCl ((wY cI cZ cC cJ cA P) M) H → va_D (aP P 51) ((wY cI cZ cC cJ cA P) M) → va_S (aP P 51) s.heap H locs → kf2 M v1 = some (M', r') → W p l e ({ frames := 1, cells := 0, slots := 0, locals := 23 }) s m args below meth c H locs 0 0 (MQ below (gQi D (aP P 51) ((wY cI cZ cC cJ cA P) M') r') args s 0 0 (aP P 51)) (F0 m 2 ls [])) : ∀ (M : Mm) (v1 : Int32) (t0 : Int32) (H : Heap) (locs : List Loc) (ls : Array Slot), lv_has ls 5 [(0, .ref (P 0)), (1, .int v1)] → va_P D vwCl ((wY cI cZ cC cJ cA P) M) H → va_D (aP P 51) ((wY cI cZ cC cJ cA P) M) → va_S (aP P 51) s.heap H locs → q_ChipMapModel_rulesRight_125 kf2 M v1 t0 = some (M', r') → W p l e ({ frames := 1, cells := 0, slots := 0, locals := 23 }) s m args below meth c H locs 0 0 (MQ below (gQi D (aP P 51) ((wY cI cZ cC cJ cA P) M') r') args s 0 0 (aP P 51)) (F0 m 125 ls [.int t0]) := by
  intro M v1 t0 H locs ls hl hP hD hS h
  unfold q_ChipMapModel_rulesRight_125 at h
  refine lv_istore hx hb dX1_rulesRight_125 hl (Nat.le_of_ble_eq_true rfl) (lv' := [(4, .int t0), (0, .ref (P 0)), (1, .int v1)]) rfl (fun ls hl => ?_)
  refine lv_iload hx hb dX1_rulesRight_127 (lv_at hl 0 rfl) ?_
  refine lv_if_ne hx hb dX1_rulesRight_129 (tgt := 144) rfl (fun hc => ?_) (fun hc => ?_)
  · have h := br_F hc h
    refine lv_iinc (v := (v1 + 1)) hx hb dX1_rulesRight_144 hl (k := 2) rfl rfl (Nat.le_of_ble_eq_true rfl) (lv' := [(1, .int (v1 + 1)), (4, .int t0), (0, .ref (P 0))]) rfl (fun ls hl => ?_)
    refine lv_goto hx hb dX1_rulesRight_147 (tgt := 2) rfl ?_
    have hl := lv_sub hl [2, 0] (l' := [(0, .ref (P 0)), (1, .int (v1 + 1))]) rfl
    exact kk2 M (v1 + 1) H locs ls hl hP hD hS h
  · have h := br_T hc h
    refine lv_aload_n hx hb dX1_rulesRight_132 rfl (lv_at hl 1 rfl) ?_
    refine lv_iconst (v := 4) hx hb dX1_rulesRight_133 (by decide) ?_
    refine lv_aload_n hx hb dX1_rulesRight_134 rfl (lv_at hl 1 rfl) ?_
    refine va_get (D := D) (ci := 1) (v := .ref (P 19)) (C := RX1) (T := TX1) (N := 76) hx hb hgt iwX1 hown hK hP 0 gY_0 rfl 26 (Nat.le_of_ble_eq_true rfl) (hgt _ wd_4_227) (fun _ h9 => h9) rfl dX1_rulesRight_135 ?_
    refine lv_iload_n hx hb dX1_rulesRight_138 rfl (lv_at hl 2 rfl) ?_
    refine va_iald hx hb hK hP 19 0 gY_19 rfl (ix_l h) dX1_rulesRight_139 ?_
    have h := ix_r h
    obtain ⟨M1, r2, hq, h⟩ := cal_o h
    refine cx_i (va_runV (As := [.int 4, .int (M.1 19 (v1 : Int32).toNatClampNeg)]) (rest := []) ⟨hx, hb, hml, hown, hgt⟩ (z_ChipMapModel_wrong l D cI cZ cC cJ cA P s0 hAO M 4 (M.1 19 (v1 : Int32).toNatClampNeg) M1 r2 hq) (cwV 2 hgt (gV wd_5_208 wd_5_210 sl__ChipMapModel____ChipMapModel___wrong____II_Z_____ChipMapModel___wrong____II_Z__ wd_0_15 wd_5_211) rfl rfl rfl (by decide +kernel) ⟨Nat.le_of_ble_eq_true rfl, Nat.le_of_ble_eq_true rfl⟩) (prV hP hK hD hO hAO hS (va_recv hK hP (ci := 1) (q0 := 0) rfl gY_0)) rfl rfl hl.1 rfl (lv_room (Nat.le_of_ble_eq_true rfl)) dX1_rulesRight_140 ⟨Nat.le_of_ble_eq_true rfl, Nat.le_of_ble_eq_true rfl⟩) hS (fun H locs hP hD hS => ?_)
    exact rt_z (w := (wY cI cZ cC cJ cA P)) hx hb hr hlk (bz_l h) hP hD hS (bz_r h) dX1_rulesRight_143
set_option maxHeartbeats 4000000 in
set_option maxRecDepth 20000 in
theorem b_ChipMapModel_rulesRight_116 {p : Program} {l : Launch} {e : Env} {s s0 : State} {m : MethodId} {args : Array Value} {below : List Frame} {meth : Method} {c : Code} {D : va_G} {cI cZ cC cJ cA : ClassId} {P : Nat → Nat} {M' : Mm} {r' : Int32} {kf2 : Mm → Int32 → Rs} (hx : p.tables.exec = Jvm.exec) (hb : c.code = cX1_rulesRight) (hml : c.maxLocals = 5) (hr : meth.sig.returnType = (some .boolean)) (hlk : meth.locks = false) (hgt : ∀ w ∈ GT, w.before args s = true) (hown : s.vm.findClass RX1 = some m.cls) (hK : va_K D vwCl [(cI, .int), (cZ, .boolean), (cC, .char), (cJ, .long), (cA, .array .int)] s) (hO : Old s0 s) (hAO : ∀ q, (aP P 51) q → s0.heap.size ≤ q) (kk2 : ∀ (M : Mm) (v1 : Int32) (H : Heap) (locs : List Loc) (ls : Array Slot), lv_has ls 5 [(0, .ref (P 0)), (1, .int v1)] → va_P D vwCl ((wY cI cZ cC cJ cA P) M) H → va_D (aP P 51) ((wY cI cZ cC cJ cA P) M) → va_S (aP P 51) s.heap H locs → kf2 M v1 = some (M', r') → W p l e ({ frames := 1, cells := 0, slots := 0, locals := 23 }) s m args below meth c H locs 0 0 (MQ below (gQi D (aP P 51) ((wY cI cZ cC cJ cA P) M') r') args s 0 0 (aP P 51)) (F0 m 2 ls [])) : ∀ (M : Mm) (v1 : Int32) (H : Heap) (locs : List Loc) (ls : Array Slot), lv_has ls 5 [(0, .ref (P 0)), (1, .int v1)] → va_P D vwCl ((wY cI cZ cC cJ cA P) M) H → va_D (aP P 51) ((wY cI cZ cC cJ cA P) M) → va_S (aP P 51) s.heap H locs → q_ChipMapModel_rulesRight_116 kf2 M v1 = some (M', r') → W p l e ({ frames := 1, cells := 0, slots := 0, locals := 23 }) s m args below meth c H locs 0 0 (MQ below (gQi D (aP P 51) ((wY cI cZ cC cJ cA P) M') r') args s 0 0 (aP P 51)) (F0 m 116 ls []) := by
  intro M v1 H locs ls hl hP hD hS h
  unfold q_ChipMapModel_rulesRight_116 at h
  refine lv_iconst (v := 0) hx hb dX1_rulesRight_116 (by decide) ?_
  refine lv_goto hx hb dX1_rulesRight_117 (tgt := 125) rfl ?_
  have hl := lv_sub hl [0, 1] (l' := [(0, .ref (P 0)), (1, .int v1)]) rfl
  exact b_ChipMapModel_rulesRight_125 hx hb hml hr hlk hgt hown hK hO hAO kk2 M v1 0 H _ ls hl hP hD hS h
set_option maxHeartbeats 4000000 in
set_option maxRecDepth 20000 in
theorem b_ChipMapModel_rulesRight_98 {p : Program} {l : Launch} {e : Env} {s s0 : State} {m : MethodId} {args : Array Value} {below : List Frame} {meth : Method} {c : Code} {D : va_G} {cI cZ cC cJ cA : ClassId} {P : Nat → Nat} {M' : Mm} {r' : Int32} {kf2 : Mm → Int32 → Rs} (hx : p.tables.exec = Jvm.exec) (hb : c.code = cX1_rulesRight) (hml : c.maxLocals = 5) (hr : meth.sig.returnType = (some .boolean)) (hlk : meth.locks = false) (hgt : ∀ w ∈ GT, w.before args s = true) (hown : s.vm.findClass RX1 = some m.cls) (hK : va_K D vwCl [(cI, .int), (cZ, .boolean), (cC, .char), (cJ, .long), (cA, .array .int)] s) (hO : Old s0 s) (hAO : ∀ q, (aP P 51) q → s0.heap.size ≤ q) (kk2 : ∀ (M : Mm) (v1 : Int32) (H : Heap) (locs : List Loc) (ls : Array Slot), lv_has ls 5 [(0, .ref (P 0)), (1, .int v1)] → va_P D vwCl ((wY cI cZ cC cJ cA P) M) H → va_D (aP P 51) ((wY cI cZ cC cJ cA P) M) → va_S (aP P 51) s.heap H locs → kf2 M v1 = some (M', r') → W p l e ({ frames := 1, cells := 0, slots := 0, locals := 23 }) s m args below meth c H locs 0 0 (MQ below (gQi D (aP P 51) ((wY cI cZ cC cJ cA P) M') r') args s 0 0 (aP P 51)) (F0 m 2 ls [])) : ∀ (M : Mm) (v1 : Int32) (v3 : Int32) (H : Heap) (locs : List Loc) (ls : Array Slot), lv_has ls 5 [(0, .ref (P 0)), (1, .int v1), (3, .int v3)] → va_P D vwCl ((wY cI cZ cC cJ cA P) M) H → va_D (aP P 51) ((wY cI cZ cC cJ cA P) M) → va_S (aP P 51) s.heap H locs → q_ChipMapModel_rulesRight_98 kf2 M v1 v3 = some (M', r') → W p l e ({ frames := 1, cells := 0, slots := 0, locals := 23 }) s m args below meth c H locs 0 0 (MQ below (gQi D (aP P 51) ((wY cI cZ cC cJ cA P) M') r') args s 0 0 (aP P 51)) (F0 m 98 ls []) := by
  intro M v1 v3 H locs ls hl hP hD hS h
  unfold q_ChipMapModel_rulesRight_98 at h
  refine lv_aload_n hx hb dX1_rulesRight_98 rfl (lv_at hl 0 rfl) ?_
  refine lv_iload_n hx hb dX1_rulesRight_99 rfl (lv_at hl 2 rfl) ?_
  refine lv_aload_n hx hb dX1_rulesRight_100 rfl (lv_at hl 0 rfl) ?_
  refine va_get (D := D) (ci := 1) (v := .ref (P 17)) (C := RX1) (T := TX1) (N := 76) hx hb hgt iwX1 hown hK hP 0 gY_0 rfl 24 (Nat.le_of_ble_eq_true rfl) (hgt _ wd_4_225) (fun _ h9 => h9) rfl dX1_rulesRight_101 ?_
  refine lv_iload_n hx hb dX1_rulesRight_104 rfl (lv_at hl 1 rfl) ?_
  refine va_iald hx hb hK hP 17 0 gY_17 rfl (ix_l h) dX1_rulesRight_105 ?_
  have h := ix_r h
  obtain ⟨M1, r2, hq, h⟩ := cal_o h
  refine cx_i (va_runV (As := [.int v3, .int (M.1 17 (v1 : Int32).toNatClampNeg)]) (rest := []) ⟨hx, hb, hml, hown, hgt⟩ (z_ChipMapModel_fits l D cI cZ cC cJ cA P s0 hAO M v3 (M.1 17 (v1 : Int32).toNatClampNeg) M1 r2 hq) (cwV 2 hgt (gV wd_6_17 wd_6_19 sl__ChipMapModel____ChipMapModel___fits____II_Z_____ChipMapModel___fits____II_Z__ wd_0_15 wd_6_20) rfl rfl rfl (by decide +kernel) ⟨Nat.le_of_ble_eq_true rfl, Nat.le_of_ble_eq_true rfl⟩) (prV hP hK hD hO hAO hS (va_recv hK hP (ci := 1) (q0 := 0) rfl gY_0)) rfl rfl hl.1 rfl (lv_room (Nat.le_of_ble_eq_true rfl)) dX1_rulesRight_106 ⟨Nat.le_of_ble_eq_true rfl, Nat.le_of_ble_eq_true rfl⟩) hS (fun H locs hP hD hS => ?_)
  refine lv_if_eq hx hb dX1_rulesRight_109 (tgt := 116) rfl (fun hc => ?_) (fun hc => ?_)
  · have h := br_T hc h
    have hl := lv_sub hl [0, 1] (l' := [(0, .ref (P 0)), (1, .int v1)]) rfl
    exact b_ChipMapModel_rulesRight_116 hx hb hml hr hlk hgt hown hK hO hAO kk2 M1 v1 H _ ls hl hP hD hS h
  · have h := br_F hc h
    refine lv_iconst (v := 1) hx hb dX1_rulesRight_112 (by decide) ?_
    refine lv_goto hx hb dX1_rulesRight_113 (tgt := 125) rfl ?_
    have hl := lv_sub hl [0, 1] (l' := [(0, .ref (P 0)), (1, .int v1)]) rfl
    exact b_ChipMapModel_rulesRight_125 hx hb hml hr hlk hgt hown hK hO hAO kk2 M1 v1 1 H _ ls hl hP hD hS h
set_option maxHeartbeats 4000000 in
set_option maxRecDepth 20000 in
theorem b_ChipMapModel_rulesRight_2 {p : Program} {l : Launch} {e : Env} {s s0 : State} {m : MethodId} {args : Array Value} {below : List Frame} {meth : Method} {c : Code} {D : va_G} {cI cZ cC cJ cA : ClassId} {P : Nat → Nat} {M' : Mm} {r' : Int32}  (hx : p.tables.exec = Jvm.exec) (hb : c.code = cX1_rulesRight) (hml : c.maxLocals = 5) (hr : meth.sig.returnType = (some .boolean)) (hlk : meth.locks = false) (hgt : ∀ w ∈ GT, w.before args s = true) (hown : s.vm.findClass RX1 = some m.cls) (hK : va_K D vwCl [(cI, .int), (cZ, .boolean), (cC, .char), (cJ, .long), (cA, .array .int)] s) (hO : Old s0 s) (hAO : ∀ q, (aP P 51) q → s0.heap.size ≤ q)  : ∀ (n' : Nat) (M : Mm) (v1 : Int32) (H : Heap) (locs : List Loc) (ls : Array Slot), lv_has ls 5 [(0, .ref (P 0)), (1, .int v1)] → va_P D vwCl ((wY cI cZ cC cJ cA P) M) H → va_D (aP P 51) ((wY cI cZ cC cJ cA P) M) → va_S (aP P 51) s.heap H locs → q_ChipMapModel_rulesRight_2 n' M v1 = some (M', r') → W p l e ({ frames := 1, cells := 0, slots := 0, locals := 23 }) s m args below meth c H locs 0 0 (MQ below (gQi D (aP P 51) ((wY cI cZ cC cJ cA P) M') r') args s 0 0 (aP P 51)) (F0 m 2 ls []) := by
  intro n'
  induction n' with
  | zero => exact fun _ _ _ _ _ _ _ _ _ h => (rs_n h).elim
  | succ n' ih =>
    intro M v1 H locs ls hl hP hD hS h
    rw [q_ChipMapModel_rulesRight_2] at h
    refine lv_iload_n hx hb dX1_rulesRight_2 rfl (lv_at hl 1 rfl) ?_
    refine lv_aload_n hx hb dX1_rulesRight_3 rfl (lv_at hl 0 rfl) ?_
    refine va_get (D := D) (ci := 1) (v := .int (M.1 0 20)) (C := RX1) (T := TX1) (N := 76) hx hb hgt iwX1 hown hK hP 0 gY_0 rfl 20 (Nat.le_of_ble_eq_true rfl) (hgt _ wd_4_221) (fun _ h9 => h9) rfl dX1_rulesRight_4 ?_
    refine lv_icmp_ge hx hb dX1_rulesRight_7 (tgt := 150) rfl (fun hc => ?_) (fun hc => ?_)
    · have h := br_T hc h
      refine lv_iconst (v := 1) hx hb dX1_rulesRight_150 (by decide) ?_
      exact rt_z (w := (wY cI cZ cC cJ cA P)) hx hb hr hlk rfl hP hD hS h dX1_rulesRight_151
    · have h := br_F hc h
      refine lv_aload_n hx hb dX1_rulesRight_10 rfl (lv_at hl 0 rfl) ?_
      refine lv_aload_n hx hb dX1_rulesRight_11 rfl (lv_at hl 0 rfl) ?_
      refine va_get (D := D) (ci := 1) (v := .ref (P 15)) (C := RX1) (T := TX1) (N := 76) hx hb hgt iwX1 hown hK hP 0 gY_0 rfl 22 (Nat.le_of_ble_eq_true rfl) (hgt _ wd_4_223) (fun _ h9 => h9) rfl dX1_rulesRight_12 ?_
      refine lv_iload_n hx hb dX1_rulesRight_15 rfl (lv_at hl 1 rfl) ?_
      refine va_iald hx hb hK hP 15 0 gY_15 rfl (ix_l h) dX1_rulesRight_16 ?_
      have h := ix_r h
      refine lv_aload_n hx hb dX1_rulesRight_17 rfl (lv_at hl 0 rfl) ?_
      refine va_get (D := D) (ci := 1) (v := .int (M.1 0 12)) (C := RX1) (T := TX1) (N := 76) hx hb hgt iwX1 hown hK hP 0 gY_0 rfl 12 (Nat.le_of_ble_eq_true rfl) (hgt _ wd_4_213) (fun _ h9 => h9) rfl dX1_rulesRight_18 ?_
      obtain ⟨M1, r2, hq, h⟩ := cal_o h
      refine cx_i (va_runV (As := [.int (M.1 15 (v1 : Int32).toNatClampNeg), .int (M.1 0 12)]) (rest := []) ⟨hx, hb, hml, hown, hgt⟩ (z_ChipMapModel_named l D cI cZ cC cJ cA P s0 hAO M (M.1 15 (v1 : Int32).toNatClampNeg) (M.1 0 12) M1 r2 hq) (cwV 2 hgt (gV wd_6_13 wd_6_15 sl__ChipMapModel____ChipMapModel___named____II_I_____ChipMapModel___named____II_I__ wd_0_15 wd_6_16) rfl rfl rfl (by decide +kernel) ⟨Nat.le_of_ble_eq_true rfl, Nat.le_of_ble_eq_true rfl⟩) (prV hP hK hD hO hAO hS (va_recv hK hP (ci := 1) (q0 := 0) rfl gY_0)) rfl rfl hl.1 rfl (lv_room (Nat.le_of_ble_eq_true rfl)) dX1_rulesRight_21 ⟨Nat.le_of_ble_eq_true rfl, Nat.le_of_ble_eq_true rfl⟩) hS (fun H locs hP hD hS => ?_)
      refine lv_istore_n hx hb dX1_rulesRight_24 rfl hl (Nat.le_of_ble_eq_true rfl) (lv' := [(2, .int r2), (0, .ref (P 0)), (1, .int v1)]) rfl (fun ls hl => ?_)
      refine lv_aload_n hx hb dX1_rulesRight_25 rfl (lv_at hl 1 rfl) ?_
      refine lv_aload_n hx hb dX1_rulesRight_26 rfl (lv_at hl 1 rfl) ?_
      refine va_get (D := D) (ci := 1) (v := .ref (P 16)) (C := RX1) (T := TX1) (N := 76) hx hb hgt iwX1 hown hK hP 0 gY_0 rfl 23 (Nat.le_of_ble_eq_true rfl) (hgt _ wd_4_224) (fun _ h9 => h9) rfl dX1_rulesRight_27 ?_
      refine lv_iload_n hx hb dX1_rulesRight_30 rfl (lv_at hl 2 rfl) ?_
      refine va_iald hx hb hK hP 16 0 gY_16 rfl (ix_l h) dX1_rulesRight_31 ?_
      have h := ix_r h
      refine lv_aload_n hx hb dX1_rulesRight_32 rfl (lv_at hl 1 rfl) ?_
      refine va_get (D := D) (ci := 1) (v := .int (M1.1 0 12)) (C := RX1) (T := TX1) (N := 76) hx hb hgt iwX1 hown hK hP 0 gY_0 rfl 12 (Nat.le_of_ble_eq_true rfl) (hgt _ wd_4_213) (fun _ h9 => h9) rfl dX1_rulesRight_33 ?_
      obtain ⟨M3, r4, hq, h⟩ := cal_o h
      refine cx_i (va_runV (As := [.int (M1.1 16 (v1 : Int32).toNatClampNeg), .int (M1.1 0 12)]) (rest := []) ⟨hx, hb, hml, hown, hgt⟩ (z_ChipMapModel_named l D cI cZ cC cJ cA P s0 hAO M1 (M1.1 16 (v1 : Int32).toNatClampNeg) (M1.1 0 12) M3 r4 hq) (cwV 2 hgt (gV wd_6_13 wd_6_15 sl__ChipMapModel____ChipMapModel___named____II_I_____ChipMapModel___named____II_I__ wd_0_15 wd_6_16) rfl rfl rfl (by decide +kernel) ⟨Nat.le_of_ble_eq_true rfl, Nat.le_of_ble_eq_true rfl⟩) (prV hP hK hD hO hAO hS (va_recv hK hP (ci := 1) (q0 := 0) rfl gY_0)) rfl rfl hl.1 rfl (lv_room (Nat.le_of_ble_eq_true rfl)) dX1_rulesRight_36 ⟨Nat.le_of_ble_eq_true rfl, Nat.le_of_ble_eq_true rfl⟩) hS (fun H locs hP hD hS => ?_)
      refine lv_istore_n hx hb dX1_rulesRight_39 rfl hl (Nat.le_of_ble_eq_true rfl) (lv' := [(3, .int r4), (2, .int r2), (0, .ref (P 0)), (1, .int v1)]) rfl (fun ls hl => ?_)
      refine lv_aload_n hx hb dX1_rulesRight_40 rfl (lv_at hl 2 rfl) ?_
      refine lv_iload_n hx hb dX1_rulesRight_41 rfl (lv_at hl 1 rfl) ?_
      obtain ⟨M5, r6, hq, h⟩ := cal_o h
      refine cx_i (va_runV (As := [.int r2]) (rest := []) ⟨hx, hb, hml, hown, hgt⟩ (z_ChipMapModel_isLooked l D cI cZ cC cJ cA P s0 hAO M3 r2 M5 r6 hq) (cwV 1 hgt (gV wd_6_29 wd_6_31 sl__ChipMapModel____ChipMapModel___isLooked____I_Z_____ChipMapModel___isLooked____I_Z__ wd_0_15 wd_6_32) rfl rfl rfl (by decide +kernel) ⟨Nat.le_of_ble_eq_true rfl, Nat.le_of_ble_eq_true rfl⟩) (prV hP hK hD hO hAO hS (va_recv hK hP (ci := 1) (q0 := 0) rfl gY_0)) rfl rfl hl.1 rfl (lv_room (Nat.le_of_ble_eq_true rfl)) dX1_rulesRight_42 ⟨Nat.le_of_ble_eq_true rfl, Nat.le_of_ble_eq_true rfl⟩) hS (fun H locs hP hD hS => ?_)
      refine lv_if_ne hx hb dX1_rulesRight_45 (tgt := 60) rfl (fun hc => ?_) (fun hc => ?_)
      · have h := br_F hc h
        refine lv_aload_n hx hb dX1_rulesRight_60 rfl (lv_at hl 2 rfl) ?_
        refine va_get (D := D) (ci := 1) (v := .ref (P 14)) (C := RX1) (T := TX1) (N := 76) hx hb hgt iwX1 hown hK hP 0 gY_0 rfl 21 (Nat.le_of_ble_eq_true rfl) (hgt _ wd_4_222) (fun _ h9 => h9) rfl dX1_rulesRight_61 ?_
        refine lv_iload_n hx hb dX1_rulesRight_64 rfl (lv_at hl 3 rfl) ?_
        refine va_iald hx hb hK hP 14 0 gY_14 rfl (ix_l h) dX1_rulesRight_65 ?_
        have h := ix_r h
        refine lv_bipush (v := 38) hx hb dX1_rulesRight_66 (by decide) ?_
        refine lv_icmp_ne hx hb dX1_rulesRight_68 (tgt := 120) rfl (fun hc => ?_) (fun hc => ?_)
        · have h := br_F hc h
          refine lv_aload_n hx hb dX1_rulesRight_120 rfl (lv_at hl 2 rfl) ?_
          refine lv_iload_n hx hb dX1_rulesRight_121 rfl (lv_at hl 0 rfl) ?_
          obtain ⟨M7, r8, hq, h⟩ := cal_o h
          refine cx_i (va_runV (As := [.int r4]) (rest := []) ⟨hx, hb, hml, hown, hgt⟩ (z_ChipMapModel_isLooked l D cI cZ cC cJ cA P s0 hAO M5 r4 M7 r8 hq) (cwV 1 hgt (gV wd_6_29 wd_6_31 sl__ChipMapModel____ChipMapModel___isLooked____I_Z_____ChipMapModel___isLooked____I_Z__ wd_0_15 wd_6_32) rfl rfl rfl (by decide +kernel) ⟨Nat.le_of_ble_eq_true rfl, Nat.le_of_ble_eq_true rfl⟩) (prV hP hK hD hO hAO hS (va_recv hK hP (ci := 1) (q0 := 0) rfl gY_0)) rfl rfl hl.1 rfl (lv_room (Nat.le_of_ble_eq_true rfl)) dX1_rulesRight_122 ⟨Nat.le_of_ble_eq_true rfl, Nat.le_of_ble_eq_true rfl⟩) hS (fun H locs hP hD hS => ?_)
          have hl := lv_sub hl [2, 3] (l' := [(0, .ref (P 0)), (1, .int v1)]) rfl
          exact b_ChipMapModel_rulesRight_125 hx hb hml hr hlk hgt hown hK hO hAO ih M7 v1 r8 H _ ls hl hP hD hS h
        · have h := br_T hc h
          refine lv_iload_n hx hb dX1_rulesRight_71 rfl (lv_at hl 0 rfl) ?_
          refine lv_iconst (v := (-1)) hx hb dX1_rulesRight_72 (by decide) ?_
          refine lv_icmp_eq hx hb dX1_rulesRight_73 (tgt := 116) rfl (fun hc => ?_) (fun hc => ?_)
          · have h := br_T hc h
            have hl := lv_sub hl [2, 3] (l' := [(0, .ref (P 0)), (1, .int v1)]) rfl
            exact b_ChipMapModel_rulesRight_116 hx hb hml hr hlk hgt hown hK hO hAO ih M5 v1 H _ ls hl hP hD hS h
          · have h := br_F hc h
            refine lv_aload_n hx hb dX1_rulesRight_76 rfl (lv_at hl 2 rfl) ?_
            refine va_get (D := D) (ci := 1) (v := .ref (P 8)) (C := RX1) (T := TX1) (N := 76) hx hb hgt iwX1 hown hK hP 0 gY_0 rfl 14 (Nat.le_of_ble_eq_true rfl) (hgt _ wd_4_215) (fun _ h9 => h9) rfl dX1_rulesRight_77 ?_
            refine lv_iload_n hx hb dX1_rulesRight_80 rfl (lv_at hl 0 rfl) ?_
            refine va_iald hx hb hK hP 8 0 gY_8 rfl (ix_l h) dX1_rulesRight_81 ?_
            have h := ix_r h
            refine lv_bipush (v := 119) hx hb dX1_rulesRight_82 (by decide) ?_
            refine lv_icmp_eq hx hb dX1_rulesRight_84 (tgt := 98) rfl (fun hc => ?_) (fun hc => ?_)
            · have h := br_T hc h
              have hl := lv_sub hl [2, 3, 0] (l' := [(0, .ref (P 0)), (1, .int v1), (3, .int r4)]) rfl
              exact b_ChipMapModel_rulesRight_98 hx hb hml hr hlk hgt hown hK hO hAO ih M5 v1 r4 H _ ls hl hP hD hS h
            · have h := br_F hc h
              refine lv_aload_n hx hb dX1_rulesRight_87 rfl (lv_at hl 2 rfl) ?_
              refine va_get (D := D) (ci := 1) (v := .ref (P 8)) (C := RX1) (T := TX1) (N := 76) hx hb hgt iwX1 hown hK hP 0 gY_0 rfl 14 (Nat.le_of_ble_eq_true rfl) (hgt _ wd_4_215) (fun _ h9 => h9) rfl dX1_rulesRight_88 ?_
              refine lv_iload_n hx hb dX1_rulesRight_91 rfl (lv_at hl 0 rfl) ?_
              refine va_iald hx hb hK hP 8 0 gY_8 rfl (ix_l h) dX1_rulesRight_92 ?_
              have h := ix_r h
              refine lv_bipush (v := 111) hx hb dX1_rulesRight_93 (by decide) ?_
              refine lv_icmp_ne hx hb dX1_rulesRight_95 (tgt := 116) rfl (fun hc => ?_) (fun hc => ?_)
              · have h := br_F hc h
                have hl := lv_sub hl [2, 3] (l' := [(0, .ref (P 0)), (1, .int v1)]) rfl
                exact b_ChipMapModel_rulesRight_116 hx hb hml hr hlk hgt hown hK hO hAO ih M5 v1 H _ ls hl hP hD hS h
              · have h := br_T hc h
                have hl := lv_sub hl [2, 3, 0] (l' := [(0, .ref (P 0)), (1, .int v1), (3, .int r4)]) rfl
                exact b_ChipMapModel_rulesRight_98 hx hb hml hr hlk hgt hown hK hO hAO ih M5 v1 r4 H _ ls hl hP hD hS h
      · have h := br_T hc h
        refine lv_aload_n hx hb dX1_rulesRight_48 rfl (lv_at hl 2 rfl) ?_
        refine lv_iconst (v := 4) hx hb dX1_rulesRight_49 (by decide) ?_
        refine lv_aload_n hx hb dX1_rulesRight_50 rfl (lv_at hl 2 rfl) ?_
        refine va_get (D := D) (ci := 1) (v := .ref (P 18)) (C := RX1) (T := TX1) (N := 76) hx hb hgt iwX1 hown hK hP 0 gY_0 rfl 25 (Nat.le_of_ble_eq_true rfl) (hgt _ wd_4_226) (fun _ h9 => h9) rfl dX1_rulesRight_51 ?_
        refine lv_iload_n hx hb dX1_rulesRight_54 rfl (lv_at hl 3 rfl) ?_
        refine va_iald hx hb hK hP 18 0 gY_18 rfl (ix_l h) dX1_rulesRight_55 ?_
        have h := ix_r h
        obtain ⟨M7, r8, hq, h⟩ := cal_o h
        refine cx_i (va_runV (As := [.int 4, .int (M5.1 18 (v1 : Int32).toNatClampNeg)]) (rest := []) ⟨hx, hb, hml, hown, hgt⟩ (z_ChipMapModel_wrong l D cI cZ cC cJ cA P s0 hAO M5 4 (M5.1 18 (v1 : Int32).toNatClampNeg) M7 r8 hq) (cwV 2 hgt (gV wd_5_208 wd_5_210 sl__ChipMapModel____ChipMapModel___wrong____II_Z_____ChipMapModel___wrong____II_Z__ wd_0_15 wd_5_211) rfl rfl rfl (by decide +kernel) ⟨Nat.le_of_ble_eq_true rfl, Nat.le_of_ble_eq_true rfl⟩) (prV hP hK hD hO hAO hS (va_recv hK hP (ci := 1) (q0 := 0) rfl gY_0)) rfl rfl hl.1 rfl (lv_room (Nat.le_of_ble_eq_true rfl)) dX1_rulesRight_56 ⟨Nat.le_of_ble_eq_true rfl, Nat.le_of_ble_eq_true rfl⟩) hS (fun H locs hP hD hS => ?_)
        exact rt_z (w := (wY cI cZ cC cJ cA P)) hx hb hr hlk (bz_l h) hP hD hS (bz_r h) dX1_rulesRight_59
set_option maxHeartbeats 4000000 in
set_option maxRecDepth 20000 in
theorem b_ChipMapModel_rulesRight_0 {p : Program} {l : Launch} {e : Env} {s s0 : State} {m : MethodId} {args : Array Value} {below : List Frame} {meth : Method} {c : Code} {D : va_G} {cI cZ cC cJ cA : ClassId} {P : Nat → Nat} {M' : Mm} {r' : Int32}  (hx : p.tables.exec = Jvm.exec) (hb : c.code = cX1_rulesRight) (hml : c.maxLocals = 5) (hr : meth.sig.returnType = (some .boolean)) (hlk : meth.locks = false) (hgt : ∀ w ∈ GT, w.before args s = true) (hown : s.vm.findClass RX1 = some m.cls) (hK : va_K D vwCl [(cI, .int), (cZ, .boolean), (cC, .char), (cJ, .long), (cA, .array .int)] s) (hO : Old s0 s) (hAO : ∀ q, (aP P 51) q → s0.heap.size ≤ q)  : ∀ (M : Mm)  (H : Heap) (locs : List Loc) (ls : Array Slot), lv_has ls 5 [(0, .ref (P 0))] → va_P D vwCl ((wY cI cZ cC cJ cA P) M) H → va_D (aP P 51) ((wY cI cZ cC cJ cA P) M) → va_S (aP P 51) s.heap H locs → q_ChipMapModel_rulesRight M = some (M', r') → W p l e ({ frames := 1, cells := 0, slots := 0, locals := 23 }) s m args below meth c H locs 0 0 (MQ below (gQi D (aP P 51) ((wY cI cZ cC cJ cA P) M') r') args s 0 0 (aP P 51)) (F0 m 0 ls []) := by
  intro M H locs ls hl hP hD hS h
  unfold q_ChipMapModel_rulesRight at h
  refine lv_iconst (v := 0) hx hb dX1_rulesRight_0 (by decide) ?_
  refine lv_istore_n hx hb dX1_rulesRight_1 rfl hl (Nat.le_of_ble_eq_true rfl) (lv' := [(1, .int 0), (0, .ref (P 0))]) rfl (fun ls hl => ?_)
  have hl := lv_sub hl [1, 0] (l' := [(0, .ref (P 0)), (1, .int 0)]) rfl
  exact b_ChipMapModel_rulesRight_2 hx hb hml hr hlk hgt hown hK hO hAO 4000 M 0 H _ ls hl hP hD hS h
set_option maxHeartbeats 4000000 in
set_option maxRecDepth 20000 in
theorem z_ChipMapModel_rulesRight (l : Launch) (D : va_G) (cI cZ cC cJ cA : ClassId) (P : Nat → Nat) (s0 : State) (hAO : ∀ q, (aP P 51) q → s0.heap.size ≤ q) (M : Mm)  (M' : Mm) (r' : Int32) (h : q_ChipMapModel_rulesRight M = some (M', r')) : Met l yX1_rulesRight wsX1_rulesRight ({ frames := 1, cells := 0, slots := 0, locals := 23 }) (va_Pc [.ref (P 0)] (gPre s0 D [(cI, .int), (cZ, .boolean), (cC, .char), (cJ, .long), (cA, .array .int)] (aP P 51) ((wY cI cZ cC cJ cA P) M))) (gQi D (aP P 51) ((wY cI cZ cC cJ cA P) M') r') 0 0 (aP P 51) := by
  refine Met.ofW (cc := cX1_rulesRight) (maxL := 5) (ret := (some .boolean)) (by decide) rfl ?_
  intro p e s m args below meth c s₁ B hml hv
  obtain ⟨rfl, hP, hK, hD, hO⟩ := hv
  have hx := B.exec
  have hb := B.bytes
  have hr := B.returns
  have hlk := B.notSynchronized
  have hgt := fun w (h : w ∈ GT) => atoms_spec (ws := wsX1_rulesRight) B.pre w (List.mem_cons_of_mem _ h)
  have hown : s.vm.findClass RX1 = some m.cls := findClass_of_methodNamed B.named
  have hS : va_S (aP P 51) s.heap s.heap [] := va_S.rf
  have hl := lv_entry ([.ref (P 0)]) (n := 5) (Nat.le_of_ble_eq_true rfl)
  rw [lg_entry_eq]
  generalize (lg_sl ([.ref (P 0)]) ++ List.replicate (5 - (lg_sl ([.ref (P 0)])).length) Slot.unset).toArray = ls at hl ⊢
  have hl : lv_has ls 5 [(0, .ref (P 0))] := hl
  exact b_ChipMapModel_rulesRight_0 hx hb hml hr hlk hgt hown hK hO hAO M s.heap [] ls hl hP hD hS h
end
