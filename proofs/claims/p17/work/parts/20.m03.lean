def q_ChipMapModel_registersRight_195 (kf103 : Mm → Int32 → Rs) (kf113 : Mm → Int32 → Int32 → Rs) (M : Mm) (v1 : Int32) (v2 : Int32) : Rs := kf113 M v1 (v2 + 1)
def q_ChipMapModel_registersRight_163 (kf103 : Mm → Int32 → Rs) (kf113 : Mm → Int32 → Int32 → Rs) (M : Mm) (v1 : Int32) (v2 : Int32) (t0 : Int32) : Rs := ix v2 17 <| ix v1 17 <| if (M.1 2 (v2 : Int32).toNatClampNeg) = (M.1 2 (v1 : Int32).toNatClampNeg) then (if t0 = 0 then (ix v1 17 <| cal (q_ChipMapModel_wrong M 3 (M.1 5 (v1 : Int32).toNatClampNeg)) fun M1 r2 => bz r2 (some (M1, r2))) else (q_ChipMapModel_registersRight_195 kf103 kf113 M v1 v2)) else (q_ChipMapModel_registersRight_195 kf103 kf113 M v1 v2)
def q_ChipMapModel_registersRight_162 (kf103 : Mm → Int32 → Rs) (kf113 : Mm → Int32 → Int32 → Rs) (M : Mm) (v1 : Int32) (v2 : Int32) : Rs := q_ChipMapModel_registersRight_163 kf103 kf113 M v1 v2 0
def q_ChipMapModel_registersRight_113 (kf103 : Mm → Int32 → Rs) : Nat → Mm → Int32 → Int32 → Rs
  | 0, _, _, _ => none
  | n' + 1, M, v1, v2 => if v1 ≤ v2 then (kf103 M (v1 + 1)) else (ix v1 17 <| if (M.1 3 (v1 : Int32).toNatClampNeg) = (-1) then (q_ChipMapModel_registersRight_162 kf103 (q_ChipMapModel_registersRight_113 kf103 n') M v1 v2) else (ix v2 17 <| ix v1 17 <| if (M.1 3 (v2 : Int32).toNatClampNeg) = (M.1 3 (v1 : Int32).toNatClampNeg) then (ix v2 17 <| ix v1 17 <| if (M.1 4 (v2 : Int32).toNatClampNeg) = (M.1 4 (v1 : Int32).toNatClampNeg) then (q_ChipMapModel_registersRight_162 kf103 (q_ChipMapModel_registersRight_113 kf103 n') M v1 v2) else (q_ChipMapModel_registersRight_163 kf103 (q_ChipMapModel_registersRight_113 kf103 n') M v1 v2 1)) else (q_ChipMapModel_registersRight_162 kf103 (q_ChipMapModel_registersRight_113 kf103 n') M v1 v2)))
def q_ChipMapModel_registersRight_103  : Nat → Mm → Int32 → Rs
  | 0, _, _ => none
  | n' + 1, M, v1 => if (M.1 0 6) ≤ v1 then (some (M, 1)) else (q_ChipMapModel_registersRight_113 (q_ChipMapModel_registersRight_103 n') 4000 M v1 0)
def q_ChipMapModel_registersRight_83  (M : Mm) (v1 : Int32) : Rs := ix v1 17 <| cal (q_ChipMapModel_wrong M 3 (M.1 6 (v1 : Int32).toNatClampNeg)) fun M1 r2 => bz r2 (some (M1, r2))
def q_ChipMapModel_registersRight_95 (kf2 : Mm → Int32 → Rs) (M : Mm) (v1 : Int32) : Rs := kf2 M (v1 + 1)
def q_ChipMapModel_registersRight_2  : Nat → Mm → Int32 → Rs
  | 0, _, _ => none
  | n' + 1, M, v1 => if (M.1 0 6) ≤ v1 then (q_ChipMapModel_registersRight_103 4000 M 0) else (ix v1 17 <| if (M.1 3 (v1 : Int32).toNatClampNeg) = (-1) then (q_ChipMapModel_registersRight_95 (q_ChipMapModel_registersRight_2 n') M v1) else (ix v1 17 <| cal (q_ChipMapModel_named M (M.1 3 (v1 : Int32).toNatClampNeg) (M.1 0 12)) fun M1 r2 => if r2 = (-1) then (q_ChipMapModel_registersRight_83 M1 v1) else (ix r2 140 <| if (M1.1 8 (r2 : Int32).toNatClampNeg) = 119 then (ix r2 140 <| ix (M1.1 12 (r2 : Int32).toNatClampNeg) 17 <| if (M1.1 3 ((M1.1 12 (r2 : Int32).toNatClampNeg) : Int32).toNatClampNeg) = (-1) then (ix v1 17 <| cal (q_ChipMapModel_fits M1 r2 (M1.1 4 (v1 : Int32).toNatClampNeg)) fun M3 r4 => if r4 = 0 then (q_ChipMapModel_registersRight_83 M3 v1) else (q_ChipMapModel_registersRight_95 (q_ChipMapModel_registersRight_2 n') M3 v1)) else (q_ChipMapModel_registersRight_83 M1 v1)) else (q_ChipMapModel_registersRight_83 M1 v1))))
def q_ChipMapModel_registersRight  (M : Mm)  : Rs := q_ChipMapModel_registersRight_2 4000 M 0
set_option maxHeartbeats 4000000 in
set_option maxRecDepth 20000 in
theorem b_ChipMapModel_registersRight_195 {p : Program} {l : Launch} {e : Env} {s s0 : State} {m : MethodId} {args : Array Value} {below : List Frame} {meth : Method} {c : Code} {D : va_G} {cI cZ cC cJ cA : ClassId} {P : Nat → Nat} {M' : Mm} {r' : Int32} {kf103 : Mm → Int32 → Rs} {kf113 : Mm → Int32 → Int32 → Rs} (hx : p.tables.exec = Jvm.exec) (hb : c.code = cX1_registersRight) (hml : c.maxLocals = 4) (hr : meth.sig.returnType = (some .boolean)) (hlk : meth.locks = false) (hgt : ∀ w ∈ GT, w.before args s = true) (hown : s.vm.findClass RX1 = some m.cls) (hK : va_K D vwCl [(cI, .int), (cZ, .boolean), (cC, .char), (cJ, .long), (cA, .array .int)] s) (hO : Old s0 s) (hAO : ∀ q, (aP P 51) q → s0.heap.size ≤ q) (kk103 : ∀ (M : Mm) (v1 : Int32) (H : Heap) (locs : List Loc) (ls : Array Slot), lv_has ls 4 [(0, .ref (P 0)), (1, .int v1)] → va_P D vwCl ((wY cI cZ cC cJ cA P) M) H → va_D (aP P 51) ((wY cI cZ cC cJ cA P) M) → va_S (aP P 51) s.heap H locs → kf103 M v1 = some (M', r') → W p l e ({ frames := 1, cells := 0, slots := 0, locals := 23 }) s m args below meth c H locs 0 0 (MQ below (gQi D (aP P 51) ((wY cI cZ cC cJ cA P) M') r') args s 0 0 (aP P 51)) (F0 m 103 ls [])) (kk113 : ∀ (M : Mm) (v1 : Int32) (v2 : Int32) (H : Heap) (locs : List Loc) (ls : Array Slot), lv_has ls 4 [(0, .ref (P 0)), (1, .int v1), (2, .int v2)] → va_P D vwCl ((wY cI cZ cC cJ cA P) M) H → va_D (aP P 51) ((wY cI cZ cC cJ cA P) M) → va_S (aP P 51) s.heap H locs → kf113 M v1 v2 = some (M', r') → W p l e ({ frames := 1, cells := 0, slots := 0, locals := 23 }) s m args below meth c H locs 0 0 (MQ below (gQi D (aP P 51) ((wY cI cZ cC cJ cA P) M') r') args s 0 0 (aP P 51)) (F0 m 113 ls [])) : ∀ (M : Mm) (v1 : Int32) (v2 : Int32) (H : Heap) (locs : List Loc) (ls : Array Slot), lv_has ls 4 [(0, .ref (P 0)), (1, .int v1), (2, .int v2)] → va_P D vwCl ((wY cI cZ cC cJ cA P) M) H → va_D (aP P 51) ((wY cI cZ cC cJ cA P) M) → va_S (aP P 51) s.heap H locs → q_ChipMapModel_registersRight_195 kf103 kf113 M v1 v2 = some (M', r') → W p l e ({ frames := 1, cells := 0, slots := 0, locals := 23 }) s m args below meth c H locs 0 0 (MQ below (gQi D (aP P 51) ((wY cI cZ cC cJ cA P) M') r') args s 0 0 (aP P 51)) (F0 m 195 ls []) := by
  intro M v1 v2 H locs ls hl hP hD hS h
  unfold q_ChipMapModel_registersRight_195 at h
  refine lv_iinc (v := (v2 + 1)) hx hb dX1_registersRight_195 hl (k := 2) rfl rfl (Nat.le_of_ble_eq_true rfl) (lv' := [(2, .int (v2 + 1)), (0, .ref (P 0)), (1, .int v1)]) rfl (fun ls hl => ?_)
  refine lv_goto hx hb dX1_registersRight_198 (tgt := 113) rfl ?_
  have hl := lv_sub hl [1, 2, 0] (l' := [(0, .ref (P 0)), (1, .int v1), (2, .int (v2 + 1))]) rfl
  exact kk113 M v1 (v2 + 1) H locs ls hl hP hD hS h
set_option maxHeartbeats 4000000 in
set_option maxRecDepth 20000 in
theorem b_ChipMapModel_registersRight_163 {p : Program} {l : Launch} {e : Env} {s s0 : State} {m : MethodId} {args : Array Value} {below : List Frame} {meth : Method} {c : Code} {D : va_G} {cI cZ cC cJ cA : ClassId} {P : Nat → Nat} {M' : Mm} {r' : Int32} {kf103 : Mm → Int32 → Rs} {kf113 : Mm → Int32 → Int32 → Rs} (hx : p.tables.exec = Jvm.exec) (hb : c.code = cX1_registersRight) (hml : c.maxLocals = 4) (hr : meth.sig.returnType = (some .boolean)) (hlk : meth.locks = false) (hgt : ∀ w ∈ GT, w.before args s = true) (hown : s.vm.findClass RX1 = some m.cls) (hK : va_K D vwCl [(cI, .int), (cZ, .boolean), (cC, .char), (cJ, .long), (cA, .array .int)] s) (hO : Old s0 s) (hAO : ∀ q, (aP P 51) q → s0.heap.size ≤ q) (kk103 : ∀ (M : Mm) (v1 : Int32) (H : Heap) (locs : List Loc) (ls : Array Slot), lv_has ls 4 [(0, .ref (P 0)), (1, .int v1)] → va_P D vwCl ((wY cI cZ cC cJ cA P) M) H → va_D (aP P 51) ((wY cI cZ cC cJ cA P) M) → va_S (aP P 51) s.heap H locs → kf103 M v1 = some (M', r') → W p l e ({ frames := 1, cells := 0, slots := 0, locals := 23 }) s m args below meth c H locs 0 0 (MQ below (gQi D (aP P 51) ((wY cI cZ cC cJ cA P) M') r') args s 0 0 (aP P 51)) (F0 m 103 ls [])) (kk113 : ∀ (M : Mm) (v1 : Int32) (v2 : Int32) (H : Heap) (locs : List Loc) (ls : Array Slot), lv_has ls 4 [(0, .ref (P 0)), (1, .int v1), (2, .int v2)] → va_P D vwCl ((wY cI cZ cC cJ cA P) M) H → va_D (aP P 51) ((wY cI cZ cC cJ cA P) M) → va_S (aP P 51) s.heap H locs → kf113 M v1 v2 = some (M', r') → W p l e ({ frames := 1, cells := 0, slots := 0, locals := 23 }) s m args below meth c H locs 0 0 (MQ below (gQi D (aP P 51) ((wY cI cZ cC cJ cA P) M') r') args s 0 0 (aP P 51)) (F0 m 113 ls [])) : ∀ (M : Mm) (v1 : Int32) (v2 : Int32) (t0 : Int32) (H : Heap) (locs : List Loc) (ls : Array Slot), lv_has ls 4 [(0, .ref (P 0)), (1, .int v1), (2, .int v2)] → va_P D vwCl ((wY cI cZ cC cJ cA P) M) H → va_D (aP P 51) ((wY cI cZ cC cJ cA P) M) → va_S (aP P 51) s.heap H locs → q_ChipMapModel_registersRight_163 kf103 kf113 M v1 v2 t0 = some (M', r') → W p l e ({ frames := 1, cells := 0, slots := 0, locals := 23 }) s m args below meth c H locs 0 0 (MQ below (gQi D (aP P 51) ((wY cI cZ cC cJ cA P) M') r') args s 0 0 (aP P 51)) (F0 m 163 ls [.int t0]) := by
  intro M v1 v2 t0 H locs ls hl hP hD hS h
  unfold q_ChipMapModel_registersRight_163 at h
  refine lv_istore_n hx hb dX1_registersRight_163 rfl hl (Nat.le_of_ble_eq_true rfl) (lv' := [(3, .int t0), (0, .ref (P 0)), (1, .int v1), (2, .int v2)]) rfl (fun ls hl => ?_)
  refine lv_aload_n hx hb dX1_registersRight_164 rfl (lv_at hl 1 rfl) ?_
  refine va_get (D := D) (ci := 1) (v := .ref (P 2)) (C := RX1) (T := TX1) (N := 76) hx hb hgt iwX1 hown hK hP 0 gY_0 rfl 7 (Nat.le_of_ble_eq_true rfl) (hgt _ wd_4_208) (fun _ h9 => h9) rfl dX1_registersRight_165 ?_
  refine lv_iload_n hx hb dX1_registersRight_168 rfl (lv_at hl 3 rfl) ?_
  refine va_iald hx hb hK hP 2 0 gY_2 rfl (ix_l h) dX1_registersRight_169 ?_
  have h := ix_r h
  refine lv_aload_n hx hb dX1_registersRight_170 rfl (lv_at hl 1 rfl) ?_
  refine va_get (D := D) (ci := 1) (v := .ref (P 2)) (C := RX1) (T := TX1) (N := 76) hx hb hgt iwX1 hown hK hP 0 gY_0 rfl 7 (Nat.le_of_ble_eq_true rfl) (hgt _ wd_4_208) (fun _ h9 => h9) rfl dX1_registersRight_171 ?_
  refine lv_iload_n hx hb dX1_registersRight_174 rfl (lv_at hl 2 rfl) ?_
  refine va_iald hx hb hK hP 2 0 gY_2 rfl (ix_l h) dX1_registersRight_175 ?_
  have h := ix_r h
  refine lv_icmp_ne hx hb dX1_registersRight_176 (tgt := 195) rfl (fun hc => ?_) (fun hc => ?_)
  · have h := br_F hc h
    have hl := lv_sub hl [1, 2, 3] (l' := [(0, .ref (P 0)), (1, .int v1), (2, .int v2)]) rfl
    exact b_ChipMapModel_registersRight_195 hx hb hml hr hlk hgt hown hK hO hAO kk103 kk113 M v1 v2 H _ ls hl hP hD hS h
  · have h := br_T hc h
    refine lv_iload_n hx hb dX1_registersRight_179 rfl (lv_at hl 0 rfl) ?_
    refine lv_if_ne hx hb dX1_registersRight_180 (tgt := 195) rfl (fun hc => ?_) (fun hc => ?_)
    · have h := br_F hc h
      have hl := lv_sub hl [1, 2, 3] (l' := [(0, .ref (P 0)), (1, .int v1), (2, .int v2)]) rfl
      exact b_ChipMapModel_registersRight_195 hx hb hml hr hlk hgt hown hK hO hAO kk103 kk113 M v1 v2 H _ ls hl hP hD hS h
    · have h := br_T hc h
      refine lv_aload_n hx hb dX1_registersRight_183 rfl (lv_at hl 1 rfl) ?_
      refine lv_iconst (v := 3) hx hb dX1_registersRight_184 (by decide) ?_
      refine lv_aload_n hx hb dX1_registersRight_185 rfl (lv_at hl 1 rfl) ?_
      refine va_get (D := D) (ci := 1) (v := .ref (P 5)) (C := RX1) (T := TX1) (N := 76) hx hb hgt iwX1 hown hK hP 0 gY_0 rfl 10 (Nat.le_of_ble_eq_true rfl) (hgt _ wd_4_211) (fun _ h9 => h9) rfl dX1_registersRight_186 ?_
      refine lv_iload_n hx hb dX1_registersRight_189 rfl (lv_at hl 2 rfl) ?_
      refine va_iald hx hb hK hP 5 0 gY_5 rfl (ix_l h) dX1_registersRight_190 ?_
      have h := ix_r h
      obtain ⟨M1, r2, hq, h⟩ := cal_o h
      refine cx_i (va_runV (As := [.int 3, .int (M.1 5 (v1 : Int32).toNatClampNeg)]) (rest := []) ⟨hx, hb, hml, hown, hgt⟩ (z_ChipMapModel_wrong l D cI cZ cC cJ cA P s0 hAO M 3 (M.1 5 (v1 : Int32).toNatClampNeg) M1 r2 hq) (cwV 2 hgt (gV wd_5_208 wd_5_210 sl__ChipMapModel____ChipMapModel___wrong____II_Z_____ChipMapModel___wrong____II_Z__ wd_0_15 wd_5_211) rfl rfl rfl (by decide +kernel) ⟨Nat.le_of_ble_eq_true rfl, Nat.le_of_ble_eq_true rfl⟩) (prV hP hK hD hO hAO hS (va_recv hK hP (ci := 1) (q0 := 0) rfl gY_0)) rfl rfl hl.1 rfl (lv_room (Nat.le_of_ble_eq_true rfl)) dX1_registersRight_191 ⟨Nat.le_of_ble_eq_true rfl, Nat.le_of_ble_eq_true rfl⟩) hS (fun H locs hP hD hS => ?_)
      exact rt_z (w := (wY cI cZ cC cJ cA P)) hx hb hr hlk (bz_l h) hP hD hS (bz_r h) dX1_registersRight_194
set_option maxHeartbeats 4000000 in
set_option maxRecDepth 20000 in
theorem b_ChipMapModel_registersRight_162 {p : Program} {l : Launch} {e : Env} {s s0 : State} {m : MethodId} {args : Array Value} {below : List Frame} {meth : Method} {c : Code} {D : va_G} {cI cZ cC cJ cA : ClassId} {P : Nat → Nat} {M' : Mm} {r' : Int32} {kf103 : Mm → Int32 → Rs} {kf113 : Mm → Int32 → Int32 → Rs} (hx : p.tables.exec = Jvm.exec) (hb : c.code = cX1_registersRight) (hml : c.maxLocals = 4) (hr : meth.sig.returnType = (some .boolean)) (hlk : meth.locks = false) (hgt : ∀ w ∈ GT, w.before args s = true) (hown : s.vm.findClass RX1 = some m.cls) (hK : va_K D vwCl [(cI, .int), (cZ, .boolean), (cC, .char), (cJ, .long), (cA, .array .int)] s) (hO : Old s0 s) (hAO : ∀ q, (aP P 51) q → s0.heap.size ≤ q) (kk103 : ∀ (M : Mm) (v1 : Int32) (H : Heap) (locs : List Loc) (ls : Array Slot), lv_has ls 4 [(0, .ref (P 0)), (1, .int v1)] → va_P D vwCl ((wY cI cZ cC cJ cA P) M) H → va_D (aP P 51) ((wY cI cZ cC cJ cA P) M) → va_S (aP P 51) s.heap H locs → kf103 M v1 = some (M', r') → W p l e ({ frames := 1, cells := 0, slots := 0, locals := 23 }) s m args below meth c H locs 0 0 (MQ below (gQi D (aP P 51) ((wY cI cZ cC cJ cA P) M') r') args s 0 0 (aP P 51)) (F0 m 103 ls [])) (kk113 : ∀ (M : Mm) (v1 : Int32) (v2 : Int32) (H : Heap) (locs : List Loc) (ls : Array Slot), lv_has ls 4 [(0, .ref (P 0)), (1, .int v1), (2, .int v2)] → va_P D vwCl ((wY cI cZ cC cJ cA P) M) H → va_D (aP P 51) ((wY cI cZ cC cJ cA P) M) → va_S (aP P 51) s.heap H locs → kf113 M v1 v2 = some (M', r') → W p l e ({ frames := 1, cells := 0, slots := 0, locals := 23 }) s m args below meth c H locs 0 0 (MQ below (gQi D (aP P 51) ((wY cI cZ cC cJ cA P) M') r') args s 0 0 (aP P 51)) (F0 m 113 ls [])) : ∀ (M : Mm) (v1 : Int32) (v2 : Int32) (H : Heap) (locs : List Loc) (ls : Array Slot), lv_has ls 4 [(0, .ref (P 0)), (1, .int v1), (2, .int v2)] → va_P D vwCl ((wY cI cZ cC cJ cA P) M) H → va_D (aP P 51) ((wY cI cZ cC cJ cA P) M) → va_S (aP P 51) s.heap H locs → q_ChipMapModel_registersRight_162 kf103 kf113 M v1 v2 = some (M', r') → W p l e ({ frames := 1, cells := 0, slots := 0, locals := 23 }) s m args below meth c H locs 0 0 (MQ below (gQi D (aP P 51) ((wY cI cZ cC cJ cA P) M') r') args s 0 0 (aP P 51)) (F0 m 162 ls []) := by
  intro M v1 v2 H locs ls hl hP hD hS h
  unfold q_ChipMapModel_registersRight_162 at h
  refine lv_iconst (v := 0) hx hb dX1_registersRight_162 (by decide) ?_
  have hl := lv_sub hl [0, 1, 2] (l' := [(0, .ref (P 0)), (1, .int v1), (2, .int v2)]) rfl
  exact b_ChipMapModel_registersRight_163 hx hb hml hr hlk hgt hown hK hO hAO kk103 kk113 M v1 v2 0 H _ ls hl hP hD hS h
set_option maxHeartbeats 4000000 in
set_option maxRecDepth 20000 in
theorem b_ChipMapModel_registersRight_113 {p : Program} {l : Launch} {e : Env} {s s0 : State} {m : MethodId} {args : Array Value} {below : List Frame} {meth : Method} {c : Code} {D : va_G} {cI cZ cC cJ cA : ClassId} {P : Nat → Nat} {M' : Mm} {r' : Int32} {kf103 : Mm → Int32 → Rs} (hx : p.tables.exec = Jvm.exec) (hb : c.code = cX1_registersRight) (hml : c.maxLocals = 4) (hr : meth.sig.returnType = (some .boolean)) (hlk : meth.locks = false) (hgt : ∀ w ∈ GT, w.before args s = true) (hown : s.vm.findClass RX1 = some m.cls) (hK : va_K D vwCl [(cI, .int), (cZ, .boolean), (cC, .char), (cJ, .long), (cA, .array .int)] s) (hO : Old s0 s) (hAO : ∀ q, (aP P 51) q → s0.heap.size ≤ q) (kk103 : ∀ (M : Mm) (v1 : Int32) (H : Heap) (locs : List Loc) (ls : Array Slot), lv_has ls 4 [(0, .ref (P 0)), (1, .int v1)] → va_P D vwCl ((wY cI cZ cC cJ cA P) M) H → va_D (aP P 51) ((wY cI cZ cC cJ cA P) M) → va_S (aP P 51) s.heap H locs → kf103 M v1 = some (M', r') → W p l e ({ frames := 1, cells := 0, slots := 0, locals := 23 }) s m args below meth c H locs 0 0 (MQ below (gQi D (aP P 51) ((wY cI cZ cC cJ cA P) M') r') args s 0 0 (aP P 51)) (F0 m 103 ls [])) : ∀ (n' : Nat) (M : Mm) (v1 : Int32) (v2 : Int32) (H : Heap) (locs : List Loc) (ls : Array Slot), lv_has ls 4 [(0, .ref (P 0)), (1, .int v1), (2, .int v2)] → va_P D vwCl ((wY cI cZ cC cJ cA P) M) H → va_D (aP P 51) ((wY cI cZ cC cJ cA P) M) → va_S (aP P 51) s.heap H locs → q_ChipMapModel_registersRight_113 kf103 n' M v1 v2 = some (M', r') → W p l e ({ frames := 1, cells := 0, slots := 0, locals := 23 }) s m args below meth c H locs 0 0 (MQ below (gQi D (aP P 51) ((wY cI cZ cC cJ cA P) M') r') args s 0 0 (aP P 51)) (F0 m 113 ls []) := by
  intro n'
  induction n' with
  | zero => exact fun _ _ _ _ _ _ _ _ _ _ h => (rs_n h).elim
  | succ n' ih =>
    intro M v1 v2 H locs ls hl hP hD hS h
    rw [q_ChipMapModel_registersRight_113] at h
    refine lv_iload_n hx hb dX1_registersRight_113 rfl (lv_at hl 2 rfl) ?_
    refine lv_iload_n hx hb dX1_registersRight_114 rfl (lv_at hl 1 rfl) ?_
    refine lv_icmp_ge hx hb dX1_registersRight_115 (tgt := 201) rfl (fun hc => ?_) (fun hc => ?_)
    · have h := br_T hc h
      refine lv_iinc (v := (v1 + 1)) hx hb dX1_registersRight_201 hl (k := 1) rfl rfl (Nat.le_of_ble_eq_true rfl) (lv' := [(1, .int (v1 + 1)), (0, .ref (P 0)), (2, .int v2)]) rfl (fun ls hl => ?_)
      refine lv_goto hx hb dX1_registersRight_204 (tgt := 103) rfl ?_
      have hl := lv_sub hl [1, 0] (l' := [(0, .ref (P 0)), (1, .int (v1 + 1))]) rfl
      exact kk103 M (v1 + 1) H locs ls hl hP hD hS h
    · have h := br_F hc h
      refine lv_aload_n hx hb dX1_registersRight_118 rfl (lv_at hl 0 rfl) ?_
      refine va_get (D := D) (ci := 1) (v := .ref (P 3)) (C := RX1) (T := TX1) (N := 76) hx hb hgt iwX1 hown hK hP 0 gY_0 rfl 8 (Nat.le_of_ble_eq_true rfl) (hgt _ wd_4_209) (fun _ h9 => h9) rfl dX1_registersRight_119 ?_
      refine lv_iload_n hx hb dX1_registersRight_122 rfl (lv_at hl 1 rfl) ?_
      refine va_iald hx hb hK hP 3 0 gY_3 rfl (ix_l h) dX1_registersRight_123 ?_
      have h := ix_r h
      refine lv_iconst (v := (-1)) hx hb dX1_registersRight_124 (by decide) ?_
      refine lv_icmp_eq hx hb dX1_registersRight_125 (tgt := 162) rfl (fun hc => ?_) (fun hc => ?_)
      · have h := br_T hc h
        have hl := lv_sub hl [0, 1, 2] (l' := [(0, .ref (P 0)), (1, .int v1), (2, .int v2)]) rfl
        exact b_ChipMapModel_registersRight_162 hx hb hml hr hlk hgt hown hK hO hAO kk103 ih M v1 v2 H _ ls hl hP hD hS h
      · have h := br_F hc h
        refine lv_aload_n hx hb dX1_registersRight_128 rfl (lv_at hl 0 rfl) ?_
        refine va_get (D := D) (ci := 1) (v := .ref (P 3)) (C := RX1) (T := TX1) (N := 76) hx hb hgt iwX1 hown hK hP 0 gY_0 rfl 8 (Nat.le_of_ble_eq_true rfl) (hgt _ wd_4_209) (fun _ h9 => h9) rfl dX1_registersRight_129 ?_
        refine lv_iload_n hx hb dX1_registersRight_132 rfl (lv_at hl 2 rfl) ?_
        refine va_iald hx hb hK hP 3 0 gY_3 rfl (ix_l h) dX1_registersRight_133 ?_
        have h := ix_r h
        refine lv_aload_n hx hb dX1_registersRight_134 rfl (lv_at hl 0 rfl) ?_
        refine va_get (D := D) (ci := 1) (v := .ref (P 3)) (C := RX1) (T := TX1) (N := 76) hx hb hgt iwX1 hown hK hP 0 gY_0 rfl 8 (Nat.le_of_ble_eq_true rfl) (hgt _ wd_4_209) (fun _ h9 => h9) rfl dX1_registersRight_135 ?_
        refine lv_iload_n hx hb dX1_registersRight_138 rfl (lv_at hl 1 rfl) ?_
        refine va_iald hx hb hK hP 3 0 gY_3 rfl (ix_l h) dX1_registersRight_139 ?_
        have h := ix_r h
        refine lv_icmp_ne hx hb dX1_registersRight_140 (tgt := 162) rfl (fun hc => ?_) (fun hc => ?_)
        · have h := br_F hc h
          have hl := lv_sub hl [0, 1, 2] (l' := [(0, .ref (P 0)), (1, .int v1), (2, .int v2)]) rfl
          exact b_ChipMapModel_registersRight_162 hx hb hml hr hlk hgt hown hK hO hAO kk103 ih M v1 v2 H _ ls hl hP hD hS h
        · have h := br_T hc h
          refine lv_aload_n hx hb dX1_registersRight_143 rfl (lv_at hl 0 rfl) ?_
          refine va_get (D := D) (ci := 1) (v := .ref (P 4)) (C := RX1) (T := TX1) (N := 76) hx hb hgt iwX1 hown hK hP 0 gY_0 rfl 9 (Nat.le_of_ble_eq_true rfl) (hgt _ wd_4_210) (fun _ h9 => h9) rfl dX1_registersRight_144 ?_
          refine lv_iload_n hx hb dX1_registersRight_147 rfl (lv_at hl 2 rfl) ?_
          refine va_iald hx hb hK hP 4 0 gY_4 rfl (ix_l h) dX1_registersRight_148 ?_
          have h := ix_r h
          refine lv_aload_n hx hb dX1_registersRight_149 rfl (lv_at hl 0 rfl) ?_
          refine va_get (D := D) (ci := 1) (v := .ref (P 4)) (C := RX1) (T := TX1) (N := 76) hx hb hgt iwX1 hown hK hP 0 gY_0 rfl 9 (Nat.le_of_ble_eq_true rfl) (hgt _ wd_4_210) (fun _ h9 => h9) rfl dX1_registersRight_150 ?_
          refine lv_iload_n hx hb dX1_registersRight_153 rfl (lv_at hl 1 rfl) ?_
          refine va_iald hx hb hK hP 4 0 gY_4 rfl (ix_l h) dX1_registersRight_154 ?_
          have h := ix_r h
          refine lv_icmp_eq hx hb dX1_registersRight_155 (tgt := 162) rfl (fun hc => ?_) (fun hc => ?_)
          · have h := br_T hc h
            have hl := lv_sub hl [0, 1, 2] (l' := [(0, .ref (P 0)), (1, .int v1), (2, .int v2)]) rfl
            exact b_ChipMapModel_registersRight_162 hx hb hml hr hlk hgt hown hK hO hAO kk103 ih M v1 v2 H _ ls hl hP hD hS h
          · have h := br_F hc h
            refine lv_iconst (v := 1) hx hb dX1_registersRight_158 (by decide) ?_
            refine lv_goto hx hb dX1_registersRight_159 (tgt := 163) rfl ?_
            have hl := lv_sub hl [0, 1, 2] (l' := [(0, .ref (P 0)), (1, .int v1), (2, .int v2)]) rfl
            exact b_ChipMapModel_registersRight_163 hx hb hml hr hlk hgt hown hK hO hAO kk103 ih M v1 v2 1 H _ ls hl hP hD hS h
set_option maxHeartbeats 4000000 in
set_option maxRecDepth 20000 in
theorem b_ChipMapModel_registersRight_103 {p : Program} {l : Launch} {e : Env} {s s0 : State} {m : MethodId} {args : Array Value} {below : List Frame} {meth : Method} {c : Code} {D : va_G} {cI cZ cC cJ cA : ClassId} {P : Nat → Nat} {M' : Mm} {r' : Int32}  (hx : p.tables.exec = Jvm.exec) (hb : c.code = cX1_registersRight) (hml : c.maxLocals = 4) (hr : meth.sig.returnType = (some .boolean)) (hlk : meth.locks = false) (hgt : ∀ w ∈ GT, w.before args s = true) (hown : s.vm.findClass RX1 = some m.cls) (hK : va_K D vwCl [(cI, .int), (cZ, .boolean), (cC, .char), (cJ, .long), (cA, .array .int)] s) (hO : Old s0 s) (hAO : ∀ q, (aP P 51) q → s0.heap.size ≤ q)  : ∀ (n' : Nat) (M : Mm) (v1 : Int32) (H : Heap) (locs : List Loc) (ls : Array Slot), lv_has ls 4 [(0, .ref (P 0)), (1, .int v1)] → va_P D vwCl ((wY cI cZ cC cJ cA P) M) H → va_D (aP P 51) ((wY cI cZ cC cJ cA P) M) → va_S (aP P 51) s.heap H locs → q_ChipMapModel_registersRight_103 n' M v1 = some (M', r') → W p l e ({ frames := 1, cells := 0, slots := 0, locals := 23 }) s m args below meth c H locs 0 0 (MQ below (gQi D (aP P 51) ((wY cI cZ cC cJ cA P) M') r') args s 0 0 (aP P 51)) (F0 m 103 ls []) := by
  intro n'
  induction n' with
  | zero => exact fun _ _ _ _ _ _ _ _ _ h => (rs_n h).elim
  | succ n' ih =>
    intro M v1 H locs ls hl hP hD hS h
    rw [q_ChipMapModel_registersRight_103] at h
    refine lv_iload_n hx hb dX1_registersRight_103 rfl (lv_at hl 1 rfl) ?_
    refine lv_aload_n hx hb dX1_registersRight_104 rfl (lv_at hl 0 rfl) ?_
    refine va_get (D := D) (ci := 1) (v := .int (M.1 0 6)) (C := RX1) (T := TX1) (N := 76) hx hb hgt iwX1 hown hK hP 0 gY_0 rfl 6 (Nat.le_of_ble_eq_true rfl) (hgt _ wd_4_207) (fun _ h9 => h9) rfl dX1_registersRight_105 ?_
    refine lv_icmp_ge hx hb dX1_registersRight_108 (tgt := 207) rfl (fun hc => ?_) (fun hc => ?_)
    · have h := br_T hc h
      refine lv_iconst (v := 1) hx hb dX1_registersRight_207 (by decide) ?_
      exact rt_z (w := (wY cI cZ cC cJ cA P)) hx hb hr hlk rfl hP hD hS h dX1_registersRight_208
    · have h := br_F hc h
      refine lv_iconst (v := 0) hx hb dX1_registersRight_111 (by decide) ?_
      refine lv_istore_n hx hb dX1_registersRight_112 rfl hl (Nat.le_of_ble_eq_true rfl) (lv' := [(2, .int 0), (0, .ref (P 0)), (1, .int v1)]) rfl (fun ls hl => ?_)
      have hl := lv_sub hl [1, 2, 0] (l' := [(0, .ref (P 0)), (1, .int v1), (2, .int 0)]) rfl
      exact b_ChipMapModel_registersRight_113 hx hb hml hr hlk hgt hown hK hO hAO ih 4000 M v1 0 H _ ls hl hP hD hS h
set_option maxHeartbeats 4000000 in
set_option maxRecDepth 20000 in
theorem b_ChipMapModel_registersRight_83 {p : Program} {l : Launch} {e : Env} {s s0 : State} {m : MethodId} {args : Array Value} {below : List Frame} {meth : Method} {c : Code} {D : va_G} {cI cZ cC cJ cA : ClassId} {P : Nat → Nat} {M' : Mm} {r' : Int32}  (hx : p.tables.exec = Jvm.exec) (hb : c.code = cX1_registersRight) (hml : c.maxLocals = 4) (hr : meth.sig.returnType = (some .boolean)) (hlk : meth.locks = false) (hgt : ∀ w ∈ GT, w.before args s = true) (hown : s.vm.findClass RX1 = some m.cls) (hK : va_K D vwCl [(cI, .int), (cZ, .boolean), (cC, .char), (cJ, .long), (cA, .array .int)] s) (hO : Old s0 s) (hAO : ∀ q, (aP P 51) q → s0.heap.size ≤ q)  : ∀ (M : Mm) (v1 : Int32) (H : Heap) (locs : List Loc) (ls : Array Slot), lv_has ls 4 [(0, .ref (P 0)), (1, .int v1)] → va_P D vwCl ((wY cI cZ cC cJ cA P) M) H → va_D (aP P 51) ((wY cI cZ cC cJ cA P) M) → va_S (aP P 51) s.heap H locs → q_ChipMapModel_registersRight_83 M v1 = some (M', r') → W p l e ({ frames := 1, cells := 0, slots := 0, locals := 23 }) s m args below meth c H locs 0 0 (MQ below (gQi D (aP P 51) ((wY cI cZ cC cJ cA P) M') r') args s 0 0 (aP P 51)) (F0 m 83 ls []) := by
  intro M v1 H locs ls hl hP hD hS h
  unfold q_ChipMapModel_registersRight_83 at h
  refine lv_aload_n hx hb dX1_registersRight_83 rfl (lv_at hl 0 rfl) ?_
  refine lv_iconst (v := 3) hx hb dX1_registersRight_84 (by decide) ?_
  refine lv_aload_n hx hb dX1_registersRight_85 rfl (lv_at hl 0 rfl) ?_
  refine va_get (D := D) (ci := 1) (v := .ref (P 6)) (C := RX1) (T := TX1) (N := 76) hx hb hgt iwX1 hown hK hP 0 gY_0 rfl 11 (Nat.le_of_ble_eq_true rfl) (hgt _ wd_4_212) (fun _ h9 => h9) rfl dX1_registersRight_86 ?_
  refine lv_iload_n hx hb dX1_registersRight_89 rfl (lv_at hl 1 rfl) ?_
  refine va_iald hx hb hK hP 6 0 gY_6 rfl (ix_l h) dX1_registersRight_90 ?_
  have h := ix_r h
  obtain ⟨M1, r2, hq, h⟩ := cal_o h
  refine cx_i (va_runV (As := [.int 3, .int (M.1 6 (v1 : Int32).toNatClampNeg)]) (rest := []) ⟨hx, hb, hml, hown, hgt⟩ (z_ChipMapModel_wrong l D cI cZ cC cJ cA P s0 hAO M 3 (M.1 6 (v1 : Int32).toNatClampNeg) M1 r2 hq) (cwV 2 hgt (gV wd_5_208 wd_5_210 sl__ChipMapModel____ChipMapModel___wrong____II_Z_____ChipMapModel___wrong____II_Z__ wd_0_15 wd_5_211) rfl rfl rfl (by decide +kernel) ⟨Nat.le_of_ble_eq_true rfl, Nat.le_of_ble_eq_true rfl⟩) (prV hP hK hD hO hAO hS (va_recv hK hP (ci := 1) (q0 := 0) rfl gY_0)) rfl rfl hl.1 rfl (lv_room (Nat.le_of_ble_eq_true rfl)) dX1_registersRight_91 ⟨Nat.le_of_ble_eq_true rfl, Nat.le_of_ble_eq_true rfl⟩) hS (fun H locs hP hD hS => ?_)
  exact rt_z (w := (wY cI cZ cC cJ cA P)) hx hb hr hlk (bz_l h) hP hD hS (bz_r h) dX1_registersRight_94
set_option maxHeartbeats 4000000 in
set_option maxRecDepth 20000 in
theorem b_ChipMapModel_registersRight_95 {p : Program} {l : Launch} {e : Env} {s s0 : State} {m : MethodId} {args : Array Value} {below : List Frame} {meth : Method} {c : Code} {D : va_G} {cI cZ cC cJ cA : ClassId} {P : Nat → Nat} {M' : Mm} {r' : Int32} {kf2 : Mm → Int32 → Rs} (hx : p.tables.exec = Jvm.exec) (hb : c.code = cX1_registersRight) (hml : c.maxLocals = 4) (hr : meth.sig.returnType = (some .boolean)) (hlk : meth.locks = false) (hgt : ∀ w ∈ GT, w.before args s = true) (hown : s.vm.findClass RX1 = some m.cls) (hK : va_K D vwCl [(cI, .int), (cZ, .boolean), (cC, .char), (cJ, .long), (cA, .array .int)] s) (hO : Old s0 s) (hAO : ∀ q, (aP P 51) q → s0.heap.size ≤ q) (kk2 : ∀ (M : Mm) (v1 : Int32) (H : Heap) (locs : List Loc) (ls : Array Slot), lv_has ls 4 [(0, .ref (P 0)), (1, .int v1)] → va_P D vwCl ((wY cI cZ cC cJ cA P) M) H → va_D (aP P 51) ((wY cI cZ cC cJ cA P) M) → va_S (aP P 51) s.heap H locs → kf2 M v1 = some (M', r') → W p l e ({ frames := 1, cells := 0, slots := 0, locals := 23 }) s m args below meth c H locs 0 0 (MQ below (gQi D (aP P 51) ((wY cI cZ cC cJ cA P) M') r') args s 0 0 (aP P 51)) (F0 m 2 ls [])) : ∀ (M : Mm) (v1 : Int32) (H : Heap) (locs : List Loc) (ls : Array Slot), lv_has ls 4 [(0, .ref (P 0)), (1, .int v1)] → va_P D vwCl ((wY cI cZ cC cJ cA P) M) H → va_D (aP P 51) ((wY cI cZ cC cJ cA P) M) → va_S (aP P 51) s.heap H locs → q_ChipMapModel_registersRight_95 kf2 M v1 = some (M', r') → W p l e ({ frames := 1, cells := 0, slots := 0, locals := 23 }) s m args below meth c H locs 0 0 (MQ below (gQi D (aP P 51) ((wY cI cZ cC cJ cA P) M') r') args s 0 0 (aP P 51)) (F0 m 95 ls []) := by
  intro M v1 H locs ls hl hP hD hS h
  unfold q_ChipMapModel_registersRight_95 at h
  refine lv_iinc (v := (v1 + 1)) hx hb dX1_registersRight_95 hl (k := 1) rfl rfl (Nat.le_of_ble_eq_true rfl) (lv' := [(1, .int (v1 + 1)), (0, .ref (P 0))]) rfl (fun ls hl => ?_)
  refine lv_goto hx hb dX1_registersRight_98 (tgt := 2) rfl ?_
  have hl := lv_sub hl [1, 0] (l' := [(0, .ref (P 0)), (1, .int (v1 + 1))]) rfl
  exact kk2 M (v1 + 1) H locs ls hl hP hD hS h
set_option maxHeartbeats 4000000 in
set_option maxRecDepth 20000 in
theorem b_ChipMapModel_registersRight_2 {p : Program} {l : Launch} {e : Env} {s s0 : State} {m : MethodId} {args : Array Value} {below : List Frame} {meth : Method} {c : Code} {D : va_G} {cI cZ cC cJ cA : ClassId} {P : Nat → Nat} {M' : Mm} {r' : Int32}  (hx : p.tables.exec = Jvm.exec) (hb : c.code = cX1_registersRight) (hml : c.maxLocals = 4) (hr : meth.sig.returnType = (some .boolean)) (hlk : meth.locks = false) (hgt : ∀ w ∈ GT, w.before args s = true) (hown : s.vm.findClass RX1 = some m.cls) (hK : va_K D vwCl [(cI, .int), (cZ, .boolean), (cC, .char), (cJ, .long), (cA, .array .int)] s) (hO : Old s0 s) (hAO : ∀ q, (aP P 51) q → s0.heap.size ≤ q)  : ∀ (n' : Nat) (M : Mm) (v1 : Int32) (H : Heap) (locs : List Loc) (ls : Array Slot), lv_has ls 4 [(0, .ref (P 0)), (1, .int v1)] → va_P D vwCl ((wY cI cZ cC cJ cA P) M) H → va_D (aP P 51) ((wY cI cZ cC cJ cA P) M) → va_S (aP P 51) s.heap H locs → q_ChipMapModel_registersRight_2 n' M v1 = some (M', r') → W p l e ({ frames := 1, cells := 0, slots := 0, locals := 23 }) s m args below meth c H locs 0 0 (MQ below (gQi D (aP P 51) ((wY cI cZ cC cJ cA P) M') r') args s 0 0 (aP P 51)) (F0 m 2 ls []) := by
  intro n'
  induction n' with
  | zero => exact fun _ _ _ _ _ _ _ _ _ h => (rs_n h).elim
  | succ n' ih =>
    intro M v1 H locs ls hl hP hD hS h
    rw [q_ChipMapModel_registersRight_2] at h
    refine lv_iload_n hx hb dX1_registersRight_2 rfl (lv_at hl 1 rfl) ?_
    refine lv_aload_n hx hb dX1_registersRight_3 rfl (lv_at hl 0 rfl) ?_
    refine va_get (D := D) (ci := 1) (v := .int (M.1 0 6)) (C := RX1) (T := TX1) (N := 76) hx hb hgt iwX1 hown hK hP 0 gY_0 rfl 6 (Nat.le_of_ble_eq_true rfl) (hgt _ wd_4_207) (fun _ h9 => h9) rfl dX1_registersRight_4 ?_
    refine lv_icmp_ge hx hb dX1_registersRight_7 (tgt := 101) rfl (fun hc => ?_) (fun hc => ?_)
    · have h := br_T hc h
      refine lv_iconst (v := 0) hx hb dX1_registersRight_101 (by decide) ?_
      refine lv_istore_n hx hb dX1_registersRight_102 rfl hl (Nat.le_of_ble_eq_true rfl) (lv' := [(1, .int 0), (0, .ref (P 0))]) rfl (fun ls hl => ?_)
      have hl := lv_sub hl [1, 0] (l' := [(0, .ref (P 0)), (1, .int 0)]) rfl
      exact b_ChipMapModel_registersRight_103 hx hb hml hr hlk hgt hown hK hO hAO 4000 M 0 H _ ls hl hP hD hS h
    · have h := br_F hc h
      refine lv_aload_n hx hb dX1_registersRight_10 rfl (lv_at hl 0 rfl) ?_
      refine va_get (D := D) (ci := 1) (v := .ref (P 3)) (C := RX1) (T := TX1) (N := 76) hx hb hgt iwX1 hown hK hP 0 gY_0 rfl 8 (Nat.le_of_ble_eq_true rfl) (hgt _ wd_4_209) (fun _ h9 => h9) rfl dX1_registersRight_11 ?_
      refine lv_iload_n hx hb dX1_registersRight_14 rfl (lv_at hl 1 rfl) ?_
      refine va_iald hx hb hK hP 3 0 gY_3 rfl (ix_l h) dX1_registersRight_15 ?_
      have h := ix_r h
      refine lv_iconst (v := (-1)) hx hb dX1_registersRight_16 (by decide) ?_
      refine lv_icmp_ne hx hb dX1_registersRight_17 (tgt := 23) rfl (fun hc => ?_) (fun hc => ?_)
      · have h := br_F hc h
        refine lv_aload_n hx hb dX1_registersRight_23 rfl (lv_at hl 0 rfl) ?_
        refine lv_aload_n hx hb dX1_registersRight_24 rfl (lv_at hl 0 rfl) ?_
        refine va_get (D := D) (ci := 1) (v := .ref (P 3)) (C := RX1) (T := TX1) (N := 76) hx hb hgt iwX1 hown hK hP 0 gY_0 rfl 8 (Nat.le_of_ble_eq_true rfl) (hgt _ wd_4_209) (fun _ h9 => h9) rfl dX1_registersRight_25 ?_
        refine lv_iload_n hx hb dX1_registersRight_28 rfl (lv_at hl 1 rfl) ?_
        refine va_iald hx hb hK hP 3 0 gY_3 rfl (ix_l h) dX1_registersRight_29 ?_
        have h := ix_r h
        refine lv_aload_n hx hb dX1_registersRight_30 rfl (lv_at hl 0 rfl) ?_
        refine va_get (D := D) (ci := 1) (v := .int (M.1 0 12)) (C := RX1) (T := TX1) (N := 76) hx hb hgt iwX1 hown hK hP 0 gY_0 rfl 12 (Nat.le_of_ble_eq_true rfl) (hgt _ wd_4_213) (fun _ h9 => h9) rfl dX1_registersRight_31 ?_
        obtain ⟨M1, r2, hq, h⟩ := cal_o h
        refine cx_i (va_runV (As := [.int (M.1 3 (v1 : Int32).toNatClampNeg), .int (M.1 0 12)]) (rest := []) ⟨hx, hb, hml, hown, hgt⟩ (z_ChipMapModel_named l D cI cZ cC cJ cA P s0 hAO M (M.1 3 (v1 : Int32).toNatClampNeg) (M.1 0 12) M1 r2 hq) (cwV 2 hgt (gV wd_6_13 wd_6_15 sl__ChipMapModel____ChipMapModel___named____II_I_____ChipMapModel___named____II_I__ wd_0_15 wd_6_16) rfl rfl rfl (by decide +kernel) ⟨Nat.le_of_ble_eq_true rfl, Nat.le_of_ble_eq_true rfl⟩) (prV hP hK hD hO hAO hS (va_recv hK hP (ci := 1) (q0 := 0) rfl gY_0)) rfl rfl hl.1 rfl (lv_room (Nat.le_of_ble_eq_true rfl)) dX1_registersRight_34 ⟨Nat.le_of_ble_eq_true rfl, Nat.le_of_ble_eq_true rfl⟩) hS (fun H locs hP hD hS => ?_)
        refine lv_istore_n hx hb dX1_registersRight_37 rfl hl (Nat.le_of_ble_eq_true rfl) (lv' := [(2, .int r2), (0, .ref (P 0)), (1, .int v1)]) rfl (fun ls hl => ?_)
        refine lv_iload_n hx hb dX1_registersRight_38 rfl (lv_at hl 0 rfl) ?_
        refine lv_iconst (v := (-1)) hx hb dX1_registersRight_39 (by decide) ?_
        refine lv_icmp_eq hx hb dX1_registersRight_40 (tgt := 83) rfl (fun hc => ?_) (fun hc => ?_)
        · have h := br_T hc h
          have hl := lv_sub hl [1, 2] (l' := [(0, .ref (P 0)), (1, .int v1)]) rfl
          exact b_ChipMapModel_registersRight_83 hx hb hml hr hlk hgt hown hK hO hAO M1 v1 H _ ls hl hP hD hS h
        · have h := br_F hc h
          refine lv_aload_n hx hb dX1_registersRight_43 rfl (lv_at hl 1 rfl) ?_
          refine va_get (D := D) (ci := 1) (v := .ref (P 8)) (C := RX1) (T := TX1) (N := 76) hx hb hgt iwX1 hown hK hP 0 gY_0 rfl 14 (Nat.le_of_ble_eq_true rfl) (hgt _ wd_4_215) (fun _ h9 => h9) rfl dX1_registersRight_44 ?_
          refine lv_iload_n hx hb dX1_registersRight_47 rfl (lv_at hl 0 rfl) ?_
          refine va_iald hx hb hK hP 8 0 gY_8 rfl (ix_l h) dX1_registersRight_48 ?_
          have h := ix_r h
          refine lv_bipush (v := 119) hx hb dX1_registersRight_49 (by decide) ?_
          refine lv_icmp_ne hx hb dX1_registersRight_51 (tgt := 83) rfl (fun hc => ?_) (fun hc => ?_)
          · have h := br_F hc h
            have hl := lv_sub hl [1, 2] (l' := [(0, .ref (P 0)), (1, .int v1)]) rfl
            exact b_ChipMapModel_registersRight_83 hx hb hml hr hlk hgt hown hK hO hAO M1 v1 H _ ls hl hP hD hS h
          · have h := br_T hc h
            refine lv_aload_n hx hb dX1_registersRight_54 rfl (lv_at hl 1 rfl) ?_
            refine va_get (D := D) (ci := 1) (v := .ref (P 3)) (C := RX1) (T := TX1) (N := 76) hx hb hgt iwX1 hown hK hP 0 gY_0 rfl 8 (Nat.le_of_ble_eq_true rfl) (hgt _ wd_4_209) (fun _ h9 => h9) rfl dX1_registersRight_55 ?_
            refine lv_aload_n hx hb dX1_registersRight_58 rfl (lv_at hl 1 rfl) ?_
            refine va_get (D := D) (ci := 1) (v := .ref (P 12)) (C := RX1) (T := TX1) (N := 76) hx hb hgt iwX1 hown hK hP 0 gY_0 rfl 18 (Nat.le_of_ble_eq_true rfl) (hgt _ wd_4_219) (fun _ h9 => h9) rfl dX1_registersRight_59 ?_
            refine lv_iload_n hx hb dX1_registersRight_62 rfl (lv_at hl 0 rfl) ?_
            refine va_iald hx hb hK hP 12 0 gY_12 rfl (ix_l h) dX1_registersRight_63 ?_
            have h := ix_r h
            refine va_iald hx hb hK hP 3 0 gY_3 rfl (ix_l h) dX1_registersRight_64 ?_
            have h := ix_r h
            refine lv_iconst (v := (-1)) hx hb dX1_registersRight_65 (by decide) ?_
            refine lv_icmp_ne hx hb dX1_registersRight_66 (tgt := 83) rfl (fun hc => ?_) (fun hc => ?_)
            · have h := br_F hc h
              have hl := lv_sub hl [1, 2] (l' := [(0, .ref (P 0)), (1, .int v1)]) rfl
              exact b_ChipMapModel_registersRight_83 hx hb hml hr hlk hgt hown hK hO hAO M1 v1 H _ ls hl hP hD hS h
            · have h := br_T hc h
              refine lv_aload_n hx hb dX1_registersRight_69 rfl (lv_at hl 1 rfl) ?_
              refine lv_iload_n hx hb dX1_registersRight_70 rfl (lv_at hl 0 rfl) ?_
              refine lv_aload_n hx hb dX1_registersRight_71 rfl (lv_at hl 1 rfl) ?_
              refine va_get (D := D) (ci := 1) (v := .ref (P 4)) (C := RX1) (T := TX1) (N := 76) hx hb hgt iwX1 hown hK hP 0 gY_0 rfl 9 (Nat.le_of_ble_eq_true rfl) (hgt _ wd_4_210) (fun _ h9 => h9) rfl dX1_registersRight_72 ?_
              refine lv_iload_n hx hb dX1_registersRight_75 rfl (lv_at hl 2 rfl) ?_
              refine va_iald hx hb hK hP 4 0 gY_4 rfl (ix_l h) dX1_registersRight_76 ?_
              have h := ix_r h
              obtain ⟨M3, r4, hq, h⟩ := cal_o h
              refine cx_i (va_runV (As := [.int r2, .int (M1.1 4 (v1 : Int32).toNatClampNeg)]) (rest := []) ⟨hx, hb, hml, hown, hgt⟩ (z_ChipMapModel_fits l D cI cZ cC cJ cA P s0 hAO M1 r2 (M1.1 4 (v1 : Int32).toNatClampNeg) M3 r4 hq) (cwV 2 hgt (gV wd_6_17 wd_6_19 sl__ChipMapModel____ChipMapModel___fits____II_Z_____ChipMapModel___fits____II_Z__ wd_0_15 wd_6_20) rfl rfl rfl (by decide +kernel) ⟨Nat.le_of_ble_eq_true rfl, Nat.le_of_ble_eq_true rfl⟩) (prV hP hK hD hO hAO hS (va_recv hK hP (ci := 1) (q0 := 0) rfl gY_0)) rfl rfl hl.1 rfl (lv_room (Nat.le_of_ble_eq_true rfl)) dX1_registersRight_77 ⟨Nat.le_of_ble_eq_true rfl, Nat.le_of_ble_eq_true rfl⟩) hS (fun H locs hP hD hS => ?_)
              refine lv_if_ne hx hb dX1_registersRight_80 (tgt := 95) rfl (fun hc => ?_) (fun hc => ?_)
              · have h := br_F hc h
                have hl := lv_sub hl [1, 2] (l' := [(0, .ref (P 0)), (1, .int v1)]) rfl
                exact b_ChipMapModel_registersRight_95 hx hb hml hr hlk hgt hown hK hO hAO ih M3 v1 H _ ls hl hP hD hS h
              · have h := br_T hc h
                have hl := lv_sub hl [1, 2] (l' := [(0, .ref (P 0)), (1, .int v1)]) rfl
                exact b_ChipMapModel_registersRight_83 hx hb hml hr hlk hgt hown hK hO hAO M3 v1 H _ ls hl hP hD hS h
      · have h := br_T hc h
        refine lv_goto hx hb dX1_registersRight_20 (tgt := 95) rfl ?_
        have hl := lv_sub hl [0, 1] (l' := [(0, .ref (P 0)), (1, .int v1)]) rfl
        exact b_ChipMapModel_registersRight_95 hx hb hml hr hlk hgt hown hK hO hAO ih M v1 H _ ls hl hP hD hS h
set_option maxHeartbeats 4000000 in
set_option maxRecDepth 20000 in
theorem b_ChipMapModel_registersRight_0 {p : Program} {l : Launch} {e : Env} {s s0 : State} {m : MethodId} {args : Array Value} {below : List Frame} {meth : Method} {c : Code} {D : va_G} {cI cZ cC cJ cA : ClassId} {P : Nat → Nat} {M' : Mm} {r' : Int32}  (hx : p.tables.exec = Jvm.exec) (hb : c.code = cX1_registersRight) (hml : c.maxLocals = 4) (hr : meth.sig.returnType = (some .boolean)) (hlk : meth.locks = false) (hgt : ∀ w ∈ GT, w.before args s = true) (hown : s.vm.findClass RX1 = some m.cls) (hK : va_K D vwCl [(cI, .int), (cZ, .boolean), (cC, .char), (cJ, .long), (cA, .array .int)] s) (hO : Old s0 s) (hAO : ∀ q, (aP P 51) q → s0.heap.size ≤ q)  : ∀ (M : Mm)  (H : Heap) (locs : List Loc) (ls : Array Slot), lv_has ls 4 [(0, .ref (P 0))] → va_P D vwCl ((wY cI cZ cC cJ cA P) M) H → va_D (aP P 51) ((wY cI cZ cC cJ cA P) M) → va_S (aP P 51) s.heap H locs → q_ChipMapModel_registersRight M = some (M', r') → W p l e ({ frames := 1, cells := 0, slots := 0, locals := 23 }) s m args below meth c H locs 0 0 (MQ below (gQi D (aP P 51) ((wY cI cZ cC cJ cA P) M') r') args s 0 0 (aP P 51)) (F0 m 0 ls []) := by
  intro M H locs ls hl hP hD hS h
  unfold q_ChipMapModel_registersRight at h
  refine lv_iconst (v := 0) hx hb dX1_registersRight_0 (by decide) ?_
  refine lv_istore_n hx hb dX1_registersRight_1 rfl hl (Nat.le_of_ble_eq_true rfl) (lv' := [(1, .int 0), (0, .ref (P 0))]) rfl (fun ls hl => ?_)
  have hl := lv_sub hl [1, 0] (l' := [(0, .ref (P 0)), (1, .int 0)]) rfl
  exact b_ChipMapModel_registersRight_2 hx hb hml hr hlk hgt hown hK hO hAO 4000 M 0 H _ ls hl hP hD hS h
set_option maxHeartbeats 4000000 in
set_option maxRecDepth 20000 in
theorem z_ChipMapModel_registersRight (l : Launch) (D : va_G) (cI cZ cC cJ cA : ClassId) (P : Nat → Nat) (s0 : State) (hAO : ∀ q, (aP P 51) q → s0.heap.size ≤ q) (M : Mm)  (M' : Mm) (r' : Int32) (h : q_ChipMapModel_registersRight M = some (M', r')) : Met l yX1_registersRight wsX1_registersRight ({ frames := 1, cells := 0, slots := 0, locals := 23 }) (va_Pc [.ref (P 0)] (gPre s0 D [(cI, .int), (cZ, .boolean), (cC, .char), (cJ, .long), (cA, .array .int)] (aP P 51) ((wY cI cZ cC cJ cA P) M))) (gQi D (aP P 51) ((wY cI cZ cC cJ cA P) M') r') 0 0 (aP P 51) := by
  refine Met.ofW (cc := cX1_registersRight) (maxL := 4) (ret := (some .boolean)) (by decide) rfl ?_
  intro p e s m args below meth c s₁ B hml hv
  obtain ⟨rfl, hP, hK, hD, hO⟩ := hv
  have hx := B.exec
  have hb := B.bytes
  have hr := B.returns
  have hlk := B.notSynchronized
  have hgt := fun w (h : w ∈ GT) => atoms_spec (ws := wsX1_registersRight) B.pre w (List.mem_cons_of_mem _ h)
  have hown : s.vm.findClass RX1 = some m.cls := findClass_of_methodNamed B.named
  have hS : va_S (aP P 51) s.heap s.heap [] := va_S.rf
  have hl := lv_entry ([.ref (P 0)]) (n := 4) (Nat.le_of_ble_eq_true rfl)
  rw [lg_entry_eq]
  generalize (lg_sl ([.ref (P 0)]) ++ List.replicate (4 - (lg_sl ([.ref (P 0)])).length) Slot.unset).toArray = ls at hl ⊢
  have hl : lv_has ls 4 [(0, .ref (P 0))] := hl
  exact b_ChipMapModel_registersRight_0 hx hb hml hr hlk hgt hown hK hO hAO M s.heap [] ls hl hP hD hS h
def q_ChipMapModel_isLooked  (M : Mm) (a1 : Int32) : Rs := if a1 = (-1) then (some (M, 0)) else (ix a1 140 <| if (M.1 8 (a1 : Int32).toNatClampNeg) = 114 then (some (M, 0)) else (ix a1 140 <| if (M.1 8 (a1 : Int32).toNatClampNeg) = 99 then (some (M, 0)) else (some (M, 1))))
set_option maxHeartbeats 4000000 in
set_option maxRecDepth 20000 in
theorem b_ChipMapModel_isLooked_0 {p : Program} {l : Launch} {e : Env} {s s0 : State} {m : MethodId} {args : Array Value} {below : List Frame} {meth : Method} {c : Code} {D : va_G} {cI cZ cC cJ cA : ClassId} {P : Nat → Nat} {M' : Mm} {r' : Int32}  (hx : p.tables.exec = Jvm.exec) (hb : c.code = cX1_isLooked) (hml : c.maxLocals = 2) (hr : meth.sig.returnType = (some .boolean)) (hlk : meth.locks = false) (hgt : ∀ w ∈ GT, w.before args s = true) (hown : s.vm.findClass RX1 = some m.cls) (hK : va_K D vwCl [(cI, .int), (cZ, .boolean), (cC, .char), (cJ, .long), (cA, .array .int)] s) (hO : Old s0 s) (hAO : ∀ q, (aP P 51) q → s0.heap.size ≤ q)  : ∀ (M : Mm) (a1 : Int32) (H : Heap) (locs : List Loc) (ls : Array Slot), lv_has ls 2 [(0, .ref (P 0)), (1, .int a1)] → va_P D vwCl ((wY cI cZ cC cJ cA P) M) H → va_D (aP P 51) ((wY cI cZ cC cJ cA P) M) → va_S (aP P 51) s.heap H locs → q_ChipMapModel_isLooked M a1 = some (M', r') → W p l e ({ frames := 0, cells := 0, slots := 0, locals := 0 }) s m args below meth c H locs 0 0 (MQ below (gQi D (aP P 51) ((wY cI cZ cC cJ cA P) M') r') args s 0 0 (aP P 51)) (F0 m 0 ls []) := by
  intro M a1 H locs ls hl hP hD hS h
  unfold q_ChipMapModel_isLooked at h
  refine lv_iload_n hx hb dX1_isLooked_0 rfl (lv_at hl 1 rfl) ?_
  refine lv_iconst (v := (-1)) hx hb dX1_isLooked_1 (by decide) ?_
  refine lv_icmp_eq hx hb dX1_isLooked_2 (tgt := 31) rfl (fun hc => ?_) (fun hc => ?_)
  · have h := br_T hc h
    refine lv_iconst (v := 0) hx hb dX1_isLooked_31 (by decide) ?_
    exact rt_z (w := (wY cI cZ cC cJ cA P)) hx hb hr hlk rfl hP hD hS h dX1_isLooked_32
  · have h := br_F hc h
    refine lv_aload_n hx hb dX1_isLooked_5 rfl (lv_at hl 0 rfl) ?_
    refine va_get (D := D) (ci := 1) (v := .ref (P 8)) (C := RX1) (T := TX1) (N := 76) hx hb hgt iwX1 hown hK hP 0 gY_0 rfl 14 (Nat.le_of_ble_eq_true rfl) (hgt _ wd_4_215) (fun _ h9 => h9) rfl dX1_isLooked_6 ?_
    refine lv_iload_n hx hb dX1_isLooked_9 rfl (lv_at hl 1 rfl) ?_
    refine va_iald hx hb hK hP 8 0 gY_8 rfl (ix_l h) dX1_isLooked_10 ?_
    have h := ix_r h
    refine lv_bipush (v := 114) hx hb dX1_isLooked_11 (by decide) ?_
    refine lv_icmp_eq hx hb dX1_isLooked_13 (tgt := 31) rfl (fun hc => ?_) (fun hc => ?_)
    · have h := br_T hc h
      refine lv_iconst (v := 0) hx hb dX1_isLooked_31 (by decide) ?_
      exact rt_z (w := (wY cI cZ cC cJ cA P)) hx hb hr hlk rfl hP hD hS h dX1_isLooked_32
    · have h := br_F hc h
      refine lv_aload_n hx hb dX1_isLooked_16 rfl (lv_at hl 0 rfl) ?_
      refine va_get (D := D) (ci := 1) (v := .ref (P 8)) (C := RX1) (T := TX1) (N := 76) hx hb hgt iwX1 hown hK hP 0 gY_0 rfl 14 (Nat.le_of_ble_eq_true rfl) (hgt _ wd_4_215) (fun _ h9 => h9) rfl dX1_isLooked_17 ?_
      refine lv_iload_n hx hb dX1_isLooked_20 rfl (lv_at hl 1 rfl) ?_
      refine va_iald hx hb hK hP 8 0 gY_8 rfl (ix_l h) dX1_isLooked_21 ?_
      have h := ix_r h
      refine lv_bipush (v := 99) hx hb dX1_isLooked_22 (by decide) ?_
      refine lv_icmp_eq hx hb dX1_isLooked_24 (tgt := 31) rfl (fun hc => ?_) (fun hc => ?_)
      · have h := br_T hc h
        refine lv_iconst (v := 0) hx hb dX1_isLooked_31 (by decide) ?_
        exact rt_z (w := (wY cI cZ cC cJ cA P)) hx hb hr hlk rfl hP hD hS h dX1_isLooked_32
      · have h := br_F hc h
        refine lv_iconst (v := 1) hx hb dX1_isLooked_27 (by decide) ?_
        refine lv_goto hx hb dX1_isLooked_28 (tgt := 32) rfl ?_
        exact rt_z (w := (wY cI cZ cC cJ cA P)) hx hb hr hlk rfl hP hD hS h dX1_isLooked_32
set_option maxHeartbeats 4000000 in
set_option maxRecDepth 20000 in
theorem z_ChipMapModel_isLooked (l : Launch) (D : va_G) (cI cZ cC cJ cA : ClassId) (P : Nat → Nat) (s0 : State) (hAO : ∀ q, (aP P 51) q → s0.heap.size ≤ q) (M : Mm) (a1 : Int32) (M' : Mm) (r' : Int32) (h : q_ChipMapModel_isLooked M a1 = some (M', r')) : Met l yX1_isLooked wsX1_isLooked ({ frames := 0, cells := 0, slots := 0, locals := 0 }) (va_Pc [.ref (P 0), .int a1] (gPre s0 D [(cI, .int), (cZ, .boolean), (cC, .char), (cJ, .long), (cA, .array .int)] (aP P 51) ((wY cI cZ cC cJ cA P) M))) (gQi D (aP P 51) ((wY cI cZ cC cJ cA P) M') r') 0 0 (aP P 51) := by
  refine Met.ofW (cc := cX1_isLooked) (maxL := 2) (ret := (some .boolean)) (by decide) rfl ?_
  intro p e s m args below meth c s₁ B hml hv
  obtain ⟨rfl, hP, hK, hD, hO⟩ := hv
  have hx := B.exec
  have hb := B.bytes
  have hr := B.returns
  have hlk := B.notSynchronized
  have hgt := fun w (h : w ∈ GT) => atoms_spec (ws := wsX1_isLooked) B.pre w (List.mem_cons_of_mem _ h)
  have hown : s.vm.findClass RX1 = some m.cls := findClass_of_methodNamed B.named
  have hS : va_S (aP P 51) s.heap s.heap [] := va_S.rf
  have hl := lv_entry ([.ref (P 0), .int a1]) (n := 2) (Nat.le_of_ble_eq_true rfl)
  rw [lg_entry_eq]
  generalize (lg_sl ([.ref (P 0), .int a1]) ++ List.replicate (2 - (lg_sl ([.ref (P 0), .int a1])).length) Slot.unset).toArray = ls at hl ⊢
  have hl : lv_has ls 2 [(0, .ref (P 0)), (1, .int a1)] := hl
  exact b_ChipMapModel_isLooked_0 hx hb hml hr hlk hgt hown hK hO hAO M a1 s.heap [] ls hl hP hD hS h
def q_ChipMapModel_rulesRight_125 (kf2 : Mm → Int32 → Rs) (M : Mm) (v1 : Int32) (t0 : Int32) : Rs := if t0 = 0 then (ix v1 13 <| cal (q_ChipMapModel_wrong M 4 (M.1 19 (v1 : Int32).toNatClampNeg)) fun M1 r2 => bz r2 (some (M1, r2))) else (kf2 M (v1 + 1))
def q_ChipMapModel_rulesRight_116 (kf2 : Mm → Int32 → Rs) (M : Mm) (v1 : Int32) : Rs := q_ChipMapModel_rulesRight_125 kf2 M v1 0
def q_ChipMapModel_rulesRight_98 (kf2 : Mm → Int32 → Rs) (M : Mm) (v1 : Int32) (v3 : Int32) : Rs := ix v1 13 <| cal (q_ChipMapModel_fits M v3 (M.1 17 (v1 : Int32).toNatClampNeg)) fun M1 r2 => if r2 = 0 then (q_ChipMapModel_rulesRight_116 kf2 M1 v1) else (q_ChipMapModel_rulesRight_125 kf2 M1 v1 1)
def q_ChipMapModel_rulesRight_2  : Nat → Mm → Int32 → Rs
  | 0, _, _ => none
  | n' + 1, M, v1 => if (M.1 0 20) ≤ v1 then (some (M, 1)) else (ix v1 13 <| cal (q_ChipMapModel_named M (M.1 15 (v1 : Int32).toNatClampNeg) (M.1 0 12)) fun M1 r2 => ix v1 13 <| cal (q_ChipMapModel_named M1 (M1.1 16 (v1 : Int32).toNatClampNeg) (M1.1 0 12)) fun M3 r4 => cal (q_ChipMapModel_isLooked M3 r2) fun M5 r6 => if r6 = 0 then (ix v1 13 <| cal (q_ChipMapModel_wrong M5 4 (M5.1 18 (v1 : Int32).toNatClampNeg)) fun M7 r8 => bz r8 (some (M7, r8))) else (ix v1 13 <| if (M5.1 14 (v1 : Int32).toNatClampNeg) = 38 then (if r4 = (-1) then (q_ChipMapModel_rulesRight_116 (q_ChipMapModel_rulesRight_2 n') M5 v1) else (ix r4 140 <| if (M5.1 8 (r4 : Int32).toNatClampNeg) = 119 then (q_ChipMapModel_rulesRight_98 (q_ChipMapModel_rulesRight_2 n') M5 v1 r4) else (ix r4 140 <| if (M5.1 8 (r4 : Int32).toNatClampNeg) = 111 then (q_ChipMapModel_rulesRight_98 (q_ChipMapModel_rulesRight_2 n') M5 v1 r4) else (q_ChipMapModel_rulesRight_116 (q_ChipMapModel_rulesRight_2 n') M5 v1)))) else (cal (q_ChipMapModel_isLooked M5 r4) fun M7 r8 => q_ChipMapModel_rulesRight_125 (q_ChipMapModel_rulesRight_2 n') M7 v1 r8)))
def q_ChipMapModel_rulesRight  (M : Mm)  : Rs := q_ChipMapModel_rulesRight_2 4000 M 0
set_option maxHeartbeats 4000000 in
set_option maxRecDepth 20000 in
theorem b_ChipMapModel_rulesRight_125 {p : Program} {l : Launch} {e : Env} {s s0 : State} {m : MethodId} {args : Array Value} {below : List Frame} {meth : Method} {c : Code} {D : va_G} {cI cZ cC cJ cA : ClassId} {P : Nat → Nat} {M' : Mm} {r' : Int32} {kf2 : Mm → Int32 → Rs} (hx : p.tables.exec = Jvm.exec) (hb : c.code = cX1_rulesRight) (hml : c.maxLocals = 5) (hr : meth.sig.returnType = (some .boolean)) (hlk : meth.locks = false) (hgt : ∀ w ∈ GT, w.before args s = true) (hown : s.vm.findClass RX1 = some m.cls) (hK : va_K D vwCl [(cI, .int), (cZ, .boolean), (cC, .char), (cJ, .long), (cA, .array .int)] s) (hO : Old s0 s) (hAO : ∀ q, (aP P 51) q → s0.heap.size ≤ q) (kk2 : ∀ (M : Mm) (v1 : Int32) (H : Heap) (locs : List Loc) (ls : Array Slot), lv_has ls 5 [(0, .ref (P 0)), (1, .int v1)] → va_P D vwCl ((wY cI cZ cC cJ cA P) M) H → va_D (aP P 51) ((wY cI cZ cC cJ cA P) M) → va_S (aP P 51) s.heap H locs → kf2 M v1 = some (M', r') → W p l e ({ frames := 1, cells := 0, slots := 0, locals := 23 }) s m args below meth c H locs 0 0 (MQ below (gQi D (aP P 51) ((wY cI cZ cC cJ cA P) M') r') args s 0 0 (aP P 51)) (F0 m 2 ls [])) : ∀ (M : Mm) (v1 : Int32) (t0 : Int32) (H : Heap) (locs : List Loc) (ls : Array Slot), lv_has ls 5 [(0, .ref (P 0)), (1, .int v1)] → va_P D vwCl ((wY cI cZ cC cJ cA P) M) H → va_D (aP P 51) ((wY cI cZ cC cJ cA P) M) → va_S (aP P 51) s.heap H locs → q_ChipMapModel_rulesRight_125 kf2 M v1 t0 = some (M', r') → W p l e ({ frames := 1, cells := 0, slots := 0, locals := 23 }) s m args below meth c H locs 0 0 (MQ below (gQi D (aP P 51) ((wY cI cZ cC cJ cA P) M') r') args s 0 0 (aP P 51)) (F0 m 125 ls [.int t0]) := by
  intro M v1 t0 H locs ls hl hP hD hS h
  unfold q_ChipMapModel_rulesRight_125 at h
  refine lv_istore hx hb dX1_rulesRight_125 hl (Nat.le_of_ble_eq_true rfl) (lv' := [(4, .int t0), (0, .ref (P 0)), (1, .int v1)]) rfl (fun ls hl => ?_)
  refine lv_iload hx hb dX1_rulesRight_127 (lv_at hl 0 rfl) ?_
  refine lv_if_ne hx hb dX1_rulesRight_129 (tgt := 144) rfl (fun hc => ?_) (fun hc => ?_)
  · have h := br_F hc h
    refine lv_iinc (v := (v1 + 1)) hx hb dX1_rulesRight_144 hl (k := 2) rfl rfl (Nat.le_of_ble_eq_true rfl) (lv' := [(1, .int (v1 + 1)), (4, .int t0), (0, .ref (P 0))]) rfl (fun ls hl => ?_)
    refine lv_goto hx hb dX1_rulesRight_147 (tgt := 2) rfl ?_
    have hl := lv_sub hl [2, 0] (l' := [(0, .ref (P 0)), (1, .int (v1 + 1))]) rfl
    exact kk2 M (v1 + 1) H locs ls hl hP hD hS h
  · have h := br_T hc h
    refine lv_aload_n hx hb dX1_rulesRight_132 rfl (lv_at hl 1 rfl) ?_
    refine lv_iconst (v := 4) hx hb dX1_rulesRight_133 (by decide) ?_
    refine lv_aload_n hx hb dX1_rulesRight_134 rfl (lv_at hl 1 rfl) ?_
    refine va_get (D := D) (ci := 1) (v := .ref (P 19)) (C := RX1) (T := TX1) (N := 76) hx hb hgt iwX1 hown hK hP 0 gY_0 rfl 26 (Nat.le_of_ble_eq_true rfl) (hgt _ wd_4_227) (fun _ h9 => h9) rfl dX1_rulesRight_135 ?_
    refine lv_iload_n hx hb dX1_rulesRight_138 rfl (lv_at hl 2 rfl) ?_
    refine va_iald hx hb hK hP 19 0 gY_19 rfl (ix_l h) dX1_rulesRight_139 ?_
    have h := ix_r h
    obtain ⟨M1, r2, hq, h⟩ := cal_o h
    refine cx_i (va_runV (As := [.int 4, .int (M.1 19 (v1 : Int32).toNatClampNeg)]) (rest := []) ⟨hx, hb, hml, hown, hgt⟩ (z_ChipMapModel_wrong l D cI cZ cC cJ cA P s0 hAO M 4 (M.1 19 (v1 : Int32).toNatClampNeg) M1 r2 hq) (cwV 2 hgt (gV wd_5_208 wd_5_210 sl__ChipMapModel____ChipMapModel___wrong____II_Z_____ChipMapModel___wrong____II_Z__ wd_0_15 wd_5_211) rfl rfl rfl (by decide +kernel) ⟨Nat.le_of_ble_eq_true rfl, Nat.le_of_ble_eq_true rfl⟩) (prV hP hK hD hO hAO hS (va_recv hK hP (ci := 1) (q0 := 0) rfl gY_0)) rfl rfl hl.1 rfl (lv_room (Nat.le_of_ble_eq_true rfl)) dX1_rulesRight_140 ⟨Nat.le_of_ble_eq_true rfl, Nat.le_of_ble_eq_true rfl⟩) hS (fun H locs hP hD hS => ?_)
    exact rt_z (w := (wY cI cZ cC cJ cA P)) hx hb hr hlk (bz_l h) hP hD hS (bz_r h) dX1_rulesRight_143
set_option maxHeartbeats 4000000 in
set_option maxRecDepth 20000 in
theorem b_ChipMapModel_rulesRight_116 {p : Program} {l : Launch} {e : Env} {s s0 : State} {m : MethodId} {args : Array Value} {below : List Frame} {meth : Method} {c : Code} {D : va_G} {cI cZ cC cJ cA : ClassId} {P : Nat → Nat} {M' : Mm} {r' : Int32} {kf2 : Mm → Int32 → Rs} (hx : p.tables.exec = Jvm.exec) (hb : c.code = cX1_rulesRight) (hml : c.maxLocals = 5) (hr : meth.sig.returnType = (some .boolean)) (hlk : meth.locks = false) (hgt : ∀ w ∈ GT, w.before args s = true) (hown : s.vm.findClass RX1 = some m.cls) (hK : va_K D vwCl [(cI, .int), (cZ, .boolean), (cC, .char), (cJ, .long), (cA, .array .int)] s) (hO : Old s0 s) (hAO : ∀ q, (aP P 51) q → s0.heap.size ≤ q) (kk2 : ∀ (M : Mm) (v1 : Int32) (H : Heap) (locs : List Loc) (ls : Array Slot), lv_has ls 5 [(0, .ref (P 0)), (1, .int v1)] → va_P D vwCl ((wY cI cZ cC cJ cA P) M) H → va_D (aP P 51) ((wY cI cZ cC cJ cA P) M) → va_S (aP P 51) s.heap H locs → kf2 M v1 = some (M', r') → W p l e ({ frames := 1, cells := 0, slots := 0, locals := 23 }) s m args below meth c H locs 0 0 (MQ below (gQi D (aP P 51) ((wY cI cZ cC cJ cA P) M') r') args s 0 0 (aP P 51)) (F0 m 2 ls [])) : ∀ (M : Mm) (v1 : Int32) (H : Heap) (locs : List Loc) (ls : Array Slot), lv_has ls 5 [(0, .ref (P 0)), (1, .int v1)] → va_P D vwCl ((wY cI cZ cC cJ cA P) M) H → va_D (aP P 51) ((wY cI cZ cC cJ cA P) M) → va_S (aP P 51) s.heap H locs → q_ChipMapModel_rulesRight_116 kf2 M v1 = some (M', r') → W p l e ({ frames := 1, cells := 0, slots := 0, locals := 23 }) s m args below meth c H locs 0 0 (MQ below (gQi D (aP P 51) ((wY cI cZ cC cJ cA P) M') r') args s 0 0 (aP P 51)) (F0 m 116 ls []) := by
  intro M v1 H locs ls hl hP hD hS h
  unfold q_ChipMapModel_rulesRight_116 at h
  refine lv_iconst (v := 0) hx hb dX1_rulesRight_116 (by decide) ?_
  refine lv_goto hx hb dX1_rulesRight_117 (tgt := 125) rfl ?_
  have hl := lv_sub hl [0, 1] (l' := [(0, .ref (P 0)), (1, .int v1)]) rfl
  exact b_ChipMapModel_rulesRight_125 hx hb hml hr hlk hgt hown hK hO hAO kk2 M v1 0 H _ ls hl hP hD hS h
set_option maxHeartbeats 4000000 in
set_option maxRecDepth 20000 in
theorem b_ChipMapModel_rulesRight_98 {p : Program} {l : Launch} {e : Env} {s s0 : State} {m : MethodId} {args : Array Value} {below : List Frame} {meth : Method} {c : Code} {D : va_G} {cI cZ cC cJ cA : ClassId} {P : Nat → Nat} {M' : Mm} {r' : Int32} {kf2 : Mm → Int32 → Rs} (hx : p.tables.exec = Jvm.exec) (hb : c.code = cX1_rulesRight) (hml : c.maxLocals = 5) (hr : meth.sig.returnType = (some .boolean)) (hlk : meth.locks = false) (hgt : ∀ w ∈ GT, w.before args s = true) (hown : s.vm.findClass RX1 = some m.cls) (hK : va_K D vwCl [(cI, .int), (cZ, .boolean), (cC, .char), (cJ, .long), (cA, .array .int)] s) (hO : Old s0 s) (hAO : ∀ q, (aP P 51) q → s0.heap.size ≤ q) (kk2 : ∀ (M : Mm) (v1 : Int32) (H : Heap) (locs : List Loc) (ls : Array Slot), lv_has ls 5 [(0, .ref (P 0)), (1, .int v1)] → va_P D vwCl ((wY cI cZ cC cJ cA P) M) H → va_D (aP P 51) ((wY cI cZ cC cJ cA P) M) → va_S (aP P 51) s.heap H locs → kf2 M v1 = some (M', r') → W p l e ({ frames := 1, cells := 0, slots := 0, locals := 23 }) s m args below meth c H locs 0 0 (MQ below (gQi D (aP P 51) ((wY cI cZ cC cJ cA P) M') r') args s 0 0 (aP P 51)) (F0 m 2 ls [])) : ∀ (M : Mm) (v1 : Int32) (v3 : Int32) (H : Heap) (locs : List Loc) (ls : Array Slot), lv_has ls 5 [(0, .ref (P 0)), (1, .int v1), (3, .int v3)] → va_P D vwCl ((wY cI cZ cC cJ cA P) M) H → va_D (aP P 51) ((wY cI cZ cC cJ cA P) M) → va_S (aP P 51) s.heap H locs → q_ChipMapModel_rulesRight_98 kf2 M v1 v3 = some (M', r') → W p l e ({ frames := 1, cells := 0, slots := 0, locals := 23 }) s m args below meth c H locs 0 0 (MQ below (gQi D (aP P 51) ((wY cI cZ cC cJ cA P) M') r') args s 0 0 (aP P 51)) (F0 m 98 ls []) := by
  intro M v1 v3 H locs ls hl hP hD hS h
  unfold q_ChipMapModel_rulesRight_98 at h
  refine lv_aload_n hx hb dX1_rulesRight_98 rfl (lv_at hl 0 rfl) ?_
  refine lv_iload_n hx hb dX1_rulesRight_99 rfl (lv_at hl 2 rfl) ?_
  refine lv_aload_n hx hb dX1_rulesRight_100 rfl (lv_at hl 0 rfl) ?_
  refine va_get (D := D) (ci := 1) (v := .ref (P 17)) (C := RX1) (T := TX1) (N := 76) hx hb hgt iwX1 hown hK hP 0 gY_0 rfl 24 (Nat.le_of_ble_eq_true rfl) (hgt _ wd_4_225) (fun _ h9 => h9) rfl dX1_rulesRight_101 ?_
  refine lv_iload_n hx hb dX1_rulesRight_104 rfl (lv_at hl 1 rfl) ?_
  refine va_iald hx hb hK hP 17 0 gY_17 rfl (ix_l h) dX1_rulesRight_105 ?_
  have h := ix_r h
  obtain ⟨M1, r2, hq, h⟩ := cal_o h
  refine cx_i (va_runV (As := [.int v3, .int (M.1 17 (v1 : Int32).toNatClampNeg)]) (rest := []) ⟨hx, hb, hml, hown, hgt⟩ (z_ChipMapModel_fits l D cI cZ cC cJ cA P s0 hAO M v3 (M.1 17 (v1 : Int32).toNatClampNeg) M1 r2 hq) (cwV 2 hgt (gV wd_6_17 wd_6_19 sl__ChipMapModel____ChipMapModel___fits____II_Z_____ChipMapModel___fits____II_Z__ wd_0_15 wd_6_20) rfl rfl rfl (by decide +kernel) ⟨Nat.le_of_ble_eq_true rfl, Nat.le_of_ble_eq_true rfl⟩) (prV hP hK hD hO hAO hS (va_recv hK hP (ci := 1) (q0 := 0) rfl gY_0)) rfl rfl hl.1 rfl (lv_room (Nat.le_of_ble_eq_true rfl)) dX1_rulesRight_106 ⟨Nat.le_of_ble_eq_true rfl, Nat.le_of_ble_eq_true rfl⟩) hS (fun H locs hP hD hS => ?_)
  refine lv_if_eq hx hb dX1_rulesRight_109 (tgt := 116) rfl (fun hc => ?_) (fun hc => ?_)
  · have h := br_T hc h
    have hl := lv_sub hl [0, 1] (l' := [(0, .ref (P 0)), (1, .int v1)]) rfl
    exact b_ChipMapModel_rulesRight_116 hx hb hml hr hlk hgt hown hK hO hAO kk2 M1 v1 H _ ls hl hP hD hS h
  · have h := br_F hc h
    refine lv_iconst (v := 1) hx hb dX1_rulesRight_112 (by decide) ?_
    refine lv_goto hx hb dX1_rulesRight_113 (tgt := 125) rfl ?_
    have hl := lv_sub hl [0, 1] (l' := [(0, .ref (P 0)), (1, .int v1)]) rfl
    exact b_ChipMapModel_rulesRight_125 hx hb hml hr hlk hgt hown hK hO hAO kk2 M1 v1 1 H _ ls hl hP hD hS h
set_option maxHeartbeats 4000000 in
set_option maxRecDepth 20000 in
theorem b_ChipMapModel_rulesRight_2 {p : Program} {l : Launch} {e : Env} {s s0 : State} {m : MethodId} {args : Array Value} {below : List Frame} {meth : Method} {c : Code} {D : va_G} {cI cZ cC cJ cA : ClassId} {P : Nat → Nat} {M' : Mm} {r' : Int32}  (hx : p.tables.exec = Jvm.exec) (hb : c.code = cX1_rulesRight) (hml : c.maxLocals = 5) (hr : meth.sig.returnType = (some .boolean)) (hlk : meth.locks = false) (hgt : ∀ w ∈ GT, w.before args s = true) (hown : s.vm.findClass RX1 = some m.cls) (hK : va_K D vwCl [(cI, .int), (cZ, .boolean), (cC, .char), (cJ, .long), (cA, .array .int)] s) (hO : Old s0 s) (hAO : ∀ q, (aP P 51) q → s0.heap.size ≤ q)  : ∀ (n' : Nat) (M : Mm) (v1 : Int32) (H : Heap) (locs : List Loc) (ls : Array Slot), lv_has ls 5 [(0, .ref (P 0)), (1, .int v1)] → va_P D vwCl ((wY cI cZ cC cJ cA P) M) H → va_D (aP P 51) ((wY cI cZ cC cJ cA P) M) → va_S (aP P 51) s.heap H locs → q_ChipMapModel_rulesRight_2 n' M v1 = some (M', r') → W p l e ({ frames := 1, cells := 0, slots := 0, locals := 23 }) s m args below meth c H locs 0 0 (MQ below (gQi D (aP P 51) ((wY cI cZ cC cJ cA P) M') r') args s 0 0 (aP P 51)) (F0 m 2 ls []) := by
  intro n'
  induction n' with
  | zero => exact fun _ _ _ _ _ _ _ _ _ h => (rs_n h).elim
  | succ n' ih =>
    intro M v1 H locs ls hl hP hD hS h
    rw [q_ChipMapModel_rulesRight_2] at h
    refine lv_iload_n hx hb dX1_rulesRight_2 rfl (lv_at hl 1 rfl) ?_
    refine lv_aload_n hx hb dX1_rulesRight_3 rfl (lv_at hl 0 rfl) ?_
    refine va_get (D := D) (ci := 1) (v := .int (M.1 0 20)) (C := RX1) (T := TX1) (N := 76) hx hb hgt iwX1 hown hK hP 0 gY_0 rfl 20 (Nat.le_of_ble_eq_true rfl) (hgt _ wd_4_221) (fun _ h9 => h9) rfl dX1_rulesRight_4 ?_
    refine lv_icmp_ge hx hb dX1_rulesRight_7 (tgt := 150) rfl (fun hc => ?_) (fun hc => ?_)
    · have h := br_T hc h
      refine lv_iconst (v := 1) hx hb dX1_rulesRight_150 (by decide) ?_
      exact rt_z (w := (wY cI cZ cC cJ cA P)) hx hb hr hlk rfl hP hD hS h dX1_rulesRight_151
    · have h := br_F hc h
      refine lv_aload_n hx hb dX1_rulesRight_10 rfl (lv_at hl 0 rfl) ?_
      refine lv_aload_n hx hb dX1_rulesRight_11 rfl (lv_at hl 0 rfl) ?_
      refine va_get (D := D) (ci := 1) (v := .ref (P 15)) (C := RX1) (T := TX1) (N := 76) hx hb hgt iwX1 hown hK hP 0 gY_0 rfl 22 (Nat.le_of_ble_eq_true rfl) (hgt _ wd_4_223) (fun _ h9 => h9) rfl dX1_rulesRight_12 ?_
      refine lv_iload_n hx hb dX1_rulesRight_15 rfl (lv_at hl 1 rfl) ?_
      refine va_iald hx hb hK hP 15 0 gY_15 rfl (ix_l h) dX1_rulesRight_16 ?_
      have h := ix_r h
      refine lv_aload_n hx hb dX1_rulesRight_17 rfl (lv_at hl 0 rfl) ?_
      refine va_get (D := D) (ci := 1) (v := .int (M.1 0 12)) (C := RX1) (T := TX1) (N := 76) hx hb hgt iwX1 hown hK hP 0 gY_0 rfl 12 (Nat.le_of_ble_eq_true rfl) (hgt _ wd_4_213) (fun _ h9 => h9) rfl dX1_rulesRight_18 ?_
      obtain ⟨M1, r2, hq, h⟩ := cal_o h
      refine cx_i (va_runV (As := [.int (M.1 15 (v1 : Int32).toNatClampNeg), .int (M.1 0 12)]) (rest := []) ⟨hx, hb, hml, hown, hgt⟩ (z_ChipMapModel_named l D cI cZ cC cJ cA P s0 hAO M (M.1 15 (v1 : Int32).toNatClampNeg) (M.1 0 12) M1 r2 hq) (cwV 2 hgt (gV wd_6_13 wd_6_15 sl__ChipMapModel____ChipMapModel___named____II_I_____ChipMapModel___named____II_I__ wd_0_15 wd_6_16) rfl rfl rfl (by decide +kernel) ⟨Nat.le_of_ble_eq_true rfl, Nat.le_of_ble_eq_true rfl⟩) (prV hP hK hD hO hAO hS (va_recv hK hP (ci := 1) (q0 := 0) rfl gY_0)) rfl rfl hl.1 rfl (lv_room (Nat.le_of_ble_eq_true rfl)) dX1_rulesRight_21 ⟨Nat.le_of_ble_eq_true rfl, Nat.le_of_ble_eq_true rfl⟩) hS (fun H locs hP hD hS => ?_)
      refine lv_istore_n hx hb dX1_rulesRight_24 rfl hl (Nat.le_of_ble_eq_true rfl) (lv' := [(2, .int r2), (0, .ref (P 0)), (1, .int v1)]) rfl (fun ls hl => ?_)
      refine lv_aload_n hx hb dX1_rulesRight_25 rfl (lv_at hl 1 rfl) ?_
      refine lv_aload_n hx hb dX1_rulesRight_26 rfl (lv_at hl 1 rfl) ?_
      refine va_get (D := D) (ci := 1) (v := .ref (P 16)) (C := RX1) (T := TX1) (N := 76) hx hb hgt iwX1 hown hK hP 0 gY_0 rfl 23 (Nat.le_of_ble_eq_true rfl) (hgt _ wd_4_224) (fun _ h9 => h9) rfl dX1_rulesRight_27 ?_
      refine lv_iload_n hx hb dX1_rulesRight_30 rfl (lv_at hl 2 rfl) ?_
      refine va_iald hx hb hK hP 16 0 gY_16 rfl (ix_l h) dX1_rulesRight_31 ?_
      have h := ix_r h
      refine lv_aload_n hx hb dX1_rulesRight_32 rfl (lv_at hl 1 rfl) ?_
      refine va_get (D := D) (ci := 1) (v := .int (M1.1 0 12)) (C := RX1) (T := TX1) (N := 76) hx hb hgt iwX1 hown hK hP 0 gY_0 rfl 12 (Nat.le_of_ble_eq_true rfl) (hgt _ wd_4_213) (fun _ h9 => h9) rfl dX1_rulesRight_33 ?_
      obtain ⟨M3, r4, hq, h⟩ := cal_o h
      refine cx_i (va_runV (As := [.int (M1.1 16 (v1 : Int32).toNatClampNeg), .int (M1.1 0 12)]) (rest := []) ⟨hx, hb, hml, hown, hgt⟩ (z_ChipMapModel_named l D cI cZ cC cJ cA P s0 hAO M1 (M1.1 16 (v1 : Int32).toNatClampNeg) (M1.1 0 12) M3 r4 hq) (cwV 2 hgt (gV wd_6_13 wd_6_15 sl__ChipMapModel____ChipMapModel___named____II_I_____ChipMapModel___named____II_I__ wd_0_15 wd_6_16) rfl rfl rfl (by decide +kernel) ⟨Nat.le_of_ble_eq_true rfl, Nat.le_of_ble_eq_true rfl⟩) (prV hP hK hD hO hAO hS (va_recv hK hP (ci := 1) (q0 := 0) rfl gY_0)) rfl rfl hl.1 rfl (lv_room (Nat.le_of_ble_eq_true rfl)) dX1_rulesRight_36 ⟨Nat.le_of_ble_eq_true rfl, Nat.le_of_ble_eq_true rfl⟩) hS (fun H locs hP hD hS => ?_)
      refine lv_istore_n hx hb dX1_rulesRight_39 rfl hl (Nat.le_of_ble_eq_true rfl) (lv' := [(3, .int r4), (2, .int r2), (0, .ref (P 0)), (1, .int v1)]) rfl (fun ls hl => ?_)
      refine lv_aload_n hx hb dX1_rulesRight_40 rfl (lv_at hl 2 rfl) ?_
      refine lv_iload_n hx hb dX1_rulesRight_41 rfl (lv_at hl 1 rfl) ?_
      obtain ⟨M5, r6, hq, h⟩ := cal_o h
      refine cx_i (va_runV (As := [.int r2]) (rest := []) ⟨hx, hb, hml, hown, hgt⟩ (z_ChipMapModel_isLooked l D cI cZ cC cJ cA P s0 hAO M3 r2 M5 r6 hq) (cwV 1 hgt (gV wd_6_29 wd_6_31 sl__ChipMapModel____ChipMapModel___isLooked____I_Z_____ChipMapModel___isLooked____I_Z__ wd_0_15 wd_6_32) rfl rfl rfl (by decide +kernel) ⟨Nat.le_of_ble_eq_true rfl, Nat.le_of_ble_eq_true rfl⟩) (prV hP hK hD hO hAO hS (va_recv hK hP (ci := 1) (q0 := 0) rfl gY_0)) rfl rfl hl.1 rfl (lv_room (Nat.le_of_ble_eq_true rfl)) dX1_rulesRight_42 ⟨Nat.le_of_ble_eq_true rfl, Nat.le_of_ble_eq_true rfl⟩) hS (fun H locs hP hD hS => ?_)
      refine lv_if_ne hx hb dX1_rulesRight_45 (tgt := 60) rfl (fun hc => ?_) (fun hc => ?_)
      · have h := br_F hc h
        refine lv_aload_n hx hb dX1_rulesRight_60 rfl (lv_at hl 2 rfl) ?_
        refine va_get (D := D) (ci := 1) (v := .ref (P 14)) (C := RX1) (T := TX1) (N := 76) hx hb hgt iwX1 hown hK hP 0 gY_0 rfl 21 (Nat.le_of_ble_eq_true rfl) (hgt _ wd_4_222) (fun _ h9 => h9) rfl dX1_rulesRight_61 ?_
        refine lv_iload_n hx hb dX1_rulesRight_64 rfl (lv_at hl 3 rfl) ?_
        refine va_iald hx hb hK hP 14 0 gY_14 rfl (ix_l h) dX1_rulesRight_65 ?_
        have h := ix_r h
        refine lv_bipush (v := 38) hx hb dX1_rulesRight_66 (by decide) ?_
        refine lv_icmp_ne hx hb dX1_rulesRight_68 (tgt := 120) rfl (fun hc => ?_) (fun hc => ?_)
        · have h := br_F hc h
          refine lv_aload_n hx hb dX1_rulesRight_120 rfl (lv_at hl 2 rfl) ?_
          refine lv_iload_n hx hb dX1_rulesRight_121 rfl (lv_at hl 0 rfl) ?_
          obtain ⟨M7, r8, hq, h⟩ := cal_o h
          refine cx_i (va_runV (As := [.int r4]) (rest := []) ⟨hx, hb, hml, hown, hgt⟩ (z_ChipMapModel_isLooked l D cI cZ cC cJ cA P s0 hAO M5 r4 M7 r8 hq) (cwV 1 hgt (gV wd_6_29 wd_6_31 sl__ChipMapModel____ChipMapModel___isLooked____I_Z_____ChipMapModel___isLooked____I_Z__ wd_0_15 wd_6_32) rfl rfl rfl (by decide +kernel) ⟨Nat.le_of_ble_eq_true rfl, Nat.le_of_ble_eq_true rfl⟩) (prV hP hK hD hO hAO hS (va_recv hK hP (ci := 1) (q0 := 0) rfl gY_0)) rfl rfl hl.1 rfl (lv_room (Nat.le_of_ble_eq_true rfl)) dX1_rulesRight_122 ⟨Nat.le_of_ble_eq_true rfl, Nat.le_of_ble_eq_true rfl⟩) hS (fun H locs hP hD hS => ?_)
          have hl := lv_sub hl [2, 3] (l' := [(0, .ref (P 0)), (1, .int v1)]) rfl
          exact b_ChipMapModel_rulesRight_125 hx hb hml hr hlk hgt hown hK hO hAO ih M7 v1 r8 H _ ls hl hP hD hS h
        · have h := br_T hc h
          refine lv_iload_n hx hb dX1_rulesRight_71 rfl (lv_at hl 0 rfl) ?_
          refine lv_iconst (v := (-1)) hx hb dX1_rulesRight_72 (by decide) ?_
          refine lv_icmp_eq hx hb dX1_rulesRight_73 (tgt := 116) rfl (fun hc => ?_) (fun hc => ?_)
          · have h := br_T hc h
            have hl := lv_sub hl [2, 3] (l' := [(0, .ref (P 0)), (1, .int v1)]) rfl
            exact b_ChipMapModel_rulesRight_116 hx hb hml hr hlk hgt hown hK hO hAO ih M5 v1 H _ ls hl hP hD hS h
          · have h := br_F hc h
            refine lv_aload_n hx hb dX1_rulesRight_76 rfl (lv_at hl 2 rfl) ?_
            refine va_get (D := D) (ci := 1) (v := .ref (P 8)) (C := RX1) (T := TX1) (N := 76) hx hb hgt iwX1 hown hK hP 0 gY_0 rfl 14 (Nat.le_of_ble_eq_true rfl) (hgt _ wd_4_215) (fun _ h9 => h9) rfl dX1_rulesRight_77 ?_
            refine lv_iload_n hx hb dX1_rulesRight_80 rfl (lv_at hl 0 rfl) ?_
            refine va_iald hx hb hK hP 8 0 gY_8 rfl (ix_l h) dX1_rulesRight_81 ?_
            have h := ix_r h
            refine lv_bipush (v := 119) hx hb dX1_rulesRight_82 (by decide) ?_
            refine lv_icmp_eq hx hb dX1_rulesRight_84 (tgt := 98) rfl (fun hc => ?_) (fun hc => ?_)
            · have h := br_T hc h
              have hl := lv_sub hl [2, 3, 0] (l' := [(0, .ref (P 0)), (1, .int v1), (3, .int r4)]) rfl
              exact b_ChipMapModel_rulesRight_98 hx hb hml hr hlk hgt hown hK hO hAO ih M5 v1 r4 H _ ls hl hP hD hS h
            · have h := br_F hc h
              refine lv_aload_n hx hb dX1_rulesRight_87 rfl (lv_at hl 2 rfl) ?_
              refine va_get (D := D) (ci := 1) (v := .ref (P 8)) (C := RX1) (T := TX1) (N := 76) hx hb hgt iwX1 hown hK hP 0 gY_0 rfl 14 (Nat.le_of_ble_eq_true rfl) (hgt _ wd_4_215) (fun _ h9 => h9) rfl dX1_rulesRight_88 ?_
              refine lv_iload_n hx hb dX1_rulesRight_91 rfl (lv_at hl 0 rfl) ?_
              refine va_iald hx hb hK hP 8 0 gY_8 rfl (ix_l h) dX1_rulesRight_92 ?_
              have h := ix_r h
              refine lv_bipush (v := 111) hx hb dX1_rulesRight_93 (by decide) ?_
              refine lv_icmp_ne hx hb dX1_rulesRight_95 (tgt := 116) rfl (fun hc => ?_) (fun hc => ?_)
              · have h := br_F hc h
                have hl := lv_sub hl [2, 3] (l' := [(0, .ref (P 0)), (1, .int v1)]) rfl
                exact b_ChipMapModel_rulesRight_116 hx hb hml hr hlk hgt hown hK hO hAO ih M5 v1 H _ ls hl hP hD hS h
              · have h := br_T hc h
                have hl := lv_sub hl [2, 3, 0] (l' := [(0, .ref (P 0)), (1, .int v1), (3, .int r4)]) rfl
                exact b_ChipMapModel_rulesRight_98 hx hb hml hr hlk hgt hown hK hO hAO ih M5 v1 r4 H _ ls hl hP hD hS h
      · have h := br_T hc h
        refine lv_aload_n hx hb dX1_rulesRight_48 rfl (lv_at hl 2 rfl) ?_
        refine lv_iconst (v := 4) hx hb dX1_rulesRight_49 (by decide) ?_
        refine lv_aload_n hx hb dX1_rulesRight_50 rfl (lv_at hl 2 rfl) ?_
        refine va_get (D := D) (ci := 1) (v := .ref (P 18)) (C := RX1) (T := TX1) (N := 76) hx hb hgt iwX1 hown hK hP 0 gY_0 rfl 25 (Nat.le_of_ble_eq_true rfl) (hgt _ wd_4_226) (fun _ h9 => h9) rfl dX1_rulesRight_51 ?_
        refine lv_iload_n hx hb dX1_rulesRight_54 rfl (lv_at hl 3 rfl) ?_
        refine va_iald hx hb hK hP 18 0 gY_18 rfl (ix_l h) dX1_rulesRight_55 ?_
        have h := ix_r h
        obtain ⟨M7, r8, hq, h⟩ := cal_o h
        refine cx_i (va_runV (As := [.int 4, .int (M5.1 18 (v1 : Int32).toNatClampNeg)]) (rest := []) ⟨hx, hb, hml, hown, hgt⟩ (z_ChipMapModel_wrong l D cI cZ cC cJ cA P s0 hAO M5 4 (M5.1 18 (v1 : Int32).toNatClampNeg) M7 r8 hq) (cwV 2 hgt (gV wd_5_208 wd_5_210 sl__ChipMapModel____ChipMapModel___wrong____II_Z_____ChipMapModel___wrong____II_Z__ wd_0_15 wd_5_211) rfl rfl rfl (by decide +kernel) ⟨Nat.le_of_ble_eq_true rfl, Nat.le_of_ble_eq_true rfl⟩) (prV hP hK hD hO hAO hS (va_recv hK hP (ci := 1) (q0 := 0) rfl gY_0)) rfl rfl hl.1 rfl (lv_room (Nat.le_of_ble_eq_true rfl)) dX1_rulesRight_56 ⟨Nat.le_of_ble_eq_true rfl, Nat.le_of_ble_eq_true rfl⟩) hS (fun H locs hP hD hS => ?_)
        exact rt_z (w := (wY cI cZ cC cJ cA P)) hx hb hr hlk (bz_l h) hP hD hS (bz_r h) dX1_rulesRight_59
set_option maxHeartbeats 4000000 in
set_option maxRecDepth 20000 in
theorem b_ChipMapModel_rulesRight_0 {p : Program} {l : Launch} {e : Env} {s s0 : State} {m : MethodId} {args : Array Value} {below : List Frame} {meth : Method} {c : Code} {D : va_G} {cI cZ cC cJ cA : ClassId} {P : Nat → Nat} {M' : Mm} {r' : Int32}  (hx : p.tables.exec = Jvm.exec) (hb : c.code = cX1_rulesRight) (hml : c.maxLocals = 5) (hr : meth.sig.returnType = (some .boolean)) (hlk : meth.locks = false) (hgt : ∀ w ∈ GT, w.before args s = true) (hown : s.vm.findClass RX1 = some m.cls) (hK : va_K D vwCl [(cI, .int), (cZ, .boolean), (cC, .char), (cJ, .long), (cA, .array .int)] s) (hO : Old s0 s) (hAO : ∀ q, (aP P 51) q → s0.heap.size ≤ q)  : ∀ (M : Mm)  (H : Heap) (locs : List Loc) (ls : Array Slot), lv_has ls 5 [(0, .ref (P 0))] → va_P D vwCl ((wY cI cZ cC cJ cA P) M) H → va_D (aP P 51) ((wY cI cZ cC cJ cA P) M) → va_S (aP P 51) s.heap H locs → q_ChipMapModel_rulesRight M = some (M', r') → W p l e ({ frames := 1, cells := 0, slots := 0, locals := 23 }) s m args below meth c H locs 0 0 (MQ below (gQi D (aP P 51) ((wY cI cZ cC cJ cA P) M') r') args s 0 0 (aP P 51)) (F0 m 0 ls []) := by
  intro M H locs ls hl hP hD hS h
  unfold q_ChipMapModel_rulesRight at h
  refine lv_iconst (v := 0) hx hb dX1_rulesRight_0 (by decide) ?_
  refine lv_istore_n hx hb dX1_rulesRight_1 rfl hl (Nat.le_of_ble_eq_true rfl) (lv' := [(1, .int 0), (0, .ref (P 0))]) rfl (fun ls hl => ?_)
  have hl := lv_sub hl [1, 0] (l' := [(0, .ref (P 0)), (1, .int 0)]) rfl
  exact b_ChipMapModel_rulesRight_2 hx hb hml hr hlk hgt hown hK hO hAO 4000 M 0 H _ ls hl hP hD hS h
set_option maxHeartbeats 4000000 in
set_option maxRecDepth 20000 in
theorem z_ChipMapModel_rulesRight (l : Launch) (D : va_G) (cI cZ cC cJ cA : ClassId) (P : Nat → Nat) (s0 : State) (hAO : ∀ q, (aP P 51) q → s0.heap.size ≤ q) (M : Mm)  (M' : Mm) (r' : Int32) (h : q_ChipMapModel_rulesRight M = some (M', r')) : Met l yX1_rulesRight wsX1_rulesRight ({ frames := 1, cells := 0, slots := 0, locals := 23 }) (va_Pc [.ref (P 0)] (gPre s0 D [(cI, .int), (cZ, .boolean), (cC, .char), (cJ, .long), (cA, .array .int)] (aP P 51) ((wY cI cZ cC cJ cA P) M))) (gQi D (aP P 51) ((wY cI cZ cC cJ cA P) M') r') 0 0 (aP P 51) := by
  refine Met.ofW (cc := cX1_rulesRight) (maxL := 5) (ret := (some .boolean)) (by decide) rfl ?_
  intro p e s m args below meth c s₁ B hml hv
  obtain ⟨rfl, hP, hK, hD, hO⟩ := hv
  have hx := B.exec
  have hb := B.bytes
  have hr := B.returns
  have hlk := B.notSynchronized
  have hgt := fun w (h : w ∈ GT) => atoms_spec (ws := wsX1_rulesRight) B.pre w (List.mem_cons_of_mem _ h)
  have hown : s.vm.findClass RX1 = some m.cls := findClass_of_methodNamed B.named
  have hS : va_S (aP P 51) s.heap s.heap [] := va_S.rf
  have hl := lv_entry ([.ref (P 0)]) (n := 5) (Nat.le_of_ble_eq_true rfl)
  rw [lg_entry_eq]
  generalize (lg_sl ([.ref (P 0)]) ++ List.replicate (5 - (lg_sl ([.ref (P 0)])).length) Slot.unset).toArray = ls at hl ⊢
  have hl : lv_has ls 5 [(0, .ref (P 0))] := hl
  exact b_ChipMapModel_rulesRight_0 hx hb hml hr hlk hgt hown hK hO hAO M s.heap [] ls hl hP hD hS h
