def q_ChipMapModel_flush_88 (kf11 : Mm → Int32 → Rs) (M : Mm) (v1 : Int32) : Rs := kf11 M (v1 + 1)
def q_ChipMapModel_flush_62 (kf11 : Mm → Int32 → Rs) (kf23 : Mm → Int32 → Int32 → Int32 → Rs) (M : Mm) (v1 : Int32) (v3 : Int32) (t0 : Int32) : Rs := kf23 M v1 t0 (v3 + 1)
def q_ChipMapModel_flush_57 (kf11 : Mm → Int32 → Rs) (kf23 : Mm → Int32 → Int32 → Int32 → Rs) (M : Mm) (v1 : Int32) (v3 : Int32) : Rs := q_ChipMapModel_flush_62 kf11 kf23 M v1 v3 1
def q_ChipMapModel_flush_23 (kf11 : Mm → Int32 → Rs) : Nat → Mm → Int32 → Int32 → Int32 → Rs
  | 0, _, _, _, _ => none
  | n' + 1, M, v1, v2, v3 => if v1 ≤ v3 then (if v2 = 0 then (ix v1 8 <| ix (M.1 40 (v1 : Int32).toNatClampNeg) 26 <| cal (q_ChipMapModel_flushRegister M (M.1 25 ((M.1 40 (v1 : Int32).toNatClampNeg) : Int32).toNatClampNeg)) fun M1 r2 => q_ChipMapModel_flush_88 kf11 M1 v1) else (q_ChipMapModel_flush_88 kf11 M v1)) else (if v2 = 0 then (ix v3 8 <| ix (M.1 40 (v3 : Int32).toNatClampNeg) 26 <| ix v1 8 <| ix (M.1 40 (v1 : Int32).toNatClampNeg) 26 <| if (M.1 25 ((M.1 40 (v3 : Int32).toNatClampNeg) : Int32).toNatClampNeg) = (M.1 25 ((M.1 40 (v1 : Int32).toNatClampNeg) : Int32).toNatClampNeg) then (q_ChipMapModel_flush_57 kf11 (q_ChipMapModel_flush_23 kf11 n') M v1 v3) else (q_ChipMapModel_flush_62 kf11 (q_ChipMapModel_flush_23 kf11 n') M v1 v3 0)) else (q_ChipMapModel_flush_57 kf11 (q_ChipMapModel_flush_23 kf11 n') M v1 v3))
def q_ChipMapModel_flush_11  : Nat → Mm → Int32 → Rs
  | 0, _, _ => none
  | n' + 1, M, v1 => if (M.1 0 52) ≤ v1 then (cal (q_ChipMapModel_end M) fun M1 r2 => if r2 = (-2) then (some (M1, r2)) else (lt' (stI M1 0 (upd (M1.1 0) 52 0)) fun M3 => some (M3, r2))) else (q_ChipMapModel_flush_23 (q_ChipMapModel_flush_11 n') 4000 M v1 0 0)
def q_ChipMapModel_flush  (M : Mm)  : Rs := lt' (stI M 0 (upd (M.1 0) 0 0)) fun M1 => cal (q_ChipMapModel_begin M1) fun M2 r3 => q_ChipMapModel_flush_11 4000 M2 0
set_option maxHeartbeats 4000000 in
set_option maxRecDepth 20000 in
theorem b_ChipMapModel_flush_88 {p : Program} {l : Launch} {e : Env} {s s0 : State} {m : MethodId} {args : Array Value} {below : List Frame} {meth : Method} {c : Code} {D : va_G} {cI cZ cC cJ cA : ClassId} {P : Nat → Nat} {M' : Mm} {r' : Int32} {kf11 : Mm → Int32 → Rs} (hx : p.tables.exec = Jvm.exec) (hb : c.code = cX1_flush) (hml : c.maxLocals = 4) (hr : meth.sig.returnType = (some .int)) (hlk : meth.locks = false) (hgt : ∀ w ∈ GT, w.before args s = true) (hown : s.vm.findClass RX1 = some m.cls) (hK : va_K D vwCl [(cI, .int), (cZ, .boolean), (cC, .char), (cJ, .long), (cA, .array .int)] s) (hO : Old s0 s) (hAO : ∀ q, (aP P 51) q → s0.heap.size ≤ q) (kk11 : ∀ (M : Mm) (v1 : Int32) (H : Heap) (locs : List Loc) (ls : Array Slot), lv_has ls 4 [(0, .ref (P 0)), (1, .int v1)] → va_P D vwCl ((wY cI cZ cC cJ cA P) M) H → va_D (aP P 51) ((wY cI cZ cC cJ cA P) M) → va_S (aP P 51) s.heap H locs → kf11 M v1 = some (M', r') → W p l e ({ frames := 7, cells := 0, slots := 0, locals := 164 }) s m args below meth c H locs 0 0 (MQ below (gQi D (aP P 51) ((wY cI cZ cC cJ cA P) M') r') args s 0 0 (aP P 51)) (F0 m 11 ls [])) : ∀ (M : Mm) (v1 : Int32) (H : Heap) (locs : List Loc) (ls : Array Slot), lv_has ls 4 [(0, .ref (P 0)), (1, .int v1)] → va_P D vwCl ((wY cI cZ cC cJ cA P) M) H → va_D (aP P 51) ((wY cI cZ cC cJ cA P) M) → va_S (aP P 51) s.heap H locs → q_ChipMapModel_flush_88 kf11 M v1 = some (M', r') → W p l e ({ frames := 7, cells := 0, slots := 0, locals := 164 }) s m args below meth c H locs 0 0 (MQ below (gQi D (aP P 51) ((wY cI cZ cC cJ cA P) M') r') args s 0 0 (aP P 51)) (F0 m 88 ls []) := by
  intro M v1 H locs ls hl hP hD hS h
  unfold q_ChipMapModel_flush_88 at h
  refine lv_iinc (v := (v1 + 1)) hx hb dX1_flush_88 hl (k := 1) rfl rfl (Nat.le_of_ble_eq_true rfl) (lv' := [(1, .int (v1 + 1)), (0, .ref (P 0))]) rfl (fun ls hl => ?_)
  refine lv_goto hx hb dX1_flush_91 (tgt := 11) rfl ?_
  have hl := lv_sub hl [1, 0] (l' := [(0, .ref (P 0)), (1, .int (v1 + 1))]) rfl
  exact kk11 M (v1 + 1) H locs ls hl hP hD hS h
set_option maxHeartbeats 4000000 in
set_option maxRecDepth 20000 in
theorem b_ChipMapModel_flush_62 {p : Program} {l : Launch} {e : Env} {s s0 : State} {m : MethodId} {args : Array Value} {below : List Frame} {meth : Method} {c : Code} {D : va_G} {cI cZ cC cJ cA : ClassId} {P : Nat → Nat} {M' : Mm} {r' : Int32} {kf11 : Mm → Int32 → Rs} {kf23 : Mm → Int32 → Int32 → Int32 → Rs} (hx : p.tables.exec = Jvm.exec) (hb : c.code = cX1_flush) (hml : c.maxLocals = 4) (hr : meth.sig.returnType = (some .int)) (hlk : meth.locks = false) (hgt : ∀ w ∈ GT, w.before args s = true) (hown : s.vm.findClass RX1 = some m.cls) (hK : va_K D vwCl [(cI, .int), (cZ, .boolean), (cC, .char), (cJ, .long), (cA, .array .int)] s) (hO : Old s0 s) (hAO : ∀ q, (aP P 51) q → s0.heap.size ≤ q) (kk11 : ∀ (M : Mm) (v1 : Int32) (H : Heap) (locs : List Loc) (ls : Array Slot), lv_has ls 4 [(0, .ref (P 0)), (1, .int v1)] → va_P D vwCl ((wY cI cZ cC cJ cA P) M) H → va_D (aP P 51) ((wY cI cZ cC cJ cA P) M) → va_S (aP P 51) s.heap H locs → kf11 M v1 = some (M', r') → W p l e ({ frames := 7, cells := 0, slots := 0, locals := 164 }) s m args below meth c H locs 0 0 (MQ below (gQi D (aP P 51) ((wY cI cZ cC cJ cA P) M') r') args s 0 0 (aP P 51)) (F0 m 11 ls [])) (kk23 : ∀ (M : Mm) (v1 : Int32) (v2 : Int32) (v3 : Int32) (H : Heap) (locs : List Loc) (ls : Array Slot), lv_has ls 4 [(0, .ref (P 0)), (1, .int v1), (2, .int v2), (3, .int v3)] → va_P D vwCl ((wY cI cZ cC cJ cA P) M) H → va_D (aP P 51) ((wY cI cZ cC cJ cA P) M) → va_S (aP P 51) s.heap H locs → kf23 M v1 v2 v3 = some (M', r') → W p l e ({ frames := 7, cells := 0, slots := 0, locals := 164 }) s m args below meth c H locs 0 0 (MQ below (gQi D (aP P 51) ((wY cI cZ cC cJ cA P) M') r') args s 0 0 (aP P 51)) (F0 m 23 ls [])) : ∀ (M : Mm) (v1 : Int32) (v3 : Int32) (t0 : Int32) (H : Heap) (locs : List Loc) (ls : Array Slot), lv_has ls 4 [(0, .ref (P 0)), (1, .int v1), (3, .int v3)] → va_P D vwCl ((wY cI cZ cC cJ cA P) M) H → va_D (aP P 51) ((wY cI cZ cC cJ cA P) M) → va_S (aP P 51) s.heap H locs → q_ChipMapModel_flush_62 kf11 kf23 M v1 v3 t0 = some (M', r') → W p l e ({ frames := 7, cells := 0, slots := 0, locals := 164 }) s m args below meth c H locs 0 0 (MQ below (gQi D (aP P 51) ((wY cI cZ cC cJ cA P) M') r') args s 0 0 (aP P 51)) (F0 m 62 ls [.int t0]) := by
  intro M v1 v3 t0 H locs ls hl hP hD hS h
  unfold q_ChipMapModel_flush_62 at h
  refine lv_istore_n hx hb dX1_flush_62 rfl hl (Nat.le_of_ble_eq_true rfl) (lv' := [(2, .int t0), (0, .ref (P 0)), (1, .int v1), (3, .int v3)]) rfl (fun ls hl => ?_)
  refine lv_iinc (v := (v3 + 1)) hx hb dX1_flush_63 hl (k := 3) rfl rfl (Nat.le_of_ble_eq_true rfl) (lv' := [(3, .int (v3 + 1)), (2, .int t0), (0, .ref (P 0)), (1, .int v1)]) rfl (fun ls hl => ?_)
  refine lv_goto hx hb dX1_flush_66 (tgt := 23) rfl ?_
  have hl := lv_sub hl [2, 3, 1, 0] (l' := [(0, .ref (P 0)), (1, .int v1), (2, .int t0), (3, .int (v3 + 1))]) rfl
  exact kk23 M v1 t0 (v3 + 1) H locs ls hl hP hD hS h
set_option maxHeartbeats 4000000 in
set_option maxRecDepth 20000 in
theorem b_ChipMapModel_flush_57 {p : Program} {l : Launch} {e : Env} {s s0 : State} {m : MethodId} {args : Array Value} {below : List Frame} {meth : Method} {c : Code} {D : va_G} {cI cZ cC cJ cA : ClassId} {P : Nat → Nat} {M' : Mm} {r' : Int32} {kf11 : Mm → Int32 → Rs} {kf23 : Mm → Int32 → Int32 → Int32 → Rs} (hx : p.tables.exec = Jvm.exec) (hb : c.code = cX1_flush) (hml : c.maxLocals = 4) (hr : meth.sig.returnType = (some .int)) (hlk : meth.locks = false) (hgt : ∀ w ∈ GT, w.before args s = true) (hown : s.vm.findClass RX1 = some m.cls) (hK : va_K D vwCl [(cI, .int), (cZ, .boolean), (cC, .char), (cJ, .long), (cA, .array .int)] s) (hO : Old s0 s) (hAO : ∀ q, (aP P 51) q → s0.heap.size ≤ q) (kk11 : ∀ (M : Mm) (v1 : Int32) (H : Heap) (locs : List Loc) (ls : Array Slot), lv_has ls 4 [(0, .ref (P 0)), (1, .int v1)] → va_P D vwCl ((wY cI cZ cC cJ cA P) M) H → va_D (aP P 51) ((wY cI cZ cC cJ cA P) M) → va_S (aP P 51) s.heap H locs → kf11 M v1 = some (M', r') → W p l e ({ frames := 7, cells := 0, slots := 0, locals := 164 }) s m args below meth c H locs 0 0 (MQ below (gQi D (aP P 51) ((wY cI cZ cC cJ cA P) M') r') args s 0 0 (aP P 51)) (F0 m 11 ls [])) (kk23 : ∀ (M : Mm) (v1 : Int32) (v2 : Int32) (v3 : Int32) (H : Heap) (locs : List Loc) (ls : Array Slot), lv_has ls 4 [(0, .ref (P 0)), (1, .int v1), (2, .int v2), (3, .int v3)] → va_P D vwCl ((wY cI cZ cC cJ cA P) M) H → va_D (aP P 51) ((wY cI cZ cC cJ cA P) M) → va_S (aP P 51) s.heap H locs → kf23 M v1 v2 v3 = some (M', r') → W p l e ({ frames := 7, cells := 0, slots := 0, locals := 164 }) s m args below meth c H locs 0 0 (MQ below (gQi D (aP P 51) ((wY cI cZ cC cJ cA P) M') r') args s 0 0 (aP P 51)) (F0 m 23 ls [])) : ∀ (M : Mm) (v1 : Int32) (v3 : Int32) (H : Heap) (locs : List Loc) (ls : Array Slot), lv_has ls 4 [(0, .ref (P 0)), (1, .int v1), (3, .int v3)] → va_P D vwCl ((wY cI cZ cC cJ cA P) M) H → va_D (aP P 51) ((wY cI cZ cC cJ cA P) M) → va_S (aP P 51) s.heap H locs → q_ChipMapModel_flush_57 kf11 kf23 M v1 v3 = some (M', r') → W p l e ({ frames := 7, cells := 0, slots := 0, locals := 164 }) s m args below meth c H locs 0 0 (MQ below (gQi D (aP P 51) ((wY cI cZ cC cJ cA P) M') r') args s 0 0 (aP P 51)) (F0 m 57 ls []) := by
  intro M v1 v3 H locs ls hl hP hD hS h
  unfold q_ChipMapModel_flush_57 at h
  refine lv_iconst (v := 1) hx hb dX1_flush_57 (by decide) ?_
  refine lv_goto hx hb dX1_flush_58 (tgt := 62) rfl ?_
  have hl := lv_sub hl [0, 1, 2] (l' := [(0, .ref (P 0)), (1, .int v1), (3, .int v3)]) rfl
  exact b_ChipMapModel_flush_62 hx hb hml hr hlk hgt hown hK hO hAO kk11 kk23 M v1 v3 1 H _ ls hl hP hD hS h
set_option maxHeartbeats 4000000 in
set_option maxRecDepth 20000 in
theorem b_ChipMapModel_flush_23 {p : Program} {l : Launch} {e : Env} {s s0 : State} {m : MethodId} {args : Array Value} {below : List Frame} {meth : Method} {c : Code} {D : va_G} {cI cZ cC cJ cA : ClassId} {P : Nat → Nat} {M' : Mm} {r' : Int32} {kf11 : Mm → Int32 → Rs} (hx : p.tables.exec = Jvm.exec) (hb : c.code = cX1_flush) (hml : c.maxLocals = 4) (hr : meth.sig.returnType = (some .int)) (hlk : meth.locks = false) (hgt : ∀ w ∈ GT, w.before args s = true) (hown : s.vm.findClass RX1 = some m.cls) (hK : va_K D vwCl [(cI, .int), (cZ, .boolean), (cC, .char), (cJ, .long), (cA, .array .int)] s) (hO : Old s0 s) (hAO : ∀ q, (aP P 51) q → s0.heap.size ≤ q) (kk11 : ∀ (M : Mm) (v1 : Int32) (H : Heap) (locs : List Loc) (ls : Array Slot), lv_has ls 4 [(0, .ref (P 0)), (1, .int v1)] → va_P D vwCl ((wY cI cZ cC cJ cA P) M) H → va_D (aP P 51) ((wY cI cZ cC cJ cA P) M) → va_S (aP P 51) s.heap H locs → kf11 M v1 = some (M', r') → W p l e ({ frames := 7, cells := 0, slots := 0, locals := 164 }) s m args below meth c H locs 0 0 (MQ below (gQi D (aP P 51) ((wY cI cZ cC cJ cA P) M') r') args s 0 0 (aP P 51)) (F0 m 11 ls [])) : ∀ (n' : Nat) (M : Mm) (v1 : Int32) (v2 : Int32) (v3 : Int32) (H : Heap) (locs : List Loc) (ls : Array Slot), lv_has ls 4 [(0, .ref (P 0)), (1, .int v1), (2, .int v2), (3, .int v3)] → va_P D vwCl ((wY cI cZ cC cJ cA P) M) H → va_D (aP P 51) ((wY cI cZ cC cJ cA P) M) → va_S (aP P 51) s.heap H locs → q_ChipMapModel_flush_23 kf11 n' M v1 v2 v3 = some (M', r') → W p l e ({ frames := 7, cells := 0, slots := 0, locals := 164 }) s m args below meth c H locs 0 0 (MQ below (gQi D (aP P 51) ((wY cI cZ cC cJ cA P) M') r') args s 0 0 (aP P 51)) (F0 m 23 ls []) := by
  intro n'
  induction n' with
  | zero => exact fun _ _ _ _ _ _ _ _ _ _ _ h => (rs_n h).elim
  | succ n' ih =>
    intro M v1 v2 v3 H locs ls hl hP hD hS h
    rw [q_ChipMapModel_flush_23] at h
    refine lv_iload_n hx hb dX1_flush_23 rfl (lv_at hl 3 rfl) ?_
    refine lv_iload_n hx hb dX1_flush_24 rfl (lv_at hl 1 rfl) ?_
    refine lv_icmp_ge hx hb dX1_flush_25 (tgt := 69) rfl (fun hc => ?_) (fun hc => ?_)
    · have h := br_T hc h
      refine lv_iload_n hx hb dX1_flush_69 rfl (lv_at hl 2 rfl) ?_
      refine lv_if_ne hx hb dX1_flush_70 (tgt := 88) rfl (fun hc => ?_) (fun hc => ?_)
      · have h := br_F hc h
        have hl := lv_sub hl [0, 1] (l' := [(0, .ref (P 0)), (1, .int v1)]) rfl
        exact b_ChipMapModel_flush_88 hx hb hml hr hlk hgt hown hK hO hAO kk11 M v1 H _ ls hl hP hD hS h
      · have h := br_T hc h
        refine lv_aload_n hx hb dX1_flush_73 rfl (lv_at hl 0 rfl) ?_
        refine lv_aload_n hx hb dX1_flush_74 rfl (lv_at hl 0 rfl) ?_
        refine va_get (D := D) (ci := 1) (v := .ref (P 25)) (C := RX1) (T := TX1) (N := 76) hx hb hgt iwX1 hown hK hP 0 gY_0 rfl 34 (Nat.le_of_ble_eq_true rfl) (hgt _ wd_4_235) (fun _ h9 => h9) rfl dX1_flush_75 ?_
        refine lv_aload_n hx hb dX1_flush_78 rfl (lv_at hl 0 rfl) ?_
        refine va_get (D := D) (ci := 1) (v := .ref (P 40)) (C := RX1) (T := TX1) (N := 76) hx hb hgt iwX1 hown hK hP 0 gY_0 rfl 53 (Nat.le_of_ble_eq_true rfl) (hgt _ wd_5_14) (fun _ h9 => h9) rfl dX1_flush_79 ?_
        refine lv_iload_n hx hb dX1_flush_82 rfl (lv_at hl 1 rfl) ?_
        refine va_iald hx hb hK hP 40 0 gY_40 rfl (ix_l h) dX1_flush_83 ?_
        have h := ix_r h
        refine va_iald hx hb hK hP 25 0 gY_25 rfl (ix_l h) dX1_flush_84 ?_
        have h := ix_r h
        obtain ⟨M1, r2, hq, h⟩ := cal_o h
        refine cx_v (va_runV (As := [.int (M.1 25 ((M.1 40 (v1 : Int32).toNatClampNeg) : Int32).toNatClampNeg)]) (rest := []) ⟨hx, hb, hml, hown, hgt⟩ (z_ChipMapModel_flushRegister l D cI cZ cC cJ cA P s0 hAO M (M.1 25 ((M.1 40 (v1 : Int32).toNatClampNeg) : Int32).toNatClampNeg) M1 r2 hq) (cwV 1 hgt (gV wd_6_182 wd_6_184 sl__ChipMapModel____ChipMapModel___flushRegister____I_V_____ChipMapModel___flushRegister____I_V__ wd_0_15 wd_6_185) rfl rfl rfl (by decide +kernel) ⟨Nat.le_of_ble_eq_true rfl, Nat.le_of_ble_eq_true rfl⟩) (prV hP hK hD hO hAO hS (va_recv hK hP (ci := 1) (q0 := 0) rfl gY_0)) rfl rfl hl.1 rfl (lv_room (Nat.le_of_ble_eq_true rfl)) dX1_flush_85 ⟨Nat.le_of_ble_eq_true rfl, Nat.le_of_ble_eq_true rfl⟩) hS (fun H locs hP hD hS => ?_)
        have hl := lv_sub hl [0, 1] (l' := [(0, .ref (P 0)), (1, .int v1)]) rfl
        exact b_ChipMapModel_flush_88 hx hb hml hr hlk hgt hown hK hO hAO kk11 M1 v1 H _ ls hl hP hD hS h
    · have h := br_F hc h
      refine lv_iload_n hx hb dX1_flush_28 rfl (lv_at hl 2 rfl) ?_
      refine lv_if_ne hx hb dX1_flush_29 (tgt := 57) rfl (fun hc => ?_) (fun hc => ?_)
      · have h := br_F hc h
        have hl := lv_sub hl [0, 1, 3] (l' := [(0, .ref (P 0)), (1, .int v1), (3, .int v3)]) rfl
        exact b_ChipMapModel_flush_57 hx hb hml hr hlk hgt hown hK hO hAO kk11 ih M v1 v3 H _ ls hl hP hD hS h
      · have h := br_T hc h
        refine lv_aload_n hx hb dX1_flush_32 rfl (lv_at hl 0 rfl) ?_
        refine va_get (D := D) (ci := 1) (v := .ref (P 25)) (C := RX1) (T := TX1) (N := 76) hx hb hgt iwX1 hown hK hP 0 gY_0 rfl 34 (Nat.le_of_ble_eq_true rfl) (hgt _ wd_4_235) (fun _ h9 => h9) rfl dX1_flush_33 ?_
        refine lv_aload_n hx hb dX1_flush_36 rfl (lv_at hl 0 rfl) ?_
        refine va_get (D := D) (ci := 1) (v := .ref (P 40)) (C := RX1) (T := TX1) (N := 76) hx hb hgt iwX1 hown hK hP 0 gY_0 rfl 53 (Nat.le_of_ble_eq_true rfl) (hgt _ wd_5_14) (fun _ h9 => h9) rfl dX1_flush_37 ?_
        refine lv_iload_n hx hb dX1_flush_40 rfl (lv_at hl 3 rfl) ?_
        refine va_iald hx hb hK hP 40 0 gY_40 rfl (ix_l h) dX1_flush_41 ?_
        have h := ix_r h
        refine va_iald hx hb hK hP 25 0 gY_25 rfl (ix_l h) dX1_flush_42 ?_
        have h := ix_r h
        refine lv_aload_n hx hb dX1_flush_43 rfl (lv_at hl 0 rfl) ?_
        refine va_get (D := D) (ci := 1) (v := .ref (P 25)) (C := RX1) (T := TX1) (N := 76) hx hb hgt iwX1 hown hK hP 0 gY_0 rfl 34 (Nat.le_of_ble_eq_true rfl) (hgt _ wd_4_235) (fun _ h9 => h9) rfl dX1_flush_44 ?_
        refine lv_aload_n hx hb dX1_flush_47 rfl (lv_at hl 0 rfl) ?_
        refine va_get (D := D) (ci := 1) (v := .ref (P 40)) (C := RX1) (T := TX1) (N := 76) hx hb hgt iwX1 hown hK hP 0 gY_0 rfl 53 (Nat.le_of_ble_eq_true rfl) (hgt _ wd_5_14) (fun _ h9 => h9) rfl dX1_flush_48 ?_
        refine lv_iload_n hx hb dX1_flush_51 rfl (lv_at hl 1 rfl) ?_
        refine va_iald hx hb hK hP 40 0 gY_40 rfl (ix_l h) dX1_flush_52 ?_
        have h := ix_r h
        refine va_iald hx hb hK hP 25 0 gY_25 rfl (ix_l h) dX1_flush_53 ?_
        have h := ix_r h
        refine lv_icmp_ne hx hb dX1_flush_54 (tgt := 61) rfl (fun hc => ?_) (fun hc => ?_)
        · have h := br_F hc h
          refine lv_iconst (v := 0) hx hb dX1_flush_61 (by decide) ?_
          have hl := lv_sub hl [0, 1, 3] (l' := [(0, .ref (P 0)), (1, .int v1), (3, .int v3)]) rfl
          exact b_ChipMapModel_flush_62 hx hb hml hr hlk hgt hown hK hO hAO kk11 ih M v1 v3 0 H _ ls hl hP hD hS h
        · have h := br_T hc h
          have hl := lv_sub hl [0, 1, 3] (l' := [(0, .ref (P 0)), (1, .int v1), (3, .int v3)]) rfl
          exact b_ChipMapModel_flush_57 hx hb hml hr hlk hgt hown hK hO hAO kk11 ih M v1 v3 H _ ls hl hP hD hS h
set_option maxHeartbeats 4000000 in
set_option maxRecDepth 20000 in
theorem b_ChipMapModel_flush_11 {p : Program} {l : Launch} {e : Env} {s s0 : State} {m : MethodId} {args : Array Value} {below : List Frame} {meth : Method} {c : Code} {D : va_G} {cI cZ cC cJ cA : ClassId} {P : Nat → Nat} {M' : Mm} {r' : Int32}  (hx : p.tables.exec = Jvm.exec) (hb : c.code = cX1_flush) (hml : c.maxLocals = 4) (hr : meth.sig.returnType = (some .int)) (hlk : meth.locks = false) (hgt : ∀ w ∈ GT, w.before args s = true) (hown : s.vm.findClass RX1 = some m.cls) (hK : va_K D vwCl [(cI, .int), (cZ, .boolean), (cC, .char), (cJ, .long), (cA, .array .int)] s) (hO : Old s0 s) (hAO : ∀ q, (aP P 51) q → s0.heap.size ≤ q)  : ∀ (n' : Nat) (M : Mm) (v1 : Int32) (H : Heap) (locs : List Loc) (ls : Array Slot), lv_has ls 4 [(0, .ref (P 0)), (1, .int v1)] → va_P D vwCl ((wY cI cZ cC cJ cA P) M) H → va_D (aP P 51) ((wY cI cZ cC cJ cA P) M) → va_S (aP P 51) s.heap H locs → q_ChipMapModel_flush_11 n' M v1 = some (M', r') → W p l e ({ frames := 7, cells := 0, slots := 0, locals := 164 }) s m args below meth c H locs 0 0 (MQ below (gQi D (aP P 51) ((wY cI cZ cC cJ cA P) M') r') args s 0 0 (aP P 51)) (F0 m 11 ls []) := by
  intro n'
  induction n' with
  | zero => exact fun _ _ _ _ _ _ _ _ _ h => (rs_n h).elim
  | succ n' ih =>
    intro M v1 H locs ls hl hP hD hS h
    rw [q_ChipMapModel_flush_11] at h
    refine lv_iload_n hx hb dX1_flush_11 rfl (lv_at hl 1 rfl) ?_
    refine lv_aload_n hx hb dX1_flush_12 rfl (lv_at hl 0 rfl) ?_
    refine va_get (D := D) (ci := 1) (v := .int (M.1 0 52)) (C := RX1) (T := TX1) (N := 76) hx hb hgt iwX1 hown hK hP 0 gY_0 rfl 52 (Nat.le_of_ble_eq_true rfl) (hgt _ wd_5_13) (fun _ h9 => h9) rfl dX1_flush_13 ?_
    refine lv_icmp_ge hx hb dX1_flush_16 (tgt := 94) rfl (fun hc => ?_) (fun hc => ?_)
    · have h := br_T hc h
      refine lv_aload_n hx hb dX1_flush_94 rfl (lv_at hl 0 rfl) ?_
      obtain ⟨M1, r2, hq, h⟩ := cal_o h
      refine cx_i (va_runV (As := []) (rest := []) ⟨hx, hb, hml, hown, hgt⟩ (z_ChipMapModel_end l D cI cZ cC cJ cA P s0 hAO M M1 r2 hq) (cwV 0 hgt (gV wd_6_158 wd_6_160 sl__ChipMapModel____ChipMapModel___end_____I_____ChipMapModel___end_____I__ wd_0_15 wd_6_161) rfl rfl rfl (by decide +kernel) ⟨Nat.le_of_ble_eq_true rfl, Nat.le_of_ble_eq_true rfl⟩) (prV hP hK hD hO hAO hS (va_recv hK hP (ci := 1) (q0 := 0) rfl gY_0)) rfl rfl hl.1 rfl (lv_room (Nat.le_of_ble_eq_true rfl)) dX1_flush_95 ⟨Nat.le_of_ble_eq_true rfl, Nat.le_of_ble_eq_true rfl⟩) hS (fun H locs hP hD hS => ?_)
      refine lv_istore_n hx hb dX1_flush_98 rfl hl (Nat.le_of_ble_eq_true rfl) (lv' := [(1, .int r2), (0, .ref (P 0))]) rfl (fun ls hl => ?_)
      refine lv_iload_n hx hb dX1_flush_99 rfl (lv_at hl 0 rfl) ?_
      refine lv_bipush (v := (-2)) hx hb dX1_flush_100 (by decide) ?_
      refine lv_icmp_eq hx hb dX1_flush_102 (tgt := 110) rfl (fun hc => ?_) (fun hc => ?_)
      · have h := br_T hc h
        refine lv_iload_n hx hb dX1_flush_110 rfl (lv_at hl 0 rfl) ?_
        exact rt_i (w := (wY cI cZ cC cJ cA P)) hx hb hr hlk hP hD hS h dX1_flush_111
      · have h := br_F hc h
        refine lv_aload_n hx hb dX1_flush_105 rfl (lv_at hl 1 rfl) ?_
        refine lv_iconst (v := 0) hx hb dX1_flush_106 (by decide) ?_
        refine pm_put (w := (wY cI cZ cC cJ cA P)) (D := D) (ci := 1) (x := 0) (ty := .int) (C := RX1) (T := TX1) (N := 76) hx hb hgt iwX1 tyX1 tyX1_ok nmX1 hown hK hP hD hS 0 gY_0 rfl 52 (Nat.le_of_ble_eq_true rfl) (hgt _ wd_5_13) (fun _ h9 => h9) rfl (by decide +kernel) rfl rfl (Nat.le_of_ble_eq_true rfl) (sY_0_52 _) dX1_flush_107 (fun M3 eM3 H locs hP hD hS => ?_)
        have h := lt_o eM3 h
        refine lv_iload_n hx hb dX1_flush_110 rfl (lv_at hl 0 rfl) ?_
        exact rt_i (w := (wY cI cZ cC cJ cA P)) hx hb hr hlk hP hD hS h dX1_flush_111
    · have h := br_F hc h
      refine lv_iconst (v := 0) hx hb dX1_flush_19 (by decide) ?_
      refine lv_istore_n hx hb dX1_flush_20 rfl hl (Nat.le_of_ble_eq_true rfl) (lv' := [(2, .int 0), (0, .ref (P 0)), (1, .int v1)]) rfl (fun ls hl => ?_)
      refine lv_iconst (v := 0) hx hb dX1_flush_21 (by decide) ?_
      refine lv_istore_n hx hb dX1_flush_22 rfl hl (Nat.le_of_ble_eq_true rfl) (lv' := [(3, .int 0), (2, .int 0), (0, .ref (P 0)), (1, .int v1)]) rfl (fun ls hl => ?_)
      have hl := lv_sub hl [2, 3, 1, 0] (l' := [(0, .ref (P 0)), (1, .int v1), (2, .int 0), (3, .int 0)]) rfl
      exact b_ChipMapModel_flush_23 hx hb hml hr hlk hgt hown hK hO hAO ih 4000 M v1 0 0 H _ ls hl hP hD hS h
set_option maxHeartbeats 4000000 in
set_option maxRecDepth 20000 in
theorem b_ChipMapModel_flush_0 {p : Program} {l : Launch} {e : Env} {s s0 : State} {m : MethodId} {args : Array Value} {below : List Frame} {meth : Method} {c : Code} {D : va_G} {cI cZ cC cJ cA : ClassId} {P : Nat → Nat} {M' : Mm} {r' : Int32}  (hx : p.tables.exec = Jvm.exec) (hb : c.code = cX1_flush) (hml : c.maxLocals = 4) (hr : meth.sig.returnType = (some .int)) (hlk : meth.locks = false) (hgt : ∀ w ∈ GT, w.before args s = true) (hown : s.vm.findClass RX1 = some m.cls) (hK : va_K D vwCl [(cI, .int), (cZ, .boolean), (cC, .char), (cJ, .long), (cA, .array .int)] s) (hO : Old s0 s) (hAO : ∀ q, (aP P 51) q → s0.heap.size ≤ q)  : ∀ (M : Mm)  (H : Heap) (locs : List Loc) (ls : Array Slot), lv_has ls 4 [(0, .ref (P 0))] → va_P D vwCl ((wY cI cZ cC cJ cA P) M) H → va_D (aP P 51) ((wY cI cZ cC cJ cA P) M) → va_S (aP P 51) s.heap H locs → q_ChipMapModel_flush M = some (M', r') → W p l e ({ frames := 7, cells := 0, slots := 0, locals := 164 }) s m args below meth c H locs 0 0 (MQ below (gQi D (aP P 51) ((wY cI cZ cC cJ cA P) M') r') args s 0 0 (aP P 51)) (F0 m 0 ls []) := by
  intro M H locs ls hl hP hD hS h
  unfold q_ChipMapModel_flush at h
  refine lv_aload_n hx hb dX1_flush_0 rfl (lv_at hl 0 rfl) ?_
  refine lv_iconst (v := 0) hx hb dX1_flush_1 (by decide) ?_
  refine pm_put (w := (wY cI cZ cC cJ cA P)) (D := D) (ci := 1) (x := 0) (ty := .int) (C := RX1) (T := TX1) (N := 76) hx hb hgt iwX1 tyX1 tyX1_ok nmX1 hown hK hP hD hS 0 gY_0 rfl 0 (Nat.le_of_ble_eq_true rfl) (hgt _ wd_4_201) (fun _ h9 => h9) rfl (by decide +kernel) rfl rfl (Nat.le_of_ble_eq_true rfl) (sY_0_0 _) dX1_flush_2 (fun M1 eM1 H locs hP hD hS => ?_)
  have h := lt_o eM1 h
  refine lv_aload_n hx hb dX1_flush_5 rfl (lv_at hl 0 rfl) ?_
  obtain ⟨M2, r3, hq, h⟩ := cal_o h
  refine cx_v (va_runV (As := []) (rest := []) ⟨hx, hb, hml, hown, hgt⟩ (z_ChipMapModel_begin l D cI cZ cC cJ cA P s0 hAO M1 M2 r3 hq) (cwV 0 hgt (gV wd_6_130 wd_6_132 sl__ChipMapModel____ChipMapModel___begin_____V_____ChipMapModel___begin_____V__ wd_0_15 wd_6_133) rfl rfl rfl (by decide +kernel) ⟨Nat.le_of_ble_eq_true rfl, Nat.le_of_ble_eq_true rfl⟩) (prV hP hK hD hO hAO hS (va_recv hK hP (ci := 1) (q0 := 0) rfl gY_0)) rfl rfl hl.1 rfl (lv_room (Nat.le_of_ble_eq_true rfl)) dX1_flush_6 ⟨Nat.le_of_ble_eq_true rfl, Nat.le_of_ble_eq_true rfl⟩) hS (fun H locs hP hD hS => ?_)
  refine lv_iconst (v := 0) hx hb dX1_flush_9 (by decide) ?_
  refine lv_istore_n hx hb dX1_flush_10 rfl hl (Nat.le_of_ble_eq_true rfl) (lv' := [(1, .int 0), (0, .ref (P 0))]) rfl (fun ls hl => ?_)
  have hl := lv_sub hl [1, 0] (l' := [(0, .ref (P 0)), (1, .int 0)]) rfl
  exact b_ChipMapModel_flush_11 hx hb hml hr hlk hgt hown hK hO hAO 4000 M2 0 H _ ls hl hP hD hS h
set_option maxHeartbeats 4000000 in
set_option maxRecDepth 20000 in
theorem z_ChipMapModel_flush (l : Launch) (D : va_G) (cI cZ cC cJ cA : ClassId) (P : Nat → Nat) (s0 : State) (hAO : ∀ q, (aP P 51) q → s0.heap.size ≤ q) (M : Mm)  (M' : Mm) (r' : Int32) (h : q_ChipMapModel_flush M = some (M', r')) : Met l yX1_flush wsX1_flush ({ frames := 7, cells := 0, slots := 0, locals := 164 }) (va_Pc [.ref (P 0)] (gPre s0 D [(cI, .int), (cZ, .boolean), (cC, .char), (cJ, .long), (cA, .array .int)] (aP P 51) ((wY cI cZ cC cJ cA P) M))) (gQi D (aP P 51) ((wY cI cZ cC cJ cA P) M') r') 0 0 (aP P 51) := by
  refine Met.ofW (cc := cX1_flush) (maxL := 4) (ret := (some .int)) (by decide) rfl ?_
  intro p e s m args below meth c s₁ B hml hv
  obtain ⟨rfl, hP, hK, hD, hO⟩ := hv
  have hx := B.exec
  have hb := B.bytes
  have hr := B.returns
  have hlk := B.notSynchronized
  have hgt := fun w (h : w ∈ GT) => atoms_spec (ws := wsX1_flush) B.pre w (List.mem_cons_of_mem _ h)
  have hown : s.vm.findClass RX1 = some m.cls := findClass_of_methodNamed B.named
  have hS : va_S (aP P 51) s.heap s.heap [] := va_S.rf
  have hl := lv_entry ([.ref (P 0)]) (n := 4) (Nat.le_of_ble_eq_true rfl)
  rw [lg_entry_eq]
  generalize (lg_sl ([.ref (P 0)]) ++ List.replicate (4 - (lg_sl ([.ref (P 0)])).length) Slot.unset).toArray = ls at hl ⊢
  have hl : lv_has ls 4 [(0, .ref (P 0))] := hl
  exact b_ChipMapModel_flush_0 hx hb hml hr hlk hgt hown hK hO hAO M s.heap [] ls hl hP hD hS h
def q_ChipMapModel_drop  (M : Mm)  : Rs := lt' (stI M 0 (upd (M.1 0) 0 0)) fun M1 => lt' (M1.1 0 52) fun x2 => lt' (stI M1 0 (upd (M1.1 0) 52 0)) fun M3 => some (M3, x2)
set_option maxHeartbeats 4000000 in
set_option maxRecDepth 20000 in
theorem b_ChipMapModel_drop_0 {p : Program} {l : Launch} {e : Env} {s s0 : State} {m : MethodId} {args : Array Value} {below : List Frame} {meth : Method} {c : Code} {D : va_G} {cI cZ cC cJ cA : ClassId} {P : Nat → Nat} {M' : Mm} {r' : Int32}  (hx : p.tables.exec = Jvm.exec) (hb : c.code = cX1_drop) (hml : c.maxLocals = 2) (hr : meth.sig.returnType = (some .int)) (hlk : meth.locks = false) (hgt : ∀ w ∈ GT, w.before args s = true) (hown : s.vm.findClass RX1 = some m.cls) (hK : va_K D vwCl [(cI, .int), (cZ, .boolean), (cC, .char), (cJ, .long), (cA, .array .int)] s) (hO : Old s0 s) (hAO : ∀ q, (aP P 51) q → s0.heap.size ≤ q)  : ∀ (M : Mm)  (H : Heap) (locs : List Loc) (ls : Array Slot), lv_has ls 2 [(0, .ref (P 0))] → va_P D vwCl ((wY cI cZ cC cJ cA P) M) H → va_D (aP P 51) ((wY cI cZ cC cJ cA P) M) → va_S (aP P 51) s.heap H locs → q_ChipMapModel_drop M = some (M', r') → W p l e ({ frames := 0, cells := 0, slots := 0, locals := 0 }) s m args below meth c H locs 0 0 (MQ below (gQi D (aP P 51) ((wY cI cZ cC cJ cA P) M') r') args s 0 0 (aP P 51)) (F0 m 0 ls []) := by
  intro M H locs ls hl hP hD hS h
  unfold q_ChipMapModel_drop at h
  refine lv_aload_n hx hb dX1_drop_0 rfl (lv_at hl 0 rfl) ?_
  refine lv_iconst (v := 0) hx hb dX1_drop_1 (by decide) ?_
  refine pm_put (w := (wY cI cZ cC cJ cA P)) (D := D) (ci := 1) (x := 0) (ty := .int) (C := RX1) (T := TX1) (N := 76) hx hb hgt iwX1 tyX1 tyX1_ok nmX1 hown hK hP hD hS 0 gY_0 rfl 0 (Nat.le_of_ble_eq_true rfl) (hgt _ wd_4_201) (fun _ h9 => h9) rfl (by decide +kernel) rfl rfl (Nat.le_of_ble_eq_true rfl) (sY_0_0 _) dX1_drop_2 (fun M1 eM1 H locs hP hD hS => ?_)
  have h := lt_o eM1 h
  refine lv_aload_n hx hb dX1_drop_5 rfl (lv_at hl 0 rfl) ?_
  refine va_get (D := D) (ci := 1) (v := .int (M1.1 0 52)) (C := RX1) (T := TX1) (N := 76) hx hb hgt iwX1 hown hK hP 0 gY_0 rfl 52 (Nat.le_of_ble_eq_true rfl) (hgt _ wd_5_13) (fun _ h9 => h9) rfl dX1_drop_6 ?_
  refine lv_topi (fun x2 ex2 => ?_)
  have h := lt_o ex2 h
  refine lv_istore_n hx hb dX1_drop_9 rfl hl (Nat.le_of_ble_eq_true rfl) (lv' := [(1, .int x2), (0, .ref (P 0))]) rfl (fun ls hl => ?_)
  refine lv_aload_n hx hb dX1_drop_10 rfl (lv_at hl 1 rfl) ?_
  refine lv_iconst (v := 0) hx hb dX1_drop_11 (by decide) ?_
  refine pm_put (w := (wY cI cZ cC cJ cA P)) (D := D) (ci := 1) (x := 0) (ty := .int) (C := RX1) (T := TX1) (N := 76) hx hb hgt iwX1 tyX1 tyX1_ok nmX1 hown hK hP hD hS 0 gY_0 rfl 52 (Nat.le_of_ble_eq_true rfl) (hgt _ wd_5_13) (fun _ h9 => h9) rfl (by decide +kernel) rfl rfl (Nat.le_of_ble_eq_true rfl) (sY_0_52 _) dX1_drop_12 (fun M3 eM3 H locs hP hD hS => ?_)
  have h := lt_o eM3 h
  refine lv_iload_n hx hb dX1_drop_15 rfl (lv_at hl 0 rfl) ?_
  exact rt_i (w := (wY cI cZ cC cJ cA P)) hx hb hr hlk hP hD hS h dX1_drop_16
set_option maxHeartbeats 4000000 in
set_option maxRecDepth 20000 in
theorem z_ChipMapModel_drop (l : Launch) (D : va_G) (cI cZ cC cJ cA : ClassId) (P : Nat → Nat) (s0 : State) (hAO : ∀ q, (aP P 51) q → s0.heap.size ≤ q) (M : Mm)  (M' : Mm) (r' : Int32) (h : q_ChipMapModel_drop M = some (M', r')) : Met l yX1_drop wsX1_drop ({ frames := 0, cells := 0, slots := 0, locals := 0 }) (va_Pc [.ref (P 0)] (gPre s0 D [(cI, .int), (cZ, .boolean), (cC, .char), (cJ, .long), (cA, .array .int)] (aP P 51) ((wY cI cZ cC cJ cA P) M))) (gQi D (aP P 51) ((wY cI cZ cC cJ cA P) M') r') 0 0 (aP P 51) := by
  refine Met.ofW (cc := cX1_drop) (maxL := 2) (ret := (some .int)) (by decide) rfl ?_
  intro p e s m args below meth c s₁ B hml hv
  obtain ⟨rfl, hP, hK, hD, hO⟩ := hv
  have hx := B.exec
  have hb := B.bytes
  have hr := B.returns
  have hlk := B.notSynchronized
  have hgt := fun w (h : w ∈ GT) => atoms_spec (ws := wsX1_drop) B.pre w (List.mem_cons_of_mem _ h)
  have hown : s.vm.findClass RX1 = some m.cls := findClass_of_methodNamed B.named
  have hS : va_S (aP P 51) s.heap s.heap [] := va_S.rf
  have hl := lv_entry ([.ref (P 0)]) (n := 2) (Nat.le_of_ble_eq_true rfl)
  rw [lg_entry_eq]
  generalize (lg_sl ([.ref (P 0)]) ++ List.replicate (2 - (lg_sl ([.ref (P 0)])).length) Slot.unset).toArray = ls at hl ⊢
  have hl : lv_has ls 2 [(0, .ref (P 0))] := hl
  exact b_ChipMapModel_drop_0 hx hb hml hr hlk hgt hown hK hO hAO M s.heap [] ls hl hP hD hS h
def q_ChipMapModel_trace_1  (M : Mm) (a1 : Int32) (a2 : Int32) : Rs := lt' (stI M 0 (upd (M.1 0) 0 0)) fun M1 => if a1 < 0 then (some (M1, (-1))) else (if 64 ≤ a1 then (some (M1, (-1))) else (if (M1.1 0 47) ≤ a1 then (some (M1, (-1))) else (if a2 < 0 then (some (M1, (-1))) else (if a2 ≤ 2 then (lt' ((((M1.1 0 47) - 1) - a1) - (((M1.1 0 47) - 1) - a1) / 64 * 64) fun x2 => if a2 = 0 then (ix x2 64 <| some (M1, (M1.1 37 (x2 : Int32).toNatClampNeg))) else (if a2 = 1 then (ix x2 64 <| some (M1, (M1.1 38 (x2 : Int32).toNatClampNeg))) else (ix x2 64 <| some (M1, (M1.1 39 (x2 : Int32).toNatClampNeg))))) else (some (M1, (-1)))))))
set_option maxHeartbeats 4000000 in
set_option maxRecDepth 20000 in
theorem b_ChipMapModel_trace_1_0 {p : Program} {l : Launch} {e : Env} {s s0 : State} {m : MethodId} {args : Array Value} {below : List Frame} {meth : Method} {c : Code} {D : va_G} {cI cZ cC cJ cA : ClassId} {P : Nat → Nat} {M' : Mm} {r' : Int32}  (hx : p.tables.exec = Jvm.exec) (hb : c.code = cX1_trace_III) (hml : c.maxLocals = 4) (hr : meth.sig.returnType = (some .int)) (hlk : meth.locks = false) (hgt : ∀ w ∈ GT, w.before args s = true) (hown : s.vm.findClass RX1 = some m.cls) (hK : va_K D vwCl [(cI, .int), (cZ, .boolean), (cC, .char), (cJ, .long), (cA, .array .int)] s) (hO : Old s0 s) (hAO : ∀ q, (aP P 51) q → s0.heap.size ≤ q)  : ∀ (M : Mm) (a1 : Int32) (a2 : Int32) (H : Heap) (locs : List Loc) (ls : Array Slot), lv_has ls 4 [(0, .ref (P 0)), (1, .int a1), (2, .int a2)] → va_P D vwCl ((wY cI cZ cC cJ cA P) M) H → va_D (aP P 51) ((wY cI cZ cC cJ cA P) M) → va_S (aP P 51) s.heap H locs → q_ChipMapModel_trace_1 M a1 a2 = some (M', r') → W p l e ({ frames := 0, cells := 0, slots := 0, locals := 0 }) s m args below meth c H locs 0 0 (MQ below (gQi D (aP P 51) ((wY cI cZ cC cJ cA P) M') r') args s 0 0 (aP P 51)) (F0 m 0 ls []) := by
  intro M a1 a2 H locs ls hl hP hD hS h
  unfold q_ChipMapModel_trace_1 at h
  refine lv_aload_n hx hb dX1_trace_III_0 rfl (lv_at hl 0 rfl) ?_
  refine lv_iconst (v := 0) hx hb dX1_trace_III_1 (by decide) ?_
  refine pm_put (w := (wY cI cZ cC cJ cA P)) (D := D) (ci := 1) (x := 0) (ty := .int) (C := RX1) (T := TX1) (N := 76) hx hb hgt iwX1 tyX1 tyX1_ok nmX1 hown hK hP hD hS 0 gY_0 rfl 0 (Nat.le_of_ble_eq_true rfl) (hgt _ wd_4_201) (fun _ h9 => h9) rfl (by decide +kernel) rfl rfl (Nat.le_of_ble_eq_true rfl) (sY_0_0 _) dX1_trace_III_2 (fun M1 eM1 H locs hP hD hS => ?_)
  have h := lt_o eM1 h
  refine lv_iload_n hx hb dX1_trace_III_5 rfl (lv_at hl 1 rfl) ?_
  refine lv_if_lt hx hb dX1_trace_III_6 (tgt := 32) rfl (fun hc => ?_) (fun hc => ?_)
  · have h := br_T hc h
    refine lv_iconst (v := (-1)) hx hb dX1_trace_III_32 (by decide) ?_
    exact rt_i (w := (wY cI cZ cC cJ cA P)) hx hb hr hlk hP hD hS h dX1_trace_III_33
  · have h := br_F hc h
    refine lv_iload_n hx hb dX1_trace_III_9 rfl (lv_at hl 1 rfl) ?_
    refine lv_bipush (v := 64) hx hb dX1_trace_III_10 (by decide) ?_
    refine lv_icmp_ge hx hb dX1_trace_III_12 (tgt := 32) rfl (fun hc => ?_) (fun hc => ?_)
    · have h := br_T hc h
      refine lv_iconst (v := (-1)) hx hb dX1_trace_III_32 (by decide) ?_
      exact rt_i (w := (wY cI cZ cC cJ cA P)) hx hb hr hlk hP hD hS h dX1_trace_III_33
    · have h := br_F hc h
      refine lv_iload_n hx hb dX1_trace_III_15 rfl (lv_at hl 1 rfl) ?_
      refine lv_aload_n hx hb dX1_trace_III_16 rfl (lv_at hl 0 rfl) ?_
      refine va_get (D := D) (ci := 1) (v := .int (M1.1 0 47)) (C := RX1) (T := TX1) (N := 76) hx hb hgt iwX1 hown hK hP 0 gY_0 rfl 47 (Nat.le_of_ble_eq_true rfl) (hgt _ wd_5_8) (fun _ h9 => h9) rfl dX1_trace_III_17 ?_
      refine lv_icmp_ge hx hb dX1_trace_III_20 (tgt := 32) rfl (fun hc => ?_) (fun hc => ?_)
      · have h := br_T hc h
        refine lv_iconst (v := (-1)) hx hb dX1_trace_III_32 (by decide) ?_
        exact rt_i (w := (wY cI cZ cC cJ cA P)) hx hb hr hlk hP hD hS h dX1_trace_III_33
      · have h := br_F hc h
        refine lv_iload_n hx hb dX1_trace_III_23 rfl (lv_at hl 2 rfl) ?_
        refine lv_if_lt hx hb dX1_trace_III_24 (tgt := 32) rfl (fun hc => ?_) (fun hc => ?_)
        · have h := br_T hc h
          refine lv_iconst (v := (-1)) hx hb dX1_trace_III_32 (by decide) ?_
          exact rt_i (w := (wY cI cZ cC cJ cA P)) hx hb hr hlk hP hD hS h dX1_trace_III_33
        · have h := br_F hc h
          refine lv_iload_n hx hb dX1_trace_III_27 rfl (lv_at hl 2 rfl) ?_
          refine lv_iconst (v := 2) hx hb dX1_trace_III_28 (by decide) ?_
          refine lv_icmp_le hx hb dX1_trace_III_29 (tgt := 34) rfl (fun hc => ?_) (fun hc => ?_)
          · have h := br_T hc h
            refine lv_aload_n hx hb dX1_trace_III_34 rfl (lv_at hl 0 rfl) ?_
            refine va_get (D := D) (ci := 1) (v := .int (M1.1 0 47)) (C := RX1) (T := TX1) (N := 76) hx hb hgt iwX1 hown hK hP 0 gY_0 rfl 47 (Nat.le_of_ble_eq_true rfl) (hgt _ wd_5_8) (fun _ h9 => h9) rfl dX1_trace_III_35 ?_
            refine lv_iconst (v := 1) hx hb dX1_trace_III_38 (by decide) ?_
            refine lv_isub hx hb dX1_trace_III_39 ?_
            refine lv_iload_n hx hb dX1_trace_III_40 rfl (lv_at hl 1 rfl) ?_
            refine lv_isub hx hb dX1_trace_III_41 ?_
            refine lv_bipush (v := 64) hx hb dX1_trace_III_42 (by decide) ?_
            refine lv_irem hx hb dX1_trace_III_44 (by decide) ?_
            refine lv_topi (fun x2 ex2 => ?_)
            have h := lt_o ex2 h
            refine lv_istore_n hx hb dX1_trace_III_45 rfl hl (Nat.le_of_ble_eq_true rfl) (lv' := [(3, .int x2), (0, .ref (P 0)), (1, .int a1), (2, .int a2)]) rfl (fun ls hl => ?_)
            refine lv_iload_n hx hb dX1_trace_III_46 rfl (lv_at hl 3 rfl) ?_
            refine lv_if_ne hx hb dX1_trace_III_47 (tgt := 59) rfl (fun hc => ?_) (fun hc => ?_)
            · have h := br_F hc h
              refine lv_iload_n hx hb dX1_trace_III_59 rfl (lv_at hl 3 rfl) ?_
              refine lv_iconst (v := 1) hx hb dX1_trace_III_60 (by decide) ?_
              refine lv_icmp_ne hx hb dX1_trace_III_61 (tgt := 73) rfl (fun hc => ?_) (fun hc => ?_)
              · have h := br_F hc h
                refine lv_aload_n hx hb dX1_trace_III_73 rfl (lv_at hl 1 rfl) ?_
                refine va_get (D := D) (ci := 1) (v := .ref (P 39)) (C := RX1) (T := TX1) (N := 76) hx hb hgt iwX1 hown hK hP 0 gY_0 rfl 51 (Nat.le_of_ble_eq_true rfl) (hgt _ wd_5_12) (fun _ h9 => h9) rfl dX1_trace_III_74 ?_
                refine lv_iload_n hx hb dX1_trace_III_77 rfl (lv_at hl 0 rfl) ?_
                refine va_iald hx hb hK hP 39 0 gY_39 rfl (ix_l h) dX1_trace_III_78 ?_
                have h := ix_r h
                exact rt_i (w := (wY cI cZ cC cJ cA P)) hx hb hr hlk hP hD hS h dX1_trace_III_79
              · have h := br_T hc h
                refine lv_aload_n hx hb dX1_trace_III_64 rfl (lv_at hl 1 rfl) ?_
                refine va_get (D := D) (ci := 1) (v := .ref (P 38)) (C := RX1) (T := TX1) (N := 76) hx hb hgt iwX1 hown hK hP 0 gY_0 rfl 50 (Nat.le_of_ble_eq_true rfl) (hgt _ wd_5_11) (fun _ h9 => h9) rfl dX1_trace_III_65 ?_
                refine lv_iload_n hx hb dX1_trace_III_68 rfl (lv_at hl 0 rfl) ?_
                refine va_iald hx hb hK hP 38 0 gY_38 rfl (ix_l h) dX1_trace_III_69 ?_
                have h := ix_r h
                refine lv_goto hx hb dX1_trace_III_70 (tgt := 79) rfl ?_
                exact rt_i (w := (wY cI cZ cC cJ cA P)) hx hb hr hlk hP hD hS h dX1_trace_III_79
            · have h := br_T hc h
              refine lv_aload_n hx hb dX1_trace_III_50 rfl (lv_at hl 1 rfl) ?_
              refine va_get (D := D) (ci := 1) (v := .ref (P 37)) (C := RX1) (T := TX1) (N := 76) hx hb hgt iwX1 hown hK hP 0 gY_0 rfl 49 (Nat.le_of_ble_eq_true rfl) (hgt _ wd_5_10) (fun _ h9 => h9) rfl dX1_trace_III_51 ?_
              refine lv_iload_n hx hb dX1_trace_III_54 rfl (lv_at hl 0 rfl) ?_
              refine va_iald hx hb hK hP 37 0 gY_37 rfl (ix_l h) dX1_trace_III_55 ?_
              have h := ix_r h
              refine lv_goto hx hb dX1_trace_III_56 (tgt := 79) rfl ?_
              exact rt_i (w := (wY cI cZ cC cJ cA P)) hx hb hr hlk hP hD hS h dX1_trace_III_79
          · have h := br_F hc h
            refine lv_iconst (v := (-1)) hx hb dX1_trace_III_32 (by decide) ?_
            exact rt_i (w := (wY cI cZ cC cJ cA P)) hx hb hr hlk hP hD hS h dX1_trace_III_33
set_option maxHeartbeats 4000000 in
set_option maxRecDepth 20000 in
theorem z_ChipMapModel_trace_1 (l : Launch) (D : va_G) (cI cZ cC cJ cA : ClassId) (P : Nat → Nat) (s0 : State) (hAO : ∀ q, (aP P 51) q → s0.heap.size ≤ q) (M : Mm) (a1 : Int32) (a2 : Int32) (M' : Mm) (r' : Int32) (h : q_ChipMapModel_trace_1 M a1 a2 = some (M', r')) : Met l yX1_trace_III wsX1_trace_III ({ frames := 0, cells := 0, slots := 0, locals := 0 }) (va_Pc [.ref (P 0), .int a1, .int a2] (gPre s0 D [(cI, .int), (cZ, .boolean), (cC, .char), (cJ, .long), (cA, .array .int)] (aP P 51) ((wY cI cZ cC cJ cA P) M))) (gQi D (aP P 51) ((wY cI cZ cC cJ cA P) M') r') 0 0 (aP P 51) := by
  refine Met.ofW (cc := cX1_trace_III) (maxL := 4) (ret := (some .int)) (by decide) rfl ?_
  intro p e s m args below meth c s₁ B hml hv
  obtain ⟨rfl, hP, hK, hD, hO⟩ := hv
  have hx := B.exec
  have hb := B.bytes
  have hr := B.returns
  have hlk := B.notSynchronized
  have hgt := fun w (h : w ∈ GT) => atoms_spec (ws := wsX1_trace_III) B.pre w (List.mem_cons_of_mem _ h)
  have hown : s.vm.findClass RX1 = some m.cls := findClass_of_methodNamed B.named
  have hS : va_S (aP P 51) s.heap s.heap [] := va_S.rf
  have hl := lv_entry ([.ref (P 0), .int a1, .int a2]) (n := 4) (Nat.le_of_ble_eq_true rfl)
  rw [lg_entry_eq]
  generalize (lg_sl ([.ref (P 0), .int a1, .int a2]) ++ List.replicate (4 - (lg_sl ([.ref (P 0), .int a1, .int a2])).length) Slot.unset).toArray = ls at hl ⊢
  have hl : lv_has ls 4 [(0, .ref (P 0)), (1, .int a1), (2, .int a2)] := hl
  exact b_ChipMapModel_trace_1_0 hx hb hml hr hlk hgt hown hK hO hAO M a1 a2 s.heap [] ls hl hP hD hS h
def q_ChipMapModel_step_73  (M : Mm) (v1 : Int32) (v2 : Int32) (v3 : Int32) : Rs := ix (M.1 0 59) 40 <| lt' (stI M 42 (upd (M.1 42) ((M.1 0 59) : Int32).toNatClampNeg v1)) fun M1 => ix (M1.1 0 59) 40 <| lt' (stI M1 43 (upd (M1.1 43) ((M1.1 0 59) : Int32).toNatClampNeg v2)) fun M2 => ix (M2.1 0 59) 40 <| lt' (stI M2 44 (upd (M2.1 44) ((M2.1 0 59) : Int32).toNatClampNeg v3)) fun M3 => lt' (stI M3 0 (upd (M3.1 0) 59 ((M3.1 0 59) + 1))) fun M4 => some (M4, ((M4.1 0 59) - 1))
def q_ChipMapModel_step_56  (M : Mm) (v1 : Int32) (v2 : Int32) (v3 : Int32) : Rs := if v1 = 2 then (if v3 < 0 then (some (M, (-1))) else (if v3 ≤ 40 then (q_ChipMapModel_step_73 M v1 v2 v3) else (some (M, (-1))))) else (q_ChipMapModel_step_73 M v1 v2 v3)
def q_ChipMapModel_step_43  (M : Mm) (v1 : Int32) (v2 : Int32) (v3 : Int32) : Rs := if v1 = 1 then (cal (q_ChipMapModel_isFetch M v2) fun M1 r2 => if r2 = 0 then (some (M1, (-1))) else (q_ChipMapModel_step_56 M1 v1 v2 v3)) else (q_ChipMapModel_step_56 M v1 v2 v3)
def q_ChipMapModel_step  (M : Mm) (a1 : Int32) (a2 : Int32) (a3 : Int32) : Rs := lt' (stI M 0 (upd (M.1 0) 0 0)) fun M1 => if (M1.1 0 27) = 0 then (some (M1, (-1))) else (if (M1.1 0 59) = 40 then (some (M1, (-1))) else (if a1 < 0 then (some (M1, (-1))) else (if 3 < a1 then (some (M1, (-1))) else (if a1 = 0 then (cal (q_ChipMapModel_isPut M1 a2 a3) fun M2 r3 => if r3 = 0 then (some (M2, (-1))) else (q_ChipMapModel_step_43 M2 a1 a2 a3)) else (q_ChipMapModel_step_43 M1 a1 a2 a3)))))
set_option maxHeartbeats 4000000 in
set_option maxRecDepth 20000 in
theorem b_ChipMapModel_step_73 {p : Program} {l : Launch} {e : Env} {s s0 : State} {m : MethodId} {args : Array Value} {below : List Frame} {meth : Method} {c : Code} {D : va_G} {cI cZ cC cJ cA : ClassId} {P : Nat → Nat} {M' : Mm} {r' : Int32}  (hx : p.tables.exec = Jvm.exec) (hb : c.code = cX1_step) (hml : c.maxLocals = 4) (hr : meth.sig.returnType = (some .int)) (hlk : meth.locks = false) (hgt : ∀ w ∈ GT, w.before args s = true) (hown : s.vm.findClass RX1 = some m.cls) (hK : va_K D vwCl [(cI, .int), (cZ, .boolean), (cC, .char), (cJ, .long), (cA, .array .int)] s) (hO : Old s0 s) (hAO : ∀ q, (aP P 51) q → s0.heap.size ≤ q)  : ∀ (M : Mm) (v1 : Int32) (v2 : Int32) (v3 : Int32) (H : Heap) (locs : List Loc) (ls : Array Slot), lv_has ls 4 [(0, .ref (P 0)), (1, .int v1), (2, .int v2), (3, .int v3)] → va_P D vwCl ((wY cI cZ cC cJ cA P) M) H → va_D (aP P 51) ((wY cI cZ cC cJ cA P) M) → va_S (aP P 51) s.heap H locs → q_ChipMapModel_step_73 M v1 v2 v3 = some (M', r') → W p l e ({ frames := 2, cells := 0, slots := 0, locals := 44 }) s m args below meth c H locs 0 0 (MQ below (gQi D (aP P 51) ((wY cI cZ cC cJ cA P) M') r') args s 0 0 (aP P 51)) (F0 m 73 ls []) := by
  intro M v1 v2 v3 H locs ls hl hP hD hS h
  unfold q_ChipMapModel_step_73 at h
  refine lv_aload_n hx hb dX1_step_73 rfl (lv_at hl 0 rfl) ?_
  refine va_get (D := D) (ci := 1) (v := .ref (P 42)) (C := RX1) (T := TX1) (N := 76) hx hb hgt iwX1 hown hK hP 0 gY_0 rfl 60 (Nat.le_of_ble_eq_true rfl) (hgt _ wd_5_21) (fun _ h9 => h9) rfl dX1_step_74 ?_
  refine lv_aload_n hx hb dX1_step_77 rfl (lv_at hl 0 rfl) ?_
  refine va_get (D := D) (ci := 1) (v := .int (M.1 0 59)) (C := RX1) (T := TX1) (N := 76) hx hb hgt iwX1 hown hK hP 0 gY_0 rfl 59 (Nat.le_of_ble_eq_true rfl) (hgt _ wd_5_20) (fun _ h9 => h9) rfl dX1_step_78 ?_
  refine lv_iload_n hx hb dX1_step_81 rfl (lv_at hl 1 rfl) ?_
  refine pm_iast (w := (wY cI cZ cC cJ cA P)) hx hb hK hP hD hS 42 0 gY_42 rfl sY_42 (ix_l h) dX1_step_82 (fun M1 eM1 H locs hP hD hS => ?_)
  have h := ix_r h
  have h := lt_o eM1 h
  refine lv_aload_n hx hb dX1_step_83 rfl (lv_at hl 0 rfl) ?_
  refine va_get (D := D) (ci := 1) (v := .ref (P 43)) (C := RX1) (T := TX1) (N := 76) hx hb hgt iwX1 hown hK hP 0 gY_0 rfl 61 (Nat.le_of_ble_eq_true rfl) (hgt _ wd_5_22) (fun _ h9 => h9) rfl dX1_step_84 ?_
  refine lv_aload_n hx hb dX1_step_87 rfl (lv_at hl 0 rfl) ?_
  refine va_get (D := D) (ci := 1) (v := .int (M1.1 0 59)) (C := RX1) (T := TX1) (N := 76) hx hb hgt iwX1 hown hK hP 0 gY_0 rfl 59 (Nat.le_of_ble_eq_true rfl) (hgt _ wd_5_20) (fun _ h9 => h9) rfl dX1_step_88 ?_
  refine lv_iload_n hx hb dX1_step_91 rfl (lv_at hl 2 rfl) ?_
  refine pm_iast (w := (wY cI cZ cC cJ cA P)) hx hb hK hP hD hS 43 0 gY_43 rfl sY_43 (ix_l h) dX1_step_92 (fun M2 eM2 H locs hP hD hS => ?_)
  have h := ix_r h
  have h := lt_o eM2 h
  refine lv_aload_n hx hb dX1_step_93 rfl (lv_at hl 0 rfl) ?_
  refine va_get (D := D) (ci := 1) (v := .ref (P 44)) (C := RX1) (T := TX1) (N := 76) hx hb hgt iwX1 hown hK hP 0 gY_0 rfl 62 (Nat.le_of_ble_eq_true rfl) (hgt _ wd_5_23) (fun _ h9 => h9) rfl dX1_step_94 ?_
  refine lv_aload_n hx hb dX1_step_97 rfl (lv_at hl 0 rfl) ?_
  refine va_get (D := D) (ci := 1) (v := .int (M2.1 0 59)) (C := RX1) (T := TX1) (N := 76) hx hb hgt iwX1 hown hK hP 0 gY_0 rfl 59 (Nat.le_of_ble_eq_true rfl) (hgt _ wd_5_20) (fun _ h9 => h9) rfl dX1_step_98 ?_
  refine lv_iload_n hx hb dX1_step_101 rfl (lv_at hl 3 rfl) ?_
  refine pm_iast (w := (wY cI cZ cC cJ cA P)) hx hb hK hP hD hS 44 0 gY_44 rfl sY_44 (ix_l h) dX1_step_102 (fun M3 eM3 H locs hP hD hS => ?_)
  have h := ix_r h
  have h := lt_o eM3 h
  refine lv_aload_n hx hb dX1_step_103 rfl (lv_at hl 0 rfl) ?_
  refine lv_dup hx hb dX1_step_104 rfl ?_
  refine va_get (D := D) (ci := 1) (v := .int (M3.1 0 59)) (C := RX1) (T := TX1) (N := 76) hx hb hgt iwX1 hown hK hP 0 gY_0 rfl 59 (Nat.le_of_ble_eq_true rfl) (hgt _ wd_5_20) (fun _ h9 => h9) rfl dX1_step_105 ?_
  refine lv_iconst (v := 1) hx hb dX1_step_108 (by decide) ?_
  refine lv_iadd hx hb dX1_step_109 ?_
  refine pm_put (w := (wY cI cZ cC cJ cA P)) (D := D) (ci := 1) (x := ((M3.1 0 59) + 1)) (ty := .int) (C := RX1) (T := TX1) (N := 76) hx hb hgt iwX1 tyX1 tyX1_ok nmX1 hown hK hP hD hS 0 gY_0 rfl 59 (Nat.le_of_ble_eq_true rfl) (hgt _ wd_5_20) (fun _ h9 => h9) rfl (by decide +kernel) rfl rfl (Nat.le_of_ble_eq_true rfl) (sY_0_59 _) dX1_step_110 (fun M4 eM4 H locs hP hD hS => ?_)
  have h := lt_o eM4 h
  refine lv_aload_n hx hb dX1_step_113 rfl (lv_at hl 0 rfl) ?_
  refine va_get (D := D) (ci := 1) (v := .int (M4.1 0 59)) (C := RX1) (T := TX1) (N := 76) hx hb hgt iwX1 hown hK hP 0 gY_0 rfl 59 (Nat.le_of_ble_eq_true rfl) (hgt _ wd_5_20) (fun _ h9 => h9) rfl dX1_step_114 ?_
  refine lv_iconst (v := 1) hx hb dX1_step_117 (by decide) ?_
  refine lv_isub hx hb dX1_step_118 ?_
  exact rt_i (w := (wY cI cZ cC cJ cA P)) hx hb hr hlk hP hD hS h dX1_step_119
set_option maxHeartbeats 4000000 in
set_option maxRecDepth 20000 in
theorem b_ChipMapModel_step_56 {p : Program} {l : Launch} {e : Env} {s s0 : State} {m : MethodId} {args : Array Value} {below : List Frame} {meth : Method} {c : Code} {D : va_G} {cI cZ cC cJ cA : ClassId} {P : Nat → Nat} {M' : Mm} {r' : Int32}  (hx : p.tables.exec = Jvm.exec) (hb : c.code = cX1_step) (hml : c.maxLocals = 4) (hr : meth.sig.returnType = (some .int)) (hlk : meth.locks = false) (hgt : ∀ w ∈ GT, w.before args s = true) (hown : s.vm.findClass RX1 = some m.cls) (hK : va_K D vwCl [(cI, .int), (cZ, .boolean), (cC, .char), (cJ, .long), (cA, .array .int)] s) (hO : Old s0 s) (hAO : ∀ q, (aP P 51) q → s0.heap.size ≤ q)  : ∀ (M : Mm) (v1 : Int32) (v2 : Int32) (v3 : Int32) (H : Heap) (locs : List Loc) (ls : Array Slot), lv_has ls 4 [(0, .ref (P 0)), (1, .int v1), (2, .int v2), (3, .int v3)] → va_P D vwCl ((wY cI cZ cC cJ cA P) M) H → va_D (aP P 51) ((wY cI cZ cC cJ cA P) M) → va_S (aP P 51) s.heap H locs → q_ChipMapModel_step_56 M v1 v2 v3 = some (M', r') → W p l e ({ frames := 2, cells := 0, slots := 0, locals := 44 }) s m args below meth c H locs 0 0 (MQ below (gQi D (aP P 51) ((wY cI cZ cC cJ cA P) M') r') args s 0 0 (aP P 51)) (F0 m 56 ls []) := by
  intro M v1 v2 v3 H locs ls hl hP hD hS h
  unfold q_ChipMapModel_step_56 at h
  refine lv_iload_n hx hb dX1_step_56 rfl (lv_at hl 1 rfl) ?_
  refine lv_iconst (v := 2) hx hb dX1_step_57 (by decide) ?_
  refine lv_icmp_ne hx hb dX1_step_58 (tgt := 73) rfl (fun hc => ?_) (fun hc => ?_)
  · have h := br_F hc h
    have hl := lv_sub hl [0, 1, 2, 3] (l' := [(0, .ref (P 0)), (1, .int v1), (2, .int v2), (3, .int v3)]) rfl
    exact b_ChipMapModel_step_73 hx hb hml hr hlk hgt hown hK hO hAO M v1 v2 v3 H _ ls hl hP hD hS h
  · have h := br_T hc h
    refine lv_iload_n hx hb dX1_step_61 rfl (lv_at hl 3 rfl) ?_
    refine lv_if_lt hx hb dX1_step_62 (tgt := 71) rfl (fun hc => ?_) (fun hc => ?_)
    · have h := br_T hc h
      refine lv_iconst (v := (-1)) hx hb dX1_step_71 (by decide) ?_
      exact rt_i (w := (wY cI cZ cC cJ cA P)) hx hb hr hlk hP hD hS h dX1_step_72
    · have h := br_F hc h
      refine lv_iload_n hx hb dX1_step_65 rfl (lv_at hl 3 rfl) ?_
      refine lv_bipush (v := 40) hx hb dX1_step_66 (by decide) ?_
      refine lv_icmp_le hx hb dX1_step_68 (tgt := 73) rfl (fun hc => ?_) (fun hc => ?_)
      · have h := br_T hc h
        have hl := lv_sub hl [0, 1, 2, 3] (l' := [(0, .ref (P 0)), (1, .int v1), (2, .int v2), (3, .int v3)]) rfl
        exact b_ChipMapModel_step_73 hx hb hml hr hlk hgt hown hK hO hAO M v1 v2 v3 H _ ls hl hP hD hS h
      · have h := br_F hc h
        refine lv_iconst (v := (-1)) hx hb dX1_step_71 (by decide) ?_
        exact rt_i (w := (wY cI cZ cC cJ cA P)) hx hb hr hlk hP hD hS h dX1_step_72
set_option maxHeartbeats 4000000 in
set_option maxRecDepth 20000 in
theorem b_ChipMapModel_step_43 {p : Program} {l : Launch} {e : Env} {s s0 : State} {m : MethodId} {args : Array Value} {below : List Frame} {meth : Method} {c : Code} {D : va_G} {cI cZ cC cJ cA : ClassId} {P : Nat → Nat} {M' : Mm} {r' : Int32}  (hx : p.tables.exec = Jvm.exec) (hb : c.code = cX1_step) (hml : c.maxLocals = 4) (hr : meth.sig.returnType = (some .int)) (hlk : meth.locks = false) (hgt : ∀ w ∈ GT, w.before args s = true) (hown : s.vm.findClass RX1 = some m.cls) (hK : va_K D vwCl [(cI, .int), (cZ, .boolean), (cC, .char), (cJ, .long), (cA, .array .int)] s) (hO : Old s0 s) (hAO : ∀ q, (aP P 51) q → s0.heap.size ≤ q)  : ∀ (M : Mm) (v1 : Int32) (v2 : Int32) (v3 : Int32) (H : Heap) (locs : List Loc) (ls : Array Slot), lv_has ls 4 [(0, .ref (P 0)), (1, .int v1), (2, .int v2), (3, .int v3)] → va_P D vwCl ((wY cI cZ cC cJ cA P) M) H → va_D (aP P 51) ((wY cI cZ cC cJ cA P) M) → va_S (aP P 51) s.heap H locs → q_ChipMapModel_step_43 M v1 v2 v3 = some (M', r') → W p l e ({ frames := 2, cells := 0, slots := 0, locals := 44 }) s m args below meth c H locs 0 0 (MQ below (gQi D (aP P 51) ((wY cI cZ cC cJ cA P) M') r') args s 0 0 (aP P 51)) (F0 m 43 ls []) := by
  intro M v1 v2 v3 H locs ls hl hP hD hS h
  unfold q_ChipMapModel_step_43 at h
  refine lv_iload_n hx hb dX1_step_43 rfl (lv_at hl 1 rfl) ?_
  refine lv_iconst (v := 1) hx hb dX1_step_44 (by decide) ?_
  refine lv_icmp_ne hx hb dX1_step_45 (tgt := 56) rfl (fun hc => ?_) (fun hc => ?_)
  · have h := br_F hc h
    have hl := lv_sub hl [0, 1, 2, 3] (l' := [(0, .ref (P 0)), (1, .int v1), (2, .int v2), (3, .int v3)]) rfl
    exact b_ChipMapModel_step_56 hx hb hml hr hlk hgt hown hK hO hAO M v1 v2 v3 H _ ls hl hP hD hS h
  · have h := br_T hc h
    refine lv_aload_n hx hb dX1_step_48 rfl (lv_at hl 0 rfl) ?_
    refine lv_iload_n hx hb dX1_step_49 rfl (lv_at hl 2 rfl) ?_
    obtain ⟨M1, r2, hq, h⟩ := cal_o h
    refine cx_i (va_runV (As := [.int v2]) (rest := []) ⟨hx, hb, hml, hown, hgt⟩ (z_ChipMapModel_isFetch l D cI cZ cC cJ cA P s0 hAO M v2 M1 r2 hq) (cwV 1 hgt (gV wd_6_166 wd_6_168 sl__ChipMapModel____ChipMapModel___isFetch____I_Z_____ChipMapModel___isFetch____I_Z__ wd_0_15 wd_6_169) rfl rfl rfl (by decide +kernel) ⟨Nat.le_of_ble_eq_true rfl, Nat.le_of_ble_eq_true rfl⟩) (prV hP hK hD hO hAO hS (va_recv hK hP (ci := 1) (q0 := 0) rfl gY_0)) rfl rfl hl.1 rfl (lv_room (Nat.le_of_ble_eq_true rfl)) dX1_step_50 ⟨Nat.le_of_ble_eq_true rfl, Nat.le_of_ble_eq_true rfl⟩) hS (fun H locs hP hD hS => ?_)
    refine lv_if_eq hx hb dX1_step_53 (tgt := 71) rfl (fun hc => ?_) (fun hc => ?_)
    · have h := br_T hc h
      refine lv_iconst (v := (-1)) hx hb dX1_step_71 (by decide) ?_
      exact rt_i (w := (wY cI cZ cC cJ cA P)) hx hb hr hlk hP hD hS h dX1_step_72
    · have h := br_F hc h
      have hl := lv_sub hl [0, 1, 2, 3] (l' := [(0, .ref (P 0)), (1, .int v1), (2, .int v2), (3, .int v3)]) rfl
      exact b_ChipMapModel_step_56 hx hb hml hr hlk hgt hown hK hO hAO M1 v1 v2 v3 H _ ls hl hP hD hS h
set_option maxHeartbeats 4000000 in
set_option maxRecDepth 20000 in
theorem b_ChipMapModel_step_0 {p : Program} {l : Launch} {e : Env} {s s0 : State} {m : MethodId} {args : Array Value} {below : List Frame} {meth : Method} {c : Code} {D : va_G} {cI cZ cC cJ cA : ClassId} {P : Nat → Nat} {M' : Mm} {r' : Int32}  (hx : p.tables.exec = Jvm.exec) (hb : c.code = cX1_step) (hml : c.maxLocals = 4) (hr : meth.sig.returnType = (some .int)) (hlk : meth.locks = false) (hgt : ∀ w ∈ GT, w.before args s = true) (hown : s.vm.findClass RX1 = some m.cls) (hK : va_K D vwCl [(cI, .int), (cZ, .boolean), (cC, .char), (cJ, .long), (cA, .array .int)] s) (hO : Old s0 s) (hAO : ∀ q, (aP P 51) q → s0.heap.size ≤ q)  : ∀ (M : Mm) (a1 : Int32) (a2 : Int32) (a3 : Int32) (H : Heap) (locs : List Loc) (ls : Array Slot), lv_has ls 4 [(0, .ref (P 0)), (1, .int a1), (2, .int a2), (3, .int a3)] → va_P D vwCl ((wY cI cZ cC cJ cA P) M) H → va_D (aP P 51) ((wY cI cZ cC cJ cA P) M) → va_S (aP P 51) s.heap H locs → q_ChipMapModel_step M a1 a2 a3 = some (M', r') → W p l e ({ frames := 2, cells := 0, slots := 0, locals := 44 }) s m args below meth c H locs 0 0 (MQ below (gQi D (aP P 51) ((wY cI cZ cC cJ cA P) M') r') args s 0 0 (aP P 51)) (F0 m 0 ls []) := by
  intro M a1 a2 a3 H locs ls hl hP hD hS h
  unfold q_ChipMapModel_step at h
  refine lv_aload_n hx hb dX1_step_0 rfl (lv_at hl 0 rfl) ?_
  refine lv_iconst (v := 0) hx hb dX1_step_1 (by decide) ?_
  refine pm_put (w := (wY cI cZ cC cJ cA P)) (D := D) (ci := 1) (x := 0) (ty := .int) (C := RX1) (T := TX1) (N := 76) hx hb hgt iwX1 tyX1 tyX1_ok nmX1 hown hK hP hD hS 0 gY_0 rfl 0 (Nat.le_of_ble_eq_true rfl) (hgt _ wd_4_201) (fun _ h9 => h9) rfl (by decide +kernel) rfl rfl (Nat.le_of_ble_eq_true rfl) (sY_0_0 _) dX1_step_2 (fun M1 eM1 H locs hP hD hS => ?_)
  have h := lt_o eM1 h
  refine lv_aload_n hx hb dX1_step_5 rfl (lv_at hl 0 rfl) ?_
  refine va_get (D := D) (ci := 1) (v := .int (M1.1 0 27)) (C := RX1) (T := TX1) (N := 76) hx hb hgt iwX1 hown hK hP 0 gY_0 rfl 27 (Nat.le_of_ble_eq_true rfl) (hgt _ wd_4_228) (fun _ h9 => h9) rfl dX1_step_6 ?_
  refine lv_if_eq hx hb dX1_step_9 (tgt := 71) rfl (fun hc => ?_) (fun hc => ?_)
  · have h := br_T hc h
    refine lv_iconst (v := (-1)) hx hb dX1_step_71 (by decide) ?_
    exact rt_i (w := (wY cI cZ cC cJ cA P)) hx hb hr hlk hP hD hS h dX1_step_72
  · have h := br_F hc h
    refine lv_aload_n hx hb dX1_step_12 rfl (lv_at hl 0 rfl) ?_
    refine va_get (D := D) (ci := 1) (v := .int (M1.1 0 59)) (C := RX1) (T := TX1) (N := 76) hx hb hgt iwX1 hown hK hP 0 gY_0 rfl 59 (Nat.le_of_ble_eq_true rfl) (hgt _ wd_5_20) (fun _ h9 => h9) rfl dX1_step_13 ?_
    refine lv_bipush (v := 40) hx hb dX1_step_16 (by decide) ?_
    refine lv_icmp_eq hx hb dX1_step_18 (tgt := 71) rfl (fun hc => ?_) (fun hc => ?_)
    · have h := br_T hc h
      refine lv_iconst (v := (-1)) hx hb dX1_step_71 (by decide) ?_
      exact rt_i (w := (wY cI cZ cC cJ cA P)) hx hb hr hlk hP hD hS h dX1_step_72
    · have h := br_F hc h
      refine lv_iload_n hx hb dX1_step_21 rfl (lv_at hl 1 rfl) ?_
      refine lv_if_lt hx hb dX1_step_22 (tgt := 71) rfl (fun hc => ?_) (fun hc => ?_)
      · have h := br_T hc h
        refine lv_iconst (v := (-1)) hx hb dX1_step_71 (by decide) ?_
        exact rt_i (w := (wY cI cZ cC cJ cA P)) hx hb hr hlk hP hD hS h dX1_step_72
      · have h := br_F hc h
        refine lv_iload_n hx hb dX1_step_25 rfl (lv_at hl 1 rfl) ?_
        refine lv_iconst (v := 3) hx hb dX1_step_26 (by decide) ?_
        refine lv_icmp_gt hx hb dX1_step_27 (tgt := 71) rfl (fun hc => ?_) (fun hc => ?_)
        · have h := br_T hc h
          refine lv_iconst (v := (-1)) hx hb dX1_step_71 (by decide) ?_
          exact rt_i (w := (wY cI cZ cC cJ cA P)) hx hb hr hlk hP hD hS h dX1_step_72
        · have h := br_F hc h
          refine lv_iload_n hx hb dX1_step_30 rfl (lv_at hl 1 rfl) ?_
          refine lv_if_ne hx hb dX1_step_31 (tgt := 43) rfl (fun hc => ?_) (fun hc => ?_)
          · have h := br_F hc h
            have hl := lv_sub hl [0, 1, 2, 3] (l' := [(0, .ref (P 0)), (1, .int a1), (2, .int a2), (3, .int a3)]) rfl
            exact b_ChipMapModel_step_43 hx hb hml hr hlk hgt hown hK hO hAO M1 a1 a2 a3 H _ ls hl hP hD hS h
          · have h := br_T hc h
            refine lv_aload_n hx hb dX1_step_34 rfl (lv_at hl 0 rfl) ?_
            refine lv_iload_n hx hb dX1_step_35 rfl (lv_at hl 2 rfl) ?_
            refine lv_iload_n hx hb dX1_step_36 rfl (lv_at hl 3 rfl) ?_
            obtain ⟨M2, r3, hq, h⟩ := cal_o h
            refine cx_i (va_runV (As := [.int a2, .int a3]) (rest := []) ⟨hx, hb, hml, hown, hgt⟩ (z_ChipMapModel_isPut l D cI cZ cC cJ cA P s0 hAO M1 a2 a3 M2 r3 hq) (cwV 2 hgt (gV wd_6_126 wd_6_128 sl__ChipMapModel____ChipMapModel___isPut____II_Z_____ChipMapModel___isPut____II_Z__ wd_0_15 wd_6_129) rfl rfl rfl (by decide +kernel) ⟨Nat.le_of_ble_eq_true rfl, Nat.le_of_ble_eq_true rfl⟩) (prV hP hK hD hO hAO hS (va_recv hK hP (ci := 1) (q0 := 0) rfl gY_0)) rfl rfl hl.1 rfl (lv_room (Nat.le_of_ble_eq_true rfl)) dX1_step_37 ⟨Nat.le_of_ble_eq_true rfl, Nat.le_of_ble_eq_true rfl⟩) hS (fun H locs hP hD hS => ?_)
            refine lv_if_eq hx hb dX1_step_40 (tgt := 71) rfl (fun hc => ?_) (fun hc => ?_)
            · have h := br_T hc h
              refine lv_iconst (v := (-1)) hx hb dX1_step_71 (by decide) ?_
              exact rt_i (w := (wY cI cZ cC cJ cA P)) hx hb hr hlk hP hD hS h dX1_step_72
            · have h := br_F hc h
              have hl := lv_sub hl [0, 1, 2, 3] (l' := [(0, .ref (P 0)), (1, .int a1), (2, .int a2), (3, .int a3)]) rfl
              exact b_ChipMapModel_step_43 hx hb hml hr hlk hgt hown hK hO hAO M2 a1 a2 a3 H _ ls hl hP hD hS h
set_option maxHeartbeats 4000000 in
set_option maxRecDepth 20000 in
theorem z_ChipMapModel_step (l : Launch) (D : va_G) (cI cZ cC cJ cA : ClassId) (P : Nat → Nat) (s0 : State) (hAO : ∀ q, (aP P 51) q → s0.heap.size ≤ q) (M : Mm) (a1 : Int32) (a2 : Int32) (a3 : Int32) (M' : Mm) (r' : Int32) (h : q_ChipMapModel_step M a1 a2 a3 = some (M', r')) : Met l yX1_step wsX1_step ({ frames := 2, cells := 0, slots := 0, locals := 44 }) (va_Pc [.ref (P 0), .int a1, .int a2, .int a3] (gPre s0 D [(cI, .int), (cZ, .boolean), (cC, .char), (cJ, .long), (cA, .array .int)] (aP P 51) ((wY cI cZ cC cJ cA P) M))) (gQi D (aP P 51) ((wY cI cZ cC cJ cA P) M') r') 0 0 (aP P 51) := by
  refine Met.ofW (cc := cX1_step) (maxL := 4) (ret := (some .int)) (by decide) rfl ?_
  intro p e s m args below meth c s₁ B hml hv
  obtain ⟨rfl, hP, hK, hD, hO⟩ := hv
  have hx := B.exec
  have hb := B.bytes
  have hr := B.returns
  have hlk := B.notSynchronized
  have hgt := fun w (h : w ∈ GT) => atoms_spec (ws := wsX1_step) B.pre w (List.mem_cons_of_mem _ h)
  have hown : s.vm.findClass RX1 = some m.cls := findClass_of_methodNamed B.named
  have hS : va_S (aP P 51) s.heap s.heap [] := va_S.rf
  have hl := lv_entry ([.ref (P 0), .int a1, .int a2, .int a3]) (n := 4) (Nat.le_of_ble_eq_true rfl)
  rw [lg_entry_eq]
  generalize (lg_sl ([.ref (P 0), .int a1, .int a2, .int a3]) ++ List.replicate (4 - (lg_sl ([.ref (P 0), .int a1, .int a2, .int a3])).length) Slot.unset).toArray = ls at hl ⊢
  have hl : lv_has ls 4 [(0, .ref (P 0)), (1, .int a1), (2, .int a2), (3, .int a3)] := hl
  exact b_ChipMapModel_step_0 hx hb hml hr hlk hgt hown hK hO hAO M a1 a2 a3 s.heap [] ls hl hP hD hS h
def q_ChipMapModel_erase  (M : Mm)  : Rs := lt' (stI M 0 (upd (M.1 0) 0 0)) fun M1 => lt' (M1.1 0 59) fun x2 => lt' (stI M1 0 (upd (M1.1 0) 59 0)) fun M3 => some (M3, x2)
set_option maxHeartbeats 4000000 in
set_option maxRecDepth 20000 in
theorem b_ChipMapModel_erase_0 {p : Program} {l : Launch} {e : Env} {s s0 : State} {m : MethodId} {args : Array Value} {below : List Frame} {meth : Method} {c : Code} {D : va_G} {cI cZ cC cJ cA : ClassId} {P : Nat → Nat} {M' : Mm} {r' : Int32}  (hx : p.tables.exec = Jvm.exec) (hb : c.code = cX1_erase) (hml : c.maxLocals = 2) (hr : meth.sig.returnType = (some .int)) (hlk : meth.locks = false) (hgt : ∀ w ∈ GT, w.before args s = true) (hown : s.vm.findClass RX1 = some m.cls) (hK : va_K D vwCl [(cI, .int), (cZ, .boolean), (cC, .char), (cJ, .long), (cA, .array .int)] s) (hO : Old s0 s) (hAO : ∀ q, (aP P 51) q → s0.heap.size ≤ q)  : ∀ (M : Mm)  (H : Heap) (locs : List Loc) (ls : Array Slot), lv_has ls 2 [(0, .ref (P 0))] → va_P D vwCl ((wY cI cZ cC cJ cA P) M) H → va_D (aP P 51) ((wY cI cZ cC cJ cA P) M) → va_S (aP P 51) s.heap H locs → q_ChipMapModel_erase M = some (M', r') → W p l e ({ frames := 0, cells := 0, slots := 0, locals := 0 }) s m args below meth c H locs 0 0 (MQ below (gQi D (aP P 51) ((wY cI cZ cC cJ cA P) M') r') args s 0 0 (aP P 51)) (F0 m 0 ls []) := by
  intro M H locs ls hl hP hD hS h
  unfold q_ChipMapModel_erase at h
  refine lv_aload_n hx hb dX1_erase_0 rfl (lv_at hl 0 rfl) ?_
  refine lv_iconst (v := 0) hx hb dX1_erase_1 (by decide) ?_
  refine pm_put (w := (wY cI cZ cC cJ cA P)) (D := D) (ci := 1) (x := 0) (ty := .int) (C := RX1) (T := TX1) (N := 76) hx hb hgt iwX1 tyX1 tyX1_ok nmX1 hown hK hP hD hS 0 gY_0 rfl 0 (Nat.le_of_ble_eq_true rfl) (hgt _ wd_4_201) (fun _ h9 => h9) rfl (by decide +kernel) rfl rfl (Nat.le_of_ble_eq_true rfl) (sY_0_0 _) dX1_erase_2 (fun M1 eM1 H locs hP hD hS => ?_)
  have h := lt_o eM1 h
  refine lv_aload_n hx hb dX1_erase_5 rfl (lv_at hl 0 rfl) ?_
  refine va_get (D := D) (ci := 1) (v := .int (M1.1 0 59)) (C := RX1) (T := TX1) (N := 76) hx hb hgt iwX1 hown hK hP 0 gY_0 rfl 59 (Nat.le_of_ble_eq_true rfl) (hgt _ wd_5_20) (fun _ h9 => h9) rfl dX1_erase_6 ?_
  refine lv_topi (fun x2 ex2 => ?_)
  have h := lt_o ex2 h
  refine lv_istore_n hx hb dX1_erase_9 rfl hl (Nat.le_of_ble_eq_true rfl) (lv' := [(1, .int x2), (0, .ref (P 0))]) rfl (fun ls hl => ?_)
  refine lv_aload_n hx hb dX1_erase_10 rfl (lv_at hl 1 rfl) ?_
  refine lv_iconst (v := 0) hx hb dX1_erase_11 (by decide) ?_
  refine pm_put (w := (wY cI cZ cC cJ cA P)) (D := D) (ci := 1) (x := 0) (ty := .int) (C := RX1) (T := TX1) (N := 76) hx hb hgt iwX1 tyX1 tyX1_ok nmX1 hown hK hP hD hS 0 gY_0 rfl 59 (Nat.le_of_ble_eq_true rfl) (hgt _ wd_5_20) (fun _ h9 => h9) rfl (by decide +kernel) rfl rfl (Nat.le_of_ble_eq_true rfl) (sY_0_59 _) dX1_erase_12 (fun M3 eM3 H locs hP hD hS => ?_)
  have h := lt_o eM3 h
  refine lv_iload_n hx hb dX1_erase_15 rfl (lv_at hl 0 rfl) ?_
  exact rt_i (w := (wY cI cZ cC cJ cA P)) hx hb hr hlk hP hD hS h dX1_erase_16
set_option maxHeartbeats 4000000 in
set_option maxRecDepth 20000 in
theorem z_ChipMapModel_erase (l : Launch) (D : va_G) (cI cZ cC cJ cA : ClassId) (P : Nat → Nat) (s0 : State) (hAO : ∀ q, (aP P 51) q → s0.heap.size ≤ q) (M : Mm)  (M' : Mm) (r' : Int32) (h : q_ChipMapModel_erase M = some (M', r')) : Met l yX1_erase wsX1_erase ({ frames := 0, cells := 0, slots := 0, locals := 0 }) (va_Pc [.ref (P 0)] (gPre s0 D [(cI, .int), (cZ, .boolean), (cC, .char), (cJ, .long), (cA, .array .int)] (aP P 51) ((wY cI cZ cC cJ cA P) M))) (gQi D (aP P 51) ((wY cI cZ cC cJ cA P) M') r') 0 0 (aP P 51) := by
  refine Met.ofW (cc := cX1_erase) (maxL := 2) (ret := (some .int)) (by decide) rfl ?_
  intro p e s m args below meth c s₁ B hml hv
  obtain ⟨rfl, hP, hK, hD, hO⟩ := hv
  have hx := B.exec
  have hb := B.bytes
  have hr := B.returns
  have hlk := B.notSynchronized
  have hgt := fun w (h : w ∈ GT) => atoms_spec (ws := wsX1_erase) B.pre w (List.mem_cons_of_mem _ h)
  have hown : s.vm.findClass RX1 = some m.cls := findClass_of_methodNamed B.named
  have hS : va_S (aP P 51) s.heap s.heap [] := va_S.rf
  have hl := lv_entry ([.ref (P 0)]) (n := 2) (Nat.le_of_ble_eq_true rfl)
  rw [lg_entry_eq]
  generalize (lg_sl ([.ref (P 0)]) ++ List.replicate (2 - (lg_sl ([.ref (P 0)])).length) Slot.unset).toArray = ls at hl ⊢
  have hl : lv_has ls 2 [(0, .ref (P 0))] := hl
  exact b_ChipMapModel_erase_0 hx hb hml hr hlk hgt hown hK hO hAO M s.heap [] ls hl hP hD hS h
