section
def q_Reader_byteOf  (M : Mm) (a0 : Int64) (a2 : Int32) : Rs := some (M, ((((((a0 : Int64).toUInt64 >>> (((8 * a2) : Int32).toInt64.toUInt64 &&& Int64.toUInt64 63)).toInt64) : Int64).toInt32) &&& 255))
set_option maxHeartbeats 4000000 in
set_option maxRecDepth 20000 in
theorem b_Reader_byteOf_0 {p : Program} {l : Launch} {e : Env} {s s0 : State} {m : MethodId} {args : Array Value} {below : List Frame} {meth : Method} {c : Code} {D : va_G} {cI cZ cC cJ cA : ClassId} {P : Nat → Nat} {M' : Mm} {r' : Int32}  (hx : p.tables.exec = Jvm.exec) (hb : c.code = cX10_byteOf) (hml : c.maxLocals = 3) (hr : meth.sig.returnType = (some .int)) (hlk : meth.locks = false) (hgt : ∀ w ∈ GT, w.before args s = true) (hown : s.vm.findClass RX10 = some m.cls) (hK : va_K D vwCl [(cI, .int), (cZ, .boolean), (cC, .char), (cJ, .long), (cA, .array .int)] s) (hO : Old s0 s) (hAO : ∀ q, (aP P 77) q → s0.heap.size ≤ q)  : ∀ (M : Mm) (a0 : Int64) (a2 : Int32) (H : Heap) (locs : List Loc) (ls : Array Slot), lv_has ls 3 [(0, .long a0), (2, .int a2)] → va_P D vwCl ((wX cI cZ cC cJ cA P) M) H → va_D (aP P 77) ((wX cI cZ cC cJ cA P) M) → va_S (aP P 77) s.heap H locs → q_Reader_byteOf M a0 a2 = some (M', r') → W p l e ({ frames := 0, cells := 0, slots := 0, locals := 0 }) s m args below meth c H locs 0 0 (MQ below (gQi D (aP P 77) ((wX cI cZ cC cJ cA P) M') r') args s 0 0 (aP P 77)) (F0 m 0 ls []) := by
  intro M a0 a2 H locs ls hl hP hD hS h
  unfold q_Reader_byteOf at h
  refine lv_lload_n hx hb dX10_byteOf_0 rfl (lv_at hl 0 rfl) ?_
  refine lv_bipush (v := 8) hx hb dX10_byteOf_1 (by decide) ?_
  refine lv_iload_n hx hb dX10_byteOf_3 rfl (lv_at hl 1 rfl) ?_
  refine lv_imul hx hb dX10_byteOf_4 ?_
  refine lv_lushr (v := (((a0 : Int64).toUInt64 >>> (((8 * a2) : Int32).toInt64.toUInt64 &&& Int64.toUInt64 63)).toInt64)) hx hb dX10_byteOf_5 rfl ?_
  refine lv_l2i (v := ((((a0 : Int64).toUInt64 >>> (((8 * a2) : Int32).toInt64.toUInt64 &&& Int64.toUInt64 63)).toInt64) : Int64).toInt32) hx hb dX10_byteOf_6 rfl ?_
  refine lv_sipush (v := 255) hx hb dX10_byteOf_7 (by decide) ?_
  refine lv_iand hx hb dX10_byteOf_10 ?_
  exact rt_i (w := (wX cI cZ cC cJ cA P)) hx hb hr hlk hP hD hS h dX10_byteOf_11
set_option maxHeartbeats 4000000 in
set_option maxRecDepth 20000 in
theorem z_Reader_byteOf (l : Launch) (D : va_G) (cI cZ cC cJ cA : ClassId) (P : Nat → Nat) (s0 : State) (hAO : ∀ q, (aP P 77) q → s0.heap.size ≤ q) (M : Mm) (a0 : Int64) (a2 : Int32) (M' : Mm) (r' : Int32) (h : q_Reader_byteOf M a0 a2 = some (M', r')) : Met l yX10_byteOf wsX10_byteOf ({ frames := 0, cells := 0, slots := 0, locals := 0 }) (va_Pc [.long a0, .int a2] (gPre s0 D [(cI, .int), (cZ, .boolean), (cC, .char), (cJ, .long), (cA, .array .int)] (aP P 77) ((wX cI cZ cC cJ cA P) M))) (gQi D (aP P 77) ((wX cI cZ cC cJ cA P) M') r') 0 0 (aP P 77) := by
  refine Met.ofW (cc := cX10_byteOf) (maxL := 3) (ret := (some .int)) (by decide) rfl ?_
  intro p e s m args below meth c s₁ B hml hv
  obtain ⟨rfl, hP, hK, hD, hO⟩ := hv
  have hx := B.exec
  have hb := B.bytes
  have hr := B.returns
  have hlk := B.notSynchronized
  have hgt := fun w (h : w ∈ GT) => atoms_spec (ws := wsX10_byteOf) B.pre w (List.mem_cons_of_mem _ h)
  have hown : s.vm.findClass RX10 = some m.cls := findClass_of_methodNamed B.named
  have hS : va_S (aP P 77) s.heap s.heap [] := va_S.rf
  have hl := lv_entry ([.long a0, .int a2]) (n := 3) (Nat.le_of_ble_eq_true rfl)
  rw [lg_entry_eq]
  generalize (lg_sl ([.long a0, .int a2]) ++ List.replicate (3 - (lg_sl ([.long a0, .int a2])).length) Slot.unset).toArray = ls at hl ⊢
  have hl : lv_has ls 3 [(0, .long a0), (2, .int a2)] := hl
  exact b_Reader_byteOf_0 hx hb hml hr hlk hgt hown hK hO hAO M a0 a2 s.heap [] ls hl hP hD hS h
def q_Reader_append_69  : Nat → Mm → Int64 → Int32 → Rs
  | 0, _, _, _ => none
  | n' + 1, M, v1, v4 => if v4 < 0 then (some (M, 1)) else (cal (q_Reader_byteOf M v1 v4) fun M1 r2 => ix (M.1 21 2) 480 <| lt' (stI M1 22 (upd (M1.1 22) ((M.1 21 2) : Int32).toNatClampNeg (vp_nar .char (((r2 : Int32).toUInt32 % 65536).toInt32)))) fun M3 => lt' (stI M3 21 (upd (M3.1 21) 2 ((M3.1 21 2) + 1))) fun M4 => q_Reader_append_69 n' M4 v1 (v4 + (-1)))
def q_Reader_append_28  : Nat → Mm → Int64 → Int32 → Int32 → Rs
  | 0, _, _, _, _ => none
  | n' + 1, M, v1, v3, v4 => if v3 ≤ v4 then (lt' (v3 - 1) fun x1 => q_Reader_append_69 4000 M v1 x1) else (cal (q_Reader_byteOf M v1 v4) fun M1 r2 => if r2 < 33 then (some (M1, 0)) else (if r2 ≤ 126 then (q_Reader_append_28 n' M1 v1 v3 (v4 + 1)) else (some (M1, 0))))
def q_Reader_append  (M : Mm) (a1 : Int64) (a3 : Int32) : Rs := if a3 < 1 then (some (M, 0)) else (if 8 < a3 then (some (M, 0)) else (if ((M.1 21 2) + a3) ≤ 480 then (q_Reader_append_28 4000 M a1 a3 0) else (some (M, 0))))
set_option maxHeartbeats 4000000 in
set_option maxRecDepth 20000 in
theorem b_Reader_append_69 {p : Program} {l : Launch} {e : Env} {s s0 : State} {m : MethodId} {args : Array Value} {below : List Frame} {meth : Method} {c : Code} {D : va_G} {cI cZ cC cJ cA : ClassId} {P : Nat → Nat} {M' : Mm} {r' : Int32}  (hx : p.tables.exec = Jvm.exec) (hb : c.code = cX10_append) (hml : c.maxLocals = 6) (hr : meth.sig.returnType = (some .boolean)) (hlk : meth.locks = false) (hgt : ∀ w ∈ GT, w.before args s = true) (hown : s.vm.findClass RX10 = some m.cls) (hK : va_K D vwCl [(cI, .int), (cZ, .boolean), (cC, .char), (cJ, .long), (cA, .array .int)] s) (hO : Old s0 s) (hAO : ∀ q, (aP P 77) q → s0.heap.size ≤ q)  : ∀ (n' : Nat) (M : Mm) (v1 : Int64) (v4 : Int32) (H : Heap) (locs : List Loc) (ls : Array Slot), lv_has ls 6 [(0, .ref (P 21)), (1, .long v1), (4, .int v4)] → va_P D vwCl ((wX cI cZ cC cJ cA P) M) H → va_D (aP P 77) ((wX cI cZ cC cJ cA P) M) → va_S (aP P 77) s.heap H locs → q_Reader_append_69 n' M v1 v4 = some (M', r') → W p l e ({ frames := 1, cells := 0, slots := 0, locals := 22 }) s m args below meth c H locs 0 0 (MQ below (gQi D (aP P 77) ((wX cI cZ cC cJ cA P) M') r') args s 0 0 (aP P 77)) (F0 m 69 ls []) := by
  intro n'
  induction n' with
  | zero => exact fun _ _ _ _ _ _ _ _ _ _ h => (rs_n h).elim
  | succ n' ih =>
    intro M v1 v4 H locs ls hl hP hD hS h
    rw [q_Reader_append_69] at h
    refine lv_iload hx hb dX10_append_69 (lv_at hl 2 rfl) ?_
    refine lv_if_lt hx hb dX10_append_71 (tgt := 106) rfl (fun hc => ?_) (fun hc => ?_)
    · have h := br_T hc h
      refine lv_iconst (v := 1) hx hb dX10_append_106 (by decide) ?_
      exact rt_z (w := (wX cI cZ cC cJ cA P)) hx hb hr hlk rfl hP hD hS h dX10_append_107
    · have h := br_F hc h
      refine lv_aload_n hx hb dX10_append_74 rfl (lv_at hl 0 rfl) ?_
      refine va_get (D := D) (ci := 10) (v := .ref (P 22)) (C := RX10) (T := TX10) (N := 4) hx hb hgt iwX10 hown hK hP 21 gX_21 rfl 1 (Nat.le_of_ble_eq_true rfl) (hgt _ wd_0_188) (fun _ h9 => h9) rfl dX10_append_75 ?_
      refine lv_aload_n hx hb dX10_append_78 rfl (lv_at hl 0 rfl) ?_
      refine va_get (D := D) (ci := 10) (v := .int (M.1 21 2)) (C := RX10) (T := TX10) (N := 4) hx hb hgt iwX10 hown hK hP 21 gX_21 rfl 2 (Nat.le_of_ble_eq_true rfl) (hgt _ wd_0_189) (fun _ h9 => h9) rfl dX10_append_79 ?_
      refine lv_lload_n hx hb dX10_append_82 rfl (lv_at hl 1 rfl) ?_
      refine lv_iload hx hb dX10_append_83 (lv_at hl 2 rfl) ?_
      obtain ⟨M1, r2, hq, h⟩ := cal_o h
      refine cx_i (va_runS (As := [.long v1, .int v4]) (rest := [.int (M.1 21 2), .ref (P 22)]) ⟨hx, hb, hml, hown, hgt⟩ (z_Reader_byteOf l D cI cZ cC cJ cA P s0 hAO M v1 v4 M1 r2 hq) (va_cwS 2 hgt (gS wd_2_53 wd_2_54 wd_0_4 wd_2_55) rfl rfl rfl (by decide +kernel) ⟨Nat.le_of_ble_eq_true rfl, Nat.le_of_ble_eq_true rfl⟩) (prS hP hK hD hO hAO hS) rfl rfl hl.1 rfl (lv_room (Nat.le_of_ble_eq_true rfl)) dX10_append_85 ⟨Nat.le_of_ble_eq_true rfl, Nat.le_of_ble_eq_true rfl⟩) hS (fun H locs hP hD hS => ?_)
      refine lv_i2c (v := ((r2 : Int32).toUInt32 % 65536).toInt32) hx hb dX10_append_88 rfl ?_
      refine pm_cast (w := (wX cI cZ cC cJ cA P)) hx hb hK hP hD hS 22 2 gX_22 rfl sX_22 (ix_l h) dX10_append_89 (fun M3 eM3 H locs hP hD hS => ?_)
      have h := ix_r h
      have h := lt_o eM3 h
      refine lv_aload_n hx hb dX10_append_90 rfl (lv_at hl 0 rfl) ?_
      refine lv_dup hx hb dX10_append_91 rfl ?_
      refine va_get (D := D) (ci := 10) (v := .int (M3.1 21 2)) (C := RX10) (T := TX10) (N := 4) hx hb hgt iwX10 hown hK hP 21 gX_21 rfl 2 (Nat.le_of_ble_eq_true rfl) (hgt _ wd_0_189) (fun _ h9 => h9) rfl dX10_append_92 ?_
      refine lv_iconst (v := 1) hx hb dX10_append_95 (by decide) ?_
      refine lv_iadd hx hb dX10_append_96 ?_
      refine pm_put (w := (wX cI cZ cC cJ cA P)) (D := D) (ci := 10) (x := ((M3.1 21 2) + 1)) (ty := .int) (C := RX10) (T := TX10) (N := 4) hx hb hgt iwX10 tyX10 tyX10_ok nmX10 hown hK hP hD hS 21 gX_21 rfl 2 (Nat.le_of_ble_eq_true rfl) (hgt _ wd_0_189) (fun _ h9 => h9) rfl (by decide +kernel) rfl rfl (Nat.le_of_ble_eq_true rfl) (sX_21_2 _) dX10_append_97 (fun M4 eM4 H locs hP hD hS => ?_)
      have h := lt_o eM4 h
      refine lv_iinc (v := (v4 + (-1))) hx hb dX10_append_100 hl (k := 2) rfl rfl (Nat.le_of_ble_eq_true rfl) (lv' := [(4, .int (v4 + (-1))), (0, .ref (P 21)), (1, .long v1)]) rfl (fun ls hl => ?_)
      refine lv_goto hx hb dX10_append_103 (tgt := 69) rfl ?_
      have hl := lv_sub hl [1, 2, 0] (l' := [(0, .ref (P 21)), (1, .long v1), (4, .int (v4 + (-1)))]) rfl
      exact ih M4 v1 (v4 + (-1)) H locs ls hl hP hD hS h
set_option maxHeartbeats 4000000 in
set_option maxRecDepth 20000 in
theorem b_Reader_append_28 {p : Program} {l : Launch} {e : Env} {s s0 : State} {m : MethodId} {args : Array Value} {below : List Frame} {meth : Method} {c : Code} {D : va_G} {cI cZ cC cJ cA : ClassId} {P : Nat → Nat} {M' : Mm} {r' : Int32}  (hx : p.tables.exec = Jvm.exec) (hb : c.code = cX10_append) (hml : c.maxLocals = 6) (hr : meth.sig.returnType = (some .boolean)) (hlk : meth.locks = false) (hgt : ∀ w ∈ GT, w.before args s = true) (hown : s.vm.findClass RX10 = some m.cls) (hK : va_K D vwCl [(cI, .int), (cZ, .boolean), (cC, .char), (cJ, .long), (cA, .array .int)] s) (hO : Old s0 s) (hAO : ∀ q, (aP P 77) q → s0.heap.size ≤ q)  : ∀ (n' : Nat) (M : Mm) (v1 : Int64) (v3 : Int32) (v4 : Int32) (H : Heap) (locs : List Loc) (ls : Array Slot), lv_has ls 6 [(0, .ref (P 21)), (1, .long v1), (3, .int v3), (4, .int v4)] → va_P D vwCl ((wX cI cZ cC cJ cA P) M) H → va_D (aP P 77) ((wX cI cZ cC cJ cA P) M) → va_S (aP P 77) s.heap H locs → q_Reader_append_28 n' M v1 v3 v4 = some (M', r') → W p l e ({ frames := 1, cells := 0, slots := 0, locals := 22 }) s m args below meth c H locs 0 0 (MQ below (gQi D (aP P 77) ((wX cI cZ cC cJ cA P) M') r') args s 0 0 (aP P 77)) (F0 m 28 ls []) := by
  intro n'
  induction n' with
  | zero => exact fun _ _ _ _ _ _ _ _ _ _ _ h => (rs_n h).elim
  | succ n' ih =>
    intro M v1 v3 v4 H locs ls hl hP hD hS h
    rw [q_Reader_append_28] at h
    refine lv_iload hx hb dX10_append_28 (lv_at hl 3 rfl) ?_
    refine lv_iload_n hx hb dX10_append_30 rfl (lv_at hl 2 rfl) ?_
    refine lv_icmp_ge hx hb dX10_append_31 (tgt := 64) rfl (fun hc => ?_) (fun hc => ?_)
    · have h := br_T hc h
      refine lv_iload_n hx hb dX10_append_64 rfl (lv_at hl 2 rfl) ?_
      refine lv_iconst (v := 1) hx hb dX10_append_65 (by decide) ?_
      refine lv_isub hx hb dX10_append_66 ?_
      refine lv_topi (fun x1 ex1 => ?_)
      have h := lt_o ex1 h
      refine lv_istore hx hb dX10_append_67 hl (Nat.le_of_ble_eq_true rfl) (lv' := [(4, .int x1), (0, .ref (P 21)), (1, .long v1), (3, .int v3)]) rfl (fun ls hl => ?_)
      have hl := lv_sub hl [1, 2, 0] (l' := [(0, .ref (P 21)), (1, .long v1), (4, .int x1)]) rfl
      exact b_Reader_append_69 hx hb hml hr hlk hgt hown hK hO hAO 4000 M v1 x1 H _ ls hl hP hD hS h
    · have h := br_F hc h
      refine lv_lload_n hx hb dX10_append_34 rfl (lv_at hl 1 rfl) ?_
      refine lv_iload hx hb dX10_append_35 (lv_at hl 3 rfl) ?_
      obtain ⟨M1, r2, hq, h⟩ := cal_o h
      refine cx_i (va_runS (As := [.long v1, .int v4]) (rest := []) ⟨hx, hb, hml, hown, hgt⟩ (z_Reader_byteOf l D cI cZ cC cJ cA P s0 hAO M v1 v4 M1 r2 hq) (va_cwS 2 hgt (gS wd_2_53 wd_2_54 wd_0_4 wd_2_55) rfl rfl rfl (by decide +kernel) ⟨Nat.le_of_ble_eq_true rfl, Nat.le_of_ble_eq_true rfl⟩) (prS hP hK hD hO hAO hS) rfl rfl hl.1 rfl (lv_room (Nat.le_of_ble_eq_true rfl)) dX10_append_37 ⟨Nat.le_of_ble_eq_true rfl, Nat.le_of_ble_eq_true rfl⟩) hS (fun H locs hP hD hS => ?_)
      refine lv_istore hx hb dX10_append_40 hl (Nat.le_of_ble_eq_true rfl) (lv' := [(5, .int r2), (0, .ref (P 21)), (1, .long v1), (3, .int v3), (4, .int v4)]) rfl (fun ls hl => ?_)
      refine lv_iload hx hb dX10_append_42 (lv_at hl 0 rfl) ?_
      refine lv_bipush (v := 33) hx hb dX10_append_44 (by decide) ?_
      refine lv_icmp_lt hx hb dX10_append_46 (tgt := 56) rfl (fun hc => ?_) (fun hc => ?_)
      · have h := br_T hc h
        refine lv_iconst (v := 0) hx hb dX10_append_56 (by decide) ?_
        exact rt_z (w := (wX cI cZ cC cJ cA P)) hx hb hr hlk rfl hP hD hS h dX10_append_57
      · have h := br_F hc h
        refine lv_iload hx hb dX10_append_49 (lv_at hl 0 rfl) ?_
        refine lv_bipush (v := 126) hx hb dX10_append_51 (by decide) ?_
        refine lv_icmp_le hx hb dX10_append_53 (tgt := 58) rfl (fun hc => ?_) (fun hc => ?_)
        · have h := br_T hc h
          refine lv_iinc (v := (v4 + 1)) hx hb dX10_append_58 hl (k := 4) rfl rfl (Nat.le_of_ble_eq_true rfl) (lv' := [(4, .int (v4 + 1)), (5, .int r2), (0, .ref (P 21)), (1, .long v1), (3, .int v3)]) rfl (fun ls hl => ?_)
          refine lv_goto hx hb dX10_append_61 (tgt := 28) rfl ?_
          have hl := lv_sub hl [2, 3, 4, 0] (l' := [(0, .ref (P 21)), (1, .long v1), (3, .int v3), (4, .int (v4 + 1))]) rfl
          exact ih M1 v1 v3 (v4 + 1) H locs ls hl hP hD hS h
        · have h := br_F hc h
          refine lv_iconst (v := 0) hx hb dX10_append_56 (by decide) ?_
          exact rt_z (w := (wX cI cZ cC cJ cA P)) hx hb hr hlk rfl hP hD hS h dX10_append_57
set_option maxHeartbeats 4000000 in
set_option maxRecDepth 20000 in
theorem b_Reader_append_0 {p : Program} {l : Launch} {e : Env} {s s0 : State} {m : MethodId} {args : Array Value} {below : List Frame} {meth : Method} {c : Code} {D : va_G} {cI cZ cC cJ cA : ClassId} {P : Nat → Nat} {M' : Mm} {r' : Int32}  (hx : p.tables.exec = Jvm.exec) (hb : c.code = cX10_append) (hml : c.maxLocals = 6) (hr : meth.sig.returnType = (some .boolean)) (hlk : meth.locks = false) (hgt : ∀ w ∈ GT, w.before args s = true) (hown : s.vm.findClass RX10 = some m.cls) (hK : va_K D vwCl [(cI, .int), (cZ, .boolean), (cC, .char), (cJ, .long), (cA, .array .int)] s) (hO : Old s0 s) (hAO : ∀ q, (aP P 77) q → s0.heap.size ≤ q)  : ∀ (M : Mm) (a1 : Int64) (a3 : Int32) (H : Heap) (locs : List Loc) (ls : Array Slot), lv_has ls 6 [(0, .ref (P 21)), (1, .long a1), (3, .int a3)] → va_P D vwCl ((wX cI cZ cC cJ cA P) M) H → va_D (aP P 77) ((wX cI cZ cC cJ cA P) M) → va_S (aP P 77) s.heap H locs → q_Reader_append M a1 a3 = some (M', r') → W p l e ({ frames := 1, cells := 0, slots := 0, locals := 22 }) s m args below meth c H locs 0 0 (MQ below (gQi D (aP P 77) ((wX cI cZ cC cJ cA P) M') r') args s 0 0 (aP P 77)) (F0 m 0 ls []) := by
  intro M a1 a3 H locs ls hl hP hD hS h
  unfold q_Reader_append at h
  refine lv_iload_n hx hb dX10_append_0 rfl (lv_at hl 2 rfl) ?_
  refine lv_iconst (v := 1) hx hb dX10_append_1 (by decide) ?_
  refine lv_icmp_lt hx hb dX10_append_2 (tgt := 23) rfl (fun hc => ?_) (fun hc => ?_)
  · have h := br_T hc h
    refine lv_iconst (v := 0) hx hb dX10_append_23 (by decide) ?_
    exact rt_z (w := (wX cI cZ cC cJ cA P)) hx hb hr hlk rfl hP hD hS h dX10_append_24
  · have h := br_F hc h
    refine lv_iload_n hx hb dX10_append_5 rfl (lv_at hl 2 rfl) ?_
    refine lv_bipush (v := 8) hx hb dX10_append_6 (by decide) ?_
    refine lv_icmp_gt hx hb dX10_append_8 (tgt := 23) rfl (fun hc => ?_) (fun hc => ?_)
    · have h := br_T hc h
      refine lv_iconst (v := 0) hx hb dX10_append_23 (by decide) ?_
      exact rt_z (w := (wX cI cZ cC cJ cA P)) hx hb hr hlk rfl hP hD hS h dX10_append_24
    · have h := br_F hc h
      refine lv_aload_n hx hb dX10_append_11 rfl (lv_at hl 0 rfl) ?_
      refine va_get (D := D) (ci := 10) (v := .int (M.1 21 2)) (C := RX10) (T := TX10) (N := 4) hx hb hgt iwX10 hown hK hP 21 gX_21 rfl 2 (Nat.le_of_ble_eq_true rfl) (hgt _ wd_0_189) (fun _ h9 => h9) rfl dX10_append_12 ?_
      refine lv_iload_n hx hb dX10_append_15 rfl (lv_at hl 2 rfl) ?_
      refine lv_iadd hx hb dX10_append_16 ?_
      refine lv_sipush (v := 480) hx hb dX10_append_17 (by decide) ?_
      refine lv_icmp_le hx hb dX10_append_20 (tgt := 25) rfl (fun hc => ?_) (fun hc => ?_)
      · have h := br_T hc h
        refine lv_iconst (v := 0) hx hb dX10_append_25 (by decide) ?_
        refine lv_istore hx hb dX10_append_26 hl (Nat.le_of_ble_eq_true rfl) (lv' := [(4, .int 0), (0, .ref (P 21)), (1, .long a1), (3, .int a3)]) rfl (fun ls hl => ?_)
        have hl := lv_sub hl [1, 2, 3, 0] (l' := [(0, .ref (P 21)), (1, .long a1), (3, .int a3), (4, .int 0)]) rfl
        exact b_Reader_append_28 hx hb hml hr hlk hgt hown hK hO hAO 4000 M a1 a3 0 H _ ls hl hP hD hS h
      · have h := br_F hc h
        refine lv_iconst (v := 0) hx hb dX10_append_23 (by decide) ?_
        exact rt_z (w := (wX cI cZ cC cJ cA P)) hx hb hr hlk rfl hP hD hS h dX10_append_24
set_option maxHeartbeats 4000000 in
set_option maxRecDepth 20000 in
theorem z_Reader_append (l : Launch) (D : va_G) (cI cZ cC cJ cA : ClassId) (P : Nat → Nat) (s0 : State) (hAO : ∀ q, (aP P 77) q → s0.heap.size ≤ q) (M : Mm) (a1 : Int64) (a3 : Int32) (M' : Mm) (r' : Int32) (h : q_Reader_append M a1 a3 = some (M', r')) : Met l yX10_append wsX10_append ({ frames := 1, cells := 0, slots := 0, locals := 22 }) (va_Pc [.ref (P 21), .long a1, .int a3] (gPre s0 D [(cI, .int), (cZ, .boolean), (cC, .char), (cJ, .long), (cA, .array .int)] (aP P 77) ((wX cI cZ cC cJ cA P) M))) (gQi D (aP P 77) ((wX cI cZ cC cJ cA P) M') r') 0 0 (aP P 77) := by
  refine Met.ofW (cc := cX10_append) (maxL := 6) (ret := (some .boolean)) (by decide) rfl ?_
  intro p e s m args below meth c s₁ B hml hv
  obtain ⟨rfl, hP, hK, hD, hO⟩ := hv
  have hx := B.exec
  have hb := B.bytes
  have hr := B.returns
  have hlk := B.notSynchronized
  have hgt := fun w (h : w ∈ GT) => atoms_spec (ws := wsX10_append) B.pre w (List.mem_cons_of_mem _ h)
  have hown : s.vm.findClass RX10 = some m.cls := findClass_of_methodNamed B.named
  have hS : va_S (aP P 77) s.heap s.heap [] := va_S.rf
  have hl := lv_entry ([.ref (P 21), .long a1, .int a3]) (n := 6) (Nat.le_of_ble_eq_true rfl)
  rw [lg_entry_eq]
  generalize (lg_sl ([.ref (P 21), .long a1, .int a3]) ++ List.replicate (6 - (lg_sl ([.ref (P 21), .long a1, .int a3])).length) Slot.unset).toArray = ls at hl ⊢
  have hl : lv_has ls 6 [(0, .ref (P 21)), (1, .long a1), (3, .int a3)] := hl
  exact b_Reader_append_0 hx hb hml hr hlk hgt hown hK hO hAO M a1 a3 s.heap [] ls hl hP hD hS h
def q_ChipMap_type  (M : Mm) (a1 : Int64) (a3 : Int32) : Rs := cal (q_Reader_append M a1 a3) fun M1 r2 => bz r2 (some (M1, r2))
set_option maxHeartbeats 4000000 in
set_option maxRecDepth 20000 in
theorem b_ChipMap_type_0 {p : Program} {l : Launch} {e : Env} {s s0 : State} {m : MethodId} {args : Array Value} {below : List Frame} {meth : Method} {c : Code} {D : va_G} {cI cZ cC cJ cA : ClassId} {P : Nat → Nat} {M' : Mm} {r' : Int32}  (hx : p.tables.exec = Jvm.exec) (hb : c.code = cX0_type) (hml : c.maxLocals = 4) (hr : meth.sig.returnType = (some .boolean)) (hlk : meth.locks = false) (hgt : ∀ w ∈ GT, w.before args s = true) (hown : s.vm.findClass RX0 = some m.cls) (hK : va_K D vwCl [(cI, .int), (cZ, .boolean), (cC, .char), (cJ, .long), (cA, .array .int)] s) (hO : Old s0 s) (hAO : ∀ q, (aP P 77) q → s0.heap.size ≤ q)  : ∀ (M : Mm) (a1 : Int64) (a3 : Int32) (H : Heap) (locs : List Loc) (ls : Array Slot), lv_has ls 4 [(0, .ref (P 0)), (1, .long a1), (3, .int a3)] → va_P D vwCl ((wX cI cZ cC cJ cA P) M) H → va_D (aP P 77) ((wX cI cZ cC cJ cA P) M) → va_S (aP P 77) s.heap H locs → q_ChipMap_type M a1 a3 = some (M', r') → W p l e ({ frames := 2, cells := 0, slots := 0, locals := 47 }) s m args below meth c H locs 0 0 (MQ below (gQi D (aP P 77) ((wX cI cZ cC cJ cA P) M') r') args s 0 0 (aP P 77)) (F0 m 0 ls []) := by
  intro M a1 a3 H locs ls hl hP hD hS h
  unfold q_ChipMap_type at h
  refine lv_aload_n hx hb dX0_type_0 rfl (lv_at hl 0 rfl) ?_
  refine va_get (D := D) (ci := 0) (v := .ref (P 21)) (C := RX0) (T := TX0) (N := 9) hx hb hgt iwX0 hown hK hP 0 gX_0 rfl 1 (Nat.le_of_ble_eq_true rfl) (hgt _ wd_2_18) (fun _ h9 => h9) rfl dX0_type_1 ?_
  refine lv_lload_n hx hb dX0_type_4 rfl (lv_at hl 1 rfl) ?_
  refine lv_iload_n hx hb dX0_type_5 rfl (lv_at hl 2 rfl) ?_
  obtain ⟨M1, r2, hq, h⟩ := cal_o h
  refine cx_i (va_runV (As := [.long a1, .int a3]) (rest := []) ⟨hx, hb, hml, hown, hgt⟩ (z_Reader_append l D cI cZ cC cJ cA P s0 hAO M a1 a3 M1 r2 hq) (cwV 2 hgt (gV wd_2_49 wd_2_50 wd_2_51 wd_0_4 wd_2_52) rfl rfl rfl (by decide +kernel) ⟨Nat.le_of_ble_eq_true rfl, Nat.le_of_ble_eq_true rfl⟩) (prV hP hK hD hO hAO hS (va_recv hK hP (ci := 10) (q0 := 21) rfl gX_21)) rfl rfl hl.1 rfl (lv_room (Nat.le_of_ble_eq_true rfl)) dX0_type_6 ⟨Nat.le_of_ble_eq_true rfl, Nat.le_of_ble_eq_true rfl⟩) hS (fun H locs hP hD hS => ?_)
  exact rt_z (w := (wX cI cZ cC cJ cA P)) hx hb hr hlk (bz_l h) hP hD hS (bz_r h) dX0_type_9
set_option maxHeartbeats 4000000 in
set_option maxRecDepth 20000 in
theorem z_ChipMap_type (l : Launch) (D : va_G) (cI cZ cC cJ cA : ClassId) (P : Nat → Nat) (s0 : State) (hAO : ∀ q, (aP P 77) q → s0.heap.size ≤ q) (M : Mm) (a1 : Int64) (a3 : Int32) (M' : Mm) (r' : Int32) (h : q_ChipMap_type M a1 a3 = some (M', r')) : Met l yX0_type wsX0_type ({ frames := 2, cells := 0, slots := 0, locals := 47 }) (va_Pc [.ref (P 0), .long a1, .int a3] (gPre s0 D [(cI, .int), (cZ, .boolean), (cC, .char), (cJ, .long), (cA, .array .int)] (aP P 77) ((wX cI cZ cC cJ cA P) M))) (gQi D (aP P 77) ((wX cI cZ cC cJ cA P) M') r') 0 0 (aP P 77) := by
  refine Met.ofW (cc := cX0_type) (maxL := 4) (ret := (some .boolean)) (by decide) rfl ?_
  intro p e s m args below meth c s₁ B hml hv
  obtain ⟨rfl, hP, hK, hD, hO⟩ := hv
  have hx := B.exec
  have hb := B.bytes
  have hr := B.returns
  have hlk := B.notSynchronized
  have hgt := fun w (h : w ∈ GT) => atoms_spec (ws := wsX0_type) B.pre w (List.mem_cons_of_mem _ h)
  have hown : s.vm.findClass RX0 = some m.cls := findClass_of_methodNamed B.named
  have hS : va_S (aP P 77) s.heap s.heap [] := va_S.rf
  have hl := lv_entry ([.ref (P 0), .long a1, .int a3]) (n := 4) (Nat.le_of_ble_eq_true rfl)
  rw [lg_entry_eq]
  generalize (lg_sl ([.ref (P 0), .long a1, .int a3]) ++ List.replicate (4 - (lg_sl ([.ref (P 0), .long a1, .int a3])).length) Slot.unset).toArray = ls at hl ⊢
  have hl : lv_has ls 4 [(0, .ref (P 0)), (1, .long a1), (3, .int a3)] := hl
  exact b_ChipMap_type_0 hx hb hml hr hlk hgt hown hK hO hAO M a1 a3 s.heap [] ls hl hP hD hS h
def q_Draft_clear  (M : Mm)  : Rs := lt' (stI M 1 (upd (M.1 1) 0 0)) fun M1 => lt' (stI M1 1 (upd (M1.1 1) 6 0)) fun M2 => lt' (stI M2 14 (upd (M2.1 14) 0 0)) fun M3 => some (M3, 0)
set_option maxHeartbeats 4000000 in
set_option maxRecDepth 20000 in
theorem b_Draft_clear_0 {p : Program} {l : Launch} {e : Env} {s s0 : State} {m : MethodId} {args : Array Value} {below : List Frame} {meth : Method} {c : Code} {D : va_G} {cI cZ cC cJ cA : ClassId} {P : Nat → Nat} {M' : Mm} {r' : Int32}  (hx : p.tables.exec = Jvm.exec) (hb : c.code = cX4_clear) (hml : c.maxLocals = 1) (hr : meth.sig.returnType = none) (hlk : meth.locks = false) (hgt : ∀ w ∈ GT, w.before args s = true) (hown : s.vm.findClass RX4 = some m.cls) (hK : va_K D vwCl [(cI, .int), (cZ, .boolean), (cC, .char), (cJ, .long), (cA, .array .int)] s) (hO : Old s0 s) (hAO : ∀ q, (aP P 77) q → s0.heap.size ≤ q)  : ∀ (M : Mm)  (H : Heap) (locs : List Loc) (ls : Array Slot), lv_has ls 1 [(0, .ref (P 1))] → va_P D vwCl ((wX cI cZ cC cJ cA P) M) H → va_D (aP P 77) ((wX cI cZ cC cJ cA P) M) → va_S (aP P 77) s.heap H locs → q_Draft_clear M = some (M', r') → W p l e ({ frames := 0, cells := 0, slots := 0, locals := 0 }) s m args below meth c H locs 0 0 (MQ below (gQv D (aP P 77) ((wX cI cZ cC cJ cA P) M')) args s 0 0 (aP P 77)) (F0 m 0 ls []) := by
  intro M H locs ls hl hP hD hS h
  unfold q_Draft_clear at h
  refine lv_aload_n hx hb dX4_clear_0 rfl (lv_at hl 0 rfl) ?_
  refine lv_iconst (v := 0) hx hb dX4_clear_1 (by decide) ?_
  refine pm_put (w := (wX cI cZ cC cJ cA P)) (D := D) (ci := 4) (x := 0) (ty := .int) (C := RX4) (T := TX4) (N := 15) hx hb hgt iwX4 tyX4 tyX4_ok nmX4 hown hK hP hD hS 1 gX_1 rfl 0 (Nat.le_of_ble_eq_true rfl) (hgt _ wd_0_93) (fun _ h9 => h9) rfl (by decide +kernel) rfl rfl (Nat.le_of_ble_eq_true rfl) (sX_1_0 _) dX4_clear_2 (fun M1 eM1 H locs hP hD hS => ?_)
  have h := lt_o eM1 h
  refine lv_aload_n hx hb dX4_clear_5 rfl (lv_at hl 0 rfl) ?_
  refine lv_iconst (v := 0) hx hb dX4_clear_6 (by decide) ?_
  refine pm_put (w := (wX cI cZ cC cJ cA P)) (D := D) (ci := 4) (x := 0) (ty := .int) (C := RX4) (T := TX4) (N := 15) hx hb hgt iwX4 tyX4 tyX4_ok nmX4 hown hK hP hD hS 1 gX_1 rfl 6 (Nat.le_of_ble_eq_true rfl) (hgt _ wd_0_115) (fun _ h9 => h9) rfl (by decide +kernel) rfl rfl (Nat.le_of_ble_eq_true rfl) (sX_1_6 _) dX4_clear_7 (fun M2 eM2 H locs hP hD hS => ?_)
  have h := lt_o eM2 h
  refine lv_aload_n hx hb dX4_clear_10 rfl (lv_at hl 0 rfl) ?_
  refine va_get (D := D) (ci := 4) (v := .ref (P 14)) (C := RX4) (T := TX4) (N := 15) hx hb hgt iwX4 hown hK hP 1 gX_1 rfl 14 (Nat.le_of_ble_eq_true rfl) (hgt _ wd_0_146) (fun _ h9 => h9) rfl dX4_clear_11 ?_
  refine lv_iconst (v := 0) hx hb dX4_clear_14 (by decide) ?_
  refine pm_put (w := (wX cI cZ cC cJ cA P)) (D := D) (ci := 11) (x := 0) (ty := .int) (C := RX11) (T := TX11) (N := 7) hx hb hgt iwX11 tyX11 tyX11_ok nmX11 hown hK hP hD hS 14 gX_14 rfl 0 (Nat.le_of_ble_eq_true rfl) (hgt _ wd_0_50) (fun _ h9 => h9) rfl (by decide +kernel) rfl rfl (Nat.le_of_ble_eq_true rfl) (sX_14_0 _) dX4_clear_15 (fun M3 eM3 H locs hP hD hS => ?_)
  have h := lt_o eM3 h
  exact rt_v (w := (wX cI cZ cC cJ cA P)) (r := r') hx hb hr hlk hP hD hS h dX4_clear_18
set_option maxHeartbeats 4000000 in
set_option maxRecDepth 20000 in
theorem z_Draft_clear (l : Launch) (D : va_G) (cI cZ cC cJ cA : ClassId) (P : Nat → Nat) (s0 : State) (hAO : ∀ q, (aP P 77) q → s0.heap.size ≤ q) (M : Mm)  (M' : Mm) (r' : Int32) (h : q_Draft_clear M = some (M', r')) : Met l yX4_clear wsX4_clear ({ frames := 0, cells := 0, slots := 0, locals := 0 }) (va_Pc [.ref (P 1)] (gPre s0 D [(cI, .int), (cZ, .boolean), (cC, .char), (cJ, .long), (cA, .array .int)] (aP P 77) ((wX cI cZ cC cJ cA P) M))) (gQv D (aP P 77) ((wX cI cZ cC cJ cA P) M')) 0 0 (aP P 77) := by
  refine Met.ofW (cc := cX4_clear) (maxL := 1) (ret := none) (by decide) rfl ?_
  intro p e s m args below meth c s₁ B hml hv
  obtain ⟨rfl, hP, hK, hD, hO⟩ := hv
  have hx := B.exec
  have hb := B.bytes
  have hr := B.returns
  have hlk := B.notSynchronized
  have hgt := fun w (h : w ∈ GT) => atoms_spec (ws := wsX4_clear) B.pre w (List.mem_cons_of_mem _ h)
  have hown : s.vm.findClass RX4 = some m.cls := findClass_of_methodNamed B.named
  have hS : va_S (aP P 77) s.heap s.heap [] := va_S.rf
  have hl := lv_entry ([.ref (P 1)]) (n := 1) (Nat.le_of_ble_eq_true rfl)
  rw [lg_entry_eq]
  generalize (lg_sl ([.ref (P 1)]) ++ List.replicate (1 - (lg_sl ([.ref (P 1)])).length) Slot.unset).toArray = ls at hl ⊢
  have hl : lv_has ls 1 [(0, .ref (P 1))] := hl
  exact b_Draft_clear_0 hx hb hml hr hlk hgt hown hK hO hAO M s.heap [] ls hl hP hD hS h
def q_Reader_next  (M : Mm)  : Rs := if (M.1 21 2) ≤ (M.1 21 3) then (some (M, 0)) else (ix (M.1 21 3) 480 <| cz (M.1 22 ((M.1 21 3) : Int32).toNatClampNeg) (some (M, (M.1 22 ((M.1 21 3) : Int32).toNatClampNeg))))
set_option maxHeartbeats 4000000 in
set_option maxRecDepth 20000 in
theorem b_Reader_next_0 {p : Program} {l : Launch} {e : Env} {s s0 : State} {m : MethodId} {args : Array Value} {below : List Frame} {meth : Method} {c : Code} {D : va_G} {cI cZ cC cJ cA : ClassId} {P : Nat → Nat} {M' : Mm} {r' : Int32}  (hx : p.tables.exec = Jvm.exec) (hb : c.code = cX10_next) (hml : c.maxLocals = 1) (hr : meth.sig.returnType = (some .char)) (hlk : meth.locks = false) (hgt : ∀ w ∈ GT, w.before args s = true) (hown : s.vm.findClass RX10 = some m.cls) (hK : va_K D vwCl [(cI, .int), (cZ, .boolean), (cC, .char), (cJ, .long), (cA, .array .int)] s) (hO : Old s0 s) (hAO : ∀ q, (aP P 77) q → s0.heap.size ≤ q)  : ∀ (M : Mm)  (H : Heap) (locs : List Loc) (ls : Array Slot), lv_has ls 1 [(0, .ref (P 21))] → va_P D vwCl ((wX cI cZ cC cJ cA P) M) H → va_D (aP P 77) ((wX cI cZ cC cJ cA P) M) → va_S (aP P 77) s.heap H locs → q_Reader_next M = some (M', r') → W p l e ({ frames := 0, cells := 0, slots := 0, locals := 0 }) s m args below meth c H locs 0 0 (MQ below (gQi D (aP P 77) ((wX cI cZ cC cJ cA P) M') r') args s 0 0 (aP P 77)) (F0 m 0 ls []) := by
  intro M H locs ls hl hP hD hS h
  unfold q_Reader_next at h
  refine lv_aload_n hx hb dX10_next_0 rfl (lv_at hl 0 rfl) ?_
  refine va_get (D := D) (ci := 10) (v := .int (M.1 21 3)) (C := RX10) (T := TX10) (N := 4) hx hb hgt iwX10 hown hK hP 21 gX_21 rfl 3 (Nat.le_of_ble_eq_true rfl) (hgt _ wd_0_191) (fun _ h9 => h9) rfl dX10_next_1 ?_
  refine lv_aload_n hx hb dX10_next_4 rfl (lv_at hl 0 rfl) ?_
  refine va_get (D := D) (ci := 10) (v := .int (M.1 21 2)) (C := RX10) (T := TX10) (N := 4) hx hb hgt iwX10 hown hK hP 21 gX_21 rfl 2 (Nat.le_of_ble_eq_true rfl) (hgt _ wd_0_189) (fun _ h9 => h9) rfl dX10_next_5 ?_
  refine lv_icmp_ge hx hb dX10_next_8 (tgt := 23) rfl (fun hc => ?_) (fun hc => ?_)
  · have h := br_T hc h
    refine lv_iconst (v := 0) hx hb dX10_next_23 (by decide) ?_
    exact rt_z (w := (wX cI cZ cC cJ cA P)) hx hb hr hlk rfl hP hD hS h dX10_next_24
  · have h := br_F hc h
    refine lv_aload_n hx hb dX10_next_11 rfl (lv_at hl 0 rfl) ?_
    refine va_get (D := D) (ci := 10) (v := .ref (P 22)) (C := RX10) (T := TX10) (N := 4) hx hb hgt iwX10 hown hK hP 21 gX_21 rfl 1 (Nat.le_of_ble_eq_true rfl) (hgt _ wd_0_188) (fun _ h9 => h9) rfl dX10_next_12 ?_
    refine lv_aload_n hx hb dX10_next_15 rfl (lv_at hl 0 rfl) ?_
    refine va_get (D := D) (ci := 10) (v := .int (M.1 21 3)) (C := RX10) (T := TX10) (N := 4) hx hb hgt iwX10 hown hK hP 21 gX_21 rfl 3 (Nat.le_of_ble_eq_true rfl) (hgt _ wd_0_191) (fun _ h9 => h9) rfl dX10_next_16 ?_
    refine va_cald hx hb hK hP 22 2 gX_22 rfl (ix_l h) dX10_next_19 ?_
    have h := ix_r h
    refine lv_goto hx hb dX10_next_20 (tgt := 24) rfl ?_
    exact rt_z (w := (wX cI cZ cC cJ cA P)) hx hb hr hlk (cz_l h) hP hD hS (cz_r h) dX10_next_24
set_option maxHeartbeats 4000000 in
set_option maxRecDepth 20000 in
theorem z_Reader_next (l : Launch) (D : va_G) (cI cZ cC cJ cA : ClassId) (P : Nat → Nat) (s0 : State) (hAO : ∀ q, (aP P 77) q → s0.heap.size ≤ q) (M : Mm)  (M' : Mm) (r' : Int32) (h : q_Reader_next M = some (M', r')) : Met l yX10_next wsX10_next ({ frames := 0, cells := 0, slots := 0, locals := 0 }) (va_Pc [.ref (P 21)] (gPre s0 D [(cI, .int), (cZ, .boolean), (cC, .char), (cJ, .long), (cA, .array .int)] (aP P 77) ((wX cI cZ cC cJ cA P) M))) (gQi D (aP P 77) ((wX cI cZ cC cJ cA P) M') r') 0 0 (aP P 77) := by
  refine Met.ofW (cc := cX10_next) (maxL := 1) (ret := (some .char)) (by decide) rfl ?_
  intro p e s m args below meth c s₁ B hml hv
  obtain ⟨rfl, hP, hK, hD, hO⟩ := hv
  have hx := B.exec
  have hb := B.bytes
  have hr := B.returns
  have hlk := B.notSynchronized
  have hgt := fun w (h : w ∈ GT) => atoms_spec (ws := wsX10_next) B.pre w (List.mem_cons_of_mem _ h)
  have hown : s.vm.findClass RX10 = some m.cls := findClass_of_methodNamed B.named
  have hS : va_S (aP P 77) s.heap s.heap [] := va_S.rf
  have hl := lv_entry ([.ref (P 21)]) (n := 1) (Nat.le_of_ble_eq_true rfl)
  rw [lg_entry_eq]
  generalize (lg_sl ([.ref (P 21)]) ++ List.replicate (1 - (lg_sl ([.ref (P 21)])).length) Slot.unset).toArray = ls at hl ⊢
  have hl : lv_has ls 1 [(0, .ref (P 21))] := hl
  exact b_Reader_next_0 hx hb hml hr hlk hgt hown hK hO hAO M s.heap [] ls hl hP hD hS h
def q_Reader_take  (M : Mm) (a1 : Int32) : Rs := cal (q_Reader_next M) fun M1 r2 => if r2 = a1 then (lt' (stI M1 21 (upd (M1.1 21) 3 ((M1.1 21 3) + 1))) fun M3 => some (M3, 1)) else (some (M1, 0))
set_option maxHeartbeats 4000000 in
set_option maxRecDepth 20000 in
theorem b_Reader_take_0 {p : Program} {l : Launch} {e : Env} {s s0 : State} {m : MethodId} {args : Array Value} {below : List Frame} {meth : Method} {c : Code} {D : va_G} {cI cZ cC cJ cA : ClassId} {P : Nat → Nat} {M' : Mm} {r' : Int32}  (hx : p.tables.exec = Jvm.exec) (hb : c.code = cX10_take) (hml : c.maxLocals = 2) (hr : meth.sig.returnType = (some .boolean)) (hlk : meth.locks = false) (hgt : ∀ w ∈ GT, w.before args s = true) (hown : s.vm.findClass RX10 = some m.cls) (hK : va_K D vwCl [(cI, .int), (cZ, .boolean), (cC, .char), (cJ, .long), (cA, .array .int)] s) (hO : Old s0 s) (hAO : ∀ q, (aP P 77) q → s0.heap.size ≤ q)  : ∀ (M : Mm) (a1 : Int32) (H : Heap) (locs : List Loc) (ls : Array Slot), lv_has ls 2 [(0, .ref (P 21)), (1, .int a1)] → va_P D vwCl ((wX cI cZ cC cJ cA P) M) H → va_D (aP P 77) ((wX cI cZ cC cJ cA P) M) → va_S (aP P 77) s.heap H locs → q_Reader_take M a1 = some (M', r') → W p l e ({ frames := 1, cells := 0, slots := 0, locals := 20 }) s m args below meth c H locs 0 0 (MQ below (gQi D (aP P 77) ((wX cI cZ cC cJ cA P) M') r') args s 0 0 (aP P 77)) (F0 m 0 ls []) := by
  intro M a1 H locs ls hl hP hD hS h
  unfold q_Reader_take at h
  refine lv_aload_n hx hb dX10_take_0 rfl (lv_at hl 0 rfl) ?_
  obtain ⟨M1, r2, hq, h⟩ := cal_o h
  refine cx_i (va_runV (As := []) (rest := []) ⟨hx, hb, hml, hown, hgt⟩ (z_Reader_next l D cI cZ cC cJ cA P s0 hAO M M1 r2 hq) (cwV 0 hgt (gV wd_3_150 wd_3_152 sl__ChipMap_Reader____ChipMap_Reader___next_____C_____ChipMap_Reader___next_____C__ wd_0_4 wd_3_153) rfl rfl rfl (by decide +kernel) ⟨Nat.le_of_ble_eq_true rfl, Nat.le_of_ble_eq_true rfl⟩) (prV hP hK hD hO hAO hS (va_recv hK hP (ci := 10) (q0 := 21) rfl gX_21)) rfl rfl hl.1 rfl (lv_room (Nat.le_of_ble_eq_true rfl)) dX10_take_1 ⟨Nat.le_of_ble_eq_true rfl, Nat.le_of_ble_eq_true rfl⟩) hS (fun H locs hP hD hS => ?_)
  refine lv_iload_n hx hb dX10_take_4 rfl (lv_at hl 1 rfl) ?_
  refine lv_icmp_eq hx hb dX10_take_5 (tgt := 10) rfl (fun hc => ?_) (fun hc => ?_)
  · have h := br_T hc h
    refine lv_aload_n hx hb dX10_take_10 rfl (lv_at hl 0 rfl) ?_
    refine lv_dup hx hb dX10_take_11 rfl ?_
    refine va_get (D := D) (ci := 10) (v := .int (M1.1 21 3)) (C := RX10) (T := TX10) (N := 4) hx hb hgt iwX10 hown hK hP 21 gX_21 rfl 3 (Nat.le_of_ble_eq_true rfl) (hgt _ wd_0_191) (fun _ h9 => h9) rfl dX10_take_12 ?_
    refine lv_iconst (v := 1) hx hb dX10_take_15 (by decide) ?_
    refine lv_iadd hx hb dX10_take_16 ?_
    refine pm_put (w := (wX cI cZ cC cJ cA P)) (D := D) (ci := 10) (x := ((M1.1 21 3) + 1)) (ty := .int) (C := RX10) (T := TX10) (N := 4) hx hb hgt iwX10 tyX10 tyX10_ok nmX10 hown hK hP hD hS 21 gX_21 rfl 3 (Nat.le_of_ble_eq_true rfl) (hgt _ wd_0_191) (fun _ h9 => h9) rfl (by decide +kernel) rfl rfl (Nat.le_of_ble_eq_true rfl) (sX_21_3 _) dX10_take_17 (fun M3 eM3 H locs hP hD hS => ?_)
    have h := lt_o eM3 h
    refine lv_iconst (v := 1) hx hb dX10_take_20 (by decide) ?_
    exact rt_z (w := (wX cI cZ cC cJ cA P)) hx hb hr hlk rfl hP hD hS h dX10_take_21
  · have h := br_F hc h
    refine lv_iconst (v := 0) hx hb dX10_take_8 (by decide) ?_
    exact rt_z (w := (wX cI cZ cC cJ cA P)) hx hb hr hlk rfl hP hD hS h dX10_take_9
set_option maxHeartbeats 4000000 in
set_option maxRecDepth 20000 in
theorem z_Reader_take (l : Launch) (D : va_G) (cI cZ cC cJ cA : ClassId) (P : Nat → Nat) (s0 : State) (hAO : ∀ q, (aP P 77) q → s0.heap.size ≤ q) (M : Mm) (a1 : Int32) (M' : Mm) (r' : Int32) (h : q_Reader_take M a1 = some (M', r')) : Met l yX10_take wsX10_take ({ frames := 1, cells := 0, slots := 0, locals := 20 }) (va_Pc [.ref (P 21), .int a1] (gPre s0 D [(cI, .int), (cZ, .boolean), (cC, .char), (cJ, .long), (cA, .array .int)] (aP P 77) ((wX cI cZ cC cJ cA P) M))) (gQi D (aP P 77) ((wX cI cZ cC cJ cA P) M') r') 0 0 (aP P 77) := by
  refine Met.ofW (cc := cX10_take) (maxL := 2) (ret := (some .boolean)) (by decide) rfl ?_
  intro p e s m args below meth c s₁ B hml hv
  obtain ⟨rfl, hP, hK, hD, hO⟩ := hv
  have hx := B.exec
  have hb := B.bytes
  have hr := B.returns
  have hlk := B.notSynchronized
  have hgt := fun w (h : w ∈ GT) => atoms_spec (ws := wsX10_take) B.pre w (List.mem_cons_of_mem _ h)
  have hown : s.vm.findClass RX10 = some m.cls := findClass_of_methodNamed B.named
  have hS : va_S (aP P 77) s.heap s.heap [] := va_S.rf
  have hl := lv_entry ([.ref (P 21), .int a1]) (n := 2) (Nat.le_of_ble_eq_true rfl)
  rw [lg_entry_eq]
  generalize (lg_sl ([.ref (P 21), .int a1]) ++ List.replicate (2 - (lg_sl ([.ref (P 21), .int a1])).length) Slot.unset).toArray = ls at hl ⊢
  have hl : lv_has ls 2 [(0, .ref (P 21)), (1, .int a1)] := hl
  exact b_Reader_take_0 hx hb hml hr hlk hgt hown hK hO hAO M a1 s.heap [] ls hl hP hD hS h
def q_Reader_digitOf_17  (M : Mm) (v0 : Int32) : Rs := if v0 < 97 then (some (M, (-1))) else (if 102 < v0 then (some (M, (-1))) else (some (M, ((v0 - 97) + 10))))
def q_Reader_digitOf  (M : Mm) (a0 : Int32) : Rs := if a0 < 48 then (q_Reader_digitOf_17 M a0) else (if 57 < a0 then (q_Reader_digitOf_17 M a0) else (some (M, (a0 - 48))))
set_option maxHeartbeats 4000000 in
set_option maxRecDepth 20000 in
theorem b_Reader_digitOf_17 {p : Program} {l : Launch} {e : Env} {s s0 : State} {m : MethodId} {args : Array Value} {below : List Frame} {meth : Method} {c : Code} {D : va_G} {cI cZ cC cJ cA : ClassId} {P : Nat → Nat} {M' : Mm} {r' : Int32}  (hx : p.tables.exec = Jvm.exec) (hb : c.code = cX10_digitOf) (hml : c.maxLocals = 1) (hr : meth.sig.returnType = (some .int)) (hlk : meth.locks = false) (hgt : ∀ w ∈ GT, w.before args s = true) (hown : s.vm.findClass RX10 = some m.cls) (hK : va_K D vwCl [(cI, .int), (cZ, .boolean), (cC, .char), (cJ, .long), (cA, .array .int)] s) (hO : Old s0 s) (hAO : ∀ q, (aP P 77) q → s0.heap.size ≤ q)  : ∀ (M : Mm) (v0 : Int32) (H : Heap) (locs : List Loc) (ls : Array Slot), lv_has ls 1 [(0, .int v0)] → va_P D vwCl ((wX cI cZ cC cJ cA P) M) H → va_D (aP P 77) ((wX cI cZ cC cJ cA P) M) → va_S (aP P 77) s.heap H locs → q_Reader_digitOf_17 M v0 = some (M', r') → W p l e ({ frames := 0, cells := 0, slots := 0, locals := 0 }) s m args below meth c H locs 0 0 (MQ below (gQi D (aP P 77) ((wX cI cZ cC cJ cA P) M') r') args s 0 0 (aP P 77)) (F0 m 17 ls []) := by
  intro M v0 H locs ls hl hP hD hS h
  unfold q_Reader_digitOf_17 at h
  refine lv_iload_n hx hb dX10_digitOf_17 rfl (lv_at hl 0 rfl) ?_
  refine lv_bipush (v := 97) hx hb dX10_digitOf_18 (by decide) ?_
  refine lv_icmp_lt hx hb dX10_digitOf_20 (tgt := 39) rfl (fun hc => ?_) (fun hc => ?_)
  · have h := br_T hc h
    refine lv_iconst (v := (-1)) hx hb dX10_digitOf_39 (by decide) ?_
    exact rt_i (w := (wX cI cZ cC cJ cA P)) hx hb hr hlk hP hD hS h dX10_digitOf_40
  · have h := br_F hc h
    refine lv_iload_n hx hb dX10_digitOf_23 rfl (lv_at hl 0 rfl) ?_
    refine lv_bipush (v := 102) hx hb dX10_digitOf_24 (by decide) ?_
    refine lv_icmp_gt hx hb dX10_digitOf_26 (tgt := 39) rfl (fun hc => ?_) (fun hc => ?_)
    · have h := br_T hc h
      refine lv_iconst (v := (-1)) hx hb dX10_digitOf_39 (by decide) ?_
      exact rt_i (w := (wX cI cZ cC cJ cA P)) hx hb hr hlk hP hD hS h dX10_digitOf_40
    · have h := br_F hc h
      refine lv_iload_n hx hb dX10_digitOf_29 rfl (lv_at hl 0 rfl) ?_
      refine lv_bipush (v := 97) hx hb dX10_digitOf_30 (by decide) ?_
      refine lv_isub hx hb dX10_digitOf_32 ?_
      refine lv_bipush (v := 10) hx hb dX10_digitOf_33 (by decide) ?_
      refine lv_iadd hx hb dX10_digitOf_35 ?_
      refine lv_goto hx hb dX10_digitOf_36 (tgt := 40) rfl ?_
      exact rt_i (w := (wX cI cZ cC cJ cA P)) hx hb hr hlk hP hD hS h dX10_digitOf_40
set_option maxHeartbeats 4000000 in
set_option maxRecDepth 20000 in
theorem b_Reader_digitOf_0 {p : Program} {l : Launch} {e : Env} {s s0 : State} {m : MethodId} {args : Array Value} {below : List Frame} {meth : Method} {c : Code} {D : va_G} {cI cZ cC cJ cA : ClassId} {P : Nat → Nat} {M' : Mm} {r' : Int32}  (hx : p.tables.exec = Jvm.exec) (hb : c.code = cX10_digitOf) (hml : c.maxLocals = 1) (hr : meth.sig.returnType = (some .int)) (hlk : meth.locks = false) (hgt : ∀ w ∈ GT, w.before args s = true) (hown : s.vm.findClass RX10 = some m.cls) (hK : va_K D vwCl [(cI, .int), (cZ, .boolean), (cC, .char), (cJ, .long), (cA, .array .int)] s) (hO : Old s0 s) (hAO : ∀ q, (aP P 77) q → s0.heap.size ≤ q)  : ∀ (M : Mm) (a0 : Int32) (H : Heap) (locs : List Loc) (ls : Array Slot), lv_has ls 1 [(0, .int a0)] → va_P D vwCl ((wX cI cZ cC cJ cA P) M) H → va_D (aP P 77) ((wX cI cZ cC cJ cA P) M) → va_S (aP P 77) s.heap H locs → q_Reader_digitOf M a0 = some (M', r') → W p l e ({ frames := 0, cells := 0, slots := 0, locals := 0 }) s m args below meth c H locs 0 0 (MQ below (gQi D (aP P 77) ((wX cI cZ cC cJ cA P) M') r') args s 0 0 (aP P 77)) (F0 m 0 ls []) := by
  intro M a0 H locs ls hl hP hD hS h
  unfold q_Reader_digitOf at h
  refine lv_iload_n hx hb dX10_digitOf_0 rfl (lv_at hl 0 rfl) ?_
  refine lv_bipush (v := 48) hx hb dX10_digitOf_1 (by decide) ?_
  refine lv_icmp_lt hx hb dX10_digitOf_3 (tgt := 17) rfl (fun hc => ?_) (fun hc => ?_)
  · have h := br_T hc h
    have hl := lv_sub hl [0] (l' := [(0, .int a0)]) rfl
    exact b_Reader_digitOf_17 hx hb hml hr hlk hgt hown hK hO hAO M a0 H _ ls hl hP hD hS h
  · have h := br_F hc h
    refine lv_iload_n hx hb dX10_digitOf_6 rfl (lv_at hl 0 rfl) ?_
    refine lv_bipush (v := 57) hx hb dX10_digitOf_7 (by decide) ?_
    refine lv_icmp_gt hx hb dX10_digitOf_9 (tgt := 17) rfl (fun hc => ?_) (fun hc => ?_)
    · have h := br_T hc h
      have hl := lv_sub hl [0] (l' := [(0, .int a0)]) rfl
      exact b_Reader_digitOf_17 hx hb hml hr hlk hgt hown hK hO hAO M a0 H _ ls hl hP hD hS h
    · have h := br_F hc h
      refine lv_iload_n hx hb dX10_digitOf_12 rfl (lv_at hl 0 rfl) ?_
      refine lv_bipush (v := 48) hx hb dX10_digitOf_13 (by decide) ?_
      refine lv_isub hx hb dX10_digitOf_15 ?_
      exact rt_i (w := (wX cI cZ cC cJ cA P)) hx hb hr hlk hP hD hS h dX10_digitOf_16
set_option maxHeartbeats 4000000 in
set_option maxRecDepth 20000 in
theorem z_Reader_digitOf (l : Launch) (D : va_G) (cI cZ cC cJ cA : ClassId) (P : Nat → Nat) (s0 : State) (hAO : ∀ q, (aP P 77) q → s0.heap.size ≤ q) (M : Mm) (a0 : Int32) (M' : Mm) (r' : Int32) (h : q_Reader_digitOf M a0 = some (M', r')) : Met l yX10_digitOf wsX10_digitOf ({ frames := 0, cells := 0, slots := 0, locals := 0 }) (va_Pc [.int a0] (gPre s0 D [(cI, .int), (cZ, .boolean), (cC, .char), (cJ, .long), (cA, .array .int)] (aP P 77) ((wX cI cZ cC cJ cA P) M))) (gQi D (aP P 77) ((wX cI cZ cC cJ cA P) M') r') 0 0 (aP P 77) := by
  refine Met.ofW (cc := cX10_digitOf) (maxL := 1) (ret := (some .int)) (by decide) rfl ?_
  intro p e s m args below meth c s₁ B hml hv
  obtain ⟨rfl, hP, hK, hD, hO⟩ := hv
  have hx := B.exec
  have hb := B.bytes
  have hr := B.returns
  have hlk := B.notSynchronized
  have hgt := fun w (h : w ∈ GT) => atoms_spec (ws := wsX10_digitOf) B.pre w (List.mem_cons_of_mem _ h)
  have hown : s.vm.findClass RX10 = some m.cls := findClass_of_methodNamed B.named
  have hS : va_S (aP P 77) s.heap s.heap [] := va_S.rf
  have hl := lv_entry ([.int a0]) (n := 1) (Nat.le_of_ble_eq_true rfl)
  rw [lg_entry_eq]
  generalize (lg_sl ([.int a0]) ++ List.replicate (1 - (lg_sl ([.int a0])).length) Slot.unset).toArray = ls at hl ⊢
  have hl : lv_has ls 1 [(0, .int a0)] := hl
  exact b_Reader_digitOf_0 hx hb hml hr hlk hgt hown hK hO hAO M a0 s.heap [] ls hl hP hD hS h
def q_Reader_number_67  (M : Mm) (v2 : Int32) (v4 : Int32) (v5 : Int32) : Rs := if v2 ≤ v5 then (some (M, v4)) else (some (M, (-1)))
def q_Reader_number_9  : Nat → Mm → Int32 → Int32 → Int32 → Int32 → Int32 → Int32 → Rs
  | 0, _, _, _, _, _, _, _ => none
  | n' + 1, M, v1, v2, v3, v4, v5, v6 => if v3 ≤ v6 then (q_Reader_number_67 M v2 v4 v5) else (cal (q_Reader_next M) fun M1 r2 => cal (q_Reader_digitOf M1 r2) fun M3 r4 => if r4 = (-1) then (q_Reader_number_67 M3 v2 v4 v5) else (if r4 < v1 then (lt' ((v4 * v1) + r4) fun x5 => lt' (stI M3 21 (upd (M3.1 21) 3 ((M3.1 21 3) + 1))) fun M6 => q_Reader_number_9 n' M6 v1 v2 v3 x5 (v5 + 1) (v6 + 1)) else (q_Reader_number_67 M3 v2 v4 v5)))
def q_Reader_number  (M : Mm) (a1 : Int32) (a2 : Int32) (a3 : Int32) : Rs := q_Reader_number_9 4000 M a1 a2 a3 0 0 0
set_option maxHeartbeats 4000000 in
set_option maxRecDepth 20000 in
theorem b_Reader_number_67 {p : Program} {l : Launch} {e : Env} {s s0 : State} {m : MethodId} {args : Array Value} {below : List Frame} {meth : Method} {c : Code} {D : va_G} {cI cZ cC cJ cA : ClassId} {P : Nat → Nat} {M' : Mm} {r' : Int32}  (hx : p.tables.exec = Jvm.exec) (hb : c.code = cX10_number) (hml : c.maxLocals = 8) (hr : meth.sig.returnType = (some .int)) (hlk : meth.locks = false) (hgt : ∀ w ∈ GT, w.before args s = true) (hown : s.vm.findClass RX10 = some m.cls) (hK : va_K D vwCl [(cI, .int), (cZ, .boolean), (cC, .char), (cJ, .long), (cA, .array .int)] s) (hO : Old s0 s) (hAO : ∀ q, (aP P 77) q → s0.heap.size ≤ q)  : ∀ (M : Mm) (v2 : Int32) (v4 : Int32) (v5 : Int32) (H : Heap) (locs : List Loc) (ls : Array Slot), lv_has ls 8 [(2, .int v2), (4, .int v4), (5, .int v5)] → va_P D vwCl ((wX cI cZ cC cJ cA P) M) H → va_D (aP P 77) ((wX cI cZ cC cJ cA P) M) → va_S (aP P 77) s.heap H locs → q_Reader_number_67 M v2 v4 v5 = some (M', r') → W p l e ({ frames := 1, cells := 0, slots := 0, locals := 20 }) s m args below meth c H locs 0 0 (MQ below (gQi D (aP P 77) ((wX cI cZ cC cJ cA P) M') r') args s 0 0 (aP P 77)) (F0 m 67 ls []) := by
  intro M v2 v4 v5 H locs ls hl hP hD hS h
  unfold q_Reader_number_67 at h
  refine lv_iload hx hb dX10_number_67 (lv_at hl 2 rfl) ?_
  refine lv_iload_n hx hb dX10_number_69 rfl (lv_at hl 0 rfl) ?_
  refine lv_icmp_ge hx hb dX10_number_70 (tgt := 77) rfl (fun hc => ?_) (fun hc => ?_)
  · have h := br_T hc h
    refine lv_iload hx hb dX10_number_77 (lv_at hl 1 rfl) ?_
    exact rt_i (w := (wX cI cZ cC cJ cA P)) hx hb hr hlk hP hD hS h dX10_number_79
  · have h := br_F hc h
    refine lv_iconst (v := (-1)) hx hb dX10_number_73 (by decide) ?_
    refine lv_goto hx hb dX10_number_74 (tgt := 79) rfl ?_
    exact rt_i (w := (wX cI cZ cC cJ cA P)) hx hb hr hlk hP hD hS h dX10_number_79
set_option maxHeartbeats 4000000 in
set_option maxRecDepth 20000 in
theorem b_Reader_number_9 {p : Program} {l : Launch} {e : Env} {s s0 : State} {m : MethodId} {args : Array Value} {below : List Frame} {meth : Method} {c : Code} {D : va_G} {cI cZ cC cJ cA : ClassId} {P : Nat → Nat} {M' : Mm} {r' : Int32}  (hx : p.tables.exec = Jvm.exec) (hb : c.code = cX10_number) (hml : c.maxLocals = 8) (hr : meth.sig.returnType = (some .int)) (hlk : meth.locks = false) (hgt : ∀ w ∈ GT, w.before args s = true) (hown : s.vm.findClass RX10 = some m.cls) (hK : va_K D vwCl [(cI, .int), (cZ, .boolean), (cC, .char), (cJ, .long), (cA, .array .int)] s) (hO : Old s0 s) (hAO : ∀ q, (aP P 77) q → s0.heap.size ≤ q)  : ∀ (n' : Nat) (M : Mm) (v1 : Int32) (v2 : Int32) (v3 : Int32) (v4 : Int32) (v5 : Int32) (v6 : Int32) (H : Heap) (locs : List Loc) (ls : Array Slot), lv_has ls 8 [(0, .ref (P 21)), (1, .int v1), (2, .int v2), (3, .int v3), (4, .int v4), (5, .int v5), (6, .int v6)] → va_P D vwCl ((wX cI cZ cC cJ cA P) M) H → va_D (aP P 77) ((wX cI cZ cC cJ cA P) M) → va_S (aP P 77) s.heap H locs → q_Reader_number_9 n' M v1 v2 v3 v4 v5 v6 = some (M', r') → W p l e ({ frames := 1, cells := 0, slots := 0, locals := 20 }) s m args below meth c H locs 0 0 (MQ below (gQi D (aP P 77) ((wX cI cZ cC cJ cA P) M') r') args s 0 0 (aP P 77)) (F0 m 9 ls []) := by
  intro n'
  induction n' with
  | zero => exact fun _ _ _ _ _ _ _ _ _ _ _ _ _ _ h => (rs_n h).elim
  | succ n' ih =>
    intro M v1 v2 v3 v4 v5 v6 H locs ls hl hP hD hS h
    rw [q_Reader_number_9] at h
    refine lv_iload hx hb dX10_number_9 (lv_at hl 6 rfl) ?_
    refine lv_iload_n hx hb dX10_number_11 rfl (lv_at hl 3 rfl) ?_
    refine lv_icmp_ge hx hb dX10_number_12 (tgt := 67) rfl (fun hc => ?_) (fun hc => ?_)
    · have h := br_T hc h
      have hl := lv_sub hl [2, 4, 5] (l' := [(2, .int v2), (4, .int v4), (5, .int v5)]) rfl
      exact b_Reader_number_67 hx hb hml hr hlk hgt hown hK hO hAO M v2 v4 v5 H _ ls hl hP hD hS h
    · have h := br_F hc h
      refine lv_aload_n hx hb dX10_number_15 rfl (lv_at hl 0 rfl) ?_
      obtain ⟨M1, r2, hq, h⟩ := cal_o h
      refine cx_i (va_runV (As := []) (rest := []) ⟨hx, hb, hml, hown, hgt⟩ (z_Reader_next l D cI cZ cC cJ cA P s0 hAO M M1 r2 hq) (cwV 0 hgt (gV wd_3_150 wd_3_152 sl__ChipMap_Reader____ChipMap_Reader___next_____C_____ChipMap_Reader___next_____C__ wd_0_4 wd_3_153) rfl rfl rfl (by decide +kernel) ⟨Nat.le_of_ble_eq_true rfl, Nat.le_of_ble_eq_true rfl⟩) (prV hP hK hD hO hAO hS (va_recv hK hP (ci := 10) (q0 := 21) rfl gX_21)) rfl rfl hl.1 rfl (lv_room (Nat.le_of_ble_eq_true rfl)) dX10_number_16 ⟨Nat.le_of_ble_eq_true rfl, Nat.le_of_ble_eq_true rfl⟩) hS (fun H locs hP hD hS => ?_)
      obtain ⟨M3, r4, hq, h⟩ := cal_o h
      refine cx_i (va_runS (As := [.int r2]) (rest := []) ⟨hx, hb, hml, hown, hgt⟩ (z_Reader_digitOf l D cI cZ cC cJ cA P s0 hAO M1 r2 M3 r4 hq) (va_cwS 1 hgt (gS wd_3_166 wd_3_167 wd_0_4 wd_3_168) rfl rfl rfl (by decide +kernel) ⟨Nat.le_of_ble_eq_true rfl, Nat.le_of_ble_eq_true rfl⟩) (prS hP hK hD hO hAO hS) rfl rfl hl.1 rfl (lv_room (Nat.le_of_ble_eq_true rfl)) dX10_number_19 ⟨Nat.le_of_ble_eq_true rfl, Nat.le_of_ble_eq_true rfl⟩) hS (fun H locs hP hD hS => ?_)
      refine lv_istore hx hb dX10_number_22 hl (Nat.le_of_ble_eq_true rfl) (lv' := [(7, .int r4), (0, .ref (P 21)), (1, .int v1), (2, .int v2), (3, .int v3), (4, .int v4), (5, .int v5), (6, .int v6)]) rfl (fun ls hl => ?_)
      refine lv_iload hx hb dX10_number_24 (lv_at hl 0 rfl) ?_
      refine lv_iconst (v := (-1)) hx hb dX10_number_26 (by decide) ?_
      refine lv_icmp_eq hx hb dX10_number_27 (tgt := 67) rfl (fun hc => ?_) (fun hc => ?_)
      · have h := br_T hc h
        have hl := lv_sub hl [3, 5, 6] (l' := [(2, .int v2), (4, .int v4), (5, .int v5)]) rfl
        exact b_Reader_number_67 hx hb hml hr hlk hgt hown hK hO hAO M3 v2 v4 v5 H _ ls hl hP hD hS h
      · have h := br_F hc h
        refine lv_iload hx hb dX10_number_30 (lv_at hl 0 rfl) ?_
        refine lv_iload_n hx hb dX10_number_32 rfl (lv_at hl 2 rfl) ?_
        refine lv_icmp_lt hx hb dX10_number_33 (tgt := 39) rfl (fun hc => ?_) (fun hc => ?_)
        · have h := br_T hc h
          refine lv_iload hx hb dX10_number_39 (lv_at hl 5 rfl) ?_
          refine lv_iload_n hx hb dX10_number_41 rfl (lv_at hl 2 rfl) ?_
          refine lv_imul hx hb dX10_number_42 ?_
          refine lv_iload hx hb dX10_number_43 (lv_at hl 0 rfl) ?_
          refine lv_iadd hx hb dX10_number_45 ?_
          refine lv_topi (fun x5 ex5 => ?_)
          have h := lt_o ex5 h
          refine lv_istore hx hb dX10_number_46 hl (Nat.le_of_ble_eq_true rfl) (lv' := [(4, .int x5), (7, .int r4), (0, .ref (P 21)), (1, .int v1), (2, .int v2), (3, .int v3), (5, .int v5), (6, .int v6)]) rfl (fun ls hl => ?_)
          refine lv_iinc (v := (v5 + 1)) hx hb dX10_number_48 hl (k := 6) rfl rfl (Nat.le_of_ble_eq_true rfl) (lv' := [(5, .int (v5 + 1)), (4, .int x5), (7, .int r4), (0, .ref (P 21)), (1, .int v1), (2, .int v2), (3, .int v3), (6, .int v6)]) rfl (fun ls hl => ?_)
          refine lv_aload_n hx hb dX10_number_51 rfl (lv_at hl 3 rfl) ?_
          refine lv_dup hx hb dX10_number_52 rfl ?_
          refine va_get (D := D) (ci := 10) (v := .int (M3.1 21 3)) (C := RX10) (T := TX10) (N := 4) hx hb hgt iwX10 hown hK hP 21 gX_21 rfl 3 (Nat.le_of_ble_eq_true rfl) (hgt _ wd_0_191) (fun _ h9 => h9) rfl dX10_number_53 ?_
          refine lv_iconst (v := 1) hx hb dX10_number_56 (by decide) ?_
          refine lv_iadd hx hb dX10_number_57 ?_
          refine pm_put (w := (wX cI cZ cC cJ cA P)) (D := D) (ci := 10) (x := ((M3.1 21 3) + 1)) (ty := .int) (C := RX10) (T := TX10) (N := 4) hx hb hgt iwX10 tyX10 tyX10_ok nmX10 hown hK hP hD hS 21 gX_21 rfl 3 (Nat.le_of_ble_eq_true rfl) (hgt _ wd_0_191) (fun _ h9 => h9) rfl (by decide +kernel) rfl rfl (Nat.le_of_ble_eq_true rfl) (sX_21_3 _) dX10_number_58 (fun M6 eM6 H locs hP hD hS => ?_)
          have h := lt_o eM6 h
          refine lv_iinc (v := (v6 + 1)) hx hb dX10_number_61 hl (k := 7) rfl rfl (Nat.le_of_ble_eq_true rfl) (lv' := [(6, .int (v6 + 1)), (5, .int (v5 + 1)), (4, .int x5), (7, .int r4), (0, .ref (P 21)), (1, .int v1), (2, .int v2), (3, .int v3)]) rfl (fun ls hl => ?_)
          refine lv_goto hx hb dX10_number_64 (tgt := 9) rfl ?_
          have hl := lv_sub hl [4, 5, 6, 7, 2, 1, 0] (l' := [(0, .ref (P 21)), (1, .int v1), (2, .int v2), (3, .int v3), (4, .int x5), (5, .int (v5 + 1)), (6, .int (v6 + 1))]) rfl
          exact ih M6 v1 v2 v3 x5 (v5 + 1) (v6 + 1) H locs ls hl hP hD hS h
        · have h := br_F hc h
          refine lv_goto hx hb dX10_number_36 (tgt := 67) rfl ?_
          have hl := lv_sub hl [3, 5, 6] (l' := [(2, .int v2), (4, .int v4), (5, .int v5)]) rfl
          exact b_Reader_number_67 hx hb hml hr hlk hgt hown hK hO hAO M3 v2 v4 v5 H _ ls hl hP hD hS h
set_option maxHeartbeats 4000000 in
set_option maxRecDepth 20000 in
theorem b_Reader_number_0 {p : Program} {l : Launch} {e : Env} {s s0 : State} {m : MethodId} {args : Array Value} {below : List Frame} {meth : Method} {c : Code} {D : va_G} {cI cZ cC cJ cA : ClassId} {P : Nat → Nat} {M' : Mm} {r' : Int32}  (hx : p.tables.exec = Jvm.exec) (hb : c.code = cX10_number) (hml : c.maxLocals = 8) (hr : meth.sig.returnType = (some .int)) (hlk : meth.locks = false) (hgt : ∀ w ∈ GT, w.before args s = true) (hown : s.vm.findClass RX10 = some m.cls) (hK : va_K D vwCl [(cI, .int), (cZ, .boolean), (cC, .char), (cJ, .long), (cA, .array .int)] s) (hO : Old s0 s) (hAO : ∀ q, (aP P 77) q → s0.heap.size ≤ q)  : ∀ (M : Mm) (a1 : Int32) (a2 : Int32) (a3 : Int32) (H : Heap) (locs : List Loc) (ls : Array Slot), lv_has ls 8 [(0, .ref (P 21)), (1, .int a1), (2, .int a2), (3, .int a3)] → va_P D vwCl ((wX cI cZ cC cJ cA P) M) H → va_D (aP P 77) ((wX cI cZ cC cJ cA P) M) → va_S (aP P 77) s.heap H locs → q_Reader_number M a1 a2 a3 = some (M', r') → W p l e ({ frames := 1, cells := 0, slots := 0, locals := 20 }) s m args below meth c H locs 0 0 (MQ below (gQi D (aP P 77) ((wX cI cZ cC cJ cA P) M') r') args s 0 0 (aP P 77)) (F0 m 0 ls []) := by
  intro M a1 a2 a3 H locs ls hl hP hD hS h
  unfold q_Reader_number at h
  refine lv_iconst (v := 0) hx hb dX10_number_0 (by decide) ?_
  refine lv_istore hx hb dX10_number_1 hl (Nat.le_of_ble_eq_true rfl) (lv' := [(4, .int 0), (0, .ref (P 21)), (1, .int a1), (2, .int a2), (3, .int a3)]) rfl (fun ls hl => ?_)
  refine lv_iconst (v := 0) hx hb dX10_number_3 (by decide) ?_
  refine lv_istore hx hb dX10_number_4 hl (Nat.le_of_ble_eq_true rfl) (lv' := [(5, .int 0), (4, .int 0), (0, .ref (P 21)), (1, .int a1), (2, .int a2), (3, .int a3)]) rfl (fun ls hl => ?_)
  refine lv_iconst (v := 0) hx hb dX10_number_6 (by decide) ?_
  refine lv_istore hx hb dX10_number_7 hl (Nat.le_of_ble_eq_true rfl) (lv' := [(6, .int 0), (5, .int 0), (4, .int 0), (0, .ref (P 21)), (1, .int a1), (2, .int a2), (3, .int a3)]) rfl (fun ls hl => ?_)
  have hl := lv_sub hl [3, 4, 5, 6, 2, 1, 0] (l' := [(0, .ref (P 21)), (1, .int a1), (2, .int a2), (3, .int a3), (4, .int 0), (5, .int 0), (6, .int 0)]) rfl
  exact b_Reader_number_9 hx hb hml hr hlk hgt hown hK hO hAO 4000 M a1 a2 a3 0 0 0 H _ ls hl hP hD hS h
set_option maxHeartbeats 4000000 in
set_option maxRecDepth 20000 in
theorem z_Reader_number (l : Launch) (D : va_G) (cI cZ cC cJ cA : ClassId) (P : Nat → Nat) (s0 : State) (hAO : ∀ q, (aP P 77) q → s0.heap.size ≤ q) (M : Mm) (a1 : Int32) (a2 : Int32) (a3 : Int32) (M' : Mm) (r' : Int32) (h : q_Reader_number M a1 a2 a3 = some (M', r')) : Met l yX10_number wsX10_number ({ frames := 1, cells := 0, slots := 0, locals := 20 }) (va_Pc [.ref (P 21), .int a1, .int a2, .int a3] (gPre s0 D [(cI, .int), (cZ, .boolean), (cC, .char), (cJ, .long), (cA, .array .int)] (aP P 77) ((wX cI cZ cC cJ cA P) M))) (gQi D (aP P 77) ((wX cI cZ cC cJ cA P) M') r') 0 0 (aP P 77) := by
  refine Met.ofW (cc := cX10_number) (maxL := 8) (ret := (some .int)) (by decide) rfl ?_
  intro p e s m args below meth c s₁ B hml hv
  obtain ⟨rfl, hP, hK, hD, hO⟩ := hv
  have hx := B.exec
  have hb := B.bytes
  have hr := B.returns
  have hlk := B.notSynchronized
  have hgt := fun w (h : w ∈ GT) => atoms_spec (ws := wsX10_number) B.pre w (List.mem_cons_of_mem _ h)
  have hown : s.vm.findClass RX10 = some m.cls := findClass_of_methodNamed B.named
  have hS : va_S (aP P 77) s.heap s.heap [] := va_S.rf
  have hl := lv_entry ([.ref (P 21), .int a1, .int a2, .int a3]) (n := 8) (Nat.le_of_ble_eq_true rfl)
  rw [lg_entry_eq]
  generalize (lg_sl ([.ref (P 21), .int a1, .int a2, .int a3]) ++ List.replicate (8 - (lg_sl ([.ref (P 21), .int a1, .int a2, .int a3])).length) Slot.unset).toArray = ls at hl ⊢
  have hl : lv_has ls 8 [(0, .ref (P 21)), (1, .int a1), (2, .int a2), (3, .int a3)] := hl
  exact b_Reader_number_0 hx hb hml hr hlk hgt hown hK hO hAO M a1 a2 a3 s.heap [] ls hl hP hD hS h
def q_Reader_name  (M : Mm)  : Rs := cal (q_Reader_next M) fun M1 r2 => if r2 < 65 then (some (M1, (-1))) else (if r2 ≤ 90 then (lt' (stI M1 21 (upd (M1.1 21) 3 ((M1.1 21 3) + 1))) fun M3 => some (M3, (r2 - 65))) else (some (M1, (-1))))
set_option maxHeartbeats 4000000 in
set_option maxRecDepth 20000 in
theorem b_Reader_name_0 {p : Program} {l : Launch} {e : Env} {s s0 : State} {m : MethodId} {args : Array Value} {below : List Frame} {meth : Method} {c : Code} {D : va_G} {cI cZ cC cJ cA : ClassId} {P : Nat → Nat} {M' : Mm} {r' : Int32}  (hx : p.tables.exec = Jvm.exec) (hb : c.code = cX10_name) (hml : c.maxLocals = 2) (hr : meth.sig.returnType = (some .int)) (hlk : meth.locks = false) (hgt : ∀ w ∈ GT, w.before args s = true) (hown : s.vm.findClass RX10 = some m.cls) (hK : va_K D vwCl [(cI, .int), (cZ, .boolean), (cC, .char), (cJ, .long), (cA, .array .int)] s) (hO : Old s0 s) (hAO : ∀ q, (aP P 77) q → s0.heap.size ≤ q)  : ∀ (M : Mm)  (H : Heap) (locs : List Loc) (ls : Array Slot), lv_has ls 2 [(0, .ref (P 21))] → va_P D vwCl ((wX cI cZ cC cJ cA P) M) H → va_D (aP P 77) ((wX cI cZ cC cJ cA P) M) → va_S (aP P 77) s.heap H locs → q_Reader_name M = some (M', r') → W p l e ({ frames := 1, cells := 0, slots := 0, locals := 20 }) s m args below meth c H locs 0 0 (MQ below (gQi D (aP P 77) ((wX cI cZ cC cJ cA P) M') r') args s 0 0 (aP P 77)) (F0 m 0 ls []) := by
  intro M H locs ls hl hP hD hS h
  unfold q_Reader_name at h
  refine lv_aload_n hx hb dX10_name_0 rfl (lv_at hl 0 rfl) ?_
  obtain ⟨M1, r2, hq, h⟩ := cal_o h
  refine cx_i (va_runV (As := []) (rest := []) ⟨hx, hb, hml, hown, hgt⟩ (z_Reader_next l D cI cZ cC cJ cA P s0 hAO M M1 r2 hq) (cwV 0 hgt (gV wd_3_150 wd_3_152 sl__ChipMap_Reader____ChipMap_Reader___next_____C_____ChipMap_Reader___next_____C__ wd_0_4 wd_3_153) rfl rfl rfl (by decide +kernel) ⟨Nat.le_of_ble_eq_true rfl, Nat.le_of_ble_eq_true rfl⟩) (prV hP hK hD hO hAO hS (va_recv hK hP (ci := 10) (q0 := 21) rfl gX_21)) rfl rfl hl.1 rfl (lv_room (Nat.le_of_ble_eq_true rfl)) dX10_name_1 ⟨Nat.le_of_ble_eq_true rfl, Nat.le_of_ble_eq_true rfl⟩) hS (fun H locs hP hD hS => ?_)
  refine lv_istore_n hx hb dX10_name_4 rfl hl (Nat.le_of_ble_eq_true rfl) (lv' := [(1, .int r2), (0, .ref (P 21))]) rfl (fun ls hl => ?_)
  refine lv_iload_n hx hb dX10_name_5 rfl (lv_at hl 0 rfl) ?_
  refine lv_bipush (v := 65) hx hb dX10_name_6 (by decide) ?_
  refine lv_icmp_lt hx hb dX10_name_8 (tgt := 17) rfl (fun hc => ?_) (fun hc => ?_)
  · have h := br_T hc h
    refine lv_iconst (v := (-1)) hx hb dX10_name_17 (by decide) ?_
    exact rt_i (w := (wX cI cZ cC cJ cA P)) hx hb hr hlk hP hD hS h dX10_name_18
  · have h := br_F hc h
    refine lv_iload_n hx hb dX10_name_11 rfl (lv_at hl 0 rfl) ?_
    refine lv_bipush (v := 90) hx hb dX10_name_12 (by decide) ?_
    refine lv_icmp_le hx hb dX10_name_14 (tgt := 19) rfl (fun hc => ?_) (fun hc => ?_)
    · have h := br_T hc h
      refine lv_aload_n hx hb dX10_name_19 rfl (lv_at hl 1 rfl) ?_
      refine lv_dup hx hb dX10_name_20 rfl ?_
      refine va_get (D := D) (ci := 10) (v := .int (M1.1 21 3)) (C := RX10) (T := TX10) (N := 4) hx hb hgt iwX10 hown hK hP 21 gX_21 rfl 3 (Nat.le_of_ble_eq_true rfl) (hgt _ wd_0_191) (fun _ h9 => h9) rfl dX10_name_21 ?_
      refine lv_iconst (v := 1) hx hb dX10_name_24 (by decide) ?_
      refine lv_iadd hx hb dX10_name_25 ?_
      refine pm_put (w := (wX cI cZ cC cJ cA P)) (D := D) (ci := 10) (x := ((M1.1 21 3) + 1)) (ty := .int) (C := RX10) (T := TX10) (N := 4) hx hb hgt iwX10 tyX10 tyX10_ok nmX10 hown hK hP hD hS 21 gX_21 rfl 3 (Nat.le_of_ble_eq_true rfl) (hgt _ wd_0_191) (fun _ h9 => h9) rfl (by decide +kernel) rfl rfl (Nat.le_of_ble_eq_true rfl) (sX_21_3 _) dX10_name_26 (fun M3 eM3 H locs hP hD hS => ?_)
      have h := lt_o eM3 h
      refine lv_iload_n hx hb dX10_name_29 rfl (lv_at hl 0 rfl) ?_
      refine lv_bipush (v := 65) hx hb dX10_name_30 (by decide) ?_
      refine lv_isub hx hb dX10_name_32 ?_
      exact rt_i (w := (wX cI cZ cC cJ cA P)) hx hb hr hlk hP hD hS h dX10_name_33
    · have h := br_F hc h
      refine lv_iconst (v := (-1)) hx hb dX10_name_17 (by decide) ?_
      exact rt_i (w := (wX cI cZ cC cJ cA P)) hx hb hr hlk hP hD hS h dX10_name_18
set_option maxHeartbeats 4000000 in
set_option maxRecDepth 20000 in
theorem z_Reader_name (l : Launch) (D : va_G) (cI cZ cC cJ cA : ClassId) (P : Nat → Nat) (s0 : State) (hAO : ∀ q, (aP P 77) q → s0.heap.size ≤ q) (M : Mm)  (M' : Mm) (r' : Int32) (h : q_Reader_name M = some (M', r')) : Met l yX10_name wsX10_name ({ frames := 1, cells := 0, slots := 0, locals := 20 }) (va_Pc [.ref (P 21)] (gPre s0 D [(cI, .int), (cZ, .boolean), (cC, .char), (cJ, .long), (cA, .array .int)] (aP P 77) ((wX cI cZ cC cJ cA P) M))) (gQi D (aP P 77) ((wX cI cZ cC cJ cA P) M') r') 0 0 (aP P 77) := by
  refine Met.ofW (cc := cX10_name) (maxL := 2) (ret := (some .int)) (by decide) rfl ?_
  intro p e s m args below meth c s₁ B hml hv
  obtain ⟨rfl, hP, hK, hD, hO⟩ := hv
  have hx := B.exec
  have hb := B.bytes
  have hr := B.returns
  have hlk := B.notSynchronized
  have hgt := fun w (h : w ∈ GT) => atoms_spec (ws := wsX10_name) B.pre w (List.mem_cons_of_mem _ h)
  have hown : s.vm.findClass RX10 = some m.cls := findClass_of_methodNamed B.named
  have hS : va_S (aP P 77) s.heap s.heap [] := va_S.rf
  have hl := lv_entry ([.ref (P 21)]) (n := 2) (Nat.le_of_ble_eq_true rfl)
  rw [lg_entry_eq]
  generalize (lg_sl ([.ref (P 21)]) ++ List.replicate (2 - (lg_sl ([.ref (P 21)])).length) Slot.unset).toArray = ls at hl ⊢
  have hl : lv_has ls 2 [(0, .ref (P 21))] := hl
  exact b_Reader_name_0 hx hb hml hr hlk hgt hown hK hO hAO M s.heap [] ls hl hP hD hS h
end
section
def q_Reader_readBank  (M : Mm) (a1 : Int32) : Rs := ix a1 16 <| lt' (stI M 4 (upd (M.1 4) (a1 : Int32).toNatClampNeg (-1))) fun M1 => cal (q_Reader_next M1) fun M2 r3 => if r3 = 63 then (lt' (stI M2 21 (upd (M2.1 21) 3 ((M2.1 21 3) + 1))) fun M4 => ix a1 16 <| lt' (stI M4 5 (upd (M4.1 5) (a1 : Int32).toNatClampNeg (M4.1 21 3))) fun M5 => cal (q_Reader_name M5) fun M6 r7 => ix a1 16 <| lt' (stI M6 4 (upd (M6.1 4) (a1 : Int32).toNatClampNeg r7)) fun M8 => ix a1 16 <| if (M8.1 4 (a1 : Int32).toNatClampNeg) = (-1) then (some (M8, 0)) else (cal (q_Reader_take M8 61) fun M9 r10 => if r10 = 0 then (some (M9, 0)) else (cal (q_Reader_number M9 16 1 1) fun M11 r12 => ix a1 16 <| lt' (stI M11 6 (upd (M11.1 6) (a1 : Int32).toNatClampNeg r12)) fun M13 => ix a1 16 <| if (M13.1 6 (a1 : Int32).toNatClampNeg) = (-1) then (some (M13, 0)) else (some (M13, 1))))) else (some (M2, 1))
set_option maxHeartbeats 4000000 in
set_option maxRecDepth 20000 in
theorem b_Reader_readBank_0 {p : Program} {l : Launch} {e : Env} {s s0 : State} {m : MethodId} {args : Array Value} {below : List Frame} {meth : Method} {c : Code} {D : va_G} {cI cZ cC cJ cA : ClassId} {P : Nat → Nat} {M' : Mm} {r' : Int32}  (hx : p.tables.exec = Jvm.exec) (hb : c.code = cX10_readBank) (hml : c.maxLocals = 2) (hr : meth.sig.returnType = (some .boolean)) (hlk : meth.locks = false) (hgt : ∀ w ∈ GT, w.before args s = true) (hown : s.vm.findClass RX10 = some m.cls) (hK : va_K D vwCl [(cI, .int), (cZ, .boolean), (cC, .char), (cJ, .long), (cA, .array .int)] s) (hO : Old s0 s) (hAO : ∀ q, (aP P 77) q → s0.heap.size ≤ q)  : ∀ (M : Mm) (a1 : Int32) (H : Heap) (locs : List Loc) (ls : Array Slot), lv_has ls 2 [(0, .ref (P 21)), (1, .int a1)] → va_P D vwCl ((wX cI cZ cC cJ cA P) M) H → va_D (aP P 77) ((wX cI cZ cC cJ cA P) M) → va_S (aP P 77) s.heap H locs → q_Reader_readBank M a1 = some (M', r') → W p l e ({ frames := 2, cells := 0, slots := 0, locals := 47 }) s m args below meth c H locs 0 0 (MQ below (gQi D (aP P 77) ((wX cI cZ cC cJ cA P) M') r') args s 0 0 (aP P 77)) (F0 m 0 ls []) := by
  intro M a1 H locs ls hl hP hD hS h
  unfold q_Reader_readBank at h
  refine lv_aload_n hx hb dX10_readBank_0 rfl (lv_at hl 0 rfl) ?_
  refine va_get (D := D) (ci := 10) (v := .ref (P 1)) (C := RX10) (T := TX10) (N := 4) hx hb hgt iwX10 hown hK hP 21 gX_21 rfl 0 (Nat.le_of_ble_eq_true rfl) (hgt _ wd_0_187) (fun _ h9 => h9) rfl dX10_readBank_1 ?_
  refine va_get (D := D) (ci := 4) (v := .ref (P 4)) (C := RX4) (T := TX4) (N := 15) hx hb hgt iwX4 hown hK hP 1 gX_1 rfl 3 (Nat.le_of_ble_eq_true rfl) (hgt _ wd_0_107) (fun _ h9 => h9) rfl dX10_readBank_4 ?_
  refine lv_iload_n hx hb dX10_readBank_7 rfl (lv_at hl 1 rfl) ?_
  refine lv_iconst (v := (-1)) hx hb dX10_readBank_8 (by decide) ?_
  refine pm_iast (w := (wX cI cZ cC cJ cA P)) hx hb hK hP hD hS 4 0 gX_4 rfl sX_4 (ix_l h) dX10_readBank_9 (fun M1 eM1 H locs hP hD hS => ?_)
  have h := ix_r h
  have h := lt_o eM1 h
  refine lv_aload_n hx hb dX10_readBank_10 rfl (lv_at hl 0 rfl) ?_
  obtain ⟨M2, r3, hq, h⟩ := cal_o h
  refine cx_i (va_runV (As := []) (rest := []) ⟨hx, hb, hml, hown, hgt⟩ (z_Reader_next l D cI cZ cC cJ cA P s0 hAO M1 M2 r3 hq) (cwV 0 hgt (gV wd_3_150 wd_3_152 sl__ChipMap_Reader____ChipMap_Reader___next_____C_____ChipMap_Reader___next_____C__ wd_0_4 wd_3_153) rfl rfl rfl (by decide +kernel) ⟨Nat.le_of_ble_eq_true rfl, Nat.le_of_ble_eq_true rfl⟩) (prV hP hK hD hO hAO hS (va_recv hK hP (ci := 10) (q0 := 21) rfl gX_21)) rfl rfl hl.1 rfl (lv_room (Nat.le_of_ble_eq_true rfl)) dX10_readBank_11 ⟨Nat.le_of_ble_eq_true rfl, Nat.le_of_ble_eq_true rfl⟩) hS (fun H locs hP hD hS => ?_)
  refine lv_bipush (v := 63) hx hb dX10_readBank_14 (by decide) ?_
  refine lv_icmp_eq hx hb dX10_readBank_16 (tgt := 21) rfl (fun hc => ?_) (fun hc => ?_)
  · have h := br_T hc h
    refine lv_aload_n hx hb dX10_readBank_21 rfl (lv_at hl 0 rfl) ?_
    refine lv_dup hx hb dX10_readBank_22 rfl ?_
    refine va_get (D := D) (ci := 10) (v := .int (M2.1 21 3)) (C := RX10) (T := TX10) (N := 4) hx hb hgt iwX10 hown hK hP 21 gX_21 rfl 3 (Nat.le_of_ble_eq_true rfl) (hgt _ wd_0_191) (fun _ h9 => h9) rfl dX10_readBank_23 ?_
    refine lv_iconst (v := 1) hx hb dX10_readBank_26 (by decide) ?_
    refine lv_iadd hx hb dX10_readBank_27 ?_
    refine pm_put (w := (wX cI cZ cC cJ cA P)) (D := D) (ci := 10) (x := ((M2.1 21 3) + 1)) (ty := .int) (C := RX10) (T := TX10) (N := 4) hx hb hgt iwX10 tyX10 tyX10_ok nmX10 hown hK hP hD hS 21 gX_21 rfl 3 (Nat.le_of_ble_eq_true rfl) (hgt _ wd_0_191) (fun _ h9 => h9) rfl (by decide +kernel) rfl rfl (Nat.le_of_ble_eq_true rfl) (sX_21_3 _) dX10_readBank_28 (fun M4 eM4 H locs hP hD hS => ?_)
    have h := lt_o eM4 h
    refine lv_aload_n hx hb dX10_readBank_31 rfl (lv_at hl 0 rfl) ?_
    refine va_get (D := D) (ci := 10) (v := .ref (P 1)) (C := RX10) (T := TX10) (N := 4) hx hb hgt iwX10 hown hK hP 21 gX_21 rfl 0 (Nat.le_of_ble_eq_true rfl) (hgt _ wd_0_187) (fun _ h9 => h9) rfl dX10_readBank_32 ?_
    refine va_get (D := D) (ci := 4) (v := .ref (P 5)) (C := RX4) (T := TX4) (N := 15) hx hb hgt iwX4 hown hK hP 1 gX_1 rfl 4 (Nat.le_of_ble_eq_true rfl) (hgt _ wd_0_110) (fun _ h9 => h9) rfl dX10_readBank_35 ?_
    refine lv_iload_n hx hb dX10_readBank_38 rfl (lv_at hl 1 rfl) ?_
    refine lv_aload_n hx hb dX10_readBank_39 rfl (lv_at hl 0 rfl) ?_
    refine va_get (D := D) (ci := 10) (v := .int (M4.1 21 3)) (C := RX10) (T := TX10) (N := 4) hx hb hgt iwX10 hown hK hP 21 gX_21 rfl 3 (Nat.le_of_ble_eq_true rfl) (hgt _ wd_0_191) (fun _ h9 => h9) rfl dX10_readBank_40 ?_
    refine pm_iast (w := (wX cI cZ cC cJ cA P)) hx hb hK hP hD hS 5 0 gX_5 rfl sX_5 (ix_l h) dX10_readBank_43 (fun M5 eM5 H locs hP hD hS => ?_)
    have h := ix_r h
    have h := lt_o eM5 h
    refine lv_aload_n hx hb dX10_readBank_44 rfl (lv_at hl 0 rfl) ?_
    refine va_get (D := D) (ci := 10) (v := .ref (P 1)) (C := RX10) (T := TX10) (N := 4) hx hb hgt iwX10 hown hK hP 21 gX_21 rfl 0 (Nat.le_of_ble_eq_true rfl) (hgt _ wd_0_187) (fun _ h9 => h9) rfl dX10_readBank_45 ?_
    refine va_get (D := D) (ci := 4) (v := .ref (P 4)) (C := RX4) (T := TX4) (N := 15) hx hb hgt iwX4 hown hK hP 1 gX_1 rfl 3 (Nat.le_of_ble_eq_true rfl) (hgt _ wd_0_107) (fun _ h9 => h9) rfl dX10_readBank_48 ?_
    refine lv_iload_n hx hb dX10_readBank_51 rfl (lv_at hl 1 rfl) ?_
    refine lv_aload_n hx hb dX10_readBank_52 rfl (lv_at hl 0 rfl) ?_
    obtain ⟨M6, r7, hq, h⟩ := cal_o h
    refine cx_i (va_runV (As := []) (rest := [.int a1, .ref (P 4)]) ⟨hx, hb, hml, hown, hgt⟩ (z_Reader_name l D cI cZ cC cJ cA P s0 hAO M5 M6 r7 hq) (cwV 0 hgt (gV wd_3_173 wd_3_175 sl__ChipMap_Reader____ChipMap_Reader___name_____I_____ChipMap_Reader___name_____I__ wd_0_4 wd_3_176) rfl rfl rfl (by decide +kernel) ⟨Nat.le_of_ble_eq_true rfl, Nat.le_of_ble_eq_true rfl⟩) (prV hP hK hD hO hAO hS (va_recv hK hP (ci := 10) (q0 := 21) rfl gX_21)) rfl rfl hl.1 rfl (lv_room (Nat.le_of_ble_eq_true rfl)) dX10_readBank_53 ⟨Nat.le_of_ble_eq_true rfl, Nat.le_of_ble_eq_true rfl⟩) hS (fun H locs hP hD hS => ?_)
    refine pm_iast (w := (wX cI cZ cC cJ cA P)) hx hb hK hP hD hS 4 0 gX_4 rfl sX_4 (ix_l h) dX10_readBank_56 (fun M8 eM8 H locs hP hD hS => ?_)
    have h := ix_r h
    have h := lt_o eM8 h
    refine lv_aload_n hx hb dX10_readBank_57 rfl (lv_at hl 0 rfl) ?_
    refine va_get (D := D) (ci := 10) (v := .ref (P 1)) (C := RX10) (T := TX10) (N := 4) hx hb hgt iwX10 hown hK hP 21 gX_21 rfl 0 (Nat.le_of_ble_eq_true rfl) (hgt _ wd_0_187) (fun _ h9 => h9) rfl dX10_readBank_58 ?_
    refine va_get (D := D) (ci := 4) (v := .ref (P 4)) (C := RX4) (T := TX4) (N := 15) hx hb hgt iwX4 hown hK hP 1 gX_1 rfl 3 (Nat.le_of_ble_eq_true rfl) (hgt _ wd_0_107) (fun _ h9 => h9) rfl dX10_readBank_61 ?_
    refine lv_iload_n hx hb dX10_readBank_64 rfl (lv_at hl 1 rfl) ?_
    refine va_iald hx hb hK hP 4 0 gX_4 rfl (ix_l h) dX10_readBank_65 ?_
    have h := ix_r h
    refine lv_iconst (v := (-1)) hx hb dX10_readBank_66 (by decide) ?_
    refine lv_icmp_eq hx hb dX10_readBank_67 (tgt := 79) rfl (fun hc => ?_) (fun hc => ?_)
    · have h := br_T hc h
      refine lv_iconst (v := 0) hx hb dX10_readBank_79 (by decide) ?_
      exact rt_z (w := (wX cI cZ cC cJ cA P)) hx hb hr hlk rfl hP hD hS h dX10_readBank_80
    · have h := br_F hc h
      refine lv_aload_n hx hb dX10_readBank_70 rfl (lv_at hl 0 rfl) ?_
      refine lv_bipush (v := 61) hx hb dX10_readBank_71 (by decide) ?_
      obtain ⟨M9, r10, hq, h⟩ := cal_o h
      refine cx_i (va_runV (As := [.int 61]) (rest := []) ⟨hx, hb, hml, hown, hgt⟩ (z_Reader_take l D cI cZ cC cJ cA P s0 hAO M8 61 M9 r10 hq) (cwV 1 hgt (gV wd_3_158 wd_3_160 sl__ChipMap_Reader____ChipMap_Reader___take____C_Z_____ChipMap_Reader___take____C_Z__ wd_0_4 wd_3_161) rfl rfl rfl (by decide +kernel) ⟨Nat.le_of_ble_eq_true rfl, Nat.le_of_ble_eq_true rfl⟩) (prV hP hK hD hO hAO hS (va_recv hK hP (ci := 10) (q0 := 21) rfl gX_21)) rfl rfl hl.1 rfl (lv_room (Nat.le_of_ble_eq_true rfl)) dX10_readBank_73 ⟨Nat.le_of_ble_eq_true rfl, Nat.le_of_ble_eq_true rfl⟩) hS (fun H locs hP hD hS => ?_)
      refine lv_if_ne hx hb dX10_readBank_76 (tgt := 81) rfl (fun hc => ?_) (fun hc => ?_)
      · have h := br_F hc h
        refine lv_aload_n hx hb dX10_readBank_81 rfl (lv_at hl 0 rfl) ?_
        refine va_get (D := D) (ci := 10) (v := .ref (P 1)) (C := RX10) (T := TX10) (N := 4) hx hb hgt iwX10 hown hK hP 21 gX_21 rfl 0 (Nat.le_of_ble_eq_true rfl) (hgt _ wd_0_187) (fun _ h9 => h9) rfl dX10_readBank_82 ?_
        refine va_get (D := D) (ci := 4) (v := .ref (P 6)) (C := RX4) (T := TX4) (N := 15) hx hb hgt iwX4 hown hK hP 1 gX_1 rfl 5 (Nat.le_of_ble_eq_true rfl) (hgt _ wd_0_114) (fun _ h9 => h9) rfl dX10_readBank_85 ?_
        refine lv_iload_n hx hb dX10_readBank_88 rfl (lv_at hl 1 rfl) ?_
        refine lv_aload_n hx hb dX10_readBank_89 rfl (lv_at hl 0 rfl) ?_
        refine lv_bipush (v := 16) hx hb dX10_readBank_90 (by decide) ?_
        refine lv_iconst (v := 1) hx hb dX10_readBank_92 (by decide) ?_
        refine lv_iconst (v := 1) hx hb dX10_readBank_93 (by decide) ?_
        obtain ⟨M11, r12, hq, h⟩ := cal_o h
        refine cx_i (va_runV (As := [.int 16, .int 1, .int 1]) (rest := [.int a1, .ref (P 6)]) ⟨hx, hb, hml, hown, hgt⟩ (z_Reader_number l D cI cZ cC cJ cA P s0 hAO M9 16 1 1 M11 r12 hq) (cwV 3 hgt (gV wd_3_162 wd_3_164 sl__ChipMap_Reader____ChipMap_Reader___number____III_I_____ChipMap_Reader___number____III_I__ wd_0_4 wd_3_165) rfl rfl rfl (by decide +kernel) ⟨Nat.le_of_ble_eq_true rfl, Nat.le_of_ble_eq_true rfl⟩) (prV hP hK hD hO hAO hS (va_recv hK hP (ci := 10) (q0 := 21) rfl gX_21)) rfl rfl hl.1 rfl (lv_room (Nat.le_of_ble_eq_true rfl)) dX10_readBank_94 ⟨Nat.le_of_ble_eq_true rfl, Nat.le_of_ble_eq_true rfl⟩) hS (fun H locs hP hD hS => ?_)
        refine pm_iast (w := (wX cI cZ cC cJ cA P)) hx hb hK hP hD hS 6 0 gX_6 rfl sX_6 (ix_l h) dX10_readBank_97 (fun M13 eM13 H locs hP hD hS => ?_)
        have h := ix_r h
        have h := lt_o eM13 h
        refine lv_aload_n hx hb dX10_readBank_98 rfl (lv_at hl 0 rfl) ?_
        refine va_get (D := D) (ci := 10) (v := .ref (P 1)) (C := RX10) (T := TX10) (N := 4) hx hb hgt iwX10 hown hK hP 21 gX_21 rfl 0 (Nat.le_of_ble_eq_true rfl) (hgt _ wd_0_187) (fun _ h9 => h9) rfl dX10_readBank_99 ?_
        refine va_get (D := D) (ci := 4) (v := .ref (P 6)) (C := RX4) (T := TX4) (N := 15) hx hb hgt iwX4 hown hK hP 1 gX_1 rfl 5 (Nat.le_of_ble_eq_true rfl) (hgt _ wd_0_114) (fun _ h9 => h9) rfl dX10_readBank_102 ?_
        refine lv_iload_n hx hb dX10_readBank_105 rfl (lv_at hl 1 rfl) ?_
        refine va_iald hx hb hK hP 6 0 gX_6 rfl (ix_l h) dX10_readBank_106 ?_
        have h := ix_r h
        refine lv_iconst (v := (-1)) hx hb dX10_readBank_107 (by decide) ?_
        refine lv_icmp_eq hx hb dX10_readBank_108 (tgt := 115) rfl (fun hc => ?_) (fun hc => ?_)
        · have h := br_T hc h
          refine lv_iconst (v := 0) hx hb dX10_readBank_115 (by decide) ?_
          exact rt_z (w := (wX cI cZ cC cJ cA P)) hx hb hr hlk rfl hP hD hS h dX10_readBank_116
        · have h := br_F hc h
          refine lv_iconst (v := 1) hx hb dX10_readBank_111 (by decide) ?_
          refine lv_goto hx hb dX10_readBank_112 (tgt := 116) rfl ?_
          exact rt_z (w := (wX cI cZ cC cJ cA P)) hx hb hr hlk rfl hP hD hS h dX10_readBank_116
      · have h := br_T hc h
        refine lv_iconst (v := 0) hx hb dX10_readBank_79 (by decide) ?_
        exact rt_z (w := (wX cI cZ cC cJ cA P)) hx hb hr hlk rfl hP hD hS h dX10_readBank_80
  · have h := br_F hc h
    refine lv_iconst (v := 1) hx hb dX10_readBank_19 (by decide) ?_
    exact rt_z (w := (wX cI cZ cC cJ cA P)) hx hb hr hlk rfl hP hD hS h dX10_readBank_20
set_option maxHeartbeats 4000000 in
set_option maxRecDepth 20000 in
theorem z_Reader_readBank (l : Launch) (D : va_G) (cI cZ cC cJ cA : ClassId) (P : Nat → Nat) (s0 : State) (hAO : ∀ q, (aP P 77) q → s0.heap.size ≤ q) (M : Mm) (a1 : Int32) (M' : Mm) (r' : Int32) (h : q_Reader_readBank M a1 = some (M', r')) : Met l yX10_readBank wsX10_readBank ({ frames := 2, cells := 0, slots := 0, locals := 47 }) (va_Pc [.ref (P 21), .int a1] (gPre s0 D [(cI, .int), (cZ, .boolean), (cC, .char), (cJ, .long), (cA, .array .int)] (aP P 77) ((wX cI cZ cC cJ cA P) M))) (gQi D (aP P 77) ((wX cI cZ cC cJ cA P) M') r') 0 0 (aP P 77) := by
  refine Met.ofW (cc := cX10_readBank) (maxL := 2) (ret := (some .boolean)) (by decide) rfl ?_
  intro p e s m args below meth c s₁ B hml hv
  obtain ⟨rfl, hP, hK, hD, hO⟩ := hv
  have hx := B.exec
  have hb := B.bytes
  have hr := B.returns
  have hlk := B.notSynchronized
  have hgt := fun w (h : w ∈ GT) => atoms_spec (ws := wsX10_readBank) B.pre w (List.mem_cons_of_mem _ h)
  have hown : s.vm.findClass RX10 = some m.cls := findClass_of_methodNamed B.named
  have hS : va_S (aP P 77) s.heap s.heap [] := va_S.rf
  have hl := lv_entry ([.ref (P 21), .int a1]) (n := 2) (Nat.le_of_ble_eq_true rfl)
  rw [lg_entry_eq]
  generalize (lg_sl ([.ref (P 21), .int a1]) ++ List.replicate (2 - (lg_sl ([.ref (P 21), .int a1])).length) Slot.unset).toArray = ls at hl ⊢
  have hl : lv_has ls 2 [(0, .ref (P 21)), (1, .int a1)] := hl
  exact b_Reader_readBank_0 hx hb hml hr hlk hgt hown hK hO hAO M a1 s.heap [] ls hl hP hD hS h
def q_String_isLatin1  (M : Mm)  : Rs := some (M, 1)
set_option maxHeartbeats 4000000 in
set_option maxRecDepth 20000 in
theorem b_String_isLatin1_0 {p : Program} {l : Launch} {e : Env} {s s0 : State} {m : MethodId} {args : Array Value} {below : List Frame} {meth : Method} {c : Code} {D : va_G} {cI cZ cC cJ cA : ClassId} {P : Nat → Nat} {M' : Mm} {r' : Int32}  {qS : Nat → Nat} (hx : p.tables.exec = Jvm.exec) (hb : c.code = cJ0_isLatin1) (hml : c.maxLocals = 1) (hr : meth.sig.returnType = (some .boolean)) (hlk : meth.locks = false) (hgt : ∀ w ∈ GT, w.before args s = true) (hown : s.vm.findClass RJ0 = some m.cls) (hK : va_K D vwCl [(cI, .int), (cZ, .boolean), (cC, .char), (cJ, .long), (cA, .array .int)] s) (hO : Old s0 s) (hAO : ∀ q, (aP P 77) q → s0.heap.size ≤ q) (hE : xE s0 qS)  : ∀ (M : Mm)  (H : Heap) (locs : List Loc) (ls : Array Slot), lv_has ls 1 [(0, .ref (qS 0))] → va_P D vwCl ((wX cI cZ cC cJ cA P) M) H → va_D (aP P 77) ((wX cI cZ cC cJ cA P) M) → va_S (aP P 77) s.heap H locs → q_String_isLatin1 M = some (M', r') → W p l e ({ frames := 0, cells := 0, slots := 0, locals := 0 }) s m args below meth c H locs 0 0 (MQ below (gQi D (aP P 77) ((wX cI cZ cC cJ cA P) M') r') args s 0 0 (aP P 77)) (F0 m 0 ls []) := by
  intro M H locs ls hl hP hD hS h
  unfold q_String_isLatin1 at h
  refine va_gets hx hb (hE.z hO hAO) hS hown (hgt _ wd_0_235) (fun _ h => h) dJ0_isLatin1_0 ?_
  refine lv_if_eq hx hb dJ0_isLatin1_3 (tgt := 17) rfl (fun hc => ?_) (fun hc => ?_)
  · exact absurd hc (by decide)
  · skip
    refine lv_aload_n hx hb dJ0_isLatin1_6 rfl (lv_at hl 0 rfl) ?_
    refine vk_getf hx hb (hE.c hO hAO (i := 0) (by decide)) hS hown (hgt _ wd_7_1) (fun _ h => h) dJ0_isLatin1_7 ?_
    refine lv_if_ne hx hb dJ0_isLatin1_10 (tgt := 17) rfl (fun hc => ?_) (fun hc => ?_)
    · exact absurd hc (by decide)
    · skip
      refine lv_iconst (v := 1) hx hb dJ0_isLatin1_13 (by decide) ?_
      refine lv_goto hx hb dJ0_isLatin1_14 (tgt := 18) rfl ?_
      exact rt_z (w := (wX cI cZ cC cJ cA P)) hx hb hr hlk rfl hP hD hS h dJ0_isLatin1_18
set_option maxHeartbeats 4000000 in
set_option maxRecDepth 20000 in
theorem z_String_isLatin1 (l : Launch) (D : va_G) (cI cZ cC cJ cA : ClassId) (P : Nat → Nat) (s0 : State) (hAO : ∀ q, (aP P 77) q → s0.heap.size ≤ q) (qS : Nat → Nat) (hE : xE s0 qS) (M : Mm)  (M' : Mm) (r' : Int32) (h : q_String_isLatin1 M = some (M', r')) : Met l yJ0_isLatin1 wsJ0_isLatin1 ({ frames := 0, cells := 0, slots := 0, locals := 0 }) (va_Pc [.ref (qS 0)] (gPre s0 D [(cI, .int), (cZ, .boolean), (cC, .char), (cJ, .long), (cA, .array .int)] (aP P 77) ((wX cI cZ cC cJ cA P) M))) (gQi D (aP P 77) ((wX cI cZ cC cJ cA P) M') r') 0 0 (aP P 77) := by
  refine Met.ofW (cc := cJ0_isLatin1) (maxL := 1) (ret := (some .boolean)) (by decide) rfl ?_
  intro p e s m args below meth c s₁ B hml hv
  obtain ⟨rfl, hP, hK, hD, hO⟩ := hv
  have hx := B.exec
  have hb := B.bytes
  have hr := B.returns
  have hlk := B.notSynchronized
  have hgt := fun w (h : w ∈ GT) => atoms_spec (ws := wsJ0_isLatin1) B.pre w (List.mem_cons_of_mem _ h)
  have hown : s.vm.findClass RJ0 = some m.cls := findClass_of_methodNamed B.named
  have hS : va_S (aP P 77) s.heap s.heap [] := va_S.rf
  have hl := lv_entry ([.ref (qS 0)]) (n := 1) (Nat.le_of_ble_eq_true rfl)
  rw [lg_entry_eq]
  generalize (lg_sl ([.ref (qS 0)]) ++ List.replicate (1 - (lg_sl ([.ref (qS 0)])).length) Slot.unset).toArray = ls at hl ⊢
  have hl : lv_has ls 1 [(0, .ref (qS 0))] := hl
  exact b_String_isLatin1_0 hx hb hml hr hlk hgt hown hK hO hAO hE M s.heap [] ls hl hP hD hS h
def q_String_coder  (M : Mm)  : Rs := some (M, 0)
set_option maxHeartbeats 4000000 in
set_option maxRecDepth 20000 in
theorem b_String_coder_0 {p : Program} {l : Launch} {e : Env} {s s0 : State} {m : MethodId} {args : Array Value} {below : List Frame} {meth : Method} {c : Code} {D : va_G} {cI cZ cC cJ cA : ClassId} {P : Nat → Nat} {M' : Mm} {r' : Int32}  {qS : Nat → Nat} (hx : p.tables.exec = Jvm.exec) (hb : c.code = cJ0_coder) (hml : c.maxLocals = 1) (hr : meth.sig.returnType = (some .byte)) (hlk : meth.locks = false) (hgt : ∀ w ∈ GT, w.before args s = true) (hown : s.vm.findClass RJ0 = some m.cls) (hK : va_K D vwCl [(cI, .int), (cZ, .boolean), (cC, .char), (cJ, .long), (cA, .array .int)] s) (hO : Old s0 s) (hAO : ∀ q, (aP P 77) q → s0.heap.size ≤ q) (hE : xE s0 qS)  : ∀ (M : Mm)  (H : Heap) (locs : List Loc) (ls : Array Slot), lv_has ls 1 [(0, .ref (qS 0))] → va_P D vwCl ((wX cI cZ cC cJ cA P) M) H → va_D (aP P 77) ((wX cI cZ cC cJ cA P) M) → va_S (aP P 77) s.heap H locs → q_String_coder M = some (M', r') → W p l e ({ frames := 0, cells := 0, slots := 0, locals := 0 }) s m args below meth c H locs 0 0 (MQ below (gQi D (aP P 77) ((wX cI cZ cC cJ cA P) M') r') args s 0 0 (aP P 77)) (F0 m 0 ls []) := by
  intro M H locs ls hl hP hD hS h
  unfold q_String_coder at h
  refine va_gets hx hb (hE.z hO hAO) hS hown (hgt _ wd_0_235) (fun _ h => h) dJ0_coder_0 ?_
  refine lv_if_eq hx hb dJ0_coder_3 (tgt := 13) rfl (fun hc => ?_) (fun hc => ?_)
  · exact absurd hc (by decide)
  · skip
    refine lv_aload_n hx hb dJ0_coder_6 rfl (lv_at hl 0 rfl) ?_
    refine vk_getf hx hb (hE.c hO hAO (i := 0) (by decide)) hS hown (hgt _ wd_7_1) (fun _ h => h) dJ0_coder_7 ?_
    refine lv_goto hx hb dJ0_coder_10 (tgt := 14) rfl ?_
    exact rt_z (w := (wX cI cZ cC cJ cA P)) hx hb hr hlk rfl hP hD hS h dJ0_coder_14
set_option maxHeartbeats 4000000 in
set_option maxRecDepth 20000 in
theorem z_String_coder (l : Launch) (D : va_G) (cI cZ cC cJ cA : ClassId) (P : Nat → Nat) (s0 : State) (hAO : ∀ q, (aP P 77) q → s0.heap.size ≤ q) (qS : Nat → Nat) (hE : xE s0 qS) (M : Mm)  (M' : Mm) (r' : Int32) (h : q_String_coder M = some (M', r')) : Met l yJ0_coder wsJ0_coder ({ frames := 0, cells := 0, slots := 0, locals := 0 }) (va_Pc [.ref (qS 0)] (gPre s0 D [(cI, .int), (cZ, .boolean), (cC, .char), (cJ, .long), (cA, .array .int)] (aP P 77) ((wX cI cZ cC cJ cA P) M))) (gQi D (aP P 77) ((wX cI cZ cC cJ cA P) M') r') 0 0 (aP P 77) := by
  refine Met.ofW (cc := cJ0_coder) (maxL := 1) (ret := (some .byte)) (by decide) rfl ?_
  intro p e s m args below meth c s₁ B hml hv
  obtain ⟨rfl, hP, hK, hD, hO⟩ := hv
  have hx := B.exec
  have hb := B.bytes
  have hr := B.returns
  have hlk := B.notSynchronized
  have hgt := fun w (h : w ∈ GT) => atoms_spec (ws := wsJ0_coder) B.pre w (List.mem_cons_of_mem _ h)
  have hown : s.vm.findClass RJ0 = some m.cls := findClass_of_methodNamed B.named
  have hS : va_S (aP P 77) s.heap s.heap [] := va_S.rf
  have hl := lv_entry ([.ref (qS 0)]) (n := 1) (Nat.le_of_ble_eq_true rfl)
  rw [lg_entry_eq]
  generalize (lg_sl ([.ref (qS 0)]) ++ List.replicate (1 - (lg_sl ([.ref (qS 0)])).length) Slot.unset).toArray = ls at hl ⊢
  have hl : lv_has ls 1 [(0, .ref (qS 0))] := hl
  exact b_String_coder_0 hx hb hml hr hlk hgt hown hK hO hAO hE M s.heap [] ls hl hP hD hS h
def q_String_length  (M : Mm)  : Rs := cal (q_String_coder M) fun M1 r2 => some (M1, ((7 : Int32) >>> (r2 &&& 31)))
set_option maxHeartbeats 4000000 in
set_option maxRecDepth 20000 in
theorem b_String_length_0 {p : Program} {l : Launch} {e : Env} {s s0 : State} {m : MethodId} {args : Array Value} {below : List Frame} {meth : Method} {c : Code} {D : va_G} {cI cZ cC cJ cA : ClassId} {P : Nat → Nat} {M' : Mm} {r' : Int32}  {qS : Nat → Nat} (hx : p.tables.exec = Jvm.exec) (hb : c.code = cJ0_length) (hml : c.maxLocals = 1) (hr : meth.sig.returnType = (some .int)) (hlk : meth.locks = false) (hgt : ∀ w ∈ GT, w.before args s = true) (hown : s.vm.findClass RJ0 = some m.cls) (hK : va_K D vwCl [(cI, .int), (cZ, .boolean), (cC, .char), (cJ, .long), (cA, .array .int)] s) (hO : Old s0 s) (hAO : ∀ q, (aP P 77) q → s0.heap.size ≤ q) (hE : xE s0 qS)  : ∀ (M : Mm)  (H : Heap) (locs : List Loc) (ls : Array Slot), lv_has ls 1 [(0, .ref (qS 0))] → va_P D vwCl ((wX cI cZ cC cJ cA P) M) H → va_D (aP P 77) ((wX cI cZ cC cJ cA P) M) → va_S (aP P 77) s.heap H locs → q_String_length M = some (M', r') → W p l e ({ frames := 1, cells := 0, slots := 0, locals := 20 }) s m args below meth c H locs 0 0 (MQ below (gQi D (aP P 77) ((wX cI cZ cC cJ cA P) M') r') args s 0 0 (aP P 77)) (F0 m 0 ls []) := by
  intro M H locs ls hl hP hD hS h
  unfold q_String_length at h
  refine lv_aload_n hx hb dJ0_length_0 rfl (lv_at hl 0 rfl) ?_
  refine vk_getf hx hb (hE.v hO hAO (i := 0) (by decide)) hS hown (hgt _ wd_7_0) (fun _ h => h) dJ0_length_1 ?_
  refine va_tlen (v := 7) hx hb (hE.t hO hAO (i := 0) (by decide)) hS (by decide) dJ0_length_4 ?_
  refine lv_aload_n hx hb dJ0_length_5 rfl (lv_at hl 0 rfl) ?_
  obtain ⟨M1, r2, hq, h⟩ := cal_o h
  refine cx_i (va_runV (As := []) (rest := [.int 7]) ⟨hx, hb, hml, hown, hgt⟩ (z_String_coder l D cI cZ cC cJ cA P s0 hAO qS hE M M1 r2 hq) (cwV 0 hgt (gV wd_0_231 wd_0_232 wd_0_233 wd_0_7 wd_0_234) rfl rfl rfl (by decide +kernel) ⟨Nat.le_of_ble_eq_true rfl, Nat.le_of_ble_eq_true rfl⟩) (prV hP hK hD hO hAO hS (hE.recv hO hAO hS (i := 0) (by decide))) rfl rfl hl.1 rfl (lv_room (Nat.le_of_ble_eq_true rfl)) dJ0_length_6 ⟨Nat.le_of_ble_eq_true rfl, Nat.le_of_ble_eq_true rfl⟩) hS (fun H locs hP hD hS => ?_)
  refine lv_ishr hx hb dJ0_length_9 ?_
  exact rt_i (w := (wX cI cZ cC cJ cA P)) hx hb hr hlk hP hD hS h dJ0_length_10
set_option maxHeartbeats 4000000 in
set_option maxRecDepth 20000 in
theorem z_String_length (l : Launch) (D : va_G) (cI cZ cC cJ cA : ClassId) (P : Nat → Nat) (s0 : State) (hAO : ∀ q, (aP P 77) q → s0.heap.size ≤ q) (qS : Nat → Nat) (hE : xE s0 qS) (M : Mm)  (M' : Mm) (r' : Int32) (h : q_String_length M = some (M', r')) : Met l yJ0_length wsJ0_length ({ frames := 1, cells := 0, slots := 0, locals := 20 }) (va_Pc [.ref (qS 0)] (gPre s0 D [(cI, .int), (cZ, .boolean), (cC, .char), (cJ, .long), (cA, .array .int)] (aP P 77) ((wX cI cZ cC cJ cA P) M))) (gQi D (aP P 77) ((wX cI cZ cC cJ cA P) M') r') 0 0 (aP P 77) := by
  refine Met.ofW (cc := cJ0_length) (maxL := 1) (ret := (some .int)) (by decide) rfl ?_
  intro p e s m args below meth c s₁ B hml hv
  obtain ⟨rfl, hP, hK, hD, hO⟩ := hv
  have hx := B.exec
  have hb := B.bytes
  have hr := B.returns
  have hlk := B.notSynchronized
  have hgt := fun w (h : w ∈ GT) => atoms_spec (ws := wsJ0_length) B.pre w (List.mem_cons_of_mem _ h)
  have hown : s.vm.findClass RJ0 = some m.cls := findClass_of_methodNamed B.named
  have hS : va_S (aP P 77) s.heap s.heap [] := va_S.rf
  have hl := lv_entry ([.ref (qS 0)]) (n := 1) (Nat.le_of_ble_eq_true rfl)
  rw [lg_entry_eq]
  generalize (lg_sl ([.ref (qS 0)]) ++ List.replicate (1 - (lg_sl ([.ref (qS 0)])).length) Slot.unset).toArray = ls at hl ⊢
  have hl : lv_has ls 1 [(0, .ref (qS 0))] := hl
  exact b_String_length_0 hx hb hml hr hlk hgt hown hK hO hAO hE M s.heap [] ls hl hP hD hS h
def q_StringLatin1_canEncode  (M : Mm) (a0 : Int32) : Rs := if a0 < 0 then (some (M, 0)) else (if 255 < a0 then (some (M, 0)) else (some (M, 1)))
set_option maxHeartbeats 4000000 in
set_option maxRecDepth 20000 in
theorem b_StringLatin1_canEncode_0 {p : Program} {l : Launch} {e : Env} {s s0 : State} {m : MethodId} {args : Array Value} {below : List Frame} {meth : Method} {c : Code} {D : va_G} {cI cZ cC cJ cA : ClassId} {P : Nat → Nat} {M' : Mm} {r' : Int32}  (hx : p.tables.exec = Jvm.exec) (hb : c.code = cJ3_canEncode) (hml : c.maxLocals = 1) (hr : meth.sig.returnType = (some .boolean)) (hlk : meth.locks = false) (hgt : ∀ w ∈ GT, w.before args s = true) (hown : s.vm.findClass RJ3 = some m.cls) (hK : va_K D vwCl [(cI, .int), (cZ, .boolean), (cC, .char), (cJ, .long), (cA, .array .int)] s) (hO : Old s0 s) (hAO : ∀ q, (aP P 77) q → s0.heap.size ≤ q)  : ∀ (M : Mm) (a0 : Int32) (H : Heap) (locs : List Loc) (ls : Array Slot), lv_has ls 1 [(0, .int a0)] → va_P D vwCl ((wX cI cZ cC cJ cA P) M) H → va_D (aP P 77) ((wX cI cZ cC cJ cA P) M) → va_S (aP P 77) s.heap H locs → q_StringLatin1_canEncode M a0 = some (M', r') → W p l e ({ frames := 0, cells := 0, slots := 0, locals := 0 }) s m args below meth c H locs 0 0 (MQ below (gQi D (aP P 77) ((wX cI cZ cC cJ cA P) M') r') args s 0 0 (aP P 77)) (F0 m 0 ls []) := by
  intro M a0 H locs ls hl hP hD hS h
  unfold q_StringLatin1_canEncode at h
  refine lv_iload_n hx hb dJ3_canEncode_0 rfl (lv_at hl 0 rfl) ?_
  refine lv_if_lt hx hb dJ3_canEncode_1 (tgt := 15) rfl (fun hc => ?_) (fun hc => ?_)
  · have h := br_T hc h
    refine lv_iconst (v := 0) hx hb dJ3_canEncode_15 (by decide) ?_
    exact rt_z (w := (wX cI cZ cC cJ cA P)) hx hb hr hlk rfl hP hD hS h dJ3_canEncode_16
  · have h := br_F hc h
    refine lv_iload_n hx hb dJ3_canEncode_4 rfl (lv_at hl 0 rfl) ?_
    refine lv_sipush (v := 255) hx hb dJ3_canEncode_5 (by decide) ?_
    refine lv_icmp_gt hx hb dJ3_canEncode_8 (tgt := 15) rfl (fun hc => ?_) (fun hc => ?_)
    · have h := br_T hc h
      refine lv_iconst (v := 0) hx hb dJ3_canEncode_15 (by decide) ?_
      exact rt_z (w := (wX cI cZ cC cJ cA P)) hx hb hr hlk rfl hP hD hS h dJ3_canEncode_16
    · have h := br_F hc h
      refine lv_iconst (v := 1) hx hb dJ3_canEncode_11 (by decide) ?_
      refine lv_goto hx hb dJ3_canEncode_12 (tgt := 16) rfl ?_
      exact rt_z (w := (wX cI cZ cC cJ cA P)) hx hb hr hlk rfl hP hD hS h dJ3_canEncode_16
set_option maxHeartbeats 4000000 in
set_option maxRecDepth 20000 in
theorem z_StringLatin1_canEncode (l : Launch) (D : va_G) (cI cZ cC cJ cA : ClassId) (P : Nat → Nat) (s0 : State) (hAO : ∀ q, (aP P 77) q → s0.heap.size ≤ q) (M : Mm) (a0 : Int32) (M' : Mm) (r' : Int32) (h : q_StringLatin1_canEncode M a0 = some (M', r')) : Met l yJ3_canEncode wsJ3_canEncode ({ frames := 0, cells := 0, slots := 0, locals := 0 }) (va_Pc [.int a0] (gPre s0 D [(cI, .int), (cZ, .boolean), (cC, .char), (cJ, .long), (cA, .array .int)] (aP P 77) ((wX cI cZ cC cJ cA P) M))) (gQi D (aP P 77) ((wX cI cZ cC cJ cA P) M') r') 0 0 (aP P 77) := by
  refine Met.ofW (cc := cJ3_canEncode) (maxL := 1) (ret := (some .boolean)) (by decide) rfl ?_
  intro p e s m args below meth c s₁ B hml hv
  obtain ⟨rfl, hP, hK, hD, hO⟩ := hv
  have hx := B.exec
  have hb := B.bytes
  have hr := B.returns
  have hlk := B.notSynchronized
  have hgt := fun w (h : w ∈ GT) => atoms_spec (ws := wsJ3_canEncode) B.pre w (List.mem_cons_of_mem _ h)
  have hown : s.vm.findClass RJ3 = some m.cls := findClass_of_methodNamed B.named
  have hS : va_S (aP P 77) s.heap s.heap [] := va_S.rf
  have hl := lv_entry ([.int a0]) (n := 1) (Nat.le_of_ble_eq_true rfl)
  rw [lg_entry_eq]
  generalize (lg_sl ([.int a0]) ++ List.replicate (1 - (lg_sl ([.int a0])).length) Slot.unset).toArray = ls at hl ⊢
  have hl : lv_has ls 1 [(0, .int a0)] := hl
  exact b_StringLatin1_canEncode_0 hx hb hml hr hlk hgt hown hK hO hAO M a0 s.heap [] ls hl hP hD hS h
def q_StringLatin1_indexOfChar_7  : Nat → Mm → Int32 → Int32 → Int32 → Rs
  | 0, _, _, _, _ => none
  | n' + 1, M, v3, v4, v5 => if v3 ≤ v5 then (some (M, (-1))) else (ix v5 7 <| if (sB 0 (v5 : Int32).toNatClampNeg) = v4 then (some (M, v5)) else (q_StringLatin1_indexOfChar_7 n' M v3 v4 (v5 + 1)))
def q_StringLatin1_indexOfChar  (M : Mm) (a1 : Int32) (a2 : Int32) (a3 : Int32) : Rs := lt' ((a1 : Int32).toInt8.toInt32) fun x1 => q_StringLatin1_indexOfChar_7 4000 M a3 x1 a2
set_option maxHeartbeats 4000000 in
set_option maxRecDepth 20000 in
theorem b_StringLatin1_indexOfChar_7 {p : Program} {l : Launch} {e : Env} {s s0 : State} {m : MethodId} {args : Array Value} {below : List Frame} {meth : Method} {c : Code} {D : va_G} {cI cZ cC cJ cA : ClassId} {P : Nat → Nat} {M' : Mm} {r' : Int32}  {qS : Nat → Nat} (hx : p.tables.exec = Jvm.exec) (hb : c.code = cJ3_indexOfChar) (hml : c.maxLocals = 6) (hr : meth.sig.returnType = (some .int)) (hlk : meth.locks = false) (hgt : ∀ w ∈ GT, w.before args s = true) (hown : s.vm.findClass RJ3 = some m.cls) (hK : va_K D vwCl [(cI, .int), (cZ, .boolean), (cC, .char), (cJ, .long), (cA, .array .int)] s) (hO : Old s0 s) (hAO : ∀ q, (aP P 77) q → s0.heap.size ≤ q) (hE : xE s0 qS)  : ∀ (n' : Nat) (M : Mm) (v3 : Int32) (v4 : Int32) (v5 : Int32) (H : Heap) (locs : List Loc) (ls : Array Slot), lv_has ls 6 [(0, .ref (qS 2)), (3, .int v3), (4, .int v4), (5, .int v5)] → va_P D vwCl ((wX cI cZ cC cJ cA P) M) H → va_D (aP P 77) ((wX cI cZ cC cJ cA P) M) → va_S (aP P 77) s.heap H locs → q_StringLatin1_indexOfChar_7 n' M v3 v4 v5 = some (M', r') → W p l e ({ frames := 0, cells := 0, slots := 0, locals := 0 }) s m args below meth c H locs 0 0 (MQ below (gQi D (aP P 77) ((wX cI cZ cC cJ cA P) M') r') args s 0 0 (aP P 77)) (F0 m 7 ls []) := by
  intro n'
  induction n' with
  | zero => exact fun _ _ _ _ _ _ _ _ _ _ _ h => (rs_n h).elim
  | succ n' ih =>
    intro M v3 v4 v5 H locs ls hl hP hD hS h
    rw [q_StringLatin1_indexOfChar_7] at h
    refine lv_iload hx hb dJ3_indexOfChar_7 (lv_at hl 3 rfl) ?_
    refine lv_iload_n hx hb dJ3_indexOfChar_9 rfl (lv_at hl 1 rfl) ?_
    refine lv_icmp_ge hx hb dJ3_indexOfChar_10 (tgt := 31) rfl (fun hc => ?_) (fun hc => ?_)
    · have h := br_T hc h
      refine lv_iconst (v := (-1)) hx hb dJ3_indexOfChar_31 (by decide) ?_
      exact rt_i (w := (wX cI cZ cC cJ cA P)) hx hb hr hlk hP hD hS h dJ3_indexOfChar_32
    · have h := br_F hc h
      refine lv_aload_n hx hb dJ3_indexOfChar_13 rfl (lv_at hl 0 rfl) ?_
      refine lv_iload hx hb dJ3_indexOfChar_14 (lv_at hl 3 rfl) ?_
      refine va_tb (v := .int (sB 0 (v5 : Int32).toNatClampNeg)) hx hb (hE.t hO hAO (i := 0) (by decide)) hS (ix_l h) rfl dJ3_indexOfChar_16 ?_
      have h := ix_r h
      refine lv_iload hx hb dJ3_indexOfChar_17 (lv_at hl 2 rfl) ?_
      refine lv_icmp_ne hx hb dJ3_indexOfChar_19 (tgt := 25) rfl (fun hc => ?_) (fun hc => ?_)
      · have h := br_F hc h
        refine lv_iinc (v := (v5 + 1)) hx hb dJ3_indexOfChar_25 hl (k := 3) rfl rfl (Nat.le_of_ble_eq_true rfl) (lv' := [(5, .int (v5 + 1)), (0, .ref (qS 2)), (3, .int v3), (4, .int v4)]) rfl (fun ls hl => ?_)
        refine lv_goto hx hb dJ3_indexOfChar_28 (tgt := 7) rfl ?_
        have hl := lv_sub hl [1, 2, 3, 0] (l' := [(0, .ref (qS 2)), (3, .int v3), (4, .int v4), (5, .int (v5 + 1))]) rfl
        exact ih M v3 v4 (v5 + 1) H locs ls hl hP hD hS h
      · have h := br_T hc h
        refine lv_iload hx hb dJ3_indexOfChar_22 (lv_at hl 3 rfl) ?_
        exact rt_i (w := (wX cI cZ cC cJ cA P)) hx hb hr hlk hP hD hS h dJ3_indexOfChar_24
set_option maxHeartbeats 4000000 in
set_option maxRecDepth 20000 in
theorem b_StringLatin1_indexOfChar_0 {p : Program} {l : Launch} {e : Env} {s s0 : State} {m : MethodId} {args : Array Value} {below : List Frame} {meth : Method} {c : Code} {D : va_G} {cI cZ cC cJ cA : ClassId} {P : Nat → Nat} {M' : Mm} {r' : Int32}  {qS : Nat → Nat} (hx : p.tables.exec = Jvm.exec) (hb : c.code = cJ3_indexOfChar) (hml : c.maxLocals = 6) (hr : meth.sig.returnType = (some .int)) (hlk : meth.locks = false) (hgt : ∀ w ∈ GT, w.before args s = true) (hown : s.vm.findClass RJ3 = some m.cls) (hK : va_K D vwCl [(cI, .int), (cZ, .boolean), (cC, .char), (cJ, .long), (cA, .array .int)] s) (hO : Old s0 s) (hAO : ∀ q, (aP P 77) q → s0.heap.size ≤ q) (hE : xE s0 qS)  : ∀ (M : Mm) (a1 : Int32) (a2 : Int32) (a3 : Int32) (H : Heap) (locs : List Loc) (ls : Array Slot), lv_has ls 6 [(0, .ref (qS 2)), (1, .int a1), (2, .int a2), (3, .int a3)] → va_P D vwCl ((wX cI cZ cC cJ cA P) M) H → va_D (aP P 77) ((wX cI cZ cC cJ cA P) M) → va_S (aP P 77) s.heap H locs → q_StringLatin1_indexOfChar M a1 a2 a3 = some (M', r') → W p l e ({ frames := 0, cells := 0, slots := 0, locals := 0 }) s m args below meth c H locs 0 0 (MQ below (gQi D (aP P 77) ((wX cI cZ cC cJ cA P) M') r') args s 0 0 (aP P 77)) (F0 m 0 ls []) := by
  intro M a1 a2 a3 H locs ls hl hP hD hS h
  unfold q_StringLatin1_indexOfChar at h
  refine lv_iload_n hx hb dJ3_indexOfChar_0 rfl (lv_at hl 1 rfl) ?_
  refine lv_i2b (v := (a1 : Int32).toInt8.toInt32) hx hb dJ3_indexOfChar_1 rfl ?_
  refine lv_topi (fun x1 ex1 => ?_)
  have h := lt_o ex1 h
  refine lv_istore hx hb dJ3_indexOfChar_2 hl (Nat.le_of_ble_eq_true rfl) (lv' := [(4, .int x1), (0, .ref (qS 2)), (1, .int a1), (2, .int a2), (3, .int a3)]) rfl (fun ls hl => ?_)
  refine lv_iload_n hx hb dJ3_indexOfChar_4 rfl (lv_at hl 3 rfl) ?_
  refine lv_istore hx hb dJ3_indexOfChar_5 hl (Nat.le_of_ble_eq_true rfl) (lv' := [(5, .int a2), (4, .int x1), (0, .ref (qS 2)), (1, .int a1), (2, .int a2), (3, .int a3)]) rfl (fun ls hl => ?_)
  have hl := lv_sub hl [2, 5, 1, 0] (l' := [(0, .ref (qS 2)), (3, .int a3), (4, .int x1), (5, .int a2)]) rfl
  exact b_StringLatin1_indexOfChar_7 hx hb hml hr hlk hgt hown hK hO hAO hE 4000 M a3 x1 a2 H _ ls hl hP hD hS h
set_option maxHeartbeats 4000000 in
set_option maxRecDepth 20000 in
theorem z_StringLatin1_indexOfChar (l : Launch) (D : va_G) (cI cZ cC cJ cA : ClassId) (P : Nat → Nat) (s0 : State) (hAO : ∀ q, (aP P 77) q → s0.heap.size ≤ q) (qS : Nat → Nat) (hE : xE s0 qS) (M : Mm) (a1 : Int32) (a2 : Int32) (a3 : Int32) (M' : Mm) (r' : Int32) (h : q_StringLatin1_indexOfChar M a1 a2 a3 = some (M', r')) : Met l yJ3_indexOfChar wsJ3_indexOfChar ({ frames := 0, cells := 0, slots := 0, locals := 0 }) (va_Pc [.ref (qS 2), .int a1, .int a2, .int a3] (gPre s0 D [(cI, .int), (cZ, .boolean), (cC, .char), (cJ, .long), (cA, .array .int)] (aP P 77) ((wX cI cZ cC cJ cA P) M))) (gQi D (aP P 77) ((wX cI cZ cC cJ cA P) M') r') 0 0 (aP P 77) := by
  refine Met.ofW (cc := cJ3_indexOfChar) (maxL := 6) (ret := (some .int)) (by decide) rfl ?_
  intro p e s m args below meth c s₁ B hml hv
  obtain ⟨rfl, hP, hK, hD, hO⟩ := hv
  have hx := B.exec
  have hb := B.bytes
  have hr := B.returns
  have hlk := B.notSynchronized
  have hgt := fun w (h : w ∈ GT) => atoms_spec (ws := wsJ3_indexOfChar) B.pre w (List.mem_cons_of_mem _ h)
  have hown : s.vm.findClass RJ3 = some m.cls := findClass_of_methodNamed B.named
  have hS : va_S (aP P 77) s.heap s.heap [] := va_S.rf
  have hl := lv_entry ([.ref (qS 2), .int a1, .int a2, .int a3]) (n := 6) (Nat.le_of_ble_eq_true rfl)
  rw [lg_entry_eq]
  generalize (lg_sl ([.ref (qS 2), .int a1, .int a2, .int a3]) ++ List.replicate (6 - (lg_sl ([.ref (qS 2), .int a1, .int a2, .int a3])).length) Slot.unset).toArray = ls at hl ⊢
  have hl : lv_has ls 6 [(0, .ref (qS 2)), (1, .int a1), (2, .int a2), (3, .int a3)] := hl
  exact b_StringLatin1_indexOfChar_0 hx hb hml hr hlk hgt hown hK hO hAO hE M a1 a2 a3 s.heap [] ls hl hP hD hS h
def q_StringLatin1_indexOf  (M : Mm) (a1 : Int32) (a2 : Int32) (a3 : Int32) : Rs := cal (q_StringLatin1_canEncode M a1) fun M1 r2 => if r2 = 0 then (some (M1, (-1))) else (lt' (if (a2 : Int32) < 0 then 0 else a2) fun x3 => lt' (if (7 : Int32) < a3 then 7 else a3) fun x4 => if x3 < x4 then (cal (q_StringLatin1_indexOfChar M1 a1 x3 x4) fun M5 r6 => some (M5, r6)) else (some (M1, (-1))))
set_option maxHeartbeats 4000000 in
set_option maxRecDepth 20000 in
theorem b_StringLatin1_indexOf_0 {p : Program} {l : Launch} {e : Env} {s s0 : State} {m : MethodId} {args : Array Value} {below : List Frame} {meth : Method} {c : Code} {D : va_G} {cI cZ cC cJ cA : ClassId} {P : Nat → Nat} {M' : Mm} {r' : Int32}  {qS : Nat → Nat} (hx : p.tables.exec = Jvm.exec) (hb : c.code = cJ3_indexOf_BIIII) (hml : c.maxLocals = 4) (hr : meth.sig.returnType = (some .int)) (hlk : meth.locks = false) (hgt : ∀ w ∈ GT, w.before args s = true) (hown : s.vm.findClass RJ3 = some m.cls) (hK : va_K D vwCl [(cI, .int), (cZ, .boolean), (cC, .char), (cJ, .long), (cA, .array .int)] s) (hO : Old s0 s) (hAO : ∀ q, (aP P 77) q → s0.heap.size ≤ q) (hE : xE s0 qS)  : ∀ (M : Mm) (a1 : Int32) (a2 : Int32) (a3 : Int32) (H : Heap) (locs : List Loc) (ls : Array Slot), lv_has ls 4 [(0, .ref (qS 2)), (1, .int a1), (2, .int a2), (3, .int a3)] → va_P D vwCl ((wX cI cZ cC cJ cA P) M) H → va_D (aP P 77) ((wX cI cZ cC cJ cA P) M) → va_S (aP P 77) s.heap H locs → q_StringLatin1_indexOf M a1 a2 a3 = some (M', r') → W p l e ({ frames := 1, cells := 0, slots := 0, locals := 25 }) s m args below meth c H locs 0 0 (MQ below (gQi D (aP P 77) ((wX cI cZ cC cJ cA P) M') r') args s 0 0 (aP P 77)) (F0 m 0 ls []) := by
  intro M a1 a2 a3 H locs ls hl hP hD hS h
  unfold q_StringLatin1_indexOf at h
  refine lv_iload_n hx hb dJ3_indexOf_BIIII_0 rfl (lv_at hl 1 rfl) ?_
  obtain ⟨M1, r2, hq, h⟩ := cal_o h
  refine cx_i (va_runS (As := [.int a1]) (rest := []) ⟨hx, hb, hml, hown, hgt⟩ (z_StringLatin1_canEncode l D cI cZ cC cJ cA P s0 hAO M a1 M1 r2 hq) (va_cwS 1 hgt (gS wd_3_202 wd_3_203 wd_0_16 wd_3_204) rfl rfl rfl (by decide +kernel) ⟨Nat.le_of_ble_eq_true rfl, Nat.le_of_ble_eq_true rfl⟩) (prS hP hK hD hO hAO hS) rfl rfl hl.1 rfl (lv_room (Nat.le_of_ble_eq_true rfl)) dJ3_indexOf_BIIII_1 ⟨Nat.le_of_ble_eq_true rfl, Nat.le_of_ble_eq_true rfl⟩) hS (fun H locs hP hD hS => ?_)
  refine lv_if_ne hx hb dJ3_indexOf_BIIII_4 (tgt := 9) rfl (fun hc => ?_) (fun hc => ?_)
  · have h := br_F hc h
    refine lv_iload_n hx hb dJ3_indexOf_BIIII_9 rfl (lv_at hl 2 rfl) ?_
    refine lv_iconst (v := 0) hx hb dJ3_indexOf_BIIII_10 (by decide) ?_
    refine va_mmax hx hb (hml.trans hl.1.symm) hown (hgt _ wd_3_205) (hgt _ wd_3_206) (hgt _ wd_0_17) (hgt _ wd_3_207) (Nat.le_of_ble_eq_true rfl) (Nat.le_of_ble_eq_true rfl) (Nat.zero_le _) (Nat.zero_le _) dJ3_indexOf_BIIII_11 ?_
    refine lv_topi (fun x3 ex3 => ?_)
    have h := lt_o ex3 h
    refine lv_istore_n hx hb dJ3_indexOf_BIIII_14 rfl hl (Nat.le_of_ble_eq_true rfl) (lv' := [(2, .int x3), (0, .ref (qS 2)), (1, .int a1), (3, .int a3)]) rfl (fun ls hl => ?_)
    refine lv_iload_n hx hb dJ3_indexOf_BIIII_15 rfl (lv_at hl 3 rfl) ?_
    refine lv_aload_n hx hb dJ3_indexOf_BIIII_16 rfl (lv_at hl 1 rfl) ?_
    refine va_tlen (v := 7) hx hb (hE.t hO hAO (i := 0) (by decide)) hS (by decide) dJ3_indexOf_BIIII_17 ?_
    refine va_mmin hx hb (hml.trans hl.1.symm) hown (hgt _ wd_3_208) (hgt _ wd_3_59) (hgt _ wd_0_17) (hgt _ wd_3_60) (Nat.le_of_ble_eq_true rfl) (Nat.le_of_ble_eq_true rfl) (Nat.zero_le _) (Nat.zero_le _) dJ3_indexOf_BIIII_18 ?_
    refine lv_topi (fun x4 ex4 => ?_)
    have h := lt_o ex4 h
    refine lv_istore_n hx hb dJ3_indexOf_BIIII_21 rfl hl (Nat.le_of_ble_eq_true rfl) (lv' := [(3, .int x4), (2, .int x3), (0, .ref (qS 2)), (1, .int a1)]) rfl (fun ls hl => ?_)
    refine lv_iload_n hx hb dJ3_indexOf_BIIII_22 rfl (lv_at hl 1 rfl) ?_
    refine lv_iload_n hx hb dJ3_indexOf_BIIII_23 rfl (lv_at hl 0 rfl) ?_
    refine lv_icmp_lt hx hb dJ3_indexOf_BIIII_24 (tgt := 29) rfl (fun hc => ?_) (fun hc => ?_)
    · have h := br_T hc h
      refine lv_aload_n hx hb dJ3_indexOf_BIIII_29 rfl (lv_at hl 2 rfl) ?_
      refine lv_iload_n hx hb dJ3_indexOf_BIIII_30 rfl (lv_at hl 3 rfl) ?_
      refine lv_iload_n hx hb dJ3_indexOf_BIIII_31 rfl (lv_at hl 1 rfl) ?_
      refine lv_iload_n hx hb dJ3_indexOf_BIIII_32 rfl (lv_at hl 0 rfl) ?_
      obtain ⟨M5, r6, hq, h⟩ := cal_o h
      refine cx_i (va_runS (As := [.ref (qS 2), .int a1, .int x3, .int x4]) (rest := []) ⟨hx, hb, hml, hown, hgt⟩ (z_StringLatin1_indexOfChar l D cI cZ cC cJ cA P s0 hAO qS hE M1 a1 x3 x4 M5 r6 hq) (va_cwS 4 hgt (gS wd_3_209 wd_3_210 wd_0_16 wd_3_211) rfl rfl rfl (by decide +kernel) ⟨Nat.le_of_ble_eq_true rfl, Nat.le_of_ble_eq_true rfl⟩) (prS hP hK hD hO hAO hS) rfl rfl hl.1 rfl (lv_room (Nat.le_of_ble_eq_true rfl)) dJ3_indexOf_BIIII_33 ⟨Nat.le_of_ble_eq_true rfl, Nat.le_of_ble_eq_true rfl⟩) hS (fun H locs hP hD hS => ?_)
      exact rt_i (w := (wX cI cZ cC cJ cA P)) hx hb hr hlk hP hD hS h dJ3_indexOf_BIIII_36
    · have h := br_F hc h
      refine lv_iconst (v := (-1)) hx hb dJ3_indexOf_BIIII_27 (by decide) ?_
      exact rt_i (w := (wX cI cZ cC cJ cA P)) hx hb hr hlk hP hD hS h dJ3_indexOf_BIIII_28
  · have h := br_T hc h
    refine lv_iconst (v := (-1)) hx hb dJ3_indexOf_BIIII_7 (by decide) ?_
    exact rt_i (w := (wX cI cZ cC cJ cA P)) hx hb hr hlk hP hD hS h dJ3_indexOf_BIIII_8
set_option maxHeartbeats 4000000 in
set_option maxRecDepth 20000 in
theorem z_StringLatin1_indexOf (l : Launch) (D : va_G) (cI cZ cC cJ cA : ClassId) (P : Nat → Nat) (s0 : State) (hAO : ∀ q, (aP P 77) q → s0.heap.size ≤ q) (qS : Nat → Nat) (hE : xE s0 qS) (M : Mm) (a1 : Int32) (a2 : Int32) (a3 : Int32) (M' : Mm) (r' : Int32) (h : q_StringLatin1_indexOf M a1 a2 a3 = some (M', r')) : Met l yJ3_indexOf_BIIII wsJ3_indexOf_BIIII ({ frames := 1, cells := 0, slots := 0, locals := 25 }) (va_Pc [.ref (qS 2), .int a1, .int a2, .int a3] (gPre s0 D [(cI, .int), (cZ, .boolean), (cC, .char), (cJ, .long), (cA, .array .int)] (aP P 77) ((wX cI cZ cC cJ cA P) M))) (gQi D (aP P 77) ((wX cI cZ cC cJ cA P) M') r') 0 0 (aP P 77) := by
  refine Met.ofW (cc := cJ3_indexOf_BIIII) (maxL := 4) (ret := (some .int)) (by decide) rfl ?_
  intro p e s m args below meth c s₁ B hml hv
  obtain ⟨rfl, hP, hK, hD, hO⟩ := hv
  have hx := B.exec
  have hb := B.bytes
  have hr := B.returns
  have hlk := B.notSynchronized
  have hgt := fun w (h : w ∈ GT) => atoms_spec (ws := wsJ3_indexOf_BIIII) B.pre w (List.mem_cons_of_mem _ h)
  have hown : s.vm.findClass RJ3 = some m.cls := findClass_of_methodNamed B.named
  have hS : va_S (aP P 77) s.heap s.heap [] := va_S.rf
  have hl := lv_entry ([.ref (qS 2), .int a1, .int a2, .int a3]) (n := 4) (Nat.le_of_ble_eq_true rfl)
  rw [lg_entry_eq]
  generalize (lg_sl ([.ref (qS 2), .int a1, .int a2, .int a3]) ++ List.replicate (4 - (lg_sl ([.ref (qS 2), .int a1, .int a2, .int a3])).length) Slot.unset).toArray = ls at hl ⊢
  have hl : lv_has ls 4 [(0, .ref (qS 2)), (1, .int a1), (2, .int a2), (3, .int a3)] := hl
  exact b_StringLatin1_indexOf_0 hx hb hml hr hlk hgt hown hK hO hAO hE M a1 a2 a3 s.heap [] ls hl hP hD hS h
def q_String_indexOf_1  (M : Mm) (a1 : Int32) (a2 : Int32) : Rs := cal (q_String_isLatin1 M) fun M1 r2 => if r2 = 0 then (cal (q_String_length M1) fun M3 r4 => none) else (cal (q_String_length M1) fun M3 r4 => cal (q_StringLatin1_indexOf M3 a1 a2 r4) fun M5 r6 => some (M5, r6))
set_option maxHeartbeats 4000000 in
set_option maxRecDepth 20000 in
theorem b_String_indexOf_1_0 {p : Program} {l : Launch} {e : Env} {s s0 : State} {m : MethodId} {args : Array Value} {below : List Frame} {meth : Method} {c : Code} {D : va_G} {cI cZ cC cJ cA : ClassId} {P : Nat → Nat} {M' : Mm} {r' : Int32}  {qS : Nat → Nat} (hx : p.tables.exec = Jvm.exec) (hb : c.code = cJ0_indexOf_III) (hml : c.maxLocals = 3) (hr : meth.sig.returnType = (some .int)) (hlk : meth.locks = false) (hgt : ∀ w ∈ GT, w.before args s = true) (hown : s.vm.findClass RJ0 = some m.cls) (hK : va_K D vwCl [(cI, .int), (cZ, .boolean), (cC, .char), (cJ, .long), (cA, .array .int)] s) (hO : Old s0 s) (hAO : ∀ q, (aP P 77) q → s0.heap.size ≤ q) (hE : xE s0 qS)  : ∀ (M : Mm) (a1 : Int32) (a2 : Int32) (H : Heap) (locs : List Loc) (ls : Array Slot), lv_has ls 3 [(0, .ref (qS 0)), (1, .int a1), (2, .int a2)] → va_P D vwCl ((wX cI cZ cC cJ cA P) M) H → va_D (aP P 77) ((wX cI cZ cC cJ cA P) M) → va_S (aP P 77) s.heap H locs → q_String_indexOf_1 M a1 a2 = some (M', r') → W p l e ({ frames := 2, cells := 0, slots := 0, locals := 48 }) s m args below meth c H locs 0 0 (MQ below (gQi D (aP P 77) ((wX cI cZ cC cJ cA P) M') r') args s 0 0 (aP P 77)) (F0 m 0 ls []) := by
  intro M a1 a2 H locs ls hl hP hD hS h
  unfold q_String_indexOf_1 at h
  refine lv_aload_n hx hb dJ0_indexOf_III_0 rfl (lv_at hl 0 rfl) ?_
  obtain ⟨M1, r2, hq, h⟩ := cal_o h
  refine cx_i (va_runV (As := []) (rest := []) ⟨hx, hb, hml, hown, hgt⟩ (z_String_isLatin1 l D cI cZ cC cJ cA P s0 hAO qS hE M M1 r2 hq) (cwV 0 hgt (gV wd_3_194 wd_3_195 wd_3_196 wd_0_7 wd_3_197) rfl rfl rfl (by decide +kernel) ⟨Nat.le_of_ble_eq_true rfl, Nat.le_of_ble_eq_true rfl⟩) (prV hP hK hD hO hAO hS (hE.recv hO hAO hS (i := 0) (by decide))) rfl rfl hl.1 rfl (lv_room (Nat.le_of_ble_eq_true rfl)) dJ0_indexOf_III_1 ⟨Nat.le_of_ble_eq_true rfl, Nat.le_of_ble_eq_true rfl⟩) hS (fun H locs hP hD hS => ?_)
  refine lv_if_eq hx hb dJ0_indexOf_III_4 (tgt := 23) rfl (fun hc => ?_) (fun hc => ?_)
  · have h := br_T hc h
    refine lv_aload_n hx hb dJ0_indexOf_III_23 rfl (lv_at hl 0 rfl) ?_
    refine vk_getf hx hb (hE.v hO hAO (i := 0) (by decide)) hS hown (hgt _ wd_7_0) (fun _ h => h) dJ0_indexOf_III_24 ?_
    refine lv_iload_n hx hb dJ0_indexOf_III_27 rfl (lv_at hl 1 rfl) ?_
    refine lv_iload_n hx hb dJ0_indexOf_III_28 rfl (lv_at hl 2 rfl) ?_
    refine lv_aload_n hx hb dJ0_indexOf_III_29 rfl (lv_at hl 0 rfl) ?_
    obtain ⟨M3, r4, hq, h⟩ := cal_o h
    refine cx_i (va_runV (As := []) (rest := [.int a2, .int a1, .ref (qS 2)]) ⟨hx, hb, hml, hown, hgt⟩ (z_String_length l D cI cZ cC cJ cA P s0 hAO qS hE M1 M3 r4 hq) (cwV 0 hgt (gV wd_3_198 wd_0_228 wd_0_229 wd_0_7 wd_0_230) rfl rfl rfl (by decide +kernel) ⟨Nat.le_of_ble_eq_true rfl, Nat.le_of_ble_eq_true rfl⟩) (prV hP hK hD hO hAO hS (hE.recv hO hAO hS (i := 0) (by decide))) rfl rfl hl.1 rfl (lv_room (Nat.le_of_ble_eq_true rfl)) dJ0_indexOf_III_30 ⟨Nat.le_of_ble_eq_true rfl, Nat.le_of_ble_eq_true rfl⟩) hS (fun H locs hP hD hS => ?_)
    exact (rs_n h).elim
  · have h := br_F hc h
    refine lv_aload_n hx hb dJ0_indexOf_III_7 rfl (lv_at hl 0 rfl) ?_
    refine vk_getf hx hb (hE.v hO hAO (i := 0) (by decide)) hS hown (hgt _ wd_7_0) (fun _ h => h) dJ0_indexOf_III_8 ?_
    refine lv_iload_n hx hb dJ0_indexOf_III_11 rfl (lv_at hl 1 rfl) ?_
    refine lv_iload_n hx hb dJ0_indexOf_III_12 rfl (lv_at hl 2 rfl) ?_
    refine lv_aload_n hx hb dJ0_indexOf_III_13 rfl (lv_at hl 0 rfl) ?_
    obtain ⟨M3, r4, hq, h⟩ := cal_o h
    refine cx_i (va_runV (As := []) (rest := [.int a2, .int a1, .ref (qS 2)]) ⟨hx, hb, hml, hown, hgt⟩ (z_String_length l D cI cZ cC cJ cA P s0 hAO qS hE M1 M3 r4 hq) (cwV 0 hgt (gV wd_3_198 wd_0_228 wd_0_229 wd_0_7 wd_0_230) rfl rfl rfl (by decide +kernel) ⟨Nat.le_of_ble_eq_true rfl, Nat.le_of_ble_eq_true rfl⟩) (prV hP hK hD hO hAO hS (hE.recv hO hAO hS (i := 0) (by decide))) rfl rfl hl.1 rfl (lv_room (Nat.le_of_ble_eq_true rfl)) dJ0_indexOf_III_14 ⟨Nat.le_of_ble_eq_true rfl, Nat.le_of_ble_eq_true rfl⟩) hS (fun H locs hP hD hS => ?_)
    obtain ⟨M5, r6, hq, h⟩ := cal_o h
    refine cx_i (va_runS (As := [.ref (qS 2), .int a1, .int a2, .int r4]) (rest := []) ⟨hx, hb, hml, hown, hgt⟩ (z_StringLatin1_indexOf l D cI cZ cC cJ cA P s0 hAO qS hE M3 a1 a2 r4 M5 r6 hq) (va_cwS 4 hgt (gS wd_3_199 wd_3_200 wd_0_16 wd_3_201) rfl rfl rfl (by decide +kernel) ⟨Nat.le_of_ble_eq_true rfl, Nat.le_of_ble_eq_true rfl⟩) (prS hP hK hD hO hAO hS) rfl rfl hl.1 rfl (lv_room (Nat.le_of_ble_eq_true rfl)) dJ0_indexOf_III_17 ⟨Nat.le_of_ble_eq_true rfl, Nat.le_of_ble_eq_true rfl⟩) hS (fun H locs hP hD hS => ?_)
    refine lv_goto hx hb dJ0_indexOf_III_20 (tgt := 36) rfl ?_
    exact rt_i (w := (wX cI cZ cC cJ cA P)) hx hb hr hlk hP hD hS h dJ0_indexOf_III_36
set_option maxHeartbeats 4000000 in
set_option maxRecDepth 20000 in
theorem z_String_indexOf_1 (l : Launch) (D : va_G) (cI cZ cC cJ cA : ClassId) (P : Nat → Nat) (s0 : State) (hAO : ∀ q, (aP P 77) q → s0.heap.size ≤ q) (qS : Nat → Nat) (hE : xE s0 qS) (M : Mm) (a1 : Int32) (a2 : Int32) (M' : Mm) (r' : Int32) (h : q_String_indexOf_1 M a1 a2 = some (M', r')) : Met l yJ0_indexOf_III wsJ0_indexOf_III ({ frames := 2, cells := 0, slots := 0, locals := 48 }) (va_Pc [.ref (qS 0), .int a1, .int a2] (gPre s0 D [(cI, .int), (cZ, .boolean), (cC, .char), (cJ, .long), (cA, .array .int)] (aP P 77) ((wX cI cZ cC cJ cA P) M))) (gQi D (aP P 77) ((wX cI cZ cC cJ cA P) M') r') 0 0 (aP P 77) := by
  refine Met.ofW (cc := cJ0_indexOf_III) (maxL := 3) (ret := (some .int)) (by decide) rfl ?_
  intro p e s m args below meth c s₁ B hml hv
  obtain ⟨rfl, hP, hK, hD, hO⟩ := hv
  have hx := B.exec
  have hb := B.bytes
  have hr := B.returns
  have hlk := B.notSynchronized
  have hgt := fun w (h : w ∈ GT) => atoms_spec (ws := wsJ0_indexOf_III) B.pre w (List.mem_cons_of_mem _ h)
  have hown : s.vm.findClass RJ0 = some m.cls := findClass_of_methodNamed B.named
  have hS : va_S (aP P 77) s.heap s.heap [] := va_S.rf
  have hl := lv_entry ([.ref (qS 0), .int a1, .int a2]) (n := 3) (Nat.le_of_ble_eq_true rfl)
  rw [lg_entry_eq]
  generalize (lg_sl ([.ref (qS 0), .int a1, .int a2]) ++ List.replicate (3 - (lg_sl ([.ref (qS 0), .int a1, .int a2])).length) Slot.unset).toArray = ls at hl ⊢
  have hl : lv_has ls 3 [(0, .ref (qS 0)), (1, .int a1), (2, .int a2)] := hl
  exact b_String_indexOf_1_0 hx hb hml hr hlk hgt hown hK hO hAO hE M a1 a2 s.heap [] ls hl hP hD hS h
def q_String_indexOf  (M : Mm) (a1 : Int32) : Rs := cal (q_String_indexOf_1 M a1 0) fun M1 r2 => some (M1, r2)
set_option maxHeartbeats 4000000 in
set_option maxRecDepth 20000 in
theorem b_String_indexOf_0 {p : Program} {l : Launch} {e : Env} {s s0 : State} {m : MethodId} {args : Array Value} {below : List Frame} {meth : Method} {c : Code} {D : va_G} {cI cZ cC cJ cA : ClassId} {P : Nat → Nat} {M' : Mm} {r' : Int32}  {qS : Nat → Nat} (hx : p.tables.exec = Jvm.exec) (hb : c.code = cJ0_indexOf_II) (hml : c.maxLocals = 2) (hr : meth.sig.returnType = (some .int)) (hlk : meth.locks = false) (hgt : ∀ w ∈ GT, w.before args s = true) (hown : s.vm.findClass RJ0 = some m.cls) (hK : va_K D vwCl [(cI, .int), (cZ, .boolean), (cC, .char), (cJ, .long), (cA, .array .int)] s) (hO : Old s0 s) (hAO : ∀ q, (aP P 77) q → s0.heap.size ≤ q) (hE : xE s0 qS)  : ∀ (M : Mm) (a1 : Int32) (H : Heap) (locs : List Loc) (ls : Array Slot), lv_has ls 2 [(0, .ref (qS 0)), (1, .int a1)] → va_P D vwCl ((wX cI cZ cC cJ cA P) M) H → va_D (aP P 77) ((wX cI cZ cC cJ cA P) M) → va_S (aP P 77) s.heap H locs → q_String_indexOf M a1 = some (M', r') → W p l e ({ frames := 3, cells := 0, slots := 0, locals := 70 }) s m args below meth c H locs 0 0 (MQ below (gQi D (aP P 77) ((wX cI cZ cC cJ cA P) M') r') args s 0 0 (aP P 77)) (F0 m 0 ls []) := by
  intro M a1 H locs ls hl hP hD hS h
  unfold q_String_indexOf at h
  refine lv_aload_n hx hb dJ0_indexOf_II_0 rfl (lv_at hl 0 rfl) ?_
  refine lv_iload_n hx hb dJ0_indexOf_II_1 rfl (lv_at hl 1 rfl) ?_
  refine lv_iconst (v := 0) hx hb dJ0_indexOf_II_2 (by decide) ?_
  obtain ⟨M1, r2, hq, h⟩ := cal_o h
  refine cx_i (va_runV (As := [.int a1, .int 0]) (rest := []) ⟨hx, hb, hml, hown, hgt⟩ (z_String_indexOf_1 l D cI cZ cC cJ cA P s0 hAO qS hE M a1 0 M1 r2 hq) (cwV 2 hgt (gV wd_3_190 wd_3_191 wd_3_192 wd_0_7 wd_3_193) rfl rfl rfl (by decide +kernel) ⟨Nat.le_of_ble_eq_true rfl, Nat.le_of_ble_eq_true rfl⟩) (prV hP hK hD hO hAO hS (hE.recv hO hAO hS (i := 0) (by decide))) rfl rfl hl.1 rfl (lv_room (Nat.le_of_ble_eq_true rfl)) dJ0_indexOf_II_3 ⟨Nat.le_of_ble_eq_true rfl, Nat.le_of_ble_eq_true rfl⟩) hS (fun H locs hP hD hS => ?_)
  exact rt_i (w := (wX cI cZ cC cJ cA P)) hx hb hr hlk hP hD hS h dJ0_indexOf_II_6
set_option maxHeartbeats 4000000 in
set_option maxRecDepth 20000 in
theorem z_String_indexOf (l : Launch) (D : va_G) (cI cZ cC cJ cA : ClassId) (P : Nat → Nat) (s0 : State) (hAO : ∀ q, (aP P 77) q → s0.heap.size ≤ q) (qS : Nat → Nat) (hE : xE s0 qS) (M : Mm) (a1 : Int32) (M' : Mm) (r' : Int32) (h : q_String_indexOf M a1 = some (M', r')) : Met l yJ0_indexOf_II wsJ0_indexOf_II ({ frames := 3, cells := 0, slots := 0, locals := 70 }) (va_Pc [.ref (qS 0), .int a1] (gPre s0 D [(cI, .int), (cZ, .boolean), (cC, .char), (cJ, .long), (cA, .array .int)] (aP P 77) ((wX cI cZ cC cJ cA P) M))) (gQi D (aP P 77) ((wX cI cZ cC cJ cA P) M') r') 0 0 (aP P 77) := by
  refine Met.ofW (cc := cJ0_indexOf_II) (maxL := 2) (ret := (some .int)) (by decide) rfl ?_
  intro p e s m args below meth c s₁ B hml hv
  obtain ⟨rfl, hP, hK, hD, hO⟩ := hv
  have hx := B.exec
  have hb := B.bytes
  have hr := B.returns
  have hlk := B.notSynchronized
  have hgt := fun w (h : w ∈ GT) => atoms_spec (ws := wsJ0_indexOf_II) B.pre w (List.mem_cons_of_mem _ h)
  have hown : s.vm.findClass RJ0 = some m.cls := findClass_of_methodNamed B.named
  have hS : va_S (aP P 77) s.heap s.heap [] := va_S.rf
  have hl := lv_entry ([.ref (qS 0), .int a1]) (n := 2) (Nat.le_of_ble_eq_true rfl)
  rw [lg_entry_eq]
  generalize (lg_sl ([.ref (qS 0), .int a1]) ++ List.replicate (2 - (lg_sl ([.ref (qS 0), .int a1])).length) Slot.unset).toArray = ls at hl ⊢
  have hl : lv_has ls 2 [(0, .ref (qS 0)), (1, .int a1)] := hl
  exact b_String_indexOf_0 hx hb hml hr hlk hgt hown hK hO hAO hE M a1 s.heap [] ls hl hP hD hS h
def q_Reader_oneOf_23  (M : Mm) (v2 : Int32) : Rs := if v2 < 0 then (some (M, (-1))) else (some (M, v2))
def q_Reader_oneOf  (M : Mm)  : Rs := cal (q_Reader_next M) fun M1 r2 => cal (q_String_indexOf M1 r2) fun M3 r4 => if r4 < 0 then (q_Reader_oneOf_23 M3 r4) else (lt' (stI M3 21 (upd (M3.1 21) 3 ((M3.1 21 3) + 1))) fun M5 => q_Reader_oneOf_23 M5 r4)
set_option maxHeartbeats 4000000 in
set_option maxRecDepth 20000 in
theorem b_Reader_oneOf_23 {p : Program} {l : Launch} {e : Env} {s s0 : State} {m : MethodId} {args : Array Value} {below : List Frame} {meth : Method} {c : Code} {D : va_G} {cI cZ cC cJ cA : ClassId} {P : Nat → Nat} {M' : Mm} {r' : Int32}  {qS : Nat → Nat} (hx : p.tables.exec = Jvm.exec) (hb : c.code = cX10_oneOf) (hml : c.maxLocals = 3) (hr : meth.sig.returnType = (some .int)) (hlk : meth.locks = false) (hgt : ∀ w ∈ GT, w.before args s = true) (hown : s.vm.findClass RX10 = some m.cls) (hK : va_K D vwCl [(cI, .int), (cZ, .boolean), (cC, .char), (cJ, .long), (cA, .array .int)] s) (hO : Old s0 s) (hAO : ∀ q, (aP P 77) q → s0.heap.size ≤ q) (hE : xE s0 qS)  : ∀ (M : Mm) (v2 : Int32) (H : Heap) (locs : List Loc) (ls : Array Slot), lv_has ls 3 [(2, .int v2)] → va_P D vwCl ((wX cI cZ cC cJ cA P) M) H → va_D (aP P 77) ((wX cI cZ cC cJ cA P) M) → va_S (aP P 77) s.heap H locs → q_Reader_oneOf_23 M v2 = some (M', r') → W p l e ({ frames := 4, cells := 0, slots := 0, locals := 91 }) s m args below meth c H locs 0 0 (MQ below (gQi D (aP P 77) ((wX cI cZ cC cJ cA P) M') r') args s 0 0 (aP P 77)) (F0 m 23 ls []) := by
  intro M v2 H locs ls hl hP hD hS h
  unfold q_Reader_oneOf_23 at h
  refine lv_iload_n hx hb dX10_oneOf_23 rfl (lv_at hl 0 rfl) ?_
  refine lv_if_lt hx hb dX10_oneOf_24 (tgt := 31) rfl (fun hc => ?_) (fun hc => ?_)
  · have h := br_T hc h
    refine lv_iconst (v := (-1)) hx hb dX10_oneOf_31 (by decide) ?_
    exact rt_i (w := (wX cI cZ cC cJ cA P)) hx hb hr hlk hP hD hS h dX10_oneOf_32
  · have h := br_F hc h
    refine lv_iload_n hx hb dX10_oneOf_27 rfl (lv_at hl 0 rfl) ?_
    refine lv_goto hx hb dX10_oneOf_28 (tgt := 32) rfl ?_
    exact rt_i (w := (wX cI cZ cC cJ cA P)) hx hb hr hlk hP hD hS h dX10_oneOf_32
set_option maxHeartbeats 4000000 in
set_option maxRecDepth 20000 in
theorem b_Reader_oneOf_0 {p : Program} {l : Launch} {e : Env} {s s0 : State} {m : MethodId} {args : Array Value} {below : List Frame} {meth : Method} {c : Code} {D : va_G} {cI cZ cC cJ cA : ClassId} {P : Nat → Nat} {M' : Mm} {r' : Int32}  {qS : Nat → Nat} (hx : p.tables.exec = Jvm.exec) (hb : c.code = cX10_oneOf) (hml : c.maxLocals = 3) (hr : meth.sig.returnType = (some .int)) (hlk : meth.locks = false) (hgt : ∀ w ∈ GT, w.before args s = true) (hown : s.vm.findClass RX10 = some m.cls) (hK : va_K D vwCl [(cI, .int), (cZ, .boolean), (cC, .char), (cJ, .long), (cA, .array .int)] s) (hO : Old s0 s) (hAO : ∀ q, (aP P 77) q → s0.heap.size ≤ q) (hE : xE s0 qS)  : ∀ (M : Mm)  (H : Heap) (locs : List Loc) (ls : Array Slot), lv_has ls 3 [(0, .ref (P 21)), (1, .ref (qS 0))] → va_P D vwCl ((wX cI cZ cC cJ cA P) M) H → va_D (aP P 77) ((wX cI cZ cC cJ cA P) M) → va_S (aP P 77) s.heap H locs → q_Reader_oneOf M = some (M', r') → W p l e ({ frames := 4, cells := 0, slots := 0, locals := 91 }) s m args below meth c H locs 0 0 (MQ below (gQi D (aP P 77) ((wX cI cZ cC cJ cA P) M') r') args s 0 0 (aP P 77)) (F0 m 0 ls []) := by
  intro M H locs ls hl hP hD hS h
  unfold q_Reader_oneOf at h
  refine lv_aload_n hx hb dX10_oneOf_0 rfl (lv_at hl 1 rfl) ?_
  refine lv_aload_n hx hb dX10_oneOf_1 rfl (lv_at hl 0 rfl) ?_
  obtain ⟨M1, r2, hq, h⟩ := cal_o h
  refine cx_i (va_runV (As := []) (rest := [.ref (qS 0)]) ⟨hx, hb, hml, hown, hgt⟩ (z_Reader_next l D cI cZ cC cJ cA P s0 hAO M M1 r2 hq) (cwV 0 hgt (gV wd_3_150 wd_3_152 sl__ChipMap_Reader____ChipMap_Reader___next_____C_____ChipMap_Reader___next_____C__ wd_0_4 wd_3_153) rfl rfl rfl (by decide +kernel) ⟨Nat.le_of_ble_eq_true rfl, Nat.le_of_ble_eq_true rfl⟩) (prV hP hK hD hO hAO hS (va_recv hK hP (ci := 10) (q0 := 21) rfl gX_21)) rfl rfl hl.1 rfl (lv_room (Nat.le_of_ble_eq_true rfl)) dX10_oneOf_2 ⟨Nat.le_of_ble_eq_true rfl, Nat.le_of_ble_eq_true rfl⟩) hS (fun H locs hP hD hS => ?_)
  obtain ⟨M3, r4, hq, h⟩ := cal_o h
  refine cx_i (va_runV (As := [.int r2]) (rest := []) ⟨hx, hb, hml, hown, hgt⟩ (z_String_indexOf l D cI cZ cC cJ cA P s0 hAO qS hE M1 r2 M3 r4 hq) (cwV 1 hgt (gV wd_3_186 wd_3_187 wd_3_188 wd_0_7 wd_3_189) rfl rfl rfl (by decide +kernel) ⟨Nat.le_of_ble_eq_true rfl, Nat.le_of_ble_eq_true rfl⟩) (prV hP hK hD hO hAO hS (hE.recv hO hAO hS (i := 0) (by decide))) rfl rfl hl.1 rfl (lv_room (Nat.le_of_ble_eq_true rfl)) dX10_oneOf_5 ⟨Nat.le_of_ble_eq_true rfl, Nat.le_of_ble_eq_true rfl⟩) hS (fun H locs hP hD hS => ?_)
  refine lv_istore_n hx hb dX10_oneOf_8 rfl hl (Nat.le_of_ble_eq_true rfl) (lv' := [(2, .int r4), (0, .ref (P 21)), (1, .ref (qS 0))]) rfl (fun ls hl => ?_)
  refine lv_iload_n hx hb dX10_oneOf_9 rfl (lv_at hl 0 rfl) ?_
  refine lv_if_lt hx hb dX10_oneOf_10 (tgt := 23) rfl (fun hc => ?_) (fun hc => ?_)
  · have h := br_T hc h
    have hl := lv_sub hl [0] (l' := [(2, .int r4)]) rfl
    exact b_Reader_oneOf_23 hx hb hml hr hlk hgt hown hK hO hAO hE M3 r4 H _ ls hl hP hD hS h
  · have h := br_F hc h
    refine lv_aload_n hx hb dX10_oneOf_13 rfl (lv_at hl 1 rfl) ?_
    refine lv_dup hx hb dX10_oneOf_14 rfl ?_
    refine va_get (D := D) (ci := 10) (v := .int (M3.1 21 3)) (C := RX10) (T := TX10) (N := 4) hx hb hgt iwX10 hown hK hP 21 gX_21 rfl 3 (Nat.le_of_ble_eq_true rfl) (hgt _ wd_0_191) (fun _ h9 => h9) rfl dX10_oneOf_15 ?_
    refine lv_iconst (v := 1) hx hb dX10_oneOf_18 (by decide) ?_
    refine lv_iadd hx hb dX10_oneOf_19 ?_
    refine pm_put (w := (wX cI cZ cC cJ cA P)) (D := D) (ci := 10) (x := ((M3.1 21 3) + 1)) (ty := .int) (C := RX10) (T := TX10) (N := 4) hx hb hgt iwX10 tyX10 tyX10_ok nmX10 hown hK hP hD hS 21 gX_21 rfl 3 (Nat.le_of_ble_eq_true rfl) (hgt _ wd_0_191) (fun _ h9 => h9) rfl (by decide +kernel) rfl rfl (Nat.le_of_ble_eq_true rfl) (sX_21_3 _) dX10_oneOf_20 (fun M5 eM5 H locs hP hD hS => ?_)
    have h := lt_o eM5 h
    have hl := lv_sub hl [0] (l' := [(2, .int r4)]) rfl
    exact b_Reader_oneOf_23 hx hb hml hr hlk hgt hown hK hO hAO hE M5 r4 H _ ls hl hP hD hS h
set_option maxHeartbeats 4000000 in
set_option maxRecDepth 20000 in
theorem z_Reader_oneOf (l : Launch) (D : va_G) (cI cZ cC cJ cA : ClassId) (P : Nat → Nat) (s0 : State) (hAO : ∀ q, (aP P 77) q → s0.heap.size ≤ q) (qS : Nat → Nat) (hE : xE s0 qS) (M : Mm)  (M' : Mm) (r' : Int32) (h : q_Reader_oneOf M = some (M', r')) : Met l yX10_oneOf wsX10_oneOf ({ frames := 4, cells := 0, slots := 0, locals := 91 }) (va_Pc [.ref (P 21), .ref (qS 0)] (gPre s0 D [(cI, .int), (cZ, .boolean), (cC, .char), (cJ, .long), (cA, .array .int)] (aP P 77) ((wX cI cZ cC cJ cA P) M))) (gQi D (aP P 77) ((wX cI cZ cC cJ cA P) M') r') 0 0 (aP P 77) := by
  refine Met.ofW (cc := cX10_oneOf) (maxL := 3) (ret := (some .int)) (by decide) rfl ?_
  intro p e s m args below meth c s₁ B hml hv
  obtain ⟨rfl, hP, hK, hD, hO⟩ := hv
  have hx := B.exec
  have hb := B.bytes
  have hr := B.returns
  have hlk := B.notSynchronized
  have hgt := fun w (h : w ∈ GT) => atoms_spec (ws := wsX10_oneOf) B.pre w (List.mem_cons_of_mem _ h)
  have hown : s.vm.findClass RX10 = some m.cls := findClass_of_methodNamed B.named
  have hS : va_S (aP P 77) s.heap s.heap [] := va_S.rf
  have hl := lv_entry ([.ref (P 21), .ref (qS 0)]) (n := 3) (Nat.le_of_ble_eq_true rfl)
  rw [lg_entry_eq]
  generalize (lg_sl ([.ref (P 21), .ref (qS 0)]) ++ List.replicate (3 - (lg_sl ([.ref (P 21), .ref (qS 0)])).length) Slot.unset).toArray = ls at hl ⊢
  have hl : lv_has ls 3 [(0, .ref (P 21)), (1, .ref (qS 0))] := hl
  exact b_Reader_oneOf_0 hx hb hml hr hlk hgt hown hK hO hAO hE M s.heap [] ls hl hP hD hS h
end
