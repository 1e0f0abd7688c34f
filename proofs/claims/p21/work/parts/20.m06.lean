section
def q_ChipMapModel_trace_32  (M : Mm) (v2 : Int32) (v3 : Int32) (v4 : Int32) (t0 : Int32) (t1 : Int32) : Rs := ix t1 64 <| lt' (stI M 37 (upd (M.1 37) (t1 : Int32).toNatClampNeg t0)) fun M1 => ix v2 16 <| ix v4 64 <| lt' (stI M1 38 (upd (M1.1 38) (v4 : Int32).toNatClampNeg (M1.1 20 (v2 : Int32).toNatClampNeg))) fun M2 => ix v4 64 <| lt' (stI M2 39 (upd (M2.1 39) (v4 : Int32).toNatClampNeg v3)) fun M3 => lt' (stI M3 0 (upd (M3.1 0) 47 ((M3.1 0 47) + 1))) fun M4 => some (M4, 0)
def q_ChipMapModel_trace  (M : Mm) (a1 : Int32) (a2 : Int32) (a3 : Int32) : Rs := if (M.1 0 58) = 0 then (lt' ((M.1 0 47) - (M.1 0 47) / 64 * 64) fun x1 => if a1 = 0 then (q_ChipMapModel_trace_32 M a2 a3 x1 0 x1) else (q_ChipMapModel_trace_32 M a2 a3 x1 1 x1)) else (some (M, 0))
set_option maxHeartbeats 4000000 in
set_option maxRecDepth 20000 in
theorem b_ChipMapModel_trace_32 {p : Program} {l : Launch} {e : Env} {s s0 : State} {m : MethodId} {args : Array Value} {below : List Frame} {meth : Method} {c : Code} {D : va_G} {cI cZ cC cJ cA : ClassId} {P : Nat → Nat} {M' : Mm} {r' : Int32}  (hx : p.tables.exec = Jvm.exec) (hb : c.code = cX1_trace_ZIIV) (hml : c.maxLocals = 5) (hr : meth.sig.returnType = none) (hlk : meth.locks = false) (hgt : ∀ w ∈ GT, w.before args s = true) (hown : s.vm.findClass RX1 = some m.cls) (hK : va_K D vwCl [(cI, .int), (cZ, .boolean), (cC, .char), (cJ, .long), (cA, .array .int)] s) (hO : Old s0 s) (hAO : ∀ q, (aP P 51) q → s0.heap.size ≤ q)  : ∀ (M : Mm) (v2 : Int32) (v3 : Int32) (v4 : Int32) (t0 : Int32) (t1 : Int32) (H : Heap) (locs : List Loc) (ls : Array Slot), lv_has ls 5 [(0, .ref (P 0)), (2, .int v2), (3, .int v3), (4, .int v4)] → va_P D vwCl ((wY cI cZ cC cJ cA P) M) H → va_D (aP P 51) ((wY cI cZ cC cJ cA P) M) → va_S (aP P 51) s.heap H locs → q_ChipMapModel_trace_32 M v2 v3 v4 t0 t1 = some (M', r') → W p l e ({ frames := 0, cells := 0, slots := 0, locals := 0 }) s m args below meth c H locs 0 0 (MQ below (gQv D (aP P 51) ((wY cI cZ cC cJ cA P) M')) args s 0 0 (aP P 51)) (F0 m 32 ls [.int t0, .int t1, .ref (P 37)]) := by
  intro M v2 v3 v4 t0 t1 H locs ls hl hP hD hS h
  unfold q_ChipMapModel_trace_32 at h
  refine pm_iast (w := (wY cI cZ cC cJ cA P)) hx hb hK hP hD hS 37 0 gY_37 rfl sY_37 (ix_l h) dX1_trace_ZIIV_32 (fun M1 eM1 H locs hP hD hS => ?_)
  have h := ix_r h
  have h := lt_o eM1 h
  refine lv_aload_n hx hb dX1_trace_ZIIV_33 rfl (lv_at hl 0 rfl) ?_
  refine va_get (D := D) (ci := 1) (v := .ref (P 38)) (C := RX1) (T := TX1) (N := 76) hx hb hgt iwX1 hown hK hP 0 gY_0 rfl 50 (Nat.le_of_ble_eq_true rfl) (hgt _ wd_5_11) (fun _ h9 => h9) rfl dX1_trace_ZIIV_34 ?_
  refine lv_iload hx hb dX1_trace_ZIIV_37 (lv_at hl 3 rfl) ?_
  refine lv_aload_n hx hb dX1_trace_ZIIV_39 rfl (lv_at hl 0 rfl) ?_
  refine va_get (D := D) (ci := 1) (v := .ref (P 20)) (C := RX1) (T := TX1) (N := 76) hx hb hgt iwX1 hown hK hP 0 gY_0 rfl 29 (Nat.le_of_ble_eq_true rfl) (hgt _ wd_4_230) (fun _ h9 => h9) rfl dX1_trace_ZIIV_40 ?_
  refine lv_iload_n hx hb dX1_trace_ZIIV_43 rfl (lv_at hl 1 rfl) ?_
  refine va_iald hx hb hK hP 20 0 gY_20 rfl (ix_l h) dX1_trace_ZIIV_44 ?_
  have h := ix_r h
  refine pm_iast (w := (wY cI cZ cC cJ cA P)) hx hb hK hP hD hS 38 0 gY_38 rfl sY_38 (ix_l h) dX1_trace_ZIIV_45 (fun M2 eM2 H locs hP hD hS => ?_)
  have h := ix_r h
  have h := lt_o eM2 h
  refine lv_aload_n hx hb dX1_trace_ZIIV_46 rfl (lv_at hl 0 rfl) ?_
  refine va_get (D := D) (ci := 1) (v := .ref (P 39)) (C := RX1) (T := TX1) (N := 76) hx hb hgt iwX1 hown hK hP 0 gY_0 rfl 51 (Nat.le_of_ble_eq_true rfl) (hgt _ wd_5_12) (fun _ h9 => h9) rfl dX1_trace_ZIIV_47 ?_
  refine lv_iload hx hb dX1_trace_ZIIV_50 (lv_at hl 3 rfl) ?_
  refine lv_iload_n hx hb dX1_trace_ZIIV_52 rfl (lv_at hl 2 rfl) ?_
  refine pm_iast (w := (wY cI cZ cC cJ cA P)) hx hb hK hP hD hS 39 0 gY_39 rfl sY_39 (ix_l h) dX1_trace_ZIIV_53 (fun M3 eM3 H locs hP hD hS => ?_)
  have h := ix_r h
  have h := lt_o eM3 h
  refine lv_aload_n hx hb dX1_trace_ZIIV_54 rfl (lv_at hl 0 rfl) ?_
  refine lv_dup hx hb dX1_trace_ZIIV_55 rfl ?_
  refine va_get (D := D) (ci := 1) (v := .int (M3.1 0 47)) (C := RX1) (T := TX1) (N := 76) hx hb hgt iwX1 hown hK hP 0 gY_0 rfl 47 (Nat.le_of_ble_eq_true rfl) (hgt _ wd_5_8) (fun _ h9 => h9) rfl dX1_trace_ZIIV_56 ?_
  refine lv_iconst (v := 1) hx hb dX1_trace_ZIIV_59 (by decide) ?_
  refine lv_iadd hx hb dX1_trace_ZIIV_60 ?_
  refine pm_put (w := (wY cI cZ cC cJ cA P)) (D := D) (ci := 1) (x := ((M3.1 0 47) + 1)) (ty := .int) (C := RX1) (T := TX1) (N := 76) hx hb hgt iwX1 tyX1 tyX1_ok nmX1 hown hK hP hD hS 0 gY_0 rfl 47 (Nat.le_of_ble_eq_true rfl) (hgt _ wd_5_8) (fun _ h9 => h9) rfl (by decide +kernel) rfl rfl (Nat.le_of_ble_eq_true rfl) (sY_0_47 _) dX1_trace_ZIIV_61 (fun M4 eM4 H locs hP hD hS => ?_)
  have h := lt_o eM4 h
  exact rt_v (w := (wY cI cZ cC cJ cA P)) (r := r') hx hb hr hlk hP hD hS h dX1_trace_ZIIV_64
set_option maxHeartbeats 4000000 in
set_option maxRecDepth 20000 in
theorem b_ChipMapModel_trace_0 {p : Program} {l : Launch} {e : Env} {s s0 : State} {m : MethodId} {args : Array Value} {below : List Frame} {meth : Method} {c : Code} {D : va_G} {cI cZ cC cJ cA : ClassId} {P : Nat → Nat} {M' : Mm} {r' : Int32}  (hx : p.tables.exec = Jvm.exec) (hb : c.code = cX1_trace_ZIIV) (hml : c.maxLocals = 5) (hr : meth.sig.returnType = none) (hlk : meth.locks = false) (hgt : ∀ w ∈ GT, w.before args s = true) (hown : s.vm.findClass RX1 = some m.cls) (hK : va_K D vwCl [(cI, .int), (cZ, .boolean), (cC, .char), (cJ, .long), (cA, .array .int)] s) (hO : Old s0 s) (hAO : ∀ q, (aP P 51) q → s0.heap.size ≤ q)  : ∀ (M : Mm) (a1 : Int32) (a2 : Int32) (a3 : Int32) (H : Heap) (locs : List Loc) (ls : Array Slot), lv_has ls 5 [(0, .ref (P 0)), (1, .int a1), (2, .int a2), (3, .int a3)] → va_P D vwCl ((wY cI cZ cC cJ cA P) M) H → va_D (aP P 51) ((wY cI cZ cC cJ cA P) M) → va_S (aP P 51) s.heap H locs → q_ChipMapModel_trace M a1 a2 a3 = some (M', r') → W p l e ({ frames := 0, cells := 0, slots := 0, locals := 0 }) s m args below meth c H locs 0 0 (MQ below (gQv D (aP P 51) ((wY cI cZ cC cJ cA P) M')) args s 0 0 (aP P 51)) (F0 m 0 ls []) := by
  intro M a1 a2 a3 H locs ls hl hP hD hS h
  unfold q_ChipMapModel_trace at h
  refine lv_aload_n hx hb dX1_trace_ZIIV_0 rfl (lv_at hl 0 rfl) ?_
  refine va_get (D := D) (ci := 1) (v := .int (M.1 0 58)) (C := RX1) (T := TX1) (N := 76) hx hb hgt iwX1 hown hK hP 0 gY_0 rfl 58 (Nat.le_of_ble_eq_true rfl) (hgt _ wd_5_19) (fun _ h9 => h9) rfl dX1_trace_ZIIV_1 ?_
  refine lv_if_eq hx hb dX1_trace_ZIIV_4 (tgt := 8) rfl (fun hc => ?_) (fun hc => ?_)
  · have h := br_T hc h
    refine lv_aload_n hx hb dX1_trace_ZIIV_8 rfl (lv_at hl 0 rfl) ?_
    refine va_get (D := D) (ci := 1) (v := .int (M.1 0 47)) (C := RX1) (T := TX1) (N := 76) hx hb hgt iwX1 hown hK hP 0 gY_0 rfl 47 (Nat.le_of_ble_eq_true rfl) (hgt _ wd_5_8) (fun _ h9 => h9) rfl dX1_trace_ZIIV_9 ?_
    refine lv_bipush (v := 64) hx hb dX1_trace_ZIIV_12 (by decide) ?_
    refine lv_irem hx hb dX1_trace_ZIIV_14 (by decide) ?_
    refine lv_topi (fun x1 ex1 => ?_)
    have h := lt_o ex1 h
    refine lv_istore hx hb dX1_trace_ZIIV_15 hl (Nat.le_of_ble_eq_true rfl) (lv' := [(4, .int x1), (0, .ref (P 0)), (1, .int a1), (2, .int a2), (3, .int a3)]) rfl (fun ls hl => ?_)
    refine lv_aload_n hx hb dX1_trace_ZIIV_17 rfl (lv_at hl 1 rfl) ?_
    refine va_get (D := D) (ci := 1) (v := .ref (P 37)) (C := RX1) (T := TX1) (N := 76) hx hb hgt iwX1 hown hK hP 0 gY_0 rfl 49 (Nat.le_of_ble_eq_true rfl) (hgt _ wd_5_10) (fun _ h9 => h9) rfl dX1_trace_ZIIV_18 ?_
    refine lv_iload hx hb dX1_trace_ZIIV_21 (lv_at hl 0 rfl) ?_
    refine lv_iload_n hx hb dX1_trace_ZIIV_23 rfl (lv_at hl 2 rfl) ?_
    refine lv_if_eq hx hb dX1_trace_ZIIV_24 (tgt := 31) rfl (fun hc => ?_) (fun hc => ?_)
    · have h := br_T hc h
      refine lv_iconst (v := 0) hx hb dX1_trace_ZIIV_31 (by decide) ?_
      have hl := lv_sub hl [1, 3, 4, 0] (l' := [(0, .ref (P 0)), (2, .int a2), (3, .int a3), (4, .int x1)]) rfl
      exact b_ChipMapModel_trace_32 hx hb hml hr hlk hgt hown hK hO hAO M a2 a3 x1 0 x1 H _ ls hl hP hD hS h
    · have h := br_F hc h
      refine lv_iconst (v := 1) hx hb dX1_trace_ZIIV_27 (by decide) ?_
      refine lv_goto hx hb dX1_trace_ZIIV_28 (tgt := 32) rfl ?_
      have hl := lv_sub hl [1, 3, 4, 0] (l' := [(0, .ref (P 0)), (2, .int a2), (3, .int a3), (4, .int x1)]) rfl
      exact b_ChipMapModel_trace_32 hx hb hml hr hlk hgt hown hK hO hAO M a2 a3 x1 1 x1 H _ ls hl hP hD hS h
  · have h := br_F hc h
    exact rt_v (w := (wY cI cZ cC cJ cA P)) (r := r') hx hb hr hlk hP hD hS h dX1_trace_ZIIV_7
set_option maxHeartbeats 4000000 in
set_option maxRecDepth 20000 in
theorem z_ChipMapModel_trace (l : Launch) (D : va_G) (cI cZ cC cJ cA : ClassId) (P : Nat → Nat) (s0 : State) (hAO : ∀ q, (aP P 51) q → s0.heap.size ≤ q) (M : Mm) (a1 : Int32) (a2 : Int32) (a3 : Int32) (M' : Mm) (r' : Int32) (h : q_ChipMapModel_trace M a1 a2 a3 = some (M', r')) : Met l yX1_trace_ZIIV wsX1_trace_ZIIV ({ frames := 0, cells := 0, slots := 0, locals := 0 }) (va_Pc [.ref (P 0), .int a1, .int a2, .int a3] (gPre s0 D [(cI, .int), (cZ, .boolean), (cC, .char), (cJ, .long), (cA, .array .int)] (aP P 51) ((wY cI cZ cC cJ cA P) M))) (gQv D (aP P 51) ((wY cI cZ cC cJ cA P) M')) 0 0 (aP P 51) := by
  refine Met.ofW (cc := cX1_trace_ZIIV) (maxL := 5) (ret := none) (by decide) rfl ?_
  intro p e s m args below meth c s₁ B hml hv
  obtain ⟨rfl, hP, hK, hD, hO⟩ := hv
  have hx := B.exec
  have hb := B.bytes
  have hr := B.returns
  have hlk := B.notSynchronized
  have hgt := fun w (h : w ∈ GT) => atoms_spec (ws := wsX1_trace_ZIIV) B.pre w (List.mem_cons_of_mem _ h)
  have hown : s.vm.findClass RX1 = some m.cls := findClass_of_methodNamed B.named
  have hS : va_S (aP P 51) s.heap s.heap [] := va_S.rf
  have hl := lv_entry ([.ref (P 0), .int a1, .int a2, .int a3]) (n := 5) (Nat.le_of_ble_eq_true rfl)
  rw [lg_entry_eq]
  generalize (lg_sl ([.ref (P 0), .int a1, .int a2, .int a3]) ++ List.replicate (5 - (lg_sl ([.ref (P 0), .int a1, .int a2, .int a3])).length) Slot.unset).toArray = ls at hl ⊢
  have hl : lv_has ls 5 [(0, .ref (P 0)), (1, .int a1), (2, .int a2), (3, .int a3)] := hl
  exact b_ChipMapModel_trace_0 hx hb hml hr hlk hgt hown hK hO hAO M a1 a2 a3 s.heap [] ls hl hP hD hS h
def q_ChipMapModel_write_255 (kf136 : Mm → Int32 → Int32 → Int32 → Rs) (M : Mm) (v1 : Int32) (v2 : Int32) (v3 : Int32) : Rs := kf136 M v1 v2 (v3 + 1)
def q_ChipMapModel_write_224 (kf136 : Mm → Int32 → Int32 → Int32 → Rs) (M : Mm) (v1 : Int32) (v2 : Int32) (v3 : Int32) (v4 : Int32) : Rs := ix v3 26 <| if (M.1 24 (v3 : Int32).toNatClampNeg) = 112 then (if v4 = 0 then (q_ChipMapModel_write_255 kf136 M v1 v2 v3) else (ix v3 78 <| lt' (stI M 33 (upd (M.1 33) (v3 : Int32).toNatClampNeg v4)) fun M1 => ix v3 78 <| lt' (stI M1 34 (upd (M1.1 34) (v3 : Int32).toNatClampNeg 2)) fun M2 => q_ChipMapModel_write_255 kf136 M2 v1 v2 v3)) else (q_ChipMapModel_write_255 kf136 M v1 v2 v3)
def q_ChipMapModel_write_202 (kf136 : Mm → Int32 → Int32 → Int32 → Rs) (M : Mm) (v1 : Int32) (v2 : Int32) (v3 : Int32) (v4 : Int32) : Rs := ix v3 26 <| if (M.1 24 (v3 : Int32).toNatClampNeg) = 115 then (ix v3 78 <| ix v3 78 <| lt' (stI M 33 (upd (M.1 33) (v3 : Int32).toNatClampNeg ((M.1 33 (v3 : Int32).toNatClampNeg) ||| v4))) fun M1 => q_ChipMapModel_write_224 kf136 M1 v1 v2 v3 v4) else (q_ChipMapModel_write_224 kf136 M v1 v2 v3 v4)
def q_ChipMapModel_write_178 (kf136 : Mm → Int32 → Int32 → Int32 → Rs) (M : Mm) (v1 : Int32) (v2 : Int32) (v3 : Int32) (v4 : Int32) : Rs := ix v3 26 <| if (M.1 24 (v3 : Int32).toNatClampNeg) = 116 then (ix v3 78 <| ix v3 78 <| lt' (stI M 33 (upd (M.1 33) (v3 : Int32).toNatClampNeg ((M.1 33 (v3 : Int32).toNatClampNeg) &&& (v4 ^^^ (-1))))) fun M1 => q_ChipMapModel_write_202 kf136 M1 v1 v2 v3 v4) else (q_ChipMapModel_write_202 kf136 M v1 v2 v3 v4)
def q_ChipMapModel_write_136  : Nat → Mm → Int32 → Int32 → Int32 → Rs
  | 0, _, _, _, _ => none
  | n' + 1, M, v1, v2, v3 => if 26 ≤ v3 then (cal (q_ChipMapModel_trace M 1 v1 v2) fun M1 r2 => some (M1, 0)) else (cal (q_ChipMapModel_isIn M v3 v1) fun M1 r2 => if r2 = 0 then (q_ChipMapModel_write_255 (q_ChipMapModel_write_136 n') M1 v1 v2 v3) else (cal (q_ChipMapModel_part M1 v3 v2) fun M3 r4 => cal (q_ChipMapModel_isStored M3 v3) fun M5 r6 => if r6 = 0 then (q_ChipMapModel_write_178 (q_ChipMapModel_write_136 n') M5 v1 v2 v3 r4) else (ix v3 78 <| lt' (stI M5 33 (upd (M5.1 33) (v3 : Int32).toNatClampNeg r4)) fun M7 => q_ChipMapModel_write_178 (q_ChipMapModel_write_136 n') M7 v1 v2 v3 r4)))
def q_ChipMapModel_write_128 (kf2 : Mm → Int32 → Int32 → Int32 → Rs) (M : Mm) (v1 : Int32) (v2 : Int32) (v3 : Int32) : Rs := kf2 M v1 v2 (v3 + 1)
def q_ChipMapModel_write_127 (kf2 : Mm → Int32 → Int32 → Int32 → Rs) (M : Mm) (v1 : Int32) (v2 : Int32) (v3 : Int32) (t0 : Int32) (t1 : Int32) : Rs := ix t1 36 <| lt' (stI M 36 (upd (M.1 36) (t1 : Int32).toNatClampNeg (vp_nar .boolean t0))) fun M1 => q_ChipMapModel_write_128 kf2 M1 v1 v2 v3
def q_ChipMapModel_write_126 (kf2 : Mm → Int32 → Int32 → Int32 → Rs) (M : Mm) (v1 : Int32) (v2 : Int32) (v3 : Int32) (t0 : Int32) : Rs := q_ChipMapModel_write_127 kf2 M v1 v2 v3 0 t0
def q_ChipMapModel_write_74 (kf2 : Mm → Int32 → Int32 → Int32 → Rs) (M : Mm) (v1 : Int32) (v2 : Int32) (v3 : Int32) (v4 : Int32) (v5 : Int32) : Rs := ix v3 12 <| if (M.1 29 (v3 : Int32).toNatClampNeg) = 33 then (if v4 = 0 then (ix v3 36 <| if (M.1 36 (v3 : Int32).toNatClampNeg) = 0 then (q_ChipMapModel_write_126 kf2 M v1 v2 v3 v3) else (if v5 = 0 then (q_ChipMapModel_write_127 kf2 M v1 v2 v3 1 v3) else (q_ChipMapModel_write_126 kf2 M v1 v2 v3 v3))) else (if v5 = 0 then (q_ChipMapModel_write_127 kf2 M v1 v2 v3 1 v3) else (q_ChipMapModel_write_127 kf2 M v1 v2 v3 0 v3))) else (q_ChipMapModel_write_128 kf2 M v1 v2 v3)
def q_ChipMapModel_write_73 (kf2 : Mm → Int32 → Int32 → Int32 → Rs) (M : Mm) (v1 : Int32) (v2 : Int32) (v3 : Int32) (v4 : Int32) (v5 : Int32) (t0 : Int32) (t1 : Int32) : Rs := ix t1 36 <| lt' (stI M 36 (upd (M.1 36) (t1 : Int32).toNatClampNeg (vp_nar .boolean t0))) fun M1 => q_ChipMapModel_write_74 kf2 M1 v1 v2 v3 v4 v5
def q_ChipMapModel_write_68 (kf2 : Mm → Int32 → Int32 → Int32 → Rs) (M : Mm) (v1 : Int32) (v2 : Int32) (v3 : Int32) (v4 : Int32) (v5 : Int32) (t0 : Int32) : Rs := q_ChipMapModel_write_73 kf2 M v1 v2 v3 v4 v5 1 t0
def q_ChipMapModel_write_2  : Nat → Mm → Int32 → Int32 → Int32 → Rs
  | 0, _, _, _, _ => none
  | n' + 1, M, v1, v2, v3 => if (M.1 0 38) ≤ v3 then (q_ChipMapModel_write_136 4000 M v1 v2 0) else (ix v3 12 <| cal (q_ChipMapModel_isWritten M (M.1 30 (v3 : Int32).toNatClampNeg) v1 v2) fun M1 r2 => ix v3 12 <| cal (q_ChipMapModel_isWritten M1 (M1.1 31 (v3 : Int32).toNatClampNeg) v1 v2) fun M3 r4 => ix v3 12 <| if (M3.1 29 (v3 : Int32).toNatClampNeg) = 60 then (ix v3 36 <| if (M3.1 36 (v3 : Int32).toNatClampNeg) = 0 then (if r2 = 0 then (q_ChipMapModel_write_73 (q_ChipMapModel_write_2 n') M3 v1 v2 v3 r2 r4 0 v3) else (q_ChipMapModel_write_68 (q_ChipMapModel_write_2 n') M3 v1 v2 v3 r2 r4 v3)) else (q_ChipMapModel_write_68 (q_ChipMapModel_write_2 n') M3 v1 v2 v3 r2 r4 v3)) else (q_ChipMapModel_write_74 (q_ChipMapModel_write_2 n') M3 v1 v2 v3 r2 r4))
def q_ChipMapModel_write  (M : Mm) (a1 : Int32) (a2 : Int32) : Rs := q_ChipMapModel_write_2 4000 M a1 a2 0
set_option maxHeartbeats 4000000 in
set_option maxRecDepth 20000 in
theorem b_ChipMapModel_write_255 {p : Program} {l : Launch} {e : Env} {s s0 : State} {m : MethodId} {args : Array Value} {below : List Frame} {meth : Method} {c : Code} {D : va_G} {cI cZ cC cJ cA : ClassId} {P : Nat → Nat} {M' : Mm} {r' : Int32} {kf136 : Mm → Int32 → Int32 → Int32 → Rs} (hx : p.tables.exec = Jvm.exec) (hb : c.code = cX1_write) (hml : c.maxLocals = 6) (hr : meth.sig.returnType = none) (hlk : meth.locks = false) (hgt : ∀ w ∈ GT, w.before args s = true) (hown : s.vm.findClass RX1 = some m.cls) (hK : va_K D vwCl [(cI, .int), (cZ, .boolean), (cC, .char), (cJ, .long), (cA, .array .int)] s) (hO : Old s0 s) (hAO : ∀ q, (aP P 51) q → s0.heap.size ≤ q) (kk136 : ∀ (M : Mm) (v1 : Int32) (v2 : Int32) (v3 : Int32) (H : Heap) (locs : List Loc) (ls : Array Slot), lv_has ls 6 [(0, .ref (P 0)), (1, .int v1), (2, .int v2), (3, .int v3)] → va_P D vwCl ((wY cI cZ cC cJ cA P) M) H → va_D (aP P 51) ((wY cI cZ cC cJ cA P) M) → va_S (aP P 51) s.heap H locs → kf136 M v1 v2 v3 = some (M', r') → W p l e ({ frames := 2, cells := 0, slots := 0, locals := 46 }) s m args below meth c H locs 0 0 (MQ below (gQv D (aP P 51) ((wY cI cZ cC cJ cA P) M')) args s 0 0 (aP P 51)) (F0 m 136 ls [])) : ∀ (M : Mm) (v1 : Int32) (v2 : Int32) (v3 : Int32) (H : Heap) (locs : List Loc) (ls : Array Slot), lv_has ls 6 [(0, .ref (P 0)), (1, .int v1), (2, .int v2), (3, .int v3)] → va_P D vwCl ((wY cI cZ cC cJ cA P) M) H → va_D (aP P 51) ((wY cI cZ cC cJ cA P) M) → va_S (aP P 51) s.heap H locs → q_ChipMapModel_write_255 kf136 M v1 v2 v3 = some (M', r') → W p l e ({ frames := 2, cells := 0, slots := 0, locals := 46 }) s m args below meth c H locs 0 0 (MQ below (gQv D (aP P 51) ((wY cI cZ cC cJ cA P) M')) args s 0 0 (aP P 51)) (F0 m 255 ls []) := by
  intro M v1 v2 v3 H locs ls hl hP hD hS h
  unfold q_ChipMapModel_write_255 at h
  refine lv_iinc (v := (v3 + 1)) hx hb dX1_write_255 hl (k := 3) rfl rfl (Nat.le_of_ble_eq_true rfl) (lv' := [(3, .int (v3 + 1)), (0, .ref (P 0)), (1, .int v1), (2, .int v2)]) rfl (fun ls hl => ?_)
  refine lv_goto hx hb dX1_write_258 (tgt := 136) rfl ?_
  have hl := lv_sub hl [1, 2, 3, 0] (l' := [(0, .ref (P 0)), (1, .int v1), (2, .int v2), (3, .int (v3 + 1))]) rfl
  exact kk136 M v1 v2 (v3 + 1) H locs ls hl hP hD hS h
set_option maxHeartbeats 4000000 in
set_option maxRecDepth 20000 in
theorem b_ChipMapModel_write_224 {p : Program} {l : Launch} {e : Env} {s s0 : State} {m : MethodId} {args : Array Value} {below : List Frame} {meth : Method} {c : Code} {D : va_G} {cI cZ cC cJ cA : ClassId} {P : Nat → Nat} {M' : Mm} {r' : Int32} {kf136 : Mm → Int32 → Int32 → Int32 → Rs} (hx : p.tables.exec = Jvm.exec) (hb : c.code = cX1_write) (hml : c.maxLocals = 6) (hr : meth.sig.returnType = none) (hlk : meth.locks = false) (hgt : ∀ w ∈ GT, w.before args s = true) (hown : s.vm.findClass RX1 = some m.cls) (hK : va_K D vwCl [(cI, .int), (cZ, .boolean), (cC, .char), (cJ, .long), (cA, .array .int)] s) (hO : Old s0 s) (hAO : ∀ q, (aP P 51) q → s0.heap.size ≤ q) (kk136 : ∀ (M : Mm) (v1 : Int32) (v2 : Int32) (v3 : Int32) (H : Heap) (locs : List Loc) (ls : Array Slot), lv_has ls 6 [(0, .ref (P 0)), (1, .int v1), (2, .int v2), (3, .int v3)] → va_P D vwCl ((wY cI cZ cC cJ cA P) M) H → va_D (aP P 51) ((wY cI cZ cC cJ cA P) M) → va_S (aP P 51) s.heap H locs → kf136 M v1 v2 v3 = some (M', r') → W p l e ({ frames := 2, cells := 0, slots := 0, locals := 46 }) s m args below meth c H locs 0 0 (MQ below (gQv D (aP P 51) ((wY cI cZ cC cJ cA P) M')) args s 0 0 (aP P 51)) (F0 m 136 ls [])) : ∀ (M : Mm) (v1 : Int32) (v2 : Int32) (v3 : Int32) (v4 : Int32) (H : Heap) (locs : List Loc) (ls : Array Slot), lv_has ls 6 [(0, .ref (P 0)), (1, .int v1), (2, .int v2), (3, .int v3), (4, .int v4)] → va_P D vwCl ((wY cI cZ cC cJ cA P) M) H → va_D (aP P 51) ((wY cI cZ cC cJ cA P) M) → va_S (aP P 51) s.heap H locs → q_ChipMapModel_write_224 kf136 M v1 v2 v3 v4 = some (M', r') → W p l e ({ frames := 2, cells := 0, slots := 0, locals := 46 }) s m args below meth c H locs 0 0 (MQ below (gQv D (aP P 51) ((wY cI cZ cC cJ cA P) M')) args s 0 0 (aP P 51)) (F0 m 224 ls []) := by
  intro M v1 v2 v3 v4 H locs ls hl hP hD hS h
  unfold q_ChipMapModel_write_224 at h
  refine lv_aload_n hx hb dX1_write_224 rfl (lv_at hl 0 rfl) ?_
  refine va_get (D := D) (ci := 1) (v := .ref (P 24)) (C := RX1) (T := TX1) (N := 76) hx hb hgt iwX1 hown hK hP 0 gY_0 rfl 33 (Nat.le_of_ble_eq_true rfl) (hgt _ wd_4_234) (fun _ h9 => h9) rfl dX1_write_225 ?_
  refine lv_iload_n hx hb dX1_write_228 rfl (lv_at hl 3 rfl) ?_
  refine va_iald hx hb hK hP 24 0 gY_24 rfl (ix_l h) dX1_write_229 ?_
  have h := ix_r h
  refine lv_bipush (v := 112) hx hb dX1_write_230 (by decide) ?_
  refine lv_icmp_ne hx hb dX1_write_232 (tgt := 255) rfl (fun hc => ?_) (fun hc => ?_)
  · have h := br_F hc h
    have hl := lv_sub hl [0, 1, 2, 3] (l' := [(0, .ref (P 0)), (1, .int v1), (2, .int v2), (3, .int v3)]) rfl
    exact b_ChipMapModel_write_255 hx hb hml hr hlk hgt hown hK hO hAO kk136 M v1 v2 v3 H _ ls hl hP hD hS h
  · have h := br_T hc h
    refine lv_iload hx hb dX1_write_235 (lv_at hl 4 rfl) ?_
    refine lv_if_eq hx hb dX1_write_237 (tgt := 255) rfl (fun hc => ?_) (fun hc => ?_)
    · have h := br_T hc h
      have hl := lv_sub hl [0, 1, 2, 3] (l' := [(0, .ref (P 0)), (1, .int v1), (2, .int v2), (3, .int v3)]) rfl
      exact b_ChipMapModel_write_255 hx hb hml hr hlk hgt hown hK hO hAO kk136 M v1 v2 v3 H _ ls hl hP hD hS h
    · have h := br_F hc h
      refine lv_aload_n hx hb dX1_write_240 rfl (lv_at hl 0 rfl) ?_
      refine va_get (D := D) (ci := 1) (v := .ref (P 33)) (C := RX1) (T := TX1) (N := 76) hx hb hgt iwX1 hown hK hP 0 gY_0 rfl 43 (Nat.le_of_ble_eq_true rfl) (hgt _ wd_5_4) (fun _ h9 => h9) rfl dX1_write_241 ?_
      refine lv_iload_n hx hb dX1_write_244 rfl (lv_at hl 3 rfl) ?_
      refine lv_iload hx hb dX1_write_245 (lv_at hl 4 rfl) ?_
      refine pm_iast (w := (wY cI cZ cC cJ cA P)) hx hb hK hP hD hS 33 0 gY_33 rfl sY_33 (ix_l h) dX1_write_247 (fun M1 eM1 H locs hP hD hS => ?_)
      have h := ix_r h
      have h := lt_o eM1 h
      refine lv_aload_n hx hb dX1_write_248 rfl (lv_at hl 0 rfl) ?_
      refine va_get (D := D) (ci := 1) (v := .ref (P 34)) (C := RX1) (T := TX1) (N := 76) hx hb hgt iwX1 hown hK hP 0 gY_0 rfl 44 (Nat.le_of_ble_eq_true rfl) (hgt _ wd_5_5) (fun _ h9 => h9) rfl dX1_write_249 ?_
      refine lv_iload_n hx hb dX1_write_252 rfl (lv_at hl 3 rfl) ?_
      refine lv_iconst (v := 2) hx hb dX1_write_253 (by decide) ?_
      refine pm_iast (w := (wY cI cZ cC cJ cA P)) hx hb hK hP hD hS 34 0 gY_34 rfl sY_34 (ix_l h) dX1_write_254 (fun M2 eM2 H locs hP hD hS => ?_)
      have h := ix_r h
      have h := lt_o eM2 h
      have hl := lv_sub hl [0, 1, 2, 3] (l' := [(0, .ref (P 0)), (1, .int v1), (2, .int v2), (3, .int v3)]) rfl
      exact b_ChipMapModel_write_255 hx hb hml hr hlk hgt hown hK hO hAO kk136 M2 v1 v2 v3 H _ ls hl hP hD hS h
set_option maxHeartbeats 4000000 in
set_option maxRecDepth 20000 in
theorem b_ChipMapModel_write_202 {p : Program} {l : Launch} {e : Env} {s s0 : State} {m : MethodId} {args : Array Value} {below : List Frame} {meth : Method} {c : Code} {D : va_G} {cI cZ cC cJ cA : ClassId} {P : Nat → Nat} {M' : Mm} {r' : Int32} {kf136 : Mm → Int32 → Int32 → Int32 → Rs} (hx : p.tables.exec = Jvm.exec) (hb : c.code = cX1_write) (hml : c.maxLocals = 6) (hr : meth.sig.returnType = none) (hlk : meth.locks = false) (hgt : ∀ w ∈ GT, w.before args s = true) (hown : s.vm.findClass RX1 = some m.cls) (hK : va_K D vwCl [(cI, .int), (cZ, .boolean), (cC, .char), (cJ, .long), (cA, .array .int)] s) (hO : Old s0 s) (hAO : ∀ q, (aP P 51) q → s0.heap.size ≤ q) (kk136 : ∀ (M : Mm) (v1 : Int32) (v2 : Int32) (v3 : Int32) (H : Heap) (locs : List Loc) (ls : Array Slot), lv_has ls 6 [(0, .ref (P 0)), (1, .int v1), (2, .int v2), (3, .int v3)] → va_P D vwCl ((wY cI cZ cC cJ cA P) M) H → va_D (aP P 51) ((wY cI cZ cC cJ cA P) M) → va_S (aP P 51) s.heap H locs → kf136 M v1 v2 v3 = some (M', r') → W p l e ({ frames := 2, cells := 0, slots := 0, locals := 46 }) s m args below meth c H locs 0 0 (MQ below (gQv D (aP P 51) ((wY cI cZ cC cJ cA P) M')) args s 0 0 (aP P 51)) (F0 m 136 ls [])) : ∀ (M : Mm) (v1 : Int32) (v2 : Int32) (v3 : Int32) (v4 : Int32) (H : Heap) (locs : List Loc) (ls : Array Slot), lv_has ls 6 [(0, .ref (P 0)), (1, .int v1), (2, .int v2), (3, .int v3), (4, .int v4)] → va_P D vwCl ((wY cI cZ cC cJ cA P) M) H → va_D (aP P 51) ((wY cI cZ cC cJ cA P) M) → va_S (aP P 51) s.heap H locs → q_ChipMapModel_write_202 kf136 M v1 v2 v3 v4 = some (M', r') → W p l e ({ frames := 2, cells := 0, slots := 0, locals := 46 }) s m args below meth c H locs 0 0 (MQ below (gQv D (aP P 51) ((wY cI cZ cC cJ cA P) M')) args s 0 0 (aP P 51)) (F0 m 202 ls []) := by
  intro M v1 v2 v3 v4 H locs ls hl hP hD hS h
  unfold q_ChipMapModel_write_202 at h
  refine lv_aload_n hx hb dX1_write_202 rfl (lv_at hl 0 rfl) ?_
  refine va_get (D := D) (ci := 1) (v := .ref (P 24)) (C := RX1) (T := TX1) (N := 76) hx hb hgt iwX1 hown hK hP 0 gY_0 rfl 33 (Nat.le_of_ble_eq_true rfl) (hgt _ wd_4_234) (fun _ h9 => h9) rfl dX1_write_203 ?_
  refine lv_iload_n hx hb dX1_write_206 rfl (lv_at hl 3 rfl) ?_
  refine va_iald hx hb hK hP 24 0 gY_24 rfl (ix_l h) dX1_write_207 ?_
  have h := ix_r h
  refine lv_bipush (v := 115) hx hb dX1_write_208 (by decide) ?_
  refine lv_icmp_ne hx hb dX1_write_210 (tgt := 224) rfl (fun hc => ?_) (fun hc => ?_)
  · have h := br_F hc h
    have hl := lv_sub hl [0, 1, 2, 3, 4] (l' := [(0, .ref (P 0)), (1, .int v1), (2, .int v2), (3, .int v3), (4, .int v4)]) rfl
    exact b_ChipMapModel_write_224 hx hb hml hr hlk hgt hown hK hO hAO kk136 M v1 v2 v3 v4 H _ ls hl hP hD hS h
  · have h := br_T hc h
    refine lv_aload_n hx hb dX1_write_213 rfl (lv_at hl 0 rfl) ?_
    refine va_get (D := D) (ci := 1) (v := .ref (P 33)) (C := RX1) (T := TX1) (N := 76) hx hb hgt iwX1 hown hK hP 0 gY_0 rfl 43 (Nat.le_of_ble_eq_true rfl) (hgt _ wd_5_4) (fun _ h9 => h9) rfl dX1_write_214 ?_
    refine lv_iload_n hx hb dX1_write_217 rfl (lv_at hl 3 rfl) ?_
    refine lv_dup2_11 hx hb dX1_write_218 rfl rfl ?_
    refine va_iald hx hb hK hP 33 0 gY_33 rfl (ix_l h) dX1_write_219 ?_
    have h := ix_r h
    refine lv_iload hx hb dX1_write_220 (lv_at hl 4 rfl) ?_
    refine lv_ior hx hb dX1_write_222 ?_
    refine pm_iast (w := (wY cI cZ cC cJ cA P)) hx hb hK hP hD hS 33 0 gY_33 rfl sY_33 (ix_l h) dX1_write_223 (fun M1 eM1 H locs hP hD hS => ?_)
    have h := ix_r h
    have h := lt_o eM1 h
    have hl := lv_sub hl [0, 1, 2, 3, 4] (l' := [(0, .ref (P 0)), (1, .int v1), (2, .int v2), (3, .int v3), (4, .int v4)]) rfl
    exact b_ChipMapModel_write_224 hx hb hml hr hlk hgt hown hK hO hAO kk136 M1 v1 v2 v3 v4 H _ ls hl hP hD hS h
set_option maxHeartbeats 4000000 in
set_option maxRecDepth 20000 in
theorem b_ChipMapModel_write_178 {p : Program} {l : Launch} {e : Env} {s s0 : State} {m : MethodId} {args : Array Value} {below : List Frame} {meth : Method} {c : Code} {D : va_G} {cI cZ cC cJ cA : ClassId} {P : Nat → Nat} {M' : Mm} {r' : Int32} {kf136 : Mm → Int32 → Int32 → Int32 → Rs} (hx : p.tables.exec = Jvm.exec) (hb : c.code = cX1_write) (hml : c.maxLocals = 6) (hr : meth.sig.returnType = none) (hlk : meth.locks = false) (hgt : ∀ w ∈ GT, w.before args s = true) (hown : s.vm.findClass RX1 = some m.cls) (hK : va_K D vwCl [(cI, .int), (cZ, .boolean), (cC, .char), (cJ, .long), (cA, .array .int)] s) (hO : Old s0 s) (hAO : ∀ q, (aP P 51) q → s0.heap.size ≤ q) (kk136 : ∀ (M : Mm) (v1 : Int32) (v2 : Int32) (v3 : Int32) (H : Heap) (locs : List Loc) (ls : Array Slot), lv_has ls 6 [(0, .ref (P 0)), (1, .int v1), (2, .int v2), (3, .int v3)] → va_P D vwCl ((wY cI cZ cC cJ cA P) M) H → va_D (aP P 51) ((wY cI cZ cC cJ cA P) M) → va_S (aP P 51) s.heap H locs → kf136 M v1 v2 v3 = some (M', r') → W p l e ({ frames := 2, cells := 0, slots := 0, locals := 46 }) s m args below meth c H locs 0 0 (MQ below (gQv D (aP P 51) ((wY cI cZ cC cJ cA P) M')) args s 0 0 (aP P 51)) (F0 m 136 ls [])) : ∀ (M : Mm) (v1 : Int32) (v2 : Int32) (v3 : Int32) (v4 : Int32) (H : Heap) (locs : List Loc) (ls : Array Slot), lv_has ls 6 [(0, .ref (P 0)), (1, .int v1), (2, .int v2), (3, .int v3), (4, .int v4)] → va_P D vwCl ((wY cI cZ cC cJ cA P) M) H → va_D (aP P 51) ((wY cI cZ cC cJ cA P) M) → va_S (aP P 51) s.heap H locs → q_ChipMapModel_write_178 kf136 M v1 v2 v3 v4 = some (M', r') → W p l e ({ frames := 2, cells := 0, slots := 0, locals := 46 }) s m args below meth c H locs 0 0 (MQ below (gQv D (aP P 51) ((wY cI cZ cC cJ cA P) M')) args s 0 0 (aP P 51)) (F0 m 178 ls []) := by
  intro M v1 v2 v3 v4 H locs ls hl hP hD hS h
  unfold q_ChipMapModel_write_178 at h
  refine lv_aload_n hx hb dX1_write_178 rfl (lv_at hl 0 rfl) ?_
  refine va_get (D := D) (ci := 1) (v := .ref (P 24)) (C := RX1) (T := TX1) (N := 76) hx hb hgt iwX1 hown hK hP 0 gY_0 rfl 33 (Nat.le_of_ble_eq_true rfl) (hgt _ wd_4_234) (fun _ h9 => h9) rfl dX1_write_179 ?_
  refine lv_iload_n hx hb dX1_write_182 rfl (lv_at hl 3 rfl) ?_
  refine va_iald hx hb hK hP 24 0 gY_24 rfl (ix_l h) dX1_write_183 ?_
  have h := ix_r h
  refine lv_bipush (v := 116) hx hb dX1_write_184 (by decide) ?_
  refine lv_icmp_ne hx hb dX1_write_186 (tgt := 202) rfl (fun hc => ?_) (fun hc => ?_)
  · have h := br_F hc h
    have hl := lv_sub hl [0, 1, 2, 3, 4] (l' := [(0, .ref (P 0)), (1, .int v1), (2, .int v2), (3, .int v3), (4, .int v4)]) rfl
    exact b_ChipMapModel_write_202 hx hb hml hr hlk hgt hown hK hO hAO kk136 M v1 v2 v3 v4 H _ ls hl hP hD hS h
  · have h := br_T hc h
    refine lv_aload_n hx hb dX1_write_189 rfl (lv_at hl 0 rfl) ?_
    refine va_get (D := D) (ci := 1) (v := .ref (P 33)) (C := RX1) (T := TX1) (N := 76) hx hb hgt iwX1 hown hK hP 0 gY_0 rfl 43 (Nat.le_of_ble_eq_true rfl) (hgt _ wd_5_4) (fun _ h9 => h9) rfl dX1_write_190 ?_
    refine lv_iload_n hx hb dX1_write_193 rfl (lv_at hl 3 rfl) ?_
    refine lv_dup2_11 hx hb dX1_write_194 rfl rfl ?_
    refine va_iald hx hb hK hP 33 0 gY_33 rfl (ix_l h) dX1_write_195 ?_
    have h := ix_r h
    refine lv_iload hx hb dX1_write_196 (lv_at hl 4 rfl) ?_
    refine lv_iconst (v := (-1)) hx hb dX1_write_198 (by decide) ?_
    refine lv_ixor hx hb dX1_write_199 ?_
    refine lv_iand hx hb dX1_write_200 ?_
    refine pm_iast (w := (wY cI cZ cC cJ cA P)) hx hb hK hP hD hS 33 0 gY_33 rfl sY_33 (ix_l h) dX1_write_201 (fun M1 eM1 H locs hP hD hS => ?_)
    have h := ix_r h
    have h := lt_o eM1 h
    have hl := lv_sub hl [0, 1, 2, 3, 4] (l' := [(0, .ref (P 0)), (1, .int v1), (2, .int v2), (3, .int v3), (4, .int v4)]) rfl
    exact b_ChipMapModel_write_202 hx hb hml hr hlk hgt hown hK hO hAO kk136 M1 v1 v2 v3 v4 H _ ls hl hP hD hS h
set_option maxHeartbeats 4000000 in
set_option maxRecDepth 20000 in
theorem b_ChipMapModel_write_136 {p : Program} {l : Launch} {e : Env} {s s0 : State} {m : MethodId} {args : Array Value} {below : List Frame} {meth : Method} {c : Code} {D : va_G} {cI cZ cC cJ cA : ClassId} {P : Nat → Nat} {M' : Mm} {r' : Int32}  (hx : p.tables.exec = Jvm.exec) (hb : c.code = cX1_write) (hml : c.maxLocals = 6) (hr : meth.sig.returnType = none) (hlk : meth.locks = false) (hgt : ∀ w ∈ GT, w.before args s = true) (hown : s.vm.findClass RX1 = some m.cls) (hK : va_K D vwCl [(cI, .int), (cZ, .boolean), (cC, .char), (cJ, .long), (cA, .array .int)] s) (hO : Old s0 s) (hAO : ∀ q, (aP P 51) q → s0.heap.size ≤ q)  : ∀ (n' : Nat) (M : Mm) (v1 : Int32) (v2 : Int32) (v3 : Int32) (H : Heap) (locs : List Loc) (ls : Array Slot), lv_has ls 6 [(0, .ref (P 0)), (1, .int v1), (2, .int v2), (3, .int v3)] → va_P D vwCl ((wY cI cZ cC cJ cA P) M) H → va_D (aP P 51) ((wY cI cZ cC cJ cA P) M) → va_S (aP P 51) s.heap H locs → q_ChipMapModel_write_136 n' M v1 v2 v3 = some (M', r') → W p l e ({ frames := 2, cells := 0, slots := 0, locals := 46 }) s m args below meth c H locs 0 0 (MQ below (gQv D (aP P 51) ((wY cI cZ cC cJ cA P) M')) args s 0 0 (aP P 51)) (F0 m 136 ls []) := by
  intro n'
  induction n' with
  | zero => exact fun _ _ _ _ _ _ _ _ _ _ _ h => (rs_n h).elim
  | succ n' ih =>
    intro M v1 v2 v3 H locs ls hl hP hD hS h
    rw [q_ChipMapModel_write_136] at h
    refine lv_iload_n hx hb dX1_write_136 rfl (lv_at hl 3 rfl) ?_
    refine lv_bipush (v := 26) hx hb dX1_write_137 (by decide) ?_
    refine lv_icmp_ge hx hb dX1_write_139 (tgt := 261) rfl (fun hc => ?_) (fun hc => ?_)
    · have h := br_T hc h
      refine lv_aload_n hx hb dX1_write_261 rfl (lv_at hl 0 rfl) ?_
      refine lv_iconst (v := 1) hx hb dX1_write_262 (by decide) ?_
      refine lv_iload_n hx hb dX1_write_263 rfl (lv_at hl 1 rfl) ?_
      refine lv_iload_n hx hb dX1_write_264 rfl (lv_at hl 2 rfl) ?_
      obtain ⟨M1, r2, hq, h⟩ := cal_o h
      refine cx_v (va_runV (As := [.int 1, .int v1, .int v2]) (rest := []) ⟨hx, hb, hml, hown, hgt⟩ (z_ChipMapModel_trace l D cI cZ cC cJ cA P s0 hAO M 1 v1 v2 M1 r2 hq) (cwV 3 hgt (gV wd_6_102 wd_6_104 sl__ChipMapModel____ChipMapModel___trace____ZII_V_____ChipMapModel___trace____ZII_V__ wd_0_15 wd_6_105) rfl rfl rfl (by decide +kernel) ⟨Nat.le_of_ble_eq_true rfl, Nat.le_of_ble_eq_true rfl⟩) (prV hP hK hD hO hAO hS (va_recv hK hP (ci := 1) (q0 := 0) rfl gY_0)) rfl rfl hl.1 rfl (lv_room (Nat.le_of_ble_eq_true rfl)) dX1_write_265 ⟨Nat.le_of_ble_eq_true rfl, Nat.le_of_ble_eq_true rfl⟩) hS (fun H locs hP hD hS => ?_)
      exact rt_v (w := (wY cI cZ cC cJ cA P)) (r := r') hx hb hr hlk hP hD hS h dX1_write_268
    · have h := br_F hc h
      refine lv_aload_n hx hb dX1_write_142 rfl (lv_at hl 0 rfl) ?_
      refine lv_iload_n hx hb dX1_write_143 rfl (lv_at hl 3 rfl) ?_
      refine lv_iload_n hx hb dX1_write_144 rfl (lv_at hl 1 rfl) ?_
      obtain ⟨M1, r2, hq, h⟩ := cal_o h
      refine cx_i (va_runV (As := [.int v3, .int v1]) (rest := []) ⟨hx, hb, hml, hown, hgt⟩ (z_ChipMapModel_isIn l D cI cZ cC cJ cA P s0 hAO M v3 v1 M1 r2 hq) (cwV 2 hgt (gV wd_6_86 wd_6_88 sl__ChipMapModel____ChipMapModel___isIn____II_Z_____ChipMapModel___isIn____II_Z__ wd_0_15 wd_6_89) rfl rfl rfl (by decide +kernel) ⟨Nat.le_of_ble_eq_true rfl, Nat.le_of_ble_eq_true rfl⟩) (prV hP hK hD hO hAO hS (va_recv hK hP (ci := 1) (q0 := 0) rfl gY_0)) rfl rfl hl.1 rfl (lv_room (Nat.le_of_ble_eq_true rfl)) dX1_write_145 ⟨Nat.le_of_ble_eq_true rfl, Nat.le_of_ble_eq_true rfl⟩) hS (fun H locs hP hD hS => ?_)
      refine lv_if_ne hx hb dX1_write_148 (tgt := 154) rfl (fun hc => ?_) (fun hc => ?_)
      · have h := br_F hc h
        refine lv_aload_n hx hb dX1_write_154 rfl (lv_at hl 0 rfl) ?_
        refine lv_iload_n hx hb dX1_write_155 rfl (lv_at hl 3 rfl) ?_
        refine lv_iload_n hx hb dX1_write_156 rfl (lv_at hl 2 rfl) ?_
        obtain ⟨M3, r4, hq, h⟩ := cal_o h
        refine cx_i (va_runV (As := [.int v3, .int v2]) (rest := []) ⟨hx, hb, hml, hown, hgt⟩ (z_ChipMapModel_part l D cI cZ cC cJ cA P s0 hAO M1 v3 v2 M3 r4 hq) (cwV 2 hgt (gV wd_6_90 wd_6_92 sl__ChipMapModel____ChipMapModel___part____II_I_____ChipMapModel___part____II_I__ wd_0_15 wd_6_93) rfl rfl rfl (by decide +kernel) ⟨Nat.le_of_ble_eq_true rfl, Nat.le_of_ble_eq_true rfl⟩) (prV hP hK hD hO hAO hS (va_recv hK hP (ci := 1) (q0 := 0) rfl gY_0)) rfl rfl hl.1 rfl (lv_room (Nat.le_of_ble_eq_true rfl)) dX1_write_157 ⟨Nat.le_of_ble_eq_true rfl, Nat.le_of_ble_eq_true rfl⟩) hS (fun H locs hP hD hS => ?_)
        refine lv_istore hx hb dX1_write_160 hl (Nat.le_of_ble_eq_true rfl) (lv' := [(4, .int r4), (0, .ref (P 0)), (1, .int v1), (2, .int v2), (3, .int v3)]) rfl (fun ls hl => ?_)
        refine lv_aload_n hx hb dX1_write_162 rfl (lv_at hl 1 rfl) ?_
        refine lv_iload_n hx hb dX1_write_163 rfl (lv_at hl 4 rfl) ?_
        obtain ⟨M5, r6, hq, h⟩ := cal_o h
        refine cx_i (va_runV (As := [.int v3]) (rest := []) ⟨hx, hb, hml, hown, hgt⟩ (z_ChipMapModel_isStored l D cI cZ cC cJ cA P s0 hAO M3 v3 M5 r6 hq) (cwV 1 hgt (gV wd_6_94 wd_6_96 sl__ChipMapModel____ChipMapModel___isStored____I_Z_____ChipMapModel___isStored____I_Z__ wd_0_15 wd_6_97) rfl rfl rfl (by decide +kernel) ⟨Nat.le_of_ble_eq_true rfl, Nat.le_of_ble_eq_true rfl⟩) (prV hP hK hD hO hAO hS (va_recv hK hP (ci := 1) (q0 := 0) rfl gY_0)) rfl rfl hl.1 rfl (lv_room (Nat.le_of_ble_eq_true rfl)) dX1_write_164 ⟨Nat.le_of_ble_eq_true rfl, Nat.le_of_ble_eq_true rfl⟩) hS (fun H locs hP hD hS => ?_)
        refine lv_if_eq hx hb dX1_write_167 (tgt := 178) rfl (fun hc => ?_) (fun hc => ?_)
        · have h := br_T hc h
          have hl := lv_sub hl [1, 2, 3, 4, 0] (l' := [(0, .ref (P 0)), (1, .int v1), (2, .int v2), (3, .int v3), (4, .int r4)]) rfl
          exact b_ChipMapModel_write_178 hx hb hml hr hlk hgt hown hK hO hAO ih M5 v1 v2 v3 r4 H _ ls hl hP hD hS h
        · have h := br_F hc h
          refine lv_aload_n hx hb dX1_write_170 rfl (lv_at hl 1 rfl) ?_
          refine va_get (D := D) (ci := 1) (v := .ref (P 33)) (C := RX1) (T := TX1) (N := 76) hx hb hgt iwX1 hown hK hP 0 gY_0 rfl 43 (Nat.le_of_ble_eq_true rfl) (hgt _ wd_5_4) (fun _ h9 => h9) rfl dX1_write_171 ?_
          refine lv_iload_n hx hb dX1_write_174 rfl (lv_at hl 4 rfl) ?_
          refine lv_iload hx hb dX1_write_175 (lv_at hl 0 rfl) ?_
          refine pm_iast (w := (wY cI cZ cC cJ cA P)) hx hb hK hP hD hS 33 0 gY_33 rfl sY_33 (ix_l h) dX1_write_177 (fun M7 eM7 H locs hP hD hS => ?_)
          have h := ix_r h
          have h := lt_o eM7 h
          have hl := lv_sub hl [1, 2, 3, 4, 0] (l' := [(0, .ref (P 0)), (1, .int v1), (2, .int v2), (3, .int v3), (4, .int r4)]) rfl
          exact b_ChipMapModel_write_178 hx hb hml hr hlk hgt hown hK hO hAO ih M7 v1 v2 v3 r4 H _ ls hl hP hD hS h
      · have h := br_T hc h
        refine lv_goto hx hb dX1_write_151 (tgt := 255) rfl ?_
        have hl := lv_sub hl [0, 1, 2, 3] (l' := [(0, .ref (P 0)), (1, .int v1), (2, .int v2), (3, .int v3)]) rfl
        exact b_ChipMapModel_write_255 hx hb hml hr hlk hgt hown hK hO hAO ih M1 v1 v2 v3 H _ ls hl hP hD hS h
set_option maxHeartbeats 4000000 in
set_option maxRecDepth 20000 in
theorem b_ChipMapModel_write_128 {p : Program} {l : Launch} {e : Env} {s s0 : State} {m : MethodId} {args : Array Value} {below : List Frame} {meth : Method} {c : Code} {D : va_G} {cI cZ cC cJ cA : ClassId} {P : Nat → Nat} {M' : Mm} {r' : Int32} {kf2 : Mm → Int32 → Int32 → Int32 → Rs} (hx : p.tables.exec = Jvm.exec) (hb : c.code = cX1_write) (hml : c.maxLocals = 6) (hr : meth.sig.returnType = none) (hlk : meth.locks = false) (hgt : ∀ w ∈ GT, w.before args s = true) (hown : s.vm.findClass RX1 = some m.cls) (hK : va_K D vwCl [(cI, .int), (cZ, .boolean), (cC, .char), (cJ, .long), (cA, .array .int)] s) (hO : Old s0 s) (hAO : ∀ q, (aP P 51) q → s0.heap.size ≤ q) (kk2 : ∀ (M : Mm) (v1 : Int32) (v2 : Int32) (v3 : Int32) (H : Heap) (locs : List Loc) (ls : Array Slot), lv_has ls 6 [(0, .ref (P 0)), (1, .int v1), (2, .int v2), (3, .int v3)] → va_P D vwCl ((wY cI cZ cC cJ cA P) M) H → va_D (aP P 51) ((wY cI cZ cC cJ cA P) M) → va_S (aP P 51) s.heap H locs → kf2 M v1 v2 v3 = some (M', r') → W p l e ({ frames := 2, cells := 0, slots := 0, locals := 46 }) s m args below meth c H locs 0 0 (MQ below (gQv D (aP P 51) ((wY cI cZ cC cJ cA P) M')) args s 0 0 (aP P 51)) (F0 m 2 ls [])) : ∀ (M : Mm) (v1 : Int32) (v2 : Int32) (v3 : Int32) (H : Heap) (locs : List Loc) (ls : Array Slot), lv_has ls 6 [(0, .ref (P 0)), (1, .int v1), (2, .int v2), (3, .int v3)] → va_P D vwCl ((wY cI cZ cC cJ cA P) M) H → va_D (aP P 51) ((wY cI cZ cC cJ cA P) M) → va_S (aP P 51) s.heap H locs → q_ChipMapModel_write_128 kf2 M v1 v2 v3 = some (M', r') → W p l e ({ frames := 2, cells := 0, slots := 0, locals := 46 }) s m args below meth c H locs 0 0 (MQ below (gQv D (aP P 51) ((wY cI cZ cC cJ cA P) M')) args s 0 0 (aP P 51)) (F0 m 128 ls []) := by
  intro M v1 v2 v3 H locs ls hl hP hD hS h
  unfold q_ChipMapModel_write_128 at h
  refine lv_iinc (v := (v3 + 1)) hx hb dX1_write_128 hl (k := 3) rfl rfl (Nat.le_of_ble_eq_true rfl) (lv' := [(3, .int (v3 + 1)), (0, .ref (P 0)), (1, .int v1), (2, .int v2)]) rfl (fun ls hl => ?_)
  refine lv_goto hx hb dX1_write_131 (tgt := 2) rfl ?_
  have hl := lv_sub hl [1, 2, 3, 0] (l' := [(0, .ref (P 0)), (1, .int v1), (2, .int v2), (3, .int (v3 + 1))]) rfl
  exact kk2 M v1 v2 (v3 + 1) H locs ls hl hP hD hS h
set_option maxHeartbeats 4000000 in
set_option maxRecDepth 20000 in
theorem b_ChipMapModel_write_127 {p : Program} {l : Launch} {e : Env} {s s0 : State} {m : MethodId} {args : Array Value} {below : List Frame} {meth : Method} {c : Code} {D : va_G} {cI cZ cC cJ cA : ClassId} {P : Nat → Nat} {M' : Mm} {r' : Int32} {kf2 : Mm → Int32 → Int32 → Int32 → Rs} (hx : p.tables.exec = Jvm.exec) (hb : c.code = cX1_write) (hml : c.maxLocals = 6) (hr : meth.sig.returnType = none) (hlk : meth.locks = false) (hgt : ∀ w ∈ GT, w.before args s = true) (hown : s.vm.findClass RX1 = some m.cls) (hK : va_K D vwCl [(cI, .int), (cZ, .boolean), (cC, .char), (cJ, .long), (cA, .array .int)] s) (hO : Old s0 s) (hAO : ∀ q, (aP P 51) q → s0.heap.size ≤ q) (kk2 : ∀ (M : Mm) (v1 : Int32) (v2 : Int32) (v3 : Int32) (H : Heap) (locs : List Loc) (ls : Array Slot), lv_has ls 6 [(0, .ref (P 0)), (1, .int v1), (2, .int v2), (3, .int v3)] → va_P D vwCl ((wY cI cZ cC cJ cA P) M) H → va_D (aP P 51) ((wY cI cZ cC cJ cA P) M) → va_S (aP P 51) s.heap H locs → kf2 M v1 v2 v3 = some (M', r') → W p l e ({ frames := 2, cells := 0, slots := 0, locals := 46 }) s m args below meth c H locs 0 0 (MQ below (gQv D (aP P 51) ((wY cI cZ cC cJ cA P) M')) args s 0 0 (aP P 51)) (F0 m 2 ls [])) : ∀ (M : Mm) (v1 : Int32) (v2 : Int32) (v3 : Int32) (t0 : Int32) (t1 : Int32) (H : Heap) (locs : List Loc) (ls : Array Slot), lv_has ls 6 [(0, .ref (P 0)), (1, .int v1), (2, .int v2), (3, .int v3)] → va_P D vwCl ((wY cI cZ cC cJ cA P) M) H → va_D (aP P 51) ((wY cI cZ cC cJ cA P) M) → va_S (aP P 51) s.heap H locs → q_ChipMapModel_write_127 kf2 M v1 v2 v3 t0 t1 = some (M', r') → W p l e ({ frames := 2, cells := 0, slots := 0, locals := 46 }) s m args below meth c H locs 0 0 (MQ below (gQv D (aP P 51) ((wY cI cZ cC cJ cA P) M')) args s 0 0 (aP P 51)) (F0 m 127 ls [.int t0, .int t1, .ref (P 36)]) := by
  intro M v1 v2 v3 t0 t1 H locs ls hl hP hD hS h
  unfold q_ChipMapModel_write_127 at h
  refine pm_zast (w := (wY cI cZ cC cJ cA P)) hx hb hK hP hD hS 36 1 gY_36 rfl sY_36 (ix_l h) dX1_write_127 (fun M1 eM1 H locs hP hD hS => ?_)
  have h := ix_r h
  have h := lt_o eM1 h
  have hl := lv_sub hl [0, 1, 2, 3] (l' := [(0, .ref (P 0)), (1, .int v1), (2, .int v2), (3, .int v3)]) rfl
  exact b_ChipMapModel_write_128 hx hb hml hr hlk hgt hown hK hO hAO kk2 M1 v1 v2 v3 H _ ls hl hP hD hS h
set_option maxHeartbeats 4000000 in
set_option maxRecDepth 20000 in
theorem b_ChipMapModel_write_126 {p : Program} {l : Launch} {e : Env} {s s0 : State} {m : MethodId} {args : Array Value} {below : List Frame} {meth : Method} {c : Code} {D : va_G} {cI cZ cC cJ cA : ClassId} {P : Nat → Nat} {M' : Mm} {r' : Int32} {kf2 : Mm → Int32 → Int32 → Int32 → Rs} (hx : p.tables.exec = Jvm.exec) (hb : c.code = cX1_write) (hml : c.maxLocals = 6) (hr : meth.sig.returnType = none) (hlk : meth.locks = false) (hgt : ∀ w ∈ GT, w.before args s = true) (hown : s.vm.findClass RX1 = some m.cls) (hK : va_K D vwCl [(cI, .int), (cZ, .boolean), (cC, .char), (cJ, .long), (cA, .array .int)] s) (hO : Old s0 s) (hAO : ∀ q, (aP P 51) q → s0.heap.size ≤ q) (kk2 : ∀ (M : Mm) (v1 : Int32) (v2 : Int32) (v3 : Int32) (H : Heap) (locs : List Loc) (ls : Array Slot), lv_has ls 6 [(0, .ref (P 0)), (1, .int v1), (2, .int v2), (3, .int v3)] → va_P D vwCl ((wY cI cZ cC cJ cA P) M) H → va_D (aP P 51) ((wY cI cZ cC cJ cA P) M) → va_S (aP P 51) s.heap H locs → kf2 M v1 v2 v3 = some (M', r') → W p l e ({ frames := 2, cells := 0, slots := 0, locals := 46 }) s m args below meth c H locs 0 0 (MQ below (gQv D (aP P 51) ((wY cI cZ cC cJ cA P) M')) args s 0 0 (aP P 51)) (F0 m 2 ls [])) : ∀ (M : Mm) (v1 : Int32) (v2 : Int32) (v3 : Int32) (t0 : Int32) (H : Heap) (locs : List Loc) (ls : Array Slot), lv_has ls 6 [(0, .ref (P 0)), (1, .int v1), (2, .int v2), (3, .int v3)] → va_P D vwCl ((wY cI cZ cC cJ cA P) M) H → va_D (aP P 51) ((wY cI cZ cC cJ cA P) M) → va_S (aP P 51) s.heap H locs → q_ChipMapModel_write_126 kf2 M v1 v2 v3 t0 = some (M', r') → W p l e ({ frames := 2, cells := 0, slots := 0, locals := 46 }) s m args below meth c H locs 0 0 (MQ below (gQv D (aP P 51) ((wY cI cZ cC cJ cA P) M')) args s 0 0 (aP P 51)) (F0 m 126 ls [.int t0, .ref (P 36)]) := by
  intro M v1 v2 v3 t0 H locs ls hl hP hD hS h
  unfold q_ChipMapModel_write_126 at h
  refine lv_iconst (v := 0) hx hb dX1_write_126 (by decide) ?_
  have hl := lv_sub hl [0, 1, 2, 3] (l' := [(0, .ref (P 0)), (1, .int v1), (2, .int v2), (3, .int v3)]) rfl
  exact b_ChipMapModel_write_127 hx hb hml hr hlk hgt hown hK hO hAO kk2 M v1 v2 v3 0 t0 H _ ls hl hP hD hS h
set_option maxHeartbeats 4000000 in
set_option maxRecDepth 20000 in
theorem b_ChipMapModel_write_74 {p : Program} {l : Launch} {e : Env} {s s0 : State} {m : MethodId} {args : Array Value} {below : List Frame} {meth : Method} {c : Code} {D : va_G} {cI cZ cC cJ cA : ClassId} {P : Nat → Nat} {M' : Mm} {r' : Int32} {kf2 : Mm → Int32 → Int32 → Int32 → Rs} (hx : p.tables.exec = Jvm.exec) (hb : c.code = cX1_write) (hml : c.maxLocals = 6) (hr : meth.sig.returnType = none) (hlk : meth.locks = false) (hgt : ∀ w ∈ GT, w.before args s = true) (hown : s.vm.findClass RX1 = some m.cls) (hK : va_K D vwCl [(cI, .int), (cZ, .boolean), (cC, .char), (cJ, .long), (cA, .array .int)] s) (hO : Old s0 s) (hAO : ∀ q, (aP P 51) q → s0.heap.size ≤ q) (kk2 : ∀ (M : Mm) (v1 : Int32) (v2 : Int32) (v3 : Int32) (H : Heap) (locs : List Loc) (ls : Array Slot), lv_has ls 6 [(0, .ref (P 0)), (1, .int v1), (2, .int v2), (3, .int v3)] → va_P D vwCl ((wY cI cZ cC cJ cA P) M) H → va_D (aP P 51) ((wY cI cZ cC cJ cA P) M) → va_S (aP P 51) s.heap H locs → kf2 M v1 v2 v3 = some (M', r') → W p l e ({ frames := 2, cells := 0, slots := 0, locals := 46 }) s m args below meth c H locs 0 0 (MQ below (gQv D (aP P 51) ((wY cI cZ cC cJ cA P) M')) args s 0 0 (aP P 51)) (F0 m 2 ls [])) : ∀ (M : Mm) (v1 : Int32) (v2 : Int32) (v3 : Int32) (v4 : Int32) (v5 : Int32) (H : Heap) (locs : List Loc) (ls : Array Slot), lv_has ls 6 [(0, .ref (P 0)), (1, .int v1), (2, .int v2), (3, .int v3), (4, .int v4), (5, .int v5)] → va_P D vwCl ((wY cI cZ cC cJ cA P) M) H → va_D (aP P 51) ((wY cI cZ cC cJ cA P) M) → va_S (aP P 51) s.heap H locs → q_ChipMapModel_write_74 kf2 M v1 v2 v3 v4 v5 = some (M', r') → W p l e ({ frames := 2, cells := 0, slots := 0, locals := 46 }) s m args below meth c H locs 0 0 (MQ below (gQv D (aP P 51) ((wY cI cZ cC cJ cA P) M')) args s 0 0 (aP P 51)) (F0 m 74 ls []) := by
  intro M v1 v2 v3 v4 v5 H locs ls hl hP hD hS h
  unfold q_ChipMapModel_write_74 at h
  refine lv_aload_n hx hb dX1_write_74 rfl (lv_at hl 0 rfl) ?_
  refine va_get (D := D) (ci := 1) (v := .ref (P 29)) (C := RX1) (T := TX1) (N := 76) hx hb hgt iwX1 hown hK hP 0 gY_0 rfl 39 (Nat.le_of_ble_eq_true rfl) (hgt _ wd_5_0) (fun _ h9 => h9) rfl dX1_write_75 ?_
  refine lv_iload_n hx hb dX1_write_78 rfl (lv_at hl 3 rfl) ?_
  refine va_iald hx hb hK hP 29 0 gY_29 rfl (ix_l h) dX1_write_79 ?_
  have h := ix_r h
  refine lv_bipush (v := 33) hx hb dX1_write_80 (by decide) ?_
  refine lv_icmp_ne hx hb dX1_write_82 (tgt := 128) rfl (fun hc => ?_) (fun hc => ?_)
  · have h := br_F hc h
    have hl := lv_sub hl [0, 1, 2, 3] (l' := [(0, .ref (P 0)), (1, .int v1), (2, .int v2), (3, .int v3)]) rfl
    exact b_ChipMapModel_write_128 hx hb hml hr hlk hgt hown hK hO hAO kk2 M v1 v2 v3 H _ ls hl hP hD hS h
  · have h := br_T hc h
    refine lv_aload_n hx hb dX1_write_85 rfl (lv_at hl 0 rfl) ?_
    refine va_get (D := D) (ci := 1) (v := .ref (P 36)) (C := RX1) (T := TX1) (N := 76) hx hb hgt iwX1 hown hK hP 0 gY_0 rfl 46 (Nat.le_of_ble_eq_true rfl) (hgt _ wd_5_7) (fun _ h9 => h9) rfl dX1_write_86 ?_
    refine lv_iload_n hx hb dX1_write_89 rfl (lv_at hl 3 rfl) ?_
    refine lv_iload hx hb dX1_write_90 (lv_at hl 4 rfl) ?_
    refine lv_if_eq hx hb dX1_write_92 (tgt := 108) rfl (fun hc => ?_) (fun hc => ?_)
    · have h := br_T hc h
      refine lv_aload_n hx hb dX1_write_108 rfl (lv_at hl 0 rfl) ?_
      refine va_get (D := D) (ci := 1) (v := .ref (P 36)) (C := RX1) (T := TX1) (N := 76) hx hb hgt iwX1 hown hK hP 0 gY_0 rfl 46 (Nat.le_of_ble_eq_true rfl) (hgt _ wd_5_7) (fun _ h9 => h9) rfl dX1_write_109 ?_
      refine lv_iload_n hx hb dX1_write_112 rfl (lv_at hl 3 rfl) ?_
      refine va_zald hx hb hK hP 36 1 gY_36 rfl (ix_l h) dX1_write_113 ?_
      have h := ix_r h
      refine lv_if_eq hx hb dX1_write_114 (tgt := 126) rfl (fun hc => ?_) (fun hc => ?_)
      · have h := br_T hc h
        have hl := lv_sub hl [0, 1, 2, 3] (l' := [(0, .ref (P 0)), (1, .int v1), (2, .int v2), (3, .int v3)]) rfl
        exact b_ChipMapModel_write_126 hx hb hml hr hlk hgt hown hK hO hAO kk2 M v1 v2 v3 v3 H _ ls hl hP hD hS h
      · have h := br_F hc h
        refine lv_iload hx hb dX1_write_117 (lv_at hl 5 rfl) ?_
        refine lv_if_ne hx hb dX1_write_119 (tgt := 126) rfl (fun hc => ?_) (fun hc => ?_)
        · have h := br_F hc h
          have hl := lv_sub hl [0, 1, 2, 3] (l' := [(0, .ref (P 0)), (1, .int v1), (2, .int v2), (3, .int v3)]) rfl
          exact b_ChipMapModel_write_126 hx hb hml hr hlk hgt hown hK hO hAO kk2 M v1 v2 v3 v3 H _ ls hl hP hD hS h
        · have h := br_T hc h
          refine lv_iconst (v := 1) hx hb dX1_write_122 (by decide) ?_
          refine lv_goto hx hb dX1_write_123 (tgt := 127) rfl ?_
          have hl := lv_sub hl [0, 1, 2, 3] (l' := [(0, .ref (P 0)), (1, .int v1), (2, .int v2), (3, .int v3)]) rfl
          exact b_ChipMapModel_write_127 hx hb hml hr hlk hgt hown hK hO hAO kk2 M v1 v2 v3 1 v3 H _ ls hl hP hD hS h
    · have h := br_F hc h
      refine lv_iload hx hb dX1_write_95 (lv_at hl 5 rfl) ?_
      refine lv_if_ne hx hb dX1_write_97 (tgt := 104) rfl (fun hc => ?_) (fun hc => ?_)
      · have h := br_F hc h
        refine lv_iconst (v := 0) hx hb dX1_write_104 (by decide) ?_
        refine lv_goto hx hb dX1_write_105 (tgt := 127) rfl ?_
        have hl := lv_sub hl [0, 1, 2, 3] (l' := [(0, .ref (P 0)), (1, .int v1), (2, .int v2), (3, .int v3)]) rfl
        exact b_ChipMapModel_write_127 hx hb hml hr hlk hgt hown hK hO hAO kk2 M v1 v2 v3 0 v3 H _ ls hl hP hD hS h
      · have h := br_T hc h
        refine lv_iconst (v := 1) hx hb dX1_write_100 (by decide) ?_
        refine lv_goto hx hb dX1_write_101 (tgt := 127) rfl ?_
        have hl := lv_sub hl [0, 1, 2, 3] (l' := [(0, .ref (P 0)), (1, .int v1), (2, .int v2), (3, .int v3)]) rfl
        exact b_ChipMapModel_write_127 hx hb hml hr hlk hgt hown hK hO hAO kk2 M v1 v2 v3 1 v3 H _ ls hl hP hD hS h
set_option maxHeartbeats 4000000 in
set_option maxRecDepth 20000 in
theorem b_ChipMapModel_write_73 {p : Program} {l : Launch} {e : Env} {s s0 : State} {m : MethodId} {args : Array Value} {below : List Frame} {meth : Method} {c : Code} {D : va_G} {cI cZ cC cJ cA : ClassId} {P : Nat → Nat} {M' : Mm} {r' : Int32} {kf2 : Mm → Int32 → Int32 → Int32 → Rs} (hx : p.tables.exec = Jvm.exec) (hb : c.code = cX1_write) (hml : c.maxLocals = 6) (hr : meth.sig.returnType = none) (hlk : meth.locks = false) (hgt : ∀ w ∈ GT, w.before args s = true) (hown : s.vm.findClass RX1 = some m.cls) (hK : va_K D vwCl [(cI, .int), (cZ, .boolean), (cC, .char), (cJ, .long), (cA, .array .int)] s) (hO : Old s0 s) (hAO : ∀ q, (aP P 51) q → s0.heap.size ≤ q) (kk2 : ∀ (M : Mm) (v1 : Int32) (v2 : Int32) (v3 : Int32) (H : Heap) (locs : List Loc) (ls : Array Slot), lv_has ls 6 [(0, .ref (P 0)), (1, .int v1), (2, .int v2), (3, .int v3)] → va_P D vwCl ((wY cI cZ cC cJ cA P) M) H → va_D (aP P 51) ((wY cI cZ cC cJ cA P) M) → va_S (aP P 51) s.heap H locs → kf2 M v1 v2 v3 = some (M', r') → W p l e ({ frames := 2, cells := 0, slots := 0, locals := 46 }) s m args below meth c H locs 0 0 (MQ below (gQv D (aP P 51) ((wY cI cZ cC cJ cA P) M')) args s 0 0 (aP P 51)) (F0 m 2 ls [])) : ∀ (M : Mm) (v1 : Int32) (v2 : Int32) (v3 : Int32) (v4 : Int32) (v5 : Int32) (t0 : Int32) (t1 : Int32) (H : Heap) (locs : List Loc) (ls : Array Slot), lv_has ls 6 [(0, .ref (P 0)), (1, .int v1), (2, .int v2), (3, .int v3), (4, .int v4), (5, .int v5)] → va_P D vwCl ((wY cI cZ cC cJ cA P) M) H → va_D (aP P 51) ((wY cI cZ cC cJ cA P) M) → va_S (aP P 51) s.heap H locs → q_ChipMapModel_write_73 kf2 M v1 v2 v3 v4 v5 t0 t1 = some (M', r') → W p l e ({ frames := 2, cells := 0, slots := 0, locals := 46 }) s m args below meth c H locs 0 0 (MQ below (gQv D (aP P 51) ((wY cI cZ cC cJ cA P) M')) args s 0 0 (aP P 51)) (F0 m 73 ls [.int t0, .int t1, .ref (P 36)]) := by
  intro M v1 v2 v3 v4 v5 t0 t1 H locs ls hl hP hD hS h
  unfold q_ChipMapModel_write_73 at h
  refine pm_zast (w := (wY cI cZ cC cJ cA P)) hx hb hK hP hD hS 36 1 gY_36 rfl sY_36 (ix_l h) dX1_write_73 (fun M1 eM1 H locs hP hD hS => ?_)
  have h := ix_r h
  have h := lt_o eM1 h
  have hl := lv_sub hl [0, 1, 2, 3, 4, 5] (l' := [(0, .ref (P 0)), (1, .int v1), (2, .int v2), (3, .int v3), (4, .int v4), (5, .int v5)]) rfl
  exact b_ChipMapModel_write_74 hx hb hml hr hlk hgt hown hK hO hAO kk2 M1 v1 v2 v3 v4 v5 H _ ls hl hP hD hS h
set_option maxHeartbeats 4000000 in
set_option maxRecDepth 20000 in
theorem b_ChipMapModel_write_68 {p : Program} {l : Launch} {e : Env} {s s0 : State} {m : MethodId} {args : Array Value} {below : List Frame} {meth : Method} {c : Code} {D : va_G} {cI cZ cC cJ cA : ClassId} {P : Nat → Nat} {M' : Mm} {r' : Int32} {kf2 : Mm → Int32 → Int32 → Int32 → Rs} (hx : p.tables.exec = Jvm.exec) (hb : c.code = cX1_write) (hml : c.maxLocals = 6) (hr : meth.sig.returnType = none) (hlk : meth.locks = false) (hgt : ∀ w ∈ GT, w.before args s = true) (hown : s.vm.findClass RX1 = some m.cls) (hK : va_K D vwCl [(cI, .int), (cZ, .boolean), (cC, .char), (cJ, .long), (cA, .array .int)] s) (hO : Old s0 s) (hAO : ∀ q, (aP P 51) q → s0.heap.size ≤ q) (kk2 : ∀ (M : Mm) (v1 : Int32) (v2 : Int32) (v3 : Int32) (H : Heap) (locs : List Loc) (ls : Array Slot), lv_has ls 6 [(0, .ref (P 0)), (1, .int v1), (2, .int v2), (3, .int v3)] → va_P D vwCl ((wY cI cZ cC cJ cA P) M) H → va_D (aP P 51) ((wY cI cZ cC cJ cA P) M) → va_S (aP P 51) s.heap H locs → kf2 M v1 v2 v3 = some (M', r') → W p l e ({ frames := 2, cells := 0, slots := 0, locals := 46 }) s m args below meth c H locs 0 0 (MQ below (gQv D (aP P 51) ((wY cI cZ cC cJ cA P) M')) args s 0 0 (aP P 51)) (F0 m 2 ls [])) : ∀ (M : Mm) (v1 : Int32) (v2 : Int32) (v3 : Int32) (v4 : Int32) (v5 : Int32) (t0 : Int32) (H : Heap) (locs : List Loc) (ls : Array Slot), lv_has ls 6 [(0, .ref (P 0)), (1, .int v1), (2, .int v2), (3, .int v3), (4, .int v4), (5, .int v5)] → va_P D vwCl ((wY cI cZ cC cJ cA P) M) H → va_D (aP P 51) ((wY cI cZ cC cJ cA P) M) → va_S (aP P 51) s.heap H locs → q_ChipMapModel_write_68 kf2 M v1 v2 v3 v4 v5 t0 = some (M', r') → W p l e ({ frames := 2, cells := 0, slots := 0, locals := 46 }) s m args below meth c H locs 0 0 (MQ below (gQv D (aP P 51) ((wY cI cZ cC cJ cA P) M')) args s 0 0 (aP P 51)) (F0 m 68 ls [.int t0, .ref (P 36)]) := by
  intro M v1 v2 v3 v4 v5 t0 H locs ls hl hP hD hS h
  unfold q_ChipMapModel_write_68 at h
  refine lv_iconst (v := 1) hx hb dX1_write_68 (by decide) ?_
  refine lv_goto hx hb dX1_write_69 (tgt := 73) rfl ?_
  have hl := lv_sub hl [0, 1, 2, 3, 4, 5] (l' := [(0, .ref (P 0)), (1, .int v1), (2, .int v2), (3, .int v3), (4, .int v4), (5, .int v5)]) rfl
  exact b_ChipMapModel_write_73 hx hb hml hr hlk hgt hown hK hO hAO kk2 M v1 v2 v3 v4 v5 1 t0 H _ ls hl hP hD hS h
set_option maxHeartbeats 4000000 in
set_option maxRecDepth 20000 in
theorem b_ChipMapModel_write_2 {p : Program} {l : Launch} {e : Env} {s s0 : State} {m : MethodId} {args : Array Value} {below : List Frame} {meth : Method} {c : Code} {D : va_G} {cI cZ cC cJ cA : ClassId} {P : Nat → Nat} {M' : Mm} {r' : Int32}  (hx : p.tables.exec = Jvm.exec) (hb : c.code = cX1_write) (hml : c.maxLocals = 6) (hr : meth.sig.returnType = none) (hlk : meth.locks = false) (hgt : ∀ w ∈ GT, w.before args s = true) (hown : s.vm.findClass RX1 = some m.cls) (hK : va_K D vwCl [(cI, .int), (cZ, .boolean), (cC, .char), (cJ, .long), (cA, .array .int)] s) (hO : Old s0 s) (hAO : ∀ q, (aP P 51) q → s0.heap.size ≤ q)  : ∀ (n' : Nat) (M : Mm) (v1 : Int32) (v2 : Int32) (v3 : Int32) (H : Heap) (locs : List Loc) (ls : Array Slot), lv_has ls 6 [(0, .ref (P 0)), (1, .int v1), (2, .int v2), (3, .int v3)] → va_P D vwCl ((wY cI cZ cC cJ cA P) M) H → va_D (aP P 51) ((wY cI cZ cC cJ cA P) M) → va_S (aP P 51) s.heap H locs → q_ChipMapModel_write_2 n' M v1 v2 v3 = some (M', r') → W p l e ({ frames := 2, cells := 0, slots := 0, locals := 46 }) s m args below meth c H locs 0 0 (MQ below (gQv D (aP P 51) ((wY cI cZ cC cJ cA P) M')) args s 0 0 (aP P 51)) (F0 m 2 ls []) := by
  intro n'
  induction n' with
  | zero => exact fun _ _ _ _ _ _ _ _ _ _ _ h => (rs_n h).elim
  | succ n' ih =>
    intro M v1 v2 v3 H locs ls hl hP hD hS h
    rw [q_ChipMapModel_write_2] at h
    refine lv_iload_n hx hb dX1_write_2 rfl (lv_at hl 3 rfl) ?_
    refine lv_aload_n hx hb dX1_write_3 rfl (lv_at hl 0 rfl) ?_
    refine va_get (D := D) (ci := 1) (v := .int (M.1 0 38)) (C := RX1) (T := TX1) (N := 76) hx hb hgt iwX1 hown hK hP 0 gY_0 rfl 38 (Nat.le_of_ble_eq_true rfl) (hgt _ wd_4_239) (fun _ h9 => h9) rfl dX1_write_4 ?_
    refine lv_icmp_ge hx hb dX1_write_7 (tgt := 134) rfl (fun hc => ?_) (fun hc => ?_)
    · have h := br_T hc h
      refine lv_iconst (v := 0) hx hb dX1_write_134 (by decide) ?_
      refine lv_istore_n hx hb dX1_write_135 rfl hl (Nat.le_of_ble_eq_true rfl) (lv' := [(3, .int 0), (0, .ref (P 0)), (1, .int v1), (2, .int v2)]) rfl (fun ls hl => ?_)
      have hl := lv_sub hl [1, 2, 3, 0] (l' := [(0, .ref (P 0)), (1, .int v1), (2, .int v2), (3, .int 0)]) rfl
      exact b_ChipMapModel_write_136 hx hb hml hr hlk hgt hown hK hO hAO 4000 M v1 v2 0 H _ ls hl hP hD hS h
    · have h := br_F hc h
      refine lv_aload_n hx hb dX1_write_10 rfl (lv_at hl 0 rfl) ?_
      refine lv_aload_n hx hb dX1_write_11 rfl (lv_at hl 0 rfl) ?_
      refine va_get (D := D) (ci := 1) (v := .ref (P 30)) (C := RX1) (T := TX1) (N := 76) hx hb hgt iwX1 hown hK hP 0 gY_0 rfl 40 (Nat.le_of_ble_eq_true rfl) (hgt _ wd_5_1) (fun _ h9 => h9) rfl dX1_write_12 ?_
      refine lv_iload_n hx hb dX1_write_15 rfl (lv_at hl 3 rfl) ?_
      refine va_iald hx hb hK hP 30 0 gY_30 rfl (ix_l h) dX1_write_16 ?_
      have h := ix_r h
      refine lv_iload_n hx hb dX1_write_17 rfl (lv_at hl 1 rfl) ?_
      refine lv_iload_n hx hb dX1_write_18 rfl (lv_at hl 2 rfl) ?_
      obtain ⟨M1, r2, hq, h⟩ := cal_o h
      refine cx_i (va_runV (As := [.int (M.1 30 (v3 : Int32).toNatClampNeg), .int v1, .int v2]) (rest := []) ⟨hx, hb, hml, hown, hgt⟩ (z_ChipMapModel_isWritten l D cI cZ cC cJ cA P s0 hAO M (M.1 30 (v3 : Int32).toNatClampNeg) v1 v2 M1 r2 hq) (cwV 3 hgt (gV wd_6_82 wd_6_84 sl__ChipMapModel____ChipMapModel___isWritten____III_Z_____ChipMapModel___isWritten____III_Z__ wd_0_15 wd_6_85) rfl rfl rfl (by decide +kernel) ⟨Nat.le_of_ble_eq_true rfl, Nat.le_of_ble_eq_true rfl⟩) (prV hP hK hD hO hAO hS (va_recv hK hP (ci := 1) (q0 := 0) rfl gY_0)) rfl rfl hl.1 rfl (lv_room (Nat.le_of_ble_eq_true rfl)) dX1_write_19 ⟨Nat.le_of_ble_eq_true rfl, Nat.le_of_ble_eq_true rfl⟩) hS (fun H locs hP hD hS => ?_)
      refine lv_istore hx hb dX1_write_22 hl (Nat.le_of_ble_eq_true rfl) (lv' := [(4, .int r2), (0, .ref (P 0)), (1, .int v1), (2, .int v2), (3, .int v3)]) rfl (fun ls hl => ?_)
      refine lv_aload_n hx hb dX1_write_24 rfl (lv_at hl 1 rfl) ?_
      refine lv_aload_n hx hb dX1_write_25 rfl (lv_at hl 1 rfl) ?_
      refine va_get (D := D) (ci := 1) (v := .ref (P 31)) (C := RX1) (T := TX1) (N := 76) hx hb hgt iwX1 hown hK hP 0 gY_0 rfl 41 (Nat.le_of_ble_eq_true rfl) (hgt _ wd_5_2) (fun _ h9 => h9) rfl dX1_write_26 ?_
      refine lv_iload_n hx hb dX1_write_29 rfl (lv_at hl 4 rfl) ?_
      refine va_iald hx hb hK hP 31 0 gY_31 rfl (ix_l h) dX1_write_30 ?_
      have h := ix_r h
      refine lv_iload_n hx hb dX1_write_31 rfl (lv_at hl 2 rfl) ?_
      refine lv_iload_n hx hb dX1_write_32 rfl (lv_at hl 3 rfl) ?_
      obtain ⟨M3, r4, hq, h⟩ := cal_o h
      refine cx_i (va_runV (As := [.int (M1.1 31 (v3 : Int32).toNatClampNeg), .int v1, .int v2]) (rest := []) ⟨hx, hb, hml, hown, hgt⟩ (z_ChipMapModel_isWritten l D cI cZ cC cJ cA P s0 hAO M1 (M1.1 31 (v3 : Int32).toNatClampNeg) v1 v2 M3 r4 hq) (cwV 3 hgt (gV wd_6_82 wd_6_84 sl__ChipMapModel____ChipMapModel___isWritten____III_Z_____ChipMapModel___isWritten____III_Z__ wd_0_15 wd_6_85) rfl rfl rfl (by decide +kernel) ⟨Nat.le_of_ble_eq_true rfl, Nat.le_of_ble_eq_true rfl⟩) (prV hP hK hD hO hAO hS (va_recv hK hP (ci := 1) (q0 := 0) rfl gY_0)) rfl rfl hl.1 rfl (lv_room (Nat.le_of_ble_eq_true rfl)) dX1_write_33 ⟨Nat.le_of_ble_eq_true rfl, Nat.le_of_ble_eq_true rfl⟩) hS (fun H locs hP hD hS => ?_)
      refine lv_istore hx hb dX1_write_36 hl (Nat.le_of_ble_eq_true rfl) (lv' := [(5, .int r4), (4, .int r2), (0, .ref (P 0)), (1, .int v1), (2, .int v2), (3, .int v3)]) rfl (fun ls hl => ?_)
      refine lv_aload_n hx hb dX1_write_38 rfl (lv_at hl 2 rfl) ?_
      refine va_get (D := D) (ci := 1) (v := .ref (P 29)) (C := RX1) (T := TX1) (N := 76) hx hb hgt iwX1 hown hK hP 0 gY_0 rfl 39 (Nat.le_of_ble_eq_true rfl) (hgt _ wd_5_0) (fun _ h9 => h9) rfl dX1_write_39 ?_
      refine lv_iload_n hx hb dX1_write_42 rfl (lv_at hl 5 rfl) ?_
      refine va_iald hx hb hK hP 29 0 gY_29 rfl (ix_l h) dX1_write_43 ?_
      have h := ix_r h
      refine lv_bipush (v := 60) hx hb dX1_write_44 (by decide) ?_
      refine lv_icmp_ne hx hb dX1_write_46 (tgt := 74) rfl (fun hc => ?_) (fun hc => ?_)
      · have h := br_F hc h
        have hl := lv_sub hl [2, 3, 4, 5, 1, 0] (l' := [(0, .ref (P 0)), (1, .int v1), (2, .int v2), (3, .int v3), (4, .int r2), (5, .int r4)]) rfl
        exact b_ChipMapModel_write_74 hx hb hml hr hlk hgt hown hK hO hAO ih M3 v1 v2 v3 r2 r4 H _ ls hl hP hD hS h
      · have h := br_T hc h
        refine lv_aload_n hx hb dX1_write_49 rfl (lv_at hl 2 rfl) ?_
        refine va_get (D := D) (ci := 1) (v := .ref (P 36)) (C := RX1) (T := TX1) (N := 76) hx hb hgt iwX1 hown hK hP 0 gY_0 rfl 46 (Nat.le_of_ble_eq_true rfl) (hgt _ wd_5_7) (fun _ h9 => h9) rfl dX1_write_50 ?_
        refine lv_iload_n hx hb dX1_write_53 rfl (lv_at hl 5 rfl) ?_
        refine lv_aload_n hx hb dX1_write_54 rfl (lv_at hl 2 rfl) ?_
        refine va_get (D := D) (ci := 1) (v := .ref (P 36)) (C := RX1) (T := TX1) (N := 76) hx hb hgt iwX1 hown hK hP 0 gY_0 rfl 46 (Nat.le_of_ble_eq_true rfl) (hgt _ wd_5_7) (fun _ h9 => h9) rfl dX1_write_55 ?_
        refine lv_iload_n hx hb dX1_write_58 rfl (lv_at hl 5 rfl) ?_
        refine va_zald hx hb hK hP 36 1 gY_36 rfl (ix_l h) dX1_write_59 ?_
        have h := ix_r h
        refine lv_if_ne hx hb dX1_write_60 (tgt := 68) rfl (fun hc => ?_) (fun hc => ?_)
        · have h := br_F hc h
          have hl := lv_sub hl [2, 3, 4, 5, 1, 0] (l' := [(0, .ref (P 0)), (1, .int v1), (2, .int v2), (3, .int v3), (4, .int r2), (5, .int r4)]) rfl
          exact b_ChipMapModel_write_68 hx hb hml hr hlk hgt hown hK hO hAO ih M3 v1 v2 v3 r2 r4 v3 H _ ls hl hP hD hS h
        · have h := br_T hc h
          refine lv_iload hx hb dX1_write_63 (lv_at hl 1 rfl) ?_
          refine lv_if_eq hx hb dX1_write_65 (tgt := 72) rfl (fun hc => ?_) (fun hc => ?_)
          · have h := br_T hc h
            refine lv_iconst (v := 0) hx hb dX1_write_72 (by decide) ?_
            have hl := lv_sub hl [2, 3, 4, 5, 1, 0] (l' := [(0, .ref (P 0)), (1, .int v1), (2, .int v2), (3, .int v3), (4, .int r2), (5, .int r4)]) rfl
            exact b_ChipMapModel_write_73 hx hb hml hr hlk hgt hown hK hO hAO ih M3 v1 v2 v3 r2 r4 0 v3 H _ ls hl hP hD hS h
          · have h := br_F hc h
            have hl := lv_sub hl [2, 3, 4, 5, 1, 0] (l' := [(0, .ref (P 0)), (1, .int v1), (2, .int v2), (3, .int v3), (4, .int r2), (5, .int r4)]) rfl
            exact b_ChipMapModel_write_68 hx hb hml hr hlk hgt hown hK hO hAO ih M3 v1 v2 v3 r2 r4 v3 H _ ls hl hP hD hS h
set_option maxHeartbeats 4000000 in
set_option maxRecDepth 20000 in
theorem b_ChipMapModel_write_0 {p : Program} {l : Launch} {e : Env} {s s0 : State} {m : MethodId} {args : Array Value} {below : List Frame} {meth : Method} {c : Code} {D : va_G} {cI cZ cC cJ cA : ClassId} {P : Nat → Nat} {M' : Mm} {r' : Int32}  (hx : p.tables.exec = Jvm.exec) (hb : c.code = cX1_write) (hml : c.maxLocals = 6) (hr : meth.sig.returnType = none) (hlk : meth.locks = false) (hgt : ∀ w ∈ GT, w.before args s = true) (hown : s.vm.findClass RX1 = some m.cls) (hK : va_K D vwCl [(cI, .int), (cZ, .boolean), (cC, .char), (cJ, .long), (cA, .array .int)] s) (hO : Old s0 s) (hAO : ∀ q, (aP P 51) q → s0.heap.size ≤ q)  : ∀ (M : Mm) (a1 : Int32) (a2 : Int32) (H : Heap) (locs : List Loc) (ls : Array Slot), lv_has ls 6 [(0, .ref (P 0)), (1, .int a1), (2, .int a2)] → va_P D vwCl ((wY cI cZ cC cJ cA P) M) H → va_D (aP P 51) ((wY cI cZ cC cJ cA P) M) → va_S (aP P 51) s.heap H locs → q_ChipMapModel_write M a1 a2 = some (M', r') → W p l e ({ frames := 2, cells := 0, slots := 0, locals := 46 }) s m args below meth c H locs 0 0 (MQ below (gQv D (aP P 51) ((wY cI cZ cC cJ cA P) M')) args s 0 0 (aP P 51)) (F0 m 0 ls []) := by
  intro M a1 a2 H locs ls hl hP hD hS h
  unfold q_ChipMapModel_write at h
  refine lv_iconst (v := 0) hx hb dX1_write_0 (by decide) ?_
  refine lv_istore_n hx hb dX1_write_1 rfl hl (Nat.le_of_ble_eq_true rfl) (lv' := [(3, .int 0), (0, .ref (P 0)), (1, .int a1), (2, .int a2)]) rfl (fun ls hl => ?_)
  have hl := lv_sub hl [1, 2, 3, 0] (l' := [(0, .ref (P 0)), (1, .int a1), (2, .int a2), (3, .int 0)]) rfl
  exact b_ChipMapModel_write_2 hx hb hml hr hlk hgt hown hK hO hAO 4000 M a1 a2 0 H _ ls hl hP hD hS h
set_option maxHeartbeats 4000000 in
set_option maxRecDepth 20000 in
theorem z_ChipMapModel_write (l : Launch) (D : va_G) (cI cZ cC cJ cA : ClassId) (P : Nat → Nat) (s0 : State) (hAO : ∀ q, (aP P 51) q → s0.heap.size ≤ q) (M : Mm) (a1 : Int32) (a2 : Int32) (M' : Mm) (r' : Int32) (h : q_ChipMapModel_write M a1 a2 = some (M', r')) : Met l yX1_write wsX1_write ({ frames := 2, cells := 0, slots := 0, locals := 46 }) (va_Pc [.ref (P 0), .int a1, .int a2] (gPre s0 D [(cI, .int), (cZ, .boolean), (cC, .char), (cJ, .long), (cA, .array .int)] (aP P 51) ((wY cI cZ cC cJ cA P) M))) (gQv D (aP P 51) ((wY cI cZ cC cJ cA P) M')) 0 0 (aP P 51) := by
  refine Met.ofW (cc := cX1_write) (maxL := 6) (ret := none) (by decide) rfl ?_
  intro p e s m args below meth c s₁ B hml hv
  obtain ⟨rfl, hP, hK, hD, hO⟩ := hv
  have hx := B.exec
  have hb := B.bytes
  have hr := B.returns
  have hlk := B.notSynchronized
  have hgt := fun w (h : w ∈ GT) => atoms_spec (ws := wsX1_write) B.pre w (List.mem_cons_of_mem _ h)
  have hown : s.vm.findClass RX1 = some m.cls := findClass_of_methodNamed B.named
  have hS : va_S (aP P 51) s.heap s.heap [] := va_S.rf
  have hl := lv_entry ([.ref (P 0), .int a1, .int a2]) (n := 6) (Nat.le_of_ble_eq_true rfl)
  rw [lg_entry_eq]
  generalize (lg_sl ([.ref (P 0), .int a1, .int a2]) ++ List.replicate (6 - (lg_sl ([.ref (P 0), .int a1, .int a2])).length) Slot.unset).toArray = ls at hl ⊢
  have hl : lv_has ls 6 [(0, .ref (P 0)), (1, .int a1), (2, .int a2)] := hl
  exact b_ChipMapModel_write_0 hx hb hml hr hlk hgt hown hK hO hAO M a1 a2 s.heap [] ls hl hP hD hS h
end
section
def q_ChipMapModel_read_119 (kf4 : Mm → Int32 → Int32 → Int32 → Rs) (M : Mm) (v1 : Int32) (v2 : Int32) (v3 : Int32) : Rs := kf4 M v1 v2 (v3 + 1)
def q_ChipMapModel_read_82 (kf4 : Mm → Int32 → Int32 → Int32 → Rs) (M : Mm) (v1 : Int32) (v2 : Int32) (v3 : Int32) : Rs := ix v3 26 <| if (M.1 24 (v3 : Int32).toNatClampNeg) = 112 then (ix v3 78 <| ix v3 78 <| lt' (stI M 34 (upd (M.1 34) (v3 : Int32).toNatClampNeg ((M.1 34 (v3 : Int32).toNatClampNeg) - 1))) fun M1 => ix v3 78 <| if 0 < (M1.1 34 (v3 : Int32).toNatClampNeg) then (q_ChipMapModel_read_119 kf4 M1 v1 v2 v3) else (ix v3 78 <| lt' (stI M1 33 (upd (M1.1 33) (v3 : Int32).toNatClampNeg 0)) fun M2 => q_ChipMapModel_read_119 kf4 M2 v1 v2 v3)) else (q_ChipMapModel_read_119 kf4 M v1 v2 v3)
def q_ChipMapModel_read_4  : Nat → Mm → Int32 → Int32 → Int32 → Rs
  | 0, _, _, _, _ => none
  | n' + 1, M, v1, v2, v3 => if 26 ≤ v3 then (cal (q_ChipMapModel_trace M 0 v1 v2) fun M1 r2 => some (M1, v2)) else (cal (q_ChipMapModel_isIn M v3 v1) fun M1 r2 => if r2 = 0 then (q_ChipMapModel_read_119 (q_ChipMapModel_read_4 n') M1 v1 v2 v3) else (ix v3 26 <| if (M1.1 24 (v3 : Int32).toNatClampNeg) = 111 then (q_ChipMapModel_read_119 (q_ChipMapModel_read_4 n') M1 v1 v2 v3) else (ix v3 78 <| ix v3 26 <| lt' (v2 ||| (((M1.1 33 (v3 : Int32).toNatClampNeg) : Int32) <<< ((M1.1 26 (v3 : Int32).toNatClampNeg) &&& 31))) fun x3 => ix v3 26 <| if (M1.1 24 (v3 : Int32).toNatClampNeg) = 99 then (ix v3 78 <| ix v3 78 <| ix v3 78 <| lt' (stI M1 35 (upd (M1.1 35) (v3 : Int32).toNatClampNeg ((M1.1 35 (v3 : Int32).toNatClampNeg) ||| (M1.1 33 (v3 : Int32).toNatClampNeg)))) fun M4 => ix v3 78 <| lt' (stI M4 33 (upd (M4.1 33) (v3 : Int32).toNatClampNeg 0)) fun M5 => q_ChipMapModel_read_82 (q_ChipMapModel_read_4 n') M5 v1 x3 v3) else (q_ChipMapModel_read_82 (q_ChipMapModel_read_4 n') M1 v1 x3 v3))))
def q_ChipMapModel_read  (M : Mm) (a1 : Int32) : Rs := q_ChipMapModel_read_4 4000 M a1 0 0
set_option maxHeartbeats 4000000 in
set_option maxRecDepth 20000 in
theorem b_ChipMapModel_read_119 {p : Program} {l : Launch} {e : Env} {s s0 : State} {m : MethodId} {args : Array Value} {below : List Frame} {meth : Method} {c : Code} {D : va_G} {cI cZ cC cJ cA : ClassId} {P : Nat → Nat} {M' : Mm} {r' : Int32} {kf4 : Mm → Int32 → Int32 → Int32 → Rs} (hx : p.tables.exec = Jvm.exec) (hb : c.code = cX1_read) (hml : c.maxLocals = 4) (hr : meth.sig.returnType = (some .int)) (hlk : meth.locks = false) (hgt : ∀ w ∈ GT, w.before args s = true) (hown : s.vm.findClass RX1 = some m.cls) (hK : va_K D vwCl [(cI, .int), (cZ, .boolean), (cC, .char), (cJ, .long), (cA, .array .int)] s) (hO : Old s0 s) (hAO : ∀ q, (aP P 51) q → s0.heap.size ≤ q) (kk4 : ∀ (M : Mm) (v1 : Int32) (v2 : Int32) (v3 : Int32) (H : Heap) (locs : List Loc) (ls : Array Slot), lv_has ls 4 [(0, .ref (P 0)), (1, .int v1), (2, .int v2), (3, .int v3)] → va_P D vwCl ((wY cI cZ cC cJ cA P) M) H → va_D (aP P 51) ((wY cI cZ cC cJ cA P) M) → va_S (aP P 51) s.heap H locs → kf4 M v1 v2 v3 = some (M', r') → W p l e ({ frames := 1, cells := 0, slots := 0, locals := 24 }) s m args below meth c H locs 0 0 (MQ below (gQi D (aP P 51) ((wY cI cZ cC cJ cA P) M') r') args s 0 0 (aP P 51)) (F0 m 4 ls [])) : ∀ (M : Mm) (v1 : Int32) (v2 : Int32) (v3 : Int32) (H : Heap) (locs : List Loc) (ls : Array Slot), lv_has ls 4 [(0, .ref (P 0)), (1, .int v1), (2, .int v2), (3, .int v3)] → va_P D vwCl ((wY cI cZ cC cJ cA P) M) H → va_D (aP P 51) ((wY cI cZ cC cJ cA P) M) → va_S (aP P 51) s.heap H locs → q_ChipMapModel_read_119 kf4 M v1 v2 v3 = some (M', r') → W p l e ({ frames := 1, cells := 0, slots := 0, locals := 24 }) s m args below meth c H locs 0 0 (MQ below (gQi D (aP P 51) ((wY cI cZ cC cJ cA P) M') r') args s 0 0 (aP P 51)) (F0 m 119 ls []) := by
  intro M v1 v2 v3 H locs ls hl hP hD hS h
  unfold q_ChipMapModel_read_119 at h
  refine lv_iinc (v := (v3 + 1)) hx hb dX1_read_119 hl (k := 3) rfl rfl (Nat.le_of_ble_eq_true rfl) (lv' := [(3, .int (v3 + 1)), (0, .ref (P 0)), (1, .int v1), (2, .int v2)]) rfl (fun ls hl => ?_)
  refine lv_goto hx hb dX1_read_122 (tgt := 4) rfl ?_
  have hl := lv_sub hl [1, 2, 3, 0] (l' := [(0, .ref (P 0)), (1, .int v1), (2, .int v2), (3, .int (v3 + 1))]) rfl
  exact kk4 M v1 v2 (v3 + 1) H locs ls hl hP hD hS h
set_option maxHeartbeats 4000000 in
set_option maxRecDepth 20000 in
theorem b_ChipMapModel_read_82 {p : Program} {l : Launch} {e : Env} {s s0 : State} {m : MethodId} {args : Array Value} {below : List Frame} {meth : Method} {c : Code} {D : va_G} {cI cZ cC cJ cA : ClassId} {P : Nat → Nat} {M' : Mm} {r' : Int32} {kf4 : Mm → Int32 → Int32 → Int32 → Rs} (hx : p.tables.exec = Jvm.exec) (hb : c.code = cX1_read) (hml : c.maxLocals = 4) (hr : meth.sig.returnType = (some .int)) (hlk : meth.locks = false) (hgt : ∀ w ∈ GT, w.before args s = true) (hown : s.vm.findClass RX1 = some m.cls) (hK : va_K D vwCl [(cI, .int), (cZ, .boolean), (cC, .char), (cJ, .long), (cA, .array .int)] s) (hO : Old s0 s) (hAO : ∀ q, (aP P 51) q → s0.heap.size ≤ q) (kk4 : ∀ (M : Mm) (v1 : Int32) (v2 : Int32) (v3 : Int32) (H : Heap) (locs : List Loc) (ls : Array Slot), lv_has ls 4 [(0, .ref (P 0)), (1, .int v1), (2, .int v2), (3, .int v3)] → va_P D vwCl ((wY cI cZ cC cJ cA P) M) H → va_D (aP P 51) ((wY cI cZ cC cJ cA P) M) → va_S (aP P 51) s.heap H locs → kf4 M v1 v2 v3 = some (M', r') → W p l e ({ frames := 1, cells := 0, slots := 0, locals := 24 }) s m args below meth c H locs 0 0 (MQ below (gQi D (aP P 51) ((wY cI cZ cC cJ cA P) M') r') args s 0 0 (aP P 51)) (F0 m 4 ls [])) : ∀ (M : Mm) (v1 : Int32) (v2 : Int32) (v3 : Int32) (H : Heap) (locs : List Loc) (ls : Array Slot), lv_has ls 4 [(0, .ref (P 0)), (1, .int v1), (2, .int v2), (3, .int v3)] → va_P D vwCl ((wY cI cZ cC cJ cA P) M) H → va_D (aP P 51) ((wY cI cZ cC cJ cA P) M) → va_S (aP P 51) s.heap H locs → q_ChipMapModel_read_82 kf4 M v1 v2 v3 = some (M', r') → W p l e ({ frames := 1, cells := 0, slots := 0, locals := 24 }) s m args below meth c H locs 0 0 (MQ below (gQi D (aP P 51) ((wY cI cZ cC cJ cA P) M') r') args s 0 0 (aP P 51)) (F0 m 82 ls []) := by
  intro M v1 v2 v3 H locs ls hl hP hD hS h
  unfold q_ChipMapModel_read_82 at h
  refine lv_aload_n hx hb dX1_read_82 rfl (lv_at hl 0 rfl) ?_
  refine va_get (D := D) (ci := 1) (v := .ref (P 24)) (C := RX1) (T := TX1) (N := 76) hx hb hgt iwX1 hown hK hP 0 gY_0 rfl 33 (Nat.le_of_ble_eq_true rfl) (hgt _ wd_4_234) (fun _ h9 => h9) rfl dX1_read_83 ?_
  refine lv_iload_n hx hb dX1_read_86 rfl (lv_at hl 3 rfl) ?_
  refine va_iald hx hb hK hP 24 0 gY_24 rfl (ix_l h) dX1_read_87 ?_
  have h := ix_r h
  refine lv_bipush (v := 112) hx hb dX1_read_88 (by decide) ?_
  refine lv_icmp_ne hx hb dX1_read_90 (tgt := 119) rfl (fun hc => ?_) (fun hc => ?_)
  · have h := br_F hc h
    have hl := lv_sub hl [0, 1, 2, 3] (l' := [(0, .ref (P 0)), (1, .int v1), (2, .int v2), (3, .int v3)]) rfl
    exact b_ChipMapModel_read_119 hx hb hml hr hlk hgt hown hK hO hAO kk4 M v1 v2 v3 H _ ls hl hP hD hS h
  · have h := br_T hc h
    refine lv_aload_n hx hb dX1_read_93 rfl (lv_at hl 0 rfl) ?_
    refine va_get (D := D) (ci := 1) (v := .ref (P 34)) (C := RX1) (T := TX1) (N := 76) hx hb hgt iwX1 hown hK hP 0 gY_0 rfl 44 (Nat.le_of_ble_eq_true rfl) (hgt _ wd_5_5) (fun _ h9 => h9) rfl dX1_read_94 ?_
    refine lv_iload_n hx hb dX1_read_97 rfl (lv_at hl 3 rfl) ?_
    refine lv_dup2_11 hx hb dX1_read_98 rfl rfl ?_
    refine va_iald hx hb hK hP 34 0 gY_34 rfl (ix_l h) dX1_read_99 ?_
    have h := ix_r h
    refine lv_iconst (v := 1) hx hb dX1_read_100 (by decide) ?_
    refine lv_isub hx hb dX1_read_101 ?_
    refine pm_iast (w := (wY cI cZ cC cJ cA P)) hx hb hK hP hD hS 34 0 gY_34 rfl sY_34 (ix_l h) dX1_read_102 (fun M1 eM1 H locs hP hD hS => ?_)
    have h := ix_r h
    have h := lt_o eM1 h
    refine lv_aload_n hx hb dX1_read_103 rfl (lv_at hl 0 rfl) ?_
    refine va_get (D := D) (ci := 1) (v := .ref (P 34)) (C := RX1) (T := TX1) (N := 76) hx hb hgt iwX1 hown hK hP 0 gY_0 rfl 44 (Nat.le_of_ble_eq_true rfl) (hgt _ wd_5_5) (fun _ h9 => h9) rfl dX1_read_104 ?_
    refine lv_iload_n hx hb dX1_read_107 rfl (lv_at hl 3 rfl) ?_
    refine va_iald hx hb hK hP 34 0 gY_34 rfl (ix_l h) dX1_read_108 ?_
    have h := ix_r h
    refine lv_if_gt hx hb dX1_read_109 (tgt := 119) rfl (fun hc => ?_) (fun hc => ?_)
    · have h := br_T hc h
      have hl := lv_sub hl [0, 1, 2, 3] (l' := [(0, .ref (P 0)), (1, .int v1), (2, .int v2), (3, .int v3)]) rfl
      exact b_ChipMapModel_read_119 hx hb hml hr hlk hgt hown hK hO hAO kk4 M1 v1 v2 v3 H _ ls hl hP hD hS h
    · have h := br_F hc h
      refine lv_aload_n hx hb dX1_read_112 rfl (lv_at hl 0 rfl) ?_
      refine va_get (D := D) (ci := 1) (v := .ref (P 33)) (C := RX1) (T := TX1) (N := 76) hx hb hgt iwX1 hown hK hP 0 gY_0 rfl 43 (Nat.le_of_ble_eq_true rfl) (hgt _ wd_5_4) (fun _ h9 => h9) rfl dX1_read_113 ?_
      refine lv_iload_n hx hb dX1_read_116 rfl (lv_at hl 3 rfl) ?_
      refine lv_iconst (v := 0) hx hb dX1_read_117 (by decide) ?_
      refine pm_iast (w := (wY cI cZ cC cJ cA P)) hx hb hK hP hD hS 33 0 gY_33 rfl sY_33 (ix_l h) dX1_read_118 (fun M2 eM2 H locs hP hD hS => ?_)
      have h := ix_r h
      have h := lt_o eM2 h
      have hl := lv_sub hl [0, 1, 2, 3] (l' := [(0, .ref (P 0)), (1, .int v1), (2, .int v2), (3, .int v3)]) rfl
      exact b_ChipMapModel_read_119 hx hb hml hr hlk hgt hown hK hO hAO kk4 M2 v1 v2 v3 H _ ls hl hP hD hS h
set_option maxHeartbeats 4000000 in
set_option maxRecDepth 20000 in
theorem b_ChipMapModel_read_4 {p : Program} {l : Launch} {e : Env} {s s0 : State} {m : MethodId} {args : Array Value} {below : List Frame} {meth : Method} {c : Code} {D : va_G} {cI cZ cC cJ cA : ClassId} {P : Nat → Nat} {M' : Mm} {r' : Int32}  (hx : p.tables.exec = Jvm.exec) (hb : c.code = cX1_read) (hml : c.maxLocals = 4) (hr : meth.sig.returnType = (some .int)) (hlk : meth.locks = false) (hgt : ∀ w ∈ GT, w.before args s = true) (hown : s.vm.findClass RX1 = some m.cls) (hK : va_K D vwCl [(cI, .int), (cZ, .boolean), (cC, .char), (cJ, .long), (cA, .array .int)] s) (hO : Old s0 s) (hAO : ∀ q, (aP P 51) q → s0.heap.size ≤ q)  : ∀ (n' : Nat) (M : Mm) (v1 : Int32) (v2 : Int32) (v3 : Int32) (H : Heap) (locs : List Loc) (ls : Array Slot), lv_has ls 4 [(0, .ref (P 0)), (1, .int v1), (2, .int v2), (3, .int v3)] → va_P D vwCl ((wY cI cZ cC cJ cA P) M) H → va_D (aP P 51) ((wY cI cZ cC cJ cA P) M) → va_S (aP P 51) s.heap H locs → q_ChipMapModel_read_4 n' M v1 v2 v3 = some (M', r') → W p l e ({ frames := 1, cells := 0, slots := 0, locals := 24 }) s m args below meth c H locs 0 0 (MQ below (gQi D (aP P 51) ((wY cI cZ cC cJ cA P) M') r') args s 0 0 (aP P 51)) (F0 m 4 ls []) := by
  intro n'
  induction n' with
  | zero => exact fun _ _ _ _ _ _ _ _ _ _ _ h => (rs_n h).elim
  | succ n' ih =>
    intro M v1 v2 v3 H locs ls hl hP hD hS h
    rw [q_ChipMapModel_read_4] at h
    refine lv_iload_n hx hb dX1_read_4 rfl (lv_at hl 3 rfl) ?_
    refine lv_bipush (v := 26) hx hb dX1_read_5 (by decide) ?_
    refine lv_icmp_ge hx hb dX1_read_7 (tgt := 125) rfl (fun hc => ?_) (fun hc => ?_)
    · have h := br_T hc h
      refine lv_aload_n hx hb dX1_read_125 rfl (lv_at hl 0 rfl) ?_
      refine lv_iconst (v := 0) hx hb dX1_read_126 (by decide) ?_
      refine lv_iload_n hx hb dX1_read_127 rfl (lv_at hl 1 rfl) ?_
      refine lv_iload_n hx hb dX1_read_128 rfl (lv_at hl 2 rfl) ?_
      obtain ⟨M1, r2, hq, h⟩ := cal_o h
      refine cx_v (va_runV (As := [.int 0, .int v1, .int v2]) (rest := []) ⟨hx, hb, hml, hown, hgt⟩ (z_ChipMapModel_trace l D cI cZ cC cJ cA P s0 hAO M 0 v1 v2 M1 r2 hq) (cwV 3 hgt (gV wd_6_102 wd_6_104 sl__ChipMapModel____ChipMapModel___trace____ZII_V_____ChipMapModel___trace____ZII_V__ wd_0_15 wd_6_105) rfl rfl rfl (by decide +kernel) ⟨Nat.le_of_ble_eq_true rfl, Nat.le_of_ble_eq_true rfl⟩) (prV hP hK hD hO hAO hS (va_recv hK hP (ci := 1) (q0 := 0) rfl gY_0)) rfl rfl hl.1 rfl (lv_room (Nat.le_of_ble_eq_true rfl)) dX1_read_129 ⟨Nat.le_of_ble_eq_true rfl, Nat.le_of_ble_eq_true rfl⟩) hS (fun H locs hP hD hS => ?_)
      refine lv_iload_n hx hb dX1_read_132 rfl (lv_at hl 2 rfl) ?_
      exact rt_i (w := (wY cI cZ cC cJ cA P)) hx hb hr hlk hP hD hS h dX1_read_133
    · have h := br_F hc h
      refine lv_aload_n hx hb dX1_read_10 rfl (lv_at hl 0 rfl) ?_
      refine lv_iload_n hx hb dX1_read_11 rfl (lv_at hl 3 rfl) ?_
      refine lv_iload_n hx hb dX1_read_12 rfl (lv_at hl 1 rfl) ?_
      obtain ⟨M1, r2, hq, h⟩ := cal_o h
      refine cx_i (va_runV (As := [.int v3, .int v1]) (rest := []) ⟨hx, hb, hml, hown, hgt⟩ (z_ChipMapModel_isIn l D cI cZ cC cJ cA P s0 hAO M v3 v1 M1 r2 hq) (cwV 2 hgt (gV wd_6_86 wd_6_88 sl__ChipMapModel____ChipMapModel___isIn____II_Z_____ChipMapModel___isIn____II_Z__ wd_0_15 wd_6_89) rfl rfl rfl (by decide +kernel) ⟨Nat.le_of_ble_eq_true rfl, Nat.le_of_ble_eq_true rfl⟩) (prV hP hK hD hO hAO hS (va_recv hK hP (ci := 1) (q0 := 0) rfl gY_0)) rfl rfl hl.1 rfl (lv_room (Nat.le_of_ble_eq_true rfl)) dX1_read_13 ⟨Nat.le_of_ble_eq_true rfl, Nat.le_of_ble_eq_true rfl⟩) hS (fun H locs hP hD hS => ?_)
      refine lv_if_eq hx hb dX1_read_16 (tgt := 119) rfl (fun hc => ?_) (fun hc => ?_)
      · have h := br_T hc h
        have hl := lv_sub hl [0, 1, 2, 3] (l' := [(0, .ref (P 0)), (1, .int v1), (2, .int v2), (3, .int v3)]) rfl
        exact b_ChipMapModel_read_119 hx hb hml hr hlk hgt hown hK hO hAO ih M1 v1 v2 v3 H _ ls hl hP hD hS h
      · have h := br_F hc h
        refine lv_aload_n hx hb dX1_read_19 rfl (lv_at hl 0 rfl) ?_
        refine va_get (D := D) (ci := 1) (v := .ref (P 24)) (C := RX1) (T := TX1) (N := 76) hx hb hgt iwX1 hown hK hP 0 gY_0 rfl 33 (Nat.le_of_ble_eq_true rfl) (hgt _ wd_4_234) (fun _ h9 => h9) rfl dX1_read_20 ?_
        refine lv_iload_n hx hb dX1_read_23 rfl (lv_at hl 3 rfl) ?_
        refine va_iald hx hb hK hP 24 0 gY_24 rfl (ix_l h) dX1_read_24 ?_
        have h := ix_r h
        refine lv_bipush (v := 111) hx hb dX1_read_25 (by decide) ?_
        refine lv_icmp_ne hx hb dX1_read_27 (tgt := 33) rfl (fun hc => ?_) (fun hc => ?_)
        · have h := br_F hc h
          refine lv_iload_n hx hb dX1_read_33 rfl (lv_at hl 2 rfl) ?_
          refine lv_aload_n hx hb dX1_read_34 rfl (lv_at hl 0 rfl) ?_
          refine va_get (D := D) (ci := 1) (v := .ref (P 33)) (C := RX1) (T := TX1) (N := 76) hx hb hgt iwX1 hown hK hP 0 gY_0 rfl 43 (Nat.le_of_ble_eq_true rfl) (hgt _ wd_5_4) (fun _ h9 => h9) rfl dX1_read_35 ?_
          refine lv_iload_n hx hb dX1_read_38 rfl (lv_at hl 3 rfl) ?_
          refine va_iald hx hb hK hP 33 0 gY_33 rfl (ix_l h) dX1_read_39 ?_
          have h := ix_r h
          refine lv_aload_n hx hb dX1_read_40 rfl (lv_at hl 0 rfl) ?_
          refine va_get (D := D) (ci := 1) (v := .ref (P 26)) (C := RX1) (T := TX1) (N := 76) hx hb hgt iwX1 hown hK hP 0 gY_0 rfl 35 (Nat.le_of_ble_eq_true rfl) (hgt _ wd_4_236) (fun _ h9 => h9) rfl dX1_read_41 ?_
          refine lv_iload_n hx hb dX1_read_44 rfl (lv_at hl 3 rfl) ?_
          refine va_iald hx hb hK hP 26 0 gY_26 rfl (ix_l h) dX1_read_45 ?_
          have h := ix_r h
          refine lv_ishl hx hb dX1_read_46 ?_
          refine lv_ior hx hb dX1_read_47 ?_
          refine lv_topi (fun x3 ex3 => ?_)
          have h := lt_o ex3 h
          refine lv_istore_n hx hb dX1_read_48 rfl hl (Nat.le_of_ble_eq_true rfl) (lv' := [(2, .int x3), (0, .ref (P 0)), (1, .int v1), (3, .int v3)]) rfl (fun ls hl => ?_)
          refine lv_aload_n hx hb dX1_read_49 rfl (lv_at hl 1 rfl) ?_
          refine va_get (D := D) (ci := 1) (v := .ref (P 24)) (C := RX1) (T := TX1) (N := 76) hx hb hgt iwX1 hown hK hP 0 gY_0 rfl 33 (Nat.le_of_ble_eq_true rfl) (hgt _ wd_4_234) (fun _ h9 => h9) rfl dX1_read_50 ?_
          refine lv_iload_n hx hb dX1_read_53 rfl (lv_at hl 3 rfl) ?_
          refine va_iald hx hb hK hP 24 0 gY_24 rfl (ix_l h) dX1_read_54 ?_
          have h := ix_r h
          refine lv_bipush (v := 99) hx hb dX1_read_55 (by decide) ?_
          refine lv_icmp_ne hx hb dX1_read_57 (tgt := 82) rfl (fun hc => ?_) (fun hc => ?_)
          · have h := br_F hc h
            have hl := lv_sub hl [1, 2, 0, 3] (l' := [(0, .ref (P 0)), (1, .int v1), (2, .int x3), (3, .int v3)]) rfl
            exact b_ChipMapModel_read_82 hx hb hml hr hlk hgt hown hK hO hAO ih M1 v1 x3 v3 H _ ls hl hP hD hS h
          · have h := br_T hc h
            refine lv_aload_n hx hb dX1_read_60 rfl (lv_at hl 1 rfl) ?_
            refine va_get (D := D) (ci := 1) (v := .ref (P 35)) (C := RX1) (T := TX1) (N := 76) hx hb hgt iwX1 hown hK hP 0 gY_0 rfl 45 (Nat.le_of_ble_eq_true rfl) (hgt _ wd_5_6) (fun _ h9 => h9) rfl dX1_read_61 ?_
            refine lv_iload_n hx hb dX1_read_64 rfl (lv_at hl 3 rfl) ?_
            refine lv_dup2_11 hx hb dX1_read_65 rfl rfl ?_
            refine va_iald hx hb hK hP 35 0 gY_35 rfl (ix_l h) dX1_read_66 ?_
            have h := ix_r h
            refine lv_aload_n hx hb dX1_read_67 rfl (lv_at hl 1 rfl) ?_
            refine va_get (D := D) (ci := 1) (v := .ref (P 33)) (C := RX1) (T := TX1) (N := 76) hx hb hgt iwX1 hown hK hP 0 gY_0 rfl 43 (Nat.le_of_ble_eq_true rfl) (hgt _ wd_5_4) (fun _ h9 => h9) rfl dX1_read_68 ?_
            refine lv_iload_n hx hb dX1_read_71 rfl (lv_at hl 3 rfl) ?_
            refine va_iald hx hb hK hP 33 0 gY_33 rfl (ix_l h) dX1_read_72 ?_
            have h := ix_r h
            refine lv_ior hx hb dX1_read_73 ?_
            refine pm_iast (w := (wY cI cZ cC cJ cA P)) hx hb hK hP hD hS 35 0 gY_35 rfl sY_35 (ix_l h) dX1_read_74 (fun M4 eM4 H locs hP hD hS => ?_)
            have h := ix_r h
            have h := lt_o eM4 h
            refine lv_aload_n hx hb dX1_read_75 rfl (lv_at hl 1 rfl) ?_
            refine va_get (D := D) (ci := 1) (v := .ref (P 33)) (C := RX1) (T := TX1) (N := 76) hx hb hgt iwX1 hown hK hP 0 gY_0 rfl 43 (Nat.le_of_ble_eq_true rfl) (hgt _ wd_5_4) (fun _ h9 => h9) rfl dX1_read_76 ?_
            refine lv_iload_n hx hb dX1_read_79 rfl (lv_at hl 3 rfl) ?_
            refine lv_iconst (v := 0) hx hb dX1_read_80 (by decide) ?_
            refine pm_iast (w := (wY cI cZ cC cJ cA P)) hx hb hK hP hD hS 33 0 gY_33 rfl sY_33 (ix_l h) dX1_read_81 (fun M5 eM5 H locs hP hD hS => ?_)
            have h := ix_r h
            have h := lt_o eM5 h
            have hl := lv_sub hl [1, 2, 0, 3] (l' := [(0, .ref (P 0)), (1, .int v1), (2, .int x3), (3, .int v3)]) rfl
            exact b_ChipMapModel_read_82 hx hb hml hr hlk hgt hown hK hO hAO ih M5 v1 x3 v3 H _ ls hl hP hD hS h
        · have h := br_T hc h
          refine lv_goto hx hb dX1_read_30 (tgt := 119) rfl ?_
          have hl := lv_sub hl [0, 1, 2, 3] (l' := [(0, .ref (P 0)), (1, .int v1), (2, .int v2), (3, .int v3)]) rfl
          exact b_ChipMapModel_read_119 hx hb hml hr hlk hgt hown hK hO hAO ih M1 v1 v2 v3 H _ ls hl hP hD hS h
set_option maxHeartbeats 4000000 in
set_option maxRecDepth 20000 in
theorem b_ChipMapModel_read_0 {p : Program} {l : Launch} {e : Env} {s s0 : State} {m : MethodId} {args : Array Value} {below : List Frame} {meth : Method} {c : Code} {D : va_G} {cI cZ cC cJ cA : ClassId} {P : Nat → Nat} {M' : Mm} {r' : Int32}  (hx : p.tables.exec = Jvm.exec) (hb : c.code = cX1_read) (hml : c.maxLocals = 4) (hr : meth.sig.returnType = (some .int)) (hlk : meth.locks = false) (hgt : ∀ w ∈ GT, w.before args s = true) (hown : s.vm.findClass RX1 = some m.cls) (hK : va_K D vwCl [(cI, .int), (cZ, .boolean), (cC, .char), (cJ, .long), (cA, .array .int)] s) (hO : Old s0 s) (hAO : ∀ q, (aP P 51) q → s0.heap.size ≤ q)  : ∀ (M : Mm) (a1 : Int32) (H : Heap) (locs : List Loc) (ls : Array Slot), lv_has ls 4 [(0, .ref (P 0)), (1, .int a1)] → va_P D vwCl ((wY cI cZ cC cJ cA P) M) H → va_D (aP P 51) ((wY cI cZ cC cJ cA P) M) → va_S (aP P 51) s.heap H locs → q_ChipMapModel_read M a1 = some (M', r') → W p l e ({ frames := 1, cells := 0, slots := 0, locals := 24 }) s m args below meth c H locs 0 0 (MQ below (gQi D (aP P 51) ((wY cI cZ cC cJ cA P) M') r') args s 0 0 (aP P 51)) (F0 m 0 ls []) := by
  intro M a1 H locs ls hl hP hD hS h
  unfold q_ChipMapModel_read at h
  refine lv_iconst (v := 0) hx hb dX1_read_0 (by decide) ?_
  refine lv_istore_n hx hb dX1_read_1 rfl hl (Nat.le_of_ble_eq_true rfl) (lv' := [(2, .int 0), (0, .ref (P 0)), (1, .int a1)]) rfl (fun ls hl => ?_)
  refine lv_iconst (v := 0) hx hb dX1_read_2 (by decide) ?_
  refine lv_istore_n hx hb dX1_read_3 rfl hl (Nat.le_of_ble_eq_true rfl) (lv' := [(3, .int 0), (2, .int 0), (0, .ref (P 0)), (1, .int a1)]) rfl (fun ls hl => ?_)
  have hl := lv_sub hl [2, 3, 1, 0] (l' := [(0, .ref (P 0)), (1, .int a1), (2, .int 0), (3, .int 0)]) rfl
  exact b_ChipMapModel_read_4 hx hb hml hr hlk hgt hown hK hO hAO 4000 M a1 0 0 H _ ls hl hP hD hS h
set_option maxHeartbeats 4000000 in
set_option maxRecDepth 20000 in
theorem z_ChipMapModel_read (l : Launch) (D : va_G) (cI cZ cC cJ cA : ClassId) (P : Nat → Nat) (s0 : State) (hAO : ∀ q, (aP P 51) q → s0.heap.size ≤ q) (M : Mm) (a1 : Int32) (M' : Mm) (r' : Int32) (h : q_ChipMapModel_read M a1 = some (M', r')) : Met l yX1_read wsX1_read ({ frames := 1, cells := 0, slots := 0, locals := 24 }) (va_Pc [.ref (P 0), .int a1] (gPre s0 D [(cI, .int), (cZ, .boolean), (cC, .char), (cJ, .long), (cA, .array .int)] (aP P 51) ((wY cI cZ cC cJ cA P) M))) (gQi D (aP P 51) ((wY cI cZ cC cJ cA P) M') r') 0 0 (aP P 51) := by
  refine Met.ofW (cc := cX1_read) (maxL := 4) (ret := (some .int)) (by decide) rfl ?_
  intro p e s m args below meth c s₁ B hml hv
  obtain ⟨rfl, hP, hK, hD, hO⟩ := hv
  have hx := B.exec
  have hb := B.bytes
  have hr := B.returns
  have hlk := B.notSynchronized
  have hgt := fun w (h : w ∈ GT) => atoms_spec (ws := wsX1_read) B.pre w (List.mem_cons_of_mem _ h)
  have hown : s.vm.findClass RX1 = some m.cls := findClass_of_methodNamed B.named
  have hS : va_S (aP P 51) s.heap s.heap [] := va_S.rf
  have hl := lv_entry ([.ref (P 0), .int a1]) (n := 4) (Nat.le_of_ble_eq_true rfl)
  rw [lg_entry_eq]
  generalize (lg_sl ([.ref (P 0), .int a1]) ++ List.replicate (4 - (lg_sl ([.ref (P 0), .int a1])).length) Slot.unset).toArray = ls at hl ⊢
  have hl : lv_has ls 4 [(0, .ref (P 0)), (1, .int a1)] := hl
  exact b_ChipMapModel_read_0 hx hb hml hr hlk hgt hown hK hO hAO M a1 s.heap [] ls hl hP hD hS h
def q_ChipMapModel_isThere  (M : Mm) (a1 : Int32) : Rs := ix a1 16 <| if (M.1 21 (a1 : Int32).toNatClampNeg) = (-1) then (some (M, 1)) else (ix a1 16 <| ix (M.1 21 (a1 : Int32).toNatClampNeg) 78 <| ix a1 16 <| if (M.1 33 ((M.1 21 (a1 : Int32).toNatClampNeg) : Int32).toNatClampNeg) = (M.1 22 (a1 : Int32).toNatClampNeg) then (some (M, 1)) else (some (M, 0)))
set_option maxHeartbeats 4000000 in
set_option maxRecDepth 20000 in
theorem b_ChipMapModel_isThere_0 {p : Program} {l : Launch} {e : Env} {s s0 : State} {m : MethodId} {args : Array Value} {below : List Frame} {meth : Method} {c : Code} {D : va_G} {cI cZ cC cJ cA : ClassId} {P : Nat → Nat} {M' : Mm} {r' : Int32}  (hx : p.tables.exec = Jvm.exec) (hb : c.code = cX1_isThere) (hml : c.maxLocals = 2) (hr : meth.sig.returnType = (some .boolean)) (hlk : meth.locks = false) (hgt : ∀ w ∈ GT, w.before args s = true) (hown : s.vm.findClass RX1 = some m.cls) (hK : va_K D vwCl [(cI, .int), (cZ, .boolean), (cC, .char), (cJ, .long), (cA, .array .int)] s) (hO : Old s0 s) (hAO : ∀ q, (aP P 51) q → s0.heap.size ≤ q)  : ∀ (M : Mm) (a1 : Int32) (H : Heap) (locs : List Loc) (ls : Array Slot), lv_has ls 2 [(0, .ref (P 0)), (1, .int a1)] → va_P D vwCl ((wY cI cZ cC cJ cA P) M) H → va_D (aP P 51) ((wY cI cZ cC cJ cA P) M) → va_S (aP P 51) s.heap H locs → q_ChipMapModel_isThere M a1 = some (M', r') → W p l e ({ frames := 0, cells := 0, slots := 0, locals := 0 }) s m args below meth c H locs 0 0 (MQ below (gQi D (aP P 51) ((wY cI cZ cC cJ cA P) M') r') args s 0 0 (aP P 51)) (F0 m 0 ls []) := by
  intro M a1 H locs ls hl hP hD hS h
  unfold q_ChipMapModel_isThere at h
  refine lv_aload_n hx hb dX1_isThere_0 rfl (lv_at hl 0 rfl) ?_
  refine va_get (D := D) (ci := 1) (v := .ref (P 21)) (C := RX1) (T := TX1) (N := 76) hx hb hgt iwX1 hown hK hP 0 gY_0 rfl 30 (Nat.le_of_ble_eq_true rfl) (hgt _ wd_4_231) (fun _ h9 => h9) rfl dX1_isThere_1 ?_
  refine lv_iload_n hx hb dX1_isThere_4 rfl (lv_at hl 1 rfl) ?_
  refine va_iald hx hb hK hP 21 0 gY_21 rfl (ix_l h) dX1_isThere_5 ?_
  have h := ix_r h
  refine lv_iconst (v := (-1)) hx hb dX1_isThere_6 (by decide) ?_
  refine lv_icmp_eq hx hb dX1_isThere_7 (tgt := 30) rfl (fun hc => ?_) (fun hc => ?_)
  · have h := br_T hc h
    refine lv_iconst (v := 1) hx hb dX1_isThere_30 (by decide) ?_
    refine lv_goto hx hb dX1_isThere_31 (tgt := 35) rfl ?_
    exact rt_z (w := (wY cI cZ cC cJ cA P)) hx hb hr hlk rfl hP hD hS h dX1_isThere_35
  · have h := br_F hc h
    refine lv_aload_n hx hb dX1_isThere_10 rfl (lv_at hl 0 rfl) ?_
    refine va_get (D := D) (ci := 1) (v := .ref (P 33)) (C := RX1) (T := TX1) (N := 76) hx hb hgt iwX1 hown hK hP 0 gY_0 rfl 43 (Nat.le_of_ble_eq_true rfl) (hgt _ wd_5_4) (fun _ h9 => h9) rfl dX1_isThere_11 ?_
    refine lv_aload_n hx hb dX1_isThere_14 rfl (lv_at hl 0 rfl) ?_
    refine va_get (D := D) (ci := 1) (v := .ref (P 21)) (C := RX1) (T := TX1) (N := 76) hx hb hgt iwX1 hown hK hP 0 gY_0 rfl 30 (Nat.le_of_ble_eq_true rfl) (hgt _ wd_4_231) (fun _ h9 => h9) rfl dX1_isThere_15 ?_
    refine lv_iload_n hx hb dX1_isThere_18 rfl (lv_at hl 1 rfl) ?_
    refine va_iald hx hb hK hP 21 0 gY_21 rfl (ix_l h) dX1_isThere_19 ?_
    have h := ix_r h
    refine va_iald hx hb hK hP 33 0 gY_33 rfl (ix_l h) dX1_isThere_20 ?_
    have h := ix_r h
    refine lv_aload_n hx hb dX1_isThere_21 rfl (lv_at hl 0 rfl) ?_
    refine va_get (D := D) (ci := 1) (v := .ref (P 22)) (C := RX1) (T := TX1) (N := 76) hx hb hgt iwX1 hown hK hP 0 gY_0 rfl 31 (Nat.le_of_ble_eq_true rfl) (hgt _ wd_4_232) (fun _ h9 => h9) rfl dX1_isThere_22 ?_
    refine lv_iload_n hx hb dX1_isThere_25 rfl (lv_at hl 1 rfl) ?_
    refine va_iald hx hb hK hP 22 0 gY_22 rfl (ix_l h) dX1_isThere_26 ?_
    have h := ix_r h
    refine lv_icmp_ne hx hb dX1_isThere_27 (tgt := 34) rfl (fun hc => ?_) (fun hc => ?_)
    · have h := br_F hc h
      refine lv_iconst (v := 0) hx hb dX1_isThere_34 (by decide) ?_
      exact rt_z (w := (wY cI cZ cC cJ cA P)) hx hb hr hlk rfl hP hD hS h dX1_isThere_35
    · have h := br_T hc h
      refine lv_iconst (v := 1) hx hb dX1_isThere_30 (by decide) ?_
      refine lv_goto hx hb dX1_isThere_31 (tgt := 35) rfl ?_
      exact rt_z (w := (wY cI cZ cC cJ cA P)) hx hb hr hlk rfl hP hD hS h dX1_isThere_35
set_option maxHeartbeats 4000000 in
set_option maxRecDepth 20000 in
theorem z_ChipMapModel_isThere (l : Launch) (D : va_G) (cI cZ cC cJ cA : ClassId) (P : Nat → Nat) (s0 : State) (hAO : ∀ q, (aP P 51) q → s0.heap.size ≤ q) (M : Mm) (a1 : Int32) (M' : Mm) (r' : Int32) (h : q_ChipMapModel_isThere M a1 = some (M', r')) : Met l yX1_isThere wsX1_isThere ({ frames := 0, cells := 0, slots := 0, locals := 0 }) (va_Pc [.ref (P 0), .int a1] (gPre s0 D [(cI, .int), (cZ, .boolean), (cC, .char), (cJ, .long), (cA, .array .int)] (aP P 51) ((wY cI cZ cC cJ cA P) M))) (gQi D (aP P 51) ((wY cI cZ cC cJ cA P) M') r') 0 0 (aP P 51) := by
  refine Met.ofW (cc := cX1_isThere) (maxL := 2) (ret := (some .boolean)) (by decide) rfl ?_
  intro p e s m args below meth c s₁ B hml hv
  obtain ⟨rfl, hP, hK, hD, hO⟩ := hv
  have hx := B.exec
  have hb := B.bytes
  have hr := B.returns
  have hlk := B.notSynchronized
  have hgt := fun w (h : w ∈ GT) => atoms_spec (ws := wsX1_isThere) B.pre w (List.mem_cons_of_mem _ h)
  have hown : s.vm.findClass RX1 = some m.cls := findClass_of_methodNamed B.named
  have hS : va_S (aP P 51) s.heap s.heap [] := va_S.rf
  have hl := lv_entry ([.ref (P 0), .int a1]) (n := 2) (Nat.le_of_ble_eq_true rfl)
  rw [lg_entry_eq]
  generalize (lg_sl ([.ref (P 0), .int a1]) ++ List.replicate (2 - (lg_sl ([.ref (P 0), .int a1])).length) Slot.unset).toArray = ls at hl ⊢
  have hl : lv_has ls 2 [(0, .ref (P 0)), (1, .int a1)] := hl
  exact b_ChipMapModel_isThere_0 hx hb hml hr hlk hgt hown hK hO hAO M a1 s.heap [] ls hl hP hD hS h
def q_ChipMapModel_registerAt_30 (kf2 : Mm → Int32 → Int32 → Rs) (M : Mm) (v1 : Int32) (v2 : Int32) : Rs := kf2 M v1 (v2 + 1)
def q_ChipMapModel_registerAt_2  : Nat → Mm → Int32 → Int32 → Rs
  | 0, _, _, _ => none
  | n' + 1, M, v1, v2 => if (M.1 0 28) ≤ v2 then (some (M, (-1))) else (ix v2 16 <| if (M.1 20 (v2 : Int32).toNatClampNeg) = v1 then (cal (q_ChipMapModel_isThere M v2) fun M1 r2 => if r2 = 0 then (q_ChipMapModel_registerAt_30 (q_ChipMapModel_registerAt_2 n') M1 v1 v2) else (some (M1, v2))) else (q_ChipMapModel_registerAt_30 (q_ChipMapModel_registerAt_2 n') M v1 v2))
def q_ChipMapModel_registerAt  (M : Mm) (a1 : Int32) : Rs := q_ChipMapModel_registerAt_2 4000 M a1 0
set_option maxHeartbeats 4000000 in
set_option maxRecDepth 20000 in
theorem b_ChipMapModel_registerAt_30 {p : Program} {l : Launch} {e : Env} {s s0 : State} {m : MethodId} {args : Array Value} {below : List Frame} {meth : Method} {c : Code} {D : va_G} {cI cZ cC cJ cA : ClassId} {P : Nat → Nat} {M' : Mm} {r' : Int32} {kf2 : Mm → Int32 → Int32 → Rs} (hx : p.tables.exec = Jvm.exec) (hb : c.code = cX1_registerAt) (hml : c.maxLocals = 3) (hr : meth.sig.returnType = (some .int)) (hlk : meth.locks = false) (hgt : ∀ w ∈ GT, w.before args s = true) (hown : s.vm.findClass RX1 = some m.cls) (hK : va_K D vwCl [(cI, .int), (cZ, .boolean), (cC, .char), (cJ, .long), (cA, .array .int)] s) (hO : Old s0 s) (hAO : ∀ q, (aP P 51) q → s0.heap.size ≤ q) (kk2 : ∀ (M : Mm) (v1 : Int32) (v2 : Int32) (H : Heap) (locs : List Loc) (ls : Array Slot), lv_has ls 3 [(0, .ref (P 0)), (1, .int v1), (2, .int v2)] → va_P D vwCl ((wY cI cZ cC cJ cA P) M) H → va_D (aP P 51) ((wY cI cZ cC cJ cA P) M) → va_S (aP P 51) s.heap H locs → kf2 M v1 v2 = some (M', r') → W p l e ({ frames := 1, cells := 0, slots := 0, locals := 21 }) s m args below meth c H locs 0 0 (MQ below (gQi D (aP P 51) ((wY cI cZ cC cJ cA P) M') r') args s 0 0 (aP P 51)) (F0 m 2 ls [])) : ∀ (M : Mm) (v1 : Int32) (v2 : Int32) (H : Heap) (locs : List Loc) (ls : Array Slot), lv_has ls 3 [(0, .ref (P 0)), (1, .int v1), (2, .int v2)] → va_P D vwCl ((wY cI cZ cC cJ cA P) M) H → va_D (aP P 51) ((wY cI cZ cC cJ cA P) M) → va_S (aP P 51) s.heap H locs → q_ChipMapModel_registerAt_30 kf2 M v1 v2 = some (M', r') → W p l e ({ frames := 1, cells := 0, slots := 0, locals := 21 }) s m args below meth c H locs 0 0 (MQ below (gQi D (aP P 51) ((wY cI cZ cC cJ cA P) M') r') args s 0 0 (aP P 51)) (F0 m 30 ls []) := by
  intro M v1 v2 H locs ls hl hP hD hS h
  unfold q_ChipMapModel_registerAt_30 at h
  refine lv_iinc (v := (v2 + 1)) hx hb dX1_registerAt_30 hl (k := 2) rfl rfl (Nat.le_of_ble_eq_true rfl) (lv' := [(2, .int (v2 + 1)), (0, .ref (P 0)), (1, .int v1)]) rfl (fun ls hl => ?_)
  refine lv_goto hx hb dX1_registerAt_33 (tgt := 2) rfl ?_
  have hl := lv_sub hl [1, 2, 0] (l' := [(0, .ref (P 0)), (1, .int v1), (2, .int (v2 + 1))]) rfl
  exact kk2 M v1 (v2 + 1) H locs ls hl hP hD hS h
set_option maxHeartbeats 4000000 in
set_option maxRecDepth 20000 in
theorem b_ChipMapModel_registerAt_2 {p : Program} {l : Launch} {e : Env} {s s0 : State} {m : MethodId} {args : Array Value} {below : List Frame} {meth : Method} {c : Code} {D : va_G} {cI cZ cC cJ cA : ClassId} {P : Nat → Nat} {M' : Mm} {r' : Int32}  (hx : p.tables.exec = Jvm.exec) (hb : c.code = cX1_registerAt) (hml : c.maxLocals = 3) (hr : meth.sig.returnType = (some .int)) (hlk : meth.locks = false) (hgt : ∀ w ∈ GT, w.before args s = true) (hown : s.vm.findClass RX1 = some m.cls) (hK : va_K D vwCl [(cI, .int), (cZ, .boolean), (cC, .char), (cJ, .long), (cA, .array .int)] s) (hO : Old s0 s) (hAO : ∀ q, (aP P 51) q → s0.heap.size ≤ q)  : ∀ (n' : Nat) (M : Mm) (v1 : Int32) (v2 : Int32) (H : Heap) (locs : List Loc) (ls : Array Slot), lv_has ls 3 [(0, .ref (P 0)), (1, .int v1), (2, .int v2)] → va_P D vwCl ((wY cI cZ cC cJ cA P) M) H → va_D (aP P 51) ((wY cI cZ cC cJ cA P) M) → va_S (aP P 51) s.heap H locs → q_ChipMapModel_registerAt_2 n' M v1 v2 = some (M', r') → W p l e ({ frames := 1, cells := 0, slots := 0, locals := 21 }) s m args below meth c H locs 0 0 (MQ below (gQi D (aP P 51) ((wY cI cZ cC cJ cA P) M') r') args s 0 0 (aP P 51)) (F0 m 2 ls []) := by
  intro n'
  induction n' with
  | zero => exact fun _ _ _ _ _ _ _ _ _ _ h => (rs_n h).elim
  | succ n' ih =>
    intro M v1 v2 H locs ls hl hP hD hS h
    rw [q_ChipMapModel_registerAt_2] at h
    refine lv_iload_n hx hb dX1_registerAt_2 rfl (lv_at hl 2 rfl) ?_
    refine lv_aload_n hx hb dX1_registerAt_3 rfl (lv_at hl 0 rfl) ?_
    refine va_get (D := D) (ci := 1) (v := .int (M.1 0 28)) (C := RX1) (T := TX1) (N := 76) hx hb hgt iwX1 hown hK hP 0 gY_0 rfl 28 (Nat.le_of_ble_eq_true rfl) (hgt _ wd_4_229) (fun _ h9 => h9) rfl dX1_registerAt_4 ?_
    refine lv_icmp_ge hx hb dX1_registerAt_7 (tgt := 36) rfl (fun hc => ?_) (fun hc => ?_)
    · have h := br_T hc h
      refine lv_iconst (v := (-1)) hx hb dX1_registerAt_36 (by decide) ?_
      exact rt_i (w := (wY cI cZ cC cJ cA P)) hx hb hr hlk hP hD hS h dX1_registerAt_37
    · have h := br_F hc h
      refine lv_aload_n hx hb dX1_registerAt_10 rfl (lv_at hl 0 rfl) ?_
      refine va_get (D := D) (ci := 1) (v := .ref (P 20)) (C := RX1) (T := TX1) (N := 76) hx hb hgt iwX1 hown hK hP 0 gY_0 rfl 29 (Nat.le_of_ble_eq_true rfl) (hgt _ wd_4_230) (fun _ h9 => h9) rfl dX1_registerAt_11 ?_
      refine lv_iload_n hx hb dX1_registerAt_14 rfl (lv_at hl 2 rfl) ?_
      refine va_iald hx hb hK hP 20 0 gY_20 rfl (ix_l h) dX1_registerAt_15 ?_
      have h := ix_r h
      refine lv_iload_n hx hb dX1_registerAt_16 rfl (lv_at hl 1 rfl) ?_
      refine lv_icmp_ne hx hb dX1_registerAt_17 (tgt := 30) rfl (fun hc => ?_) (fun hc => ?_)
      · have h := br_F hc h
        have hl := lv_sub hl [0, 1, 2] (l' := [(0, .ref (P 0)), (1, .int v1), (2, .int v2)]) rfl
        exact b_ChipMapModel_registerAt_30 hx hb hml hr hlk hgt hown hK hO hAO ih M v1 v2 H _ ls hl hP hD hS h
      · have h := br_T hc h
        refine lv_aload_n hx hb dX1_registerAt_20 rfl (lv_at hl 0 rfl) ?_
        refine lv_iload_n hx hb dX1_registerAt_21 rfl (lv_at hl 2 rfl) ?_
        obtain ⟨M1, r2, hq, h⟩ := cal_o h
        refine cx_i (va_runV (As := [.int v2]) (rest := []) ⟨hx, hb, hml, hown, hgt⟩ (z_ChipMapModel_isThere l D cI cZ cC cJ cA P s0 hAO M v2 M1 r2 hq) (cwV 1 hgt (gV wd_6_69 wd_6_71 sl__ChipMapModel____ChipMapModel___isThere____I_Z_____ChipMapModel___isThere____I_Z__ wd_0_15 wd_6_72) rfl rfl rfl (by decide +kernel) ⟨Nat.le_of_ble_eq_true rfl, Nat.le_of_ble_eq_true rfl⟩) (prV hP hK hD hO hAO hS (va_recv hK hP (ci := 1) (q0 := 0) rfl gY_0)) rfl rfl hl.1 rfl (lv_room (Nat.le_of_ble_eq_true rfl)) dX1_registerAt_22 ⟨Nat.le_of_ble_eq_true rfl, Nat.le_of_ble_eq_true rfl⟩) hS (fun H locs hP hD hS => ?_)
        refine lv_if_eq hx hb dX1_registerAt_25 (tgt := 30) rfl (fun hc => ?_) (fun hc => ?_)
        · have h := br_T hc h
          have hl := lv_sub hl [0, 1, 2] (l' := [(0, .ref (P 0)), (1, .int v1), (2, .int v2)]) rfl
          exact b_ChipMapModel_registerAt_30 hx hb hml hr hlk hgt hown hK hO hAO ih M1 v1 v2 H _ ls hl hP hD hS h
        · have h := br_F hc h
          refine lv_iload_n hx hb dX1_registerAt_28 rfl (lv_at hl 2 rfl) ?_
          exact rt_i (w := (wY cI cZ cC cJ cA P)) hx hb hr hlk hP hD hS h dX1_registerAt_29
set_option maxHeartbeats 4000000 in
set_option maxRecDepth 20000 in
theorem b_ChipMapModel_registerAt_0 {p : Program} {l : Launch} {e : Env} {s s0 : State} {m : MethodId} {args : Array Value} {below : List Frame} {meth : Method} {c : Code} {D : va_G} {cI cZ cC cJ cA : ClassId} {P : Nat → Nat} {M' : Mm} {r' : Int32}  (hx : p.tables.exec = Jvm.exec) (hb : c.code = cX1_registerAt) (hml : c.maxLocals = 3) (hr : meth.sig.returnType = (some .int)) (hlk : meth.locks = false) (hgt : ∀ w ∈ GT, w.before args s = true) (hown : s.vm.findClass RX1 = some m.cls) (hK : va_K D vwCl [(cI, .int), (cZ, .boolean), (cC, .char), (cJ, .long), (cA, .array .int)] s) (hO : Old s0 s) (hAO : ∀ q, (aP P 51) q → s0.heap.size ≤ q)  : ∀ (M : Mm) (a1 : Int32) (H : Heap) (locs : List Loc) (ls : Array Slot), lv_has ls 3 [(0, .ref (P 0)), (1, .int a1)] → va_P D vwCl ((wY cI cZ cC cJ cA P) M) H → va_D (aP P 51) ((wY cI cZ cC cJ cA P) M) → va_S (aP P 51) s.heap H locs → q_ChipMapModel_registerAt M a1 = some (M', r') → W p l e ({ frames := 1, cells := 0, slots := 0, locals := 21 }) s m args below meth c H locs 0 0 (MQ below (gQi D (aP P 51) ((wY cI cZ cC cJ cA P) M') r') args s 0 0 (aP P 51)) (F0 m 0 ls []) := by
  intro M a1 H locs ls hl hP hD hS h
  unfold q_ChipMapModel_registerAt at h
  refine lv_iconst (v := 0) hx hb dX1_registerAt_0 (by decide) ?_
  refine lv_istore_n hx hb dX1_registerAt_1 rfl hl (Nat.le_of_ble_eq_true rfl) (lv' := [(2, .int 0), (0, .ref (P 0)), (1, .int a1)]) rfl (fun ls hl => ?_)
  have hl := lv_sub hl [1, 2, 0] (l' := [(0, .ref (P 0)), (1, .int a1), (2, .int 0)]) rfl
  exact b_ChipMapModel_registerAt_2 hx hb hml hr hlk hgt hown hK hO hAO 4000 M a1 0 H _ ls hl hP hD hS h
set_option maxHeartbeats 4000000 in
set_option maxRecDepth 20000 in
theorem z_ChipMapModel_registerAt (l : Launch) (D : va_G) (cI cZ cC cJ cA : ClassId) (P : Nat → Nat) (s0 : State) (hAO : ∀ q, (aP P 51) q → s0.heap.size ≤ q) (M : Mm) (a1 : Int32) (M' : Mm) (r' : Int32) (h : q_ChipMapModel_registerAt M a1 = some (M', r')) : Met l yX1_registerAt wsX1_registerAt ({ frames := 1, cells := 0, slots := 0, locals := 21 }) (va_Pc [.ref (P 0), .int a1] (gPre s0 D [(cI, .int), (cZ, .boolean), (cC, .char), (cJ, .long), (cA, .array .int)] (aP P 51) ((wY cI cZ cC cJ cA P) M))) (gQi D (aP P 51) ((wY cI cZ cC cJ cA P) M') r') 0 0 (aP P 51) := by
  refine Met.ofW (cc := cX1_registerAt) (maxL := 3) (ret := (some .int)) (by decide) rfl ?_
  intro p e s m args below meth c s₁ B hml hv
  obtain ⟨rfl, hP, hK, hD, hO⟩ := hv
  have hx := B.exec
  have hb := B.bytes
  have hr := B.returns
  have hlk := B.notSynchronized
  have hgt := fun w (h : w ∈ GT) => atoms_spec (ws := wsX1_registerAt) B.pre w (List.mem_cons_of_mem _ h)
  have hown : s.vm.findClass RX1 = some m.cls := findClass_of_methodNamed B.named
  have hS : va_S (aP P 51) s.heap s.heap [] := va_S.rf
  have hl := lv_entry ([.ref (P 0), .int a1]) (n := 3) (Nat.le_of_ble_eq_true rfl)
  rw [lg_entry_eq]
  generalize (lg_sl ([.ref (P 0), .int a1]) ++ List.replicate (3 - (lg_sl ([.ref (P 0), .int a1])).length) Slot.unset).toArray = ls at hl ⊢
  have hl : lv_has ls 3 [(0, .ref (P 0)), (1, .int a1)] := hl
  exact b_ChipMapModel_registerAt_0 hx hb hml hr hlk hgt hown hK hO hAO M a1 s.heap [] ls hl hP hD hS h
def q_ChipMapModel_isField  (M : Mm) (a1 : Int32) : Rs := if (M.1 0 27) = 0 then (some (M, 0)) else (if a1 < 0 then (some (M, 0)) else (if 26 ≤ a1 then (some (M, 0)) else (ix a1 26 <| if (M.1 23 (a1 : Int32).toNatClampNeg) = 0 then (some (M, 0)) else (some (M, 1)))))
set_option maxHeartbeats 4000000 in
set_option maxRecDepth 20000 in
theorem b_ChipMapModel_isField_0 {p : Program} {l : Launch} {e : Env} {s s0 : State} {m : MethodId} {args : Array Value} {below : List Frame} {meth : Method} {c : Code} {D : va_G} {cI cZ cC cJ cA : ClassId} {P : Nat → Nat} {M' : Mm} {r' : Int32}  (hx : p.tables.exec = Jvm.exec) (hb : c.code = cX1_isField) (hml : c.maxLocals = 2) (hr : meth.sig.returnType = (some .boolean)) (hlk : meth.locks = false) (hgt : ∀ w ∈ GT, w.before args s = true) (hown : s.vm.findClass RX1 = some m.cls) (hK : va_K D vwCl [(cI, .int), (cZ, .boolean), (cC, .char), (cJ, .long), (cA, .array .int)] s) (hO : Old s0 s) (hAO : ∀ q, (aP P 51) q → s0.heap.size ≤ q)  : ∀ (M : Mm) (a1 : Int32) (H : Heap) (locs : List Loc) (ls : Array Slot), lv_has ls 2 [(0, .ref (P 0)), (1, .int a1)] → va_P D vwCl ((wY cI cZ cC cJ cA P) M) H → va_D (aP P 51) ((wY cI cZ cC cJ cA P) M) → va_S (aP P 51) s.heap H locs → q_ChipMapModel_isField M a1 = some (M', r') → W p l e ({ frames := 0, cells := 0, slots := 0, locals := 0 }) s m args below meth c H locs 0 0 (MQ below (gQi D (aP P 51) ((wY cI cZ cC cJ cA P) M') r') args s 0 0 (aP P 51)) (F0 m 0 ls []) := by
  intro M a1 H locs ls hl hP hD hS h
  unfold q_ChipMapModel_isField at h
  refine lv_aload_n hx hb dX1_isField_0 rfl (lv_at hl 0 rfl) ?_
  refine va_get (D := D) (ci := 1) (v := .int (M.1 0 27)) (C := RX1) (T := TX1) (N := 76) hx hb hgt iwX1 hown hK hP 0 gY_0 rfl 27 (Nat.le_of_ble_eq_true rfl) (hgt _ wd_4_228) (fun _ h9 => h9) rfl dX1_isField_1 ?_
  refine lv_if_eq hx hb dX1_isField_4 (tgt := 30) rfl (fun hc => ?_) (fun hc => ?_)
  · have h := br_T hc h
    refine lv_iconst (v := 0) hx hb dX1_isField_30 (by decide) ?_
    exact rt_z (w := (wY cI cZ cC cJ cA P)) hx hb hr hlk rfl hP hD hS h dX1_isField_31
  · have h := br_F hc h
    refine lv_iload_n hx hb dX1_isField_7 rfl (lv_at hl 1 rfl) ?_
    refine lv_if_lt hx hb dX1_isField_8 (tgt := 30) rfl (fun hc => ?_) (fun hc => ?_)
    · have h := br_T hc h
      refine lv_iconst (v := 0) hx hb dX1_isField_30 (by decide) ?_
      exact rt_z (w := (wY cI cZ cC cJ cA P)) hx hb hr hlk rfl hP hD hS h dX1_isField_31
    · have h := br_F hc h
      refine lv_iload_n hx hb dX1_isField_11 rfl (lv_at hl 1 rfl) ?_
      refine lv_bipush (v := 26) hx hb dX1_isField_12 (by decide) ?_
      refine lv_icmp_ge hx hb dX1_isField_14 (tgt := 30) rfl (fun hc => ?_) (fun hc => ?_)
      · have h := br_T hc h
        refine lv_iconst (v := 0) hx hb dX1_isField_30 (by decide) ?_
        exact rt_z (w := (wY cI cZ cC cJ cA P)) hx hb hr hlk rfl hP hD hS h dX1_isField_31
      · have h := br_F hc h
        refine lv_aload_n hx hb dX1_isField_17 rfl (lv_at hl 0 rfl) ?_
        refine va_get (D := D) (ci := 1) (v := .ref (P 23)) (C := RX1) (T := TX1) (N := 76) hx hb hgt iwX1 hown hK hP 0 gY_0 rfl 32 (Nat.le_of_ble_eq_true rfl) (hgt _ wd_4_233) (fun _ h9 => h9) rfl dX1_isField_18 ?_
        refine lv_iload_n hx hb dX1_isField_21 rfl (lv_at hl 1 rfl) ?_
        refine va_zald hx hb hK hP 23 1 gY_23 rfl (ix_l h) dX1_isField_22 ?_
        have h := ix_r h
        refine lv_if_eq hx hb dX1_isField_23 (tgt := 30) rfl (fun hc => ?_) (fun hc => ?_)
        · have h := br_T hc h
          refine lv_iconst (v := 0) hx hb dX1_isField_30 (by decide) ?_
          exact rt_z (w := (wY cI cZ cC cJ cA P)) hx hb hr hlk rfl hP hD hS h dX1_isField_31
        · have h := br_F hc h
          refine lv_iconst (v := 1) hx hb dX1_isField_26 (by decide) ?_
          refine lv_goto hx hb dX1_isField_27 (tgt := 31) rfl ?_
          exact rt_z (w := (wY cI cZ cC cJ cA P)) hx hb hr hlk rfl hP hD hS h dX1_isField_31
set_option maxHeartbeats 4000000 in
set_option maxRecDepth 20000 in
theorem z_ChipMapModel_isField (l : Launch) (D : va_G) (cI cZ cC cJ cA : ClassId) (P : Nat → Nat) (s0 : State) (hAO : ∀ q, (aP P 51) q → s0.heap.size ≤ q) (M : Mm) (a1 : Int32) (M' : Mm) (r' : Int32) (h : q_ChipMapModel_isField M a1 = some (M', r')) : Met l yX1_isField wsX1_isField ({ frames := 0, cells := 0, slots := 0, locals := 0 }) (va_Pc [.ref (P 0), .int a1] (gPre s0 D [(cI, .int), (cZ, .boolean), (cC, .char), (cJ, .long), (cA, .array .int)] (aP P 51) ((wY cI cZ cC cJ cA P) M))) (gQi D (aP P 51) ((wY cI cZ cC cJ cA P) M') r') 0 0 (aP P 51) := by
  refine Met.ofW (cc := cX1_isField) (maxL := 2) (ret := (some .boolean)) (by decide) rfl ?_
  intro p e s m args below meth c s₁ B hml hv
  obtain ⟨rfl, hP, hK, hD, hO⟩ := hv
  have hx := B.exec
  have hb := B.bytes
  have hr := B.returns
  have hlk := B.notSynchronized
  have hgt := fun w (h : w ∈ GT) => atoms_spec (ws := wsX1_isField) B.pre w (List.mem_cons_of_mem _ h)
  have hown : s.vm.findClass RX1 = some m.cls := findClass_of_methodNamed B.named
  have hS : va_S (aP P 51) s.heap s.heap [] := va_S.rf
  have hl := lv_entry ([.ref (P 0), .int a1]) (n := 2) (Nat.le_of_ble_eq_true rfl)
  rw [lg_entry_eq]
  generalize (lg_sl ([.ref (P 0), .int a1]) ++ List.replicate (2 - (lg_sl ([.ref (P 0), .int a1])).length) Slot.unset).toArray = ls at hl ⊢
  have hl : lv_has ls 2 [(0, .ref (P 0)), (1, .int a1)] := hl
  exact b_ChipMapModel_isField_0 hx hb hml hr hlk hgt hown hK hO hAO M a1 s.heap [] ls hl hP hD hS h
def q_ChipMapModel_isFit  (M : Mm) (a1 : Int32) (a2 : Int32) : Rs := if a2 < 0 then (some (M, 0)) else (ix a1 26 <| if ((1 : Int32) <<< ((M.1 27 (a1 : Int32).toNatClampNeg) &&& 31)) ≤ a2 then (some (M, 0)) else (some (M, 1)))
set_option maxHeartbeats 4000000 in
set_option maxRecDepth 20000 in
theorem b_ChipMapModel_isFit_0 {p : Program} {l : Launch} {e : Env} {s s0 : State} {m : MethodId} {args : Array Value} {below : List Frame} {meth : Method} {c : Code} {D : va_G} {cI cZ cC cJ cA : ClassId} {P : Nat → Nat} {M' : Mm} {r' : Int32}  (hx : p.tables.exec = Jvm.exec) (hb : c.code = cX1_isFit) (hml : c.maxLocals = 3) (hr : meth.sig.returnType = (some .boolean)) (hlk : meth.locks = false) (hgt : ∀ w ∈ GT, w.before args s = true) (hown : s.vm.findClass RX1 = some m.cls) (hK : va_K D vwCl [(cI, .int), (cZ, .boolean), (cC, .char), (cJ, .long), (cA, .array .int)] s) (hO : Old s0 s) (hAO : ∀ q, (aP P 51) q → s0.heap.size ≤ q)  : ∀ (M : Mm) (a1 : Int32) (a2 : Int32) (H : Heap) (locs : List Loc) (ls : Array Slot), lv_has ls 3 [(0, .ref (P 0)), (1, .int a1), (2, .int a2)] → va_P D vwCl ((wY cI cZ cC cJ cA P) M) H → va_D (aP P 51) ((wY cI cZ cC cJ cA P) M) → va_S (aP P 51) s.heap H locs → q_ChipMapModel_isFit M a1 a2 = some (M', r') → W p l e ({ frames := 0, cells := 0, slots := 0, locals := 0 }) s m args below meth c H locs 0 0 (MQ below (gQi D (aP P 51) ((wY cI cZ cC cJ cA P) M') r') args s 0 0 (aP P 51)) (F0 m 0 ls []) := by
  intro M a1 a2 H locs ls hl hP hD hS h
  unfold q_ChipMapModel_isFit at h
  refine lv_iload_n hx hb dX1_isFit_0 rfl (lv_at hl 2 rfl) ?_
  refine lv_if_lt hx hb dX1_isFit_1 (tgt := 20) rfl (fun hc => ?_) (fun hc => ?_)
  · have h := br_T hc h
    refine lv_iconst (v := 0) hx hb dX1_isFit_20 (by decide) ?_
    exact rt_z (w := (wY cI cZ cC cJ cA P)) hx hb hr hlk rfl hP hD hS h dX1_isFit_21
  · have h := br_F hc h
    refine lv_iload_n hx hb dX1_isFit_4 rfl (lv_at hl 2 rfl) ?_
    refine lv_iconst (v := 1) hx hb dX1_isFit_5 (by decide) ?_
    refine lv_aload_n hx hb dX1_isFit_6 rfl (lv_at hl 0 rfl) ?_
    refine va_get (D := D) (ci := 1) (v := .ref (P 27)) (C := RX1) (T := TX1) (N := 76) hx hb hgt iwX1 hown hK hP 0 gY_0 rfl 36 (Nat.le_of_ble_eq_true rfl) (hgt _ wd_4_237) (fun _ h9 => h9) rfl dX1_isFit_7 ?_
    refine lv_iload_n hx hb dX1_isFit_10 rfl (lv_at hl 1 rfl) ?_
    refine va_iald hx hb hK hP 27 0 gY_27 rfl (ix_l h) dX1_isFit_11 ?_
    have h := ix_r h
    refine lv_ishl hx hb dX1_isFit_12 ?_
    refine lv_icmp_ge hx hb dX1_isFit_13 (tgt := 20) rfl (fun hc => ?_) (fun hc => ?_)
    · have h := br_T hc h
      refine lv_iconst (v := 0) hx hb dX1_isFit_20 (by decide) ?_
      exact rt_z (w := (wY cI cZ cC cJ cA P)) hx hb hr hlk rfl hP hD hS h dX1_isFit_21
    · have h := br_F hc h
      refine lv_iconst (v := 1) hx hb dX1_isFit_16 (by decide) ?_
      refine lv_goto hx hb dX1_isFit_17 (tgt := 21) rfl ?_
      exact rt_z (w := (wY cI cZ cC cJ cA P)) hx hb hr hlk rfl hP hD hS h dX1_isFit_21
set_option maxHeartbeats 4000000 in
set_option maxRecDepth 20000 in
theorem z_ChipMapModel_isFit (l : Launch) (D : va_G) (cI cZ cC cJ cA : ClassId) (P : Nat → Nat) (s0 : State) (hAO : ∀ q, (aP P 51) q → s0.heap.size ≤ q) (M : Mm) (a1 : Int32) (a2 : Int32) (M' : Mm) (r' : Int32) (h : q_ChipMapModel_isFit M a1 a2 = some (M', r')) : Met l yX1_isFit wsX1_isFit ({ frames := 0, cells := 0, slots := 0, locals := 0 }) (va_Pc [.ref (P 0), .int a1, .int a2] (gPre s0 D [(cI, .int), (cZ, .boolean), (cC, .char), (cJ, .long), (cA, .array .int)] (aP P 51) ((wY cI cZ cC cJ cA P) M))) (gQi D (aP P 51) ((wY cI cZ cC cJ cA P) M') r') 0 0 (aP P 51) := by
  refine Met.ofW (cc := cX1_isFit) (maxL := 3) (ret := (some .boolean)) (by decide) rfl ?_
  intro p e s m args below meth c s₁ B hml hv
  obtain ⟨rfl, hP, hK, hD, hO⟩ := hv
  have hx := B.exec
  have hb := B.bytes
  have hr := B.returns
  have hlk := B.notSynchronized
  have hgt := fun w (h : w ∈ GT) => atoms_spec (ws := wsX1_isFit) B.pre w (List.mem_cons_of_mem _ h)
  have hown : s.vm.findClass RX1 = some m.cls := findClass_of_methodNamed B.named
  have hS : va_S (aP P 51) s.heap s.heap [] := va_S.rf
  have hl := lv_entry ([.ref (P 0), .int a1, .int a2]) (n := 3) (Nat.le_of_ble_eq_true rfl)
  rw [lg_entry_eq]
  generalize (lg_sl ([.ref (P 0), .int a1, .int a2]) ++ List.replicate (3 - (lg_sl ([.ref (P 0), .int a1, .int a2])).length) Slot.unset).toArray = ls at hl ⊢
  have hl : lv_has ls 3 [(0, .ref (P 0)), (1, .int a1), (2, .int a2)] := hl
  exact b_ChipMapModel_isFit_0 hx hb hml hr hlk hgt hown hK hO hAO M a1 a2 s.heap [] ls hl hP hD hS h
def q_ChipMapModel_field  (M : Mm) (a1 : Int32) (a2 : Int32) : Rs := lt' (stI M 0 (upd (M.1 0) 0 0)) fun M1 => cal (q_ChipMapModel_isField M1 a1) fun M2 r3 => if r3 = 0 then (some (M2, (-1))) else (if a2 < 0 then (some (M2, (-1))) else (if a2 ≤ 4 then (if a2 = 0 then (ix a1 26 <| some (M2, (M2.1 25 (a1 : Int32).toNatClampNeg))) else (if a2 = 1 then (ix a1 26 <| some (M2, (M2.1 26 (a1 : Int32).toNatClampNeg))) else (if a2 = 2 then (ix a1 26 <| some (M2, (M2.1 27 (a1 : Int32).toNatClampNeg))) else (if a2 = 3 then (ix a1 78 <| some (M2, (M2.1 33 (a1 : Int32).toNatClampNeg))) else (ix a1 78 <| some (M2, (M2.1 35 (a1 : Int32).toNatClampNeg))))))) else (some (M2, (-1)))))
set_option maxHeartbeats 4000000 in
set_option maxRecDepth 20000 in
theorem b_ChipMapModel_field_0 {p : Program} {l : Launch} {e : Env} {s s0 : State} {m : MethodId} {args : Array Value} {below : List Frame} {meth : Method} {c : Code} {D : va_G} {cI cZ cC cJ cA : ClassId} {P : Nat → Nat} {M' : Mm} {r' : Int32}  (hx : p.tables.exec = Jvm.exec) (hb : c.code = cX1_field) (hml : c.maxLocals = 3) (hr : meth.sig.returnType = (some .int)) (hlk : meth.locks = false) (hgt : ∀ w ∈ GT, w.before args s = true) (hown : s.vm.findClass RX1 = some m.cls) (hK : va_K D vwCl [(cI, .int), (cZ, .boolean), (cC, .char), (cJ, .long), (cA, .array .int)] s) (hO : Old s0 s) (hAO : ∀ q, (aP P 51) q → s0.heap.size ≤ q)  : ∀ (M : Mm) (a1 : Int32) (a2 : Int32) (H : Heap) (locs : List Loc) (ls : Array Slot), lv_has ls 3 [(0, .ref (P 0)), (1, .int a1), (2, .int a2)] → va_P D vwCl ((wY cI cZ cC cJ cA P) M) H → va_D (aP P 51) ((wY cI cZ cC cJ cA P) M) → va_S (aP P 51) s.heap H locs → q_ChipMapModel_field M a1 a2 = some (M', r') → W p l e ({ frames := 1, cells := 0, slots := 0, locals := 21 }) s m args below meth c H locs 0 0 (MQ below (gQi D (aP P 51) ((wY cI cZ cC cJ cA P) M') r') args s 0 0 (aP P 51)) (F0 m 0 ls []) := by
  intro M a1 a2 H locs ls hl hP hD hS h
  unfold q_ChipMapModel_field at h
  refine lv_aload_n hx hb dX1_field_0 rfl (lv_at hl 0 rfl) ?_
  refine lv_iconst (v := 0) hx hb dX1_field_1 (by decide) ?_
  refine pm_put (w := (wY cI cZ cC cJ cA P)) (D := D) (ci := 1) (x := 0) (ty := .int) (C := RX1) (T := TX1) (N := 76) hx hb hgt iwX1 tyX1 tyX1_ok nmX1 hown hK hP hD hS 0 gY_0 rfl 0 (Nat.le_of_ble_eq_true rfl) (hgt _ wd_4_201) (fun _ h9 => h9) rfl (by decide +kernel) rfl rfl (Nat.le_of_ble_eq_true rfl) (sY_0_0 _) dX1_field_2 (fun M1 eM1 H locs hP hD hS => ?_)
  have h := lt_o eM1 h
  refine lv_aload_n hx hb dX1_field_5 rfl (lv_at hl 0 rfl) ?_
  refine lv_iload_n hx hb dX1_field_6 rfl (lv_at hl 1 rfl) ?_
  obtain ⟨M2, r3, hq, h⟩ := cal_o h
  refine cx_i (va_runV (As := [.int a1]) (rest := []) ⟨hx, hb, hml, hown, hgt⟩ (z_ChipMapModel_isField l D cI cZ cC cJ cA P s0 hAO M1 a1 M2 r3 hq) (cwV 1 hgt (gV wd_6_53 wd_6_55 sl__ChipMapModel____ChipMapModel___isField____I_Z_____ChipMapModel___isField____I_Z__ wd_0_15 wd_6_56) rfl rfl rfl (by decide +kernel) ⟨Nat.le_of_ble_eq_true rfl, Nat.le_of_ble_eq_true rfl⟩) (prV hP hK hD hO hAO hS (va_recv hK hP (ci := 1) (q0 := 0) rfl gY_0)) rfl rfl hl.1 rfl (lv_room (Nat.le_of_ble_eq_true rfl)) dX1_field_7 ⟨Nat.le_of_ble_eq_true rfl, Nat.le_of_ble_eq_true rfl⟩) hS (fun H locs hP hD hS => ?_)
  refine lv_if_eq hx hb dX1_field_10 (tgt := 22) rfl (fun hc => ?_) (fun hc => ?_)
  · have h := br_T hc h
    refine lv_iconst (v := (-1)) hx hb dX1_field_22 (by decide) ?_
    exact rt_i (w := (wY cI cZ cC cJ cA P)) hx hb hr hlk hP hD hS h dX1_field_23
  · have h := br_F hc h
    refine lv_iload_n hx hb dX1_field_13 rfl (lv_at hl 2 rfl) ?_
    refine lv_if_lt hx hb dX1_field_14 (tgt := 22) rfl (fun hc => ?_) (fun hc => ?_)
    · have h := br_T hc h
      refine lv_iconst (v := (-1)) hx hb dX1_field_22 (by decide) ?_
      exact rt_i (w := (wY cI cZ cC cJ cA P)) hx hb hr hlk hP hD hS h dX1_field_23
    · have h := br_F hc h
      refine lv_iload_n hx hb dX1_field_17 rfl (lv_at hl 2 rfl) ?_
      refine lv_iconst (v := 4) hx hb dX1_field_18 (by decide) ?_
      refine lv_icmp_le hx hb dX1_field_19 (tgt := 24) rfl (fun hc => ?_) (fun hc => ?_)
      · have h := br_T hc h
        refine lv_iload_n hx hb dX1_field_24 rfl (lv_at hl 2 rfl) ?_
        refine lv_if_ne hx hb dX1_field_25 (tgt := 37) rfl (fun hc => ?_) (fun hc => ?_)
        · have h := br_F hc h
          refine lv_iload_n hx hb dX1_field_37 rfl (lv_at hl 2 rfl) ?_
          refine lv_iconst (v := 1) hx hb dX1_field_38 (by decide) ?_
          refine lv_icmp_ne hx hb dX1_field_39 (tgt := 51) rfl (fun hc => ?_) (fun hc => ?_)
          · have h := br_F hc h
            refine lv_iload_n hx hb dX1_field_51 rfl (lv_at hl 2 rfl) ?_
            refine lv_iconst (v := 2) hx hb dX1_field_52 (by decide) ?_
            refine lv_icmp_ne hx hb dX1_field_53 (tgt := 65) rfl (fun hc => ?_) (fun hc => ?_)
            · have h := br_F hc h
              refine lv_iload_n hx hb dX1_field_65 rfl (lv_at hl 2 rfl) ?_
              refine lv_iconst (v := 3) hx hb dX1_field_66 (by decide) ?_
              refine lv_icmp_ne hx hb dX1_field_67 (tgt := 79) rfl (fun hc => ?_) (fun hc => ?_)
              · have h := br_F hc h
                refine lv_aload_n hx hb dX1_field_79 rfl (lv_at hl 0 rfl) ?_
                refine va_get (D := D) (ci := 1) (v := .ref (P 35)) (C := RX1) (T := TX1) (N := 76) hx hb hgt iwX1 hown hK hP 0 gY_0 rfl 45 (Nat.le_of_ble_eq_true rfl) (hgt _ wd_5_6) (fun _ h9 => h9) rfl dX1_field_80 ?_
                refine lv_iload_n hx hb dX1_field_83 rfl (lv_at hl 1 rfl) ?_
                refine va_iald hx hb hK hP 35 0 gY_35 rfl (ix_l h) dX1_field_84 ?_
                have h := ix_r h
                exact rt_i (w := (wY cI cZ cC cJ cA P)) hx hb hr hlk hP hD hS h dX1_field_85
              · have h := br_T hc h
                refine lv_aload_n hx hb dX1_field_70 rfl (lv_at hl 0 rfl) ?_
                refine va_get (D := D) (ci := 1) (v := .ref (P 33)) (C := RX1) (T := TX1) (N := 76) hx hb hgt iwX1 hown hK hP 0 gY_0 rfl 43 (Nat.le_of_ble_eq_true rfl) (hgt _ wd_5_4) (fun _ h9 => h9) rfl dX1_field_71 ?_
                refine lv_iload_n hx hb dX1_field_74 rfl (lv_at hl 1 rfl) ?_
                refine va_iald hx hb hK hP 33 0 gY_33 rfl (ix_l h) dX1_field_75 ?_
                have h := ix_r h
                refine lv_goto hx hb dX1_field_76 (tgt := 85) rfl ?_
                exact rt_i (w := (wY cI cZ cC cJ cA P)) hx hb hr hlk hP hD hS h dX1_field_85
            · have h := br_T hc h
              refine lv_aload_n hx hb dX1_field_56 rfl (lv_at hl 0 rfl) ?_
              refine va_get (D := D) (ci := 1) (v := .ref (P 27)) (C := RX1) (T := TX1) (N := 76) hx hb hgt iwX1 hown hK hP 0 gY_0 rfl 36 (Nat.le_of_ble_eq_true rfl) (hgt _ wd_4_237) (fun _ h9 => h9) rfl dX1_field_57 ?_
              refine lv_iload_n hx hb dX1_field_60 rfl (lv_at hl 1 rfl) ?_
              refine va_iald hx hb hK hP 27 0 gY_27 rfl (ix_l h) dX1_field_61 ?_
              have h := ix_r h
              refine lv_goto hx hb dX1_field_62 (tgt := 85) rfl ?_
              exact rt_i (w := (wY cI cZ cC cJ cA P)) hx hb hr hlk hP hD hS h dX1_field_85
          · have h := br_T hc h
            refine lv_aload_n hx hb dX1_field_42 rfl (lv_at hl 0 rfl) ?_
            refine va_get (D := D) (ci := 1) (v := .ref (P 26)) (C := RX1) (T := TX1) (N := 76) hx hb hgt iwX1 hown hK hP 0 gY_0 rfl 35 (Nat.le_of_ble_eq_true rfl) (hgt _ wd_4_236) (fun _ h9 => h9) rfl dX1_field_43 ?_
            refine lv_iload_n hx hb dX1_field_46 rfl (lv_at hl 1 rfl) ?_
            refine va_iald hx hb hK hP 26 0 gY_26 rfl (ix_l h) dX1_field_47 ?_
            have h := ix_r h
            refine lv_goto hx hb dX1_field_48 (tgt := 85) rfl ?_
            exact rt_i (w := (wY cI cZ cC cJ cA P)) hx hb hr hlk hP hD hS h dX1_field_85
        · have h := br_T hc h
          refine lv_aload_n hx hb dX1_field_28 rfl (lv_at hl 0 rfl) ?_
          refine va_get (D := D) (ci := 1) (v := .ref (P 25)) (C := RX1) (T := TX1) (N := 76) hx hb hgt iwX1 hown hK hP 0 gY_0 rfl 34 (Nat.le_of_ble_eq_true rfl) (hgt _ wd_4_235) (fun _ h9 => h9) rfl dX1_field_29 ?_
          refine lv_iload_n hx hb dX1_field_32 rfl (lv_at hl 1 rfl) ?_
          refine va_iald hx hb hK hP 25 0 gY_25 rfl (ix_l h) dX1_field_33 ?_
          have h := ix_r h
          refine lv_goto hx hb dX1_field_34 (tgt := 85) rfl ?_
          exact rt_i (w := (wY cI cZ cC cJ cA P)) hx hb hr hlk hP hD hS h dX1_field_85
      · have h := br_F hc h
        refine lv_iconst (v := (-1)) hx hb dX1_field_22 (by decide) ?_
        exact rt_i (w := (wY cI cZ cC cJ cA P)) hx hb hr hlk hP hD hS h dX1_field_23
set_option maxHeartbeats 4000000 in
set_option maxRecDepth 20000 in
theorem z_ChipMapModel_field (l : Launch) (D : va_G) (cI cZ cC cJ cA : ClassId) (P : Nat → Nat) (s0 : State) (hAO : ∀ q, (aP P 51) q → s0.heap.size ≤ q) (M : Mm) (a1 : Int32) (a2 : Int32) (M' : Mm) (r' : Int32) (h : q_ChipMapModel_field M a1 a2 = some (M', r')) : Met l yX1_field wsX1_field ({ frames := 1, cells := 0, slots := 0, locals := 21 }) (va_Pc [.ref (P 0), .int a1, .int a2] (gPre s0 D [(cI, .int), (cZ, .boolean), (cC, .char), (cJ, .long), (cA, .array .int)] (aP P 51) ((wY cI cZ cC cJ cA P) M))) (gQi D (aP P 51) ((wY cI cZ cC cJ cA P) M') r') 0 0 (aP P 51) := by
  refine Met.ofW (cc := cX1_field) (maxL := 3) (ret := (some .int)) (by decide) rfl ?_
  intro p e s m args below meth c s₁ B hml hv
  obtain ⟨rfl, hP, hK, hD, hO⟩ := hv
  have hx := B.exec
  have hb := B.bytes
  have hr := B.returns
  have hlk := B.notSynchronized
  have hgt := fun w (h : w ∈ GT) => atoms_spec (ws := wsX1_field) B.pre w (List.mem_cons_of_mem _ h)
  have hown : s.vm.findClass RX1 = some m.cls := findClass_of_methodNamed B.named
  have hS : va_S (aP P 51) s.heap s.heap [] := va_S.rf
  have hl := lv_entry ([.ref (P 0), .int a1, .int a2]) (n := 3) (Nat.le_of_ble_eq_true rfl)
  rw [lg_entry_eq]
  generalize (lg_sl ([.ref (P 0), .int a1, .int a2]) ++ List.replicate (3 - (lg_sl ([.ref (P 0), .int a1, .int a2])).length) Slot.unset).toArray = ls at hl ⊢
  have hl : lv_has ls 3 [(0, .ref (P 0)), (1, .int a1), (2, .int a2)] := hl
  exact b_ChipMapModel_field_0 hx hb hml hr hlk hgt hown hK hO hAO M a1 a2 s.heap [] ls hl hP hD hS h
def q_ChipMapModel_reset  (M : Mm)  : Rs := lt' (stI M 0 (upd (M.1 0) 0 0)) fun M1 => if (M1.1 0 27) = 0 then (some (M1, 0)) else (cal (q_ChipMapModel_resetAll M1) fun M2 r3 => some (M2, 1))
set_option maxHeartbeats 4000000 in
set_option maxRecDepth 20000 in
theorem b_ChipMapModel_reset_0 {p : Program} {l : Launch} {e : Env} {s s0 : State} {m : MethodId} {args : Array Value} {below : List Frame} {meth : Method} {c : Code} {D : va_G} {cI cZ cC cJ cA : ClassId} {P : Nat → Nat} {M' : Mm} {r' : Int32}  (hx : p.tables.exec = Jvm.exec) (hb : c.code = cX1_reset) (hml : c.maxLocals = 1) (hr : meth.sig.returnType = (some .boolean)) (hlk : meth.locks = false) (hgt : ∀ w ∈ GT, w.before args s = true) (hown : s.vm.findClass RX1 = some m.cls) (hK : va_K D vwCl [(cI, .int), (cZ, .boolean), (cC, .char), (cJ, .long), (cA, .array .int)] s) (hO : Old s0 s) (hAO : ∀ q, (aP P 51) q → s0.heap.size ≤ q)  : ∀ (M : Mm)  (H : Heap) (locs : List Loc) (ls : Array Slot), lv_has ls 1 [(0, .ref (P 0))] → va_P D vwCl ((wY cI cZ cC cJ cA P) M) H → va_D (aP P 51) ((wY cI cZ cC cJ cA P) M) → va_S (aP P 51) s.heap H locs → q_ChipMapModel_reset M = some (M', r') → W p l e ({ frames := 2, cells := 0, slots := 0, locals := 41 }) s m args below meth c H locs 0 0 (MQ below (gQi D (aP P 51) ((wY cI cZ cC cJ cA P) M') r') args s 0 0 (aP P 51)) (F0 m 0 ls []) := by
  intro M H locs ls hl hP hD hS h
  unfold q_ChipMapModel_reset at h
  refine lv_aload_n hx hb dX1_reset_0 rfl (lv_at hl 0 rfl) ?_
  refine lv_iconst (v := 0) hx hb dX1_reset_1 (by decide) ?_
  refine pm_put (w := (wY cI cZ cC cJ cA P)) (D := D) (ci := 1) (x := 0) (ty := .int) (C := RX1) (T := TX1) (N := 76) hx hb hgt iwX1 tyX1 tyX1_ok nmX1 hown hK hP hD hS 0 gY_0 rfl 0 (Nat.le_of_ble_eq_true rfl) (hgt _ wd_4_201) (fun _ h9 => h9) rfl (by decide +kernel) rfl rfl (Nat.le_of_ble_eq_true rfl) (sY_0_0 _) dX1_reset_2 (fun M1 eM1 H locs hP hD hS => ?_)
  have h := lt_o eM1 h
  refine lv_aload_n hx hb dX1_reset_5 rfl (lv_at hl 0 rfl) ?_
  refine va_get (D := D) (ci := 1) (v := .int (M1.1 0 27)) (C := RX1) (T := TX1) (N := 76) hx hb hgt iwX1 hown hK hP 0 gY_0 rfl 27 (Nat.le_of_ble_eq_true rfl) (hgt _ wd_4_228) (fun _ h9 => h9) rfl dX1_reset_6 ?_
  refine lv_if_ne hx hb dX1_reset_9 (tgt := 14) rfl (fun hc => ?_) (fun hc => ?_)
  · have h := br_F hc h
    refine lv_aload_n hx hb dX1_reset_14 rfl (lv_at hl 0 rfl) ?_
    obtain ⟨M2, r3, hq, h⟩ := cal_o h
    refine cx_v (va_runV (As := []) (rest := []) ⟨hx, hb, hml, hown, hgt⟩ (z_ChipMapModel_resetAll l D cI cZ cC cJ cA P s0 hAO M1 M2 r3 hq) (cwV 0 hgt (gV wd_6_37 wd_6_39 sl__ChipMapModel____ChipMapModel___resetAll_____V_____ChipMapModel___resetAll_____V__ wd_0_15 wd_6_40) rfl rfl rfl (by decide +kernel) ⟨Nat.le_of_ble_eq_true rfl, Nat.le_of_ble_eq_true rfl⟩) (prV hP hK hD hO hAO hS (va_recv hK hP (ci := 1) (q0 := 0) rfl gY_0)) rfl rfl hl.1 rfl (lv_room (Nat.le_of_ble_eq_true rfl)) dX1_reset_15 ⟨Nat.le_of_ble_eq_true rfl, Nat.le_of_ble_eq_true rfl⟩) hS (fun H locs hP hD hS => ?_)
    refine lv_iconst (v := 1) hx hb dX1_reset_18 (by decide) ?_
    exact rt_z (w := (wY cI cZ cC cJ cA P)) hx hb hr hlk rfl hP hD hS h dX1_reset_19
  · have h := br_T hc h
    refine lv_iconst (v := 0) hx hb dX1_reset_12 (by decide) ?_
    exact rt_z (w := (wY cI cZ cC cJ cA P)) hx hb hr hlk rfl hP hD hS h dX1_reset_13
set_option maxHeartbeats 4000000 in
set_option maxRecDepth 20000 in
theorem z_ChipMapModel_reset (l : Launch) (D : va_G) (cI cZ cC cJ cA : ClassId) (P : Nat → Nat) (s0 : State) (hAO : ∀ q, (aP P 51) q → s0.heap.size ≤ q) (M : Mm)  (M' : Mm) (r' : Int32) (h : q_ChipMapModel_reset M = some (M', r')) : Met l yX1_reset wsX1_reset ({ frames := 2, cells := 0, slots := 0, locals := 41 }) (va_Pc [.ref (P 0)] (gPre s0 D [(cI, .int), (cZ, .boolean), (cC, .char), (cJ, .long), (cA, .array .int)] (aP P 51) ((wY cI cZ cC cJ cA P) M))) (gQi D (aP P 51) ((wY cI cZ cC cJ cA P) M') r') 0 0 (aP P 51) := by
  refine Met.ofW (cc := cX1_reset) (maxL := 1) (ret := (some .boolean)) (by decide) rfl ?_
  intro p e s m args below meth c s₁ B hml hv
  obtain ⟨rfl, hP, hK, hD, hO⟩ := hv
  have hx := B.exec
  have hb := B.bytes
  have hr := B.returns
  have hlk := B.notSynchronized
  have hgt := fun w (h : w ∈ GT) => atoms_spec (ws := wsX1_reset) B.pre w (List.mem_cons_of_mem _ h)
  have hown : s.vm.findClass RX1 = some m.cls := findClass_of_methodNamed B.named
  have hS : va_S (aP P 51) s.heap s.heap [] := va_S.rf
  have hl := lv_entry ([.ref (P 0)]) (n := 1) (Nat.le_of_ble_eq_true rfl)
  rw [lg_entry_eq]
  generalize (lg_sl ([.ref (P 0)]) ++ List.replicate (1 - (lg_sl ([.ref (P 0)])).length) Slot.unset).toArray = ls at hl ⊢
  have hl : lv_has ls 1 [(0, .ref (P 0))] := hl
  exact b_ChipMapModel_reset_0 hx hb hml hr hlk hgt hown hK hO hAO M s.heap [] ls hl hP hD hS h
end
