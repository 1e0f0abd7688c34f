def q_ChipMapModel_fault  (M : Mm) (a1 : Int32) : Rs := lt' (stI M 0 (upd (M.1 0) 0 0)) fun M1 => if a1 = 0 then (some (M1, (M1.1 0 4))) else (if a1 = 1 then (some (M1, (M1.1 0 5))) else (some (M1, (-1))))
set_option maxHeartbeats 4000000 in
set_option maxRecDepth 20000 in
theorem b_ChipMapModel_fault_0 {p : Program} {l : Launch} {e : Env} {s s0 : State} {m : MethodId} {args : Array Value} {below : List Frame} {meth : Method} {c : Code} {D : va_G} {cI cZ cC cJ cA : ClassId} {P : Nat → Nat} {M' : Mm} {r' : Int32}  (hx : p.tables.exec = Jvm.exec) (hb : c.code = cX1_fault) (hml : c.maxLocals = 2) (hr : meth.sig.returnType = (some .int)) (hlk : meth.locks = false) (hgt : ∀ w ∈ GT, w.before args s = true) (hown : s.vm.findClass RX1 = some m.cls) (hK : va_K D vwCl [(cI, .int), (cZ, .boolean), (cC, .char), (cJ, .long), (cA, .array .int)] s) (hO : Old s0 s) (hAO : ∀ q, (aP P 51) q → s0.heap.size ≤ q)  : ∀ (M : Mm) (a1 : Int32) (H : Heap) (locs : List Loc) (ls : Array Slot), lv_has ls 2 [(0, .ref (P 0)), (1, .int a1)] → va_P D vwCl ((wY cI cZ cC cJ cA P) M) H → va_D (aP P 51) ((wY cI cZ cC cJ cA P) M) → va_S (aP P 51) s.heap H locs → q_ChipMapModel_fault M a1 = some (M', r') → W p l e ({ frames := 0, cells := 0, slots := 0, locals := 0 }) s m args below meth c H locs 0 0 (MQ below (gQi D (aP P 51) ((wY cI cZ cC cJ cA P) M') r') args s 0 0 (aP P 51)) (F0 m 0 ls []) := by
  intro M a1 H locs ls hl hP hD hS h
  unfold q_ChipMapModel_fault at h
  refine lv_aload_n hx hb dX1_fault_0 rfl (lv_at hl 0 rfl) ?_
  refine lv_iconst (v := 0) hx hb dX1_fault_1 (by decide) ?_
  refine pm_put (w := (wY cI cZ cC cJ cA P)) (D := D) (ci := 1) (x := 0) (ty := .int) (C := RX1) (T := TX1) (N := 76) hx hb hgt iwX1 tyX1 tyX1_ok nmX1 hown hK hP hD hS 0 gY_0 rfl 0 (Nat.le_of_ble_eq_true rfl) (hgt _ wd_4_201) (fun _ h9 => h9) rfl (by decide +kernel) rfl rfl (Nat.le_of_ble_eq_true rfl) (sY_0_0 _) dX1_fault_2 (fun M1 eM1 H locs hP hD hS => ?_)
  have h := lt_o eM1 h
  refine lv_iload_n hx hb dX1_fault_5 rfl (lv_at hl 1 rfl) ?_
  refine lv_if_ne hx hb dX1_fault_6 (tgt := 16) rfl (fun hc => ?_) (fun hc => ?_)
  · have h := br_F hc h
    refine lv_iload_n hx hb dX1_fault_16 rfl (lv_at hl 1 rfl) ?_
    refine lv_iconst (v := 1) hx hb dX1_fault_17 (by decide) ?_
    refine lv_icmp_ne hx hb dX1_fault_18 (tgt := 28) rfl (fun hc => ?_) (fun hc => ?_)
    · have h := br_F hc h
      refine lv_iconst (v := (-1)) hx hb dX1_fault_28 (by decide) ?_
      exact rt_i (w := (wY cI cZ cC cJ cA P)) hx hb hr hlk hP hD hS h dX1_fault_29
    · have h := br_T hc h
      refine lv_aload_n hx hb dX1_fault_21 rfl (lv_at hl 0 rfl) ?_
      refine va_get (D := D) (ci := 1) (v := .int (M1.1 0 5)) (C := RX1) (T := TX1) (N := 76) hx hb hgt iwX1 hown hK hP 0 gY_0 rfl 5 (Nat.le_of_ble_eq_true rfl) (hgt _ wd_4_206) (fun _ h9 => h9) rfl dX1_fault_22 ?_
      refine lv_goto hx hb dX1_fault_25 (tgt := 29) rfl ?_
      exact rt_i (w := (wY cI cZ cC cJ cA P)) hx hb hr hlk hP hD hS h dX1_fault_29
  · have h := br_T hc h
    refine lv_aload_n hx hb dX1_fault_9 rfl (lv_at hl 0 rfl) ?_
    refine va_get (D := D) (ci := 1) (v := .int (M1.1 0 4)) (C := RX1) (T := TX1) (N := 76) hx hb hgt iwX1 hown hK hP 0 gY_0 rfl 4 (Nat.le_of_ble_eq_true rfl) (hgt _ wd_4_205) (fun _ h9 => h9) rfl dX1_fault_10 ?_
    refine lv_goto hx hb dX1_fault_13 (tgt := 29) rfl ?_
    exact rt_i (w := (wY cI cZ cC cJ cA P)) hx hb hr hlk hP hD hS h dX1_fault_29
set_option maxHeartbeats 4000000 in
set_option maxRecDepth 20000 in
theorem z_ChipMapModel_fault (l : Launch) (D : va_G) (cI cZ cC cJ cA : ClassId) (P : Nat → Nat) (s0 : State) (hAO : ∀ q, (aP P 51) q → s0.heap.size ≤ q) (M : Mm) (a1 : Int32) (M' : Mm) (r' : Int32) (h : q_ChipMapModel_fault M a1 = some (M', r')) : Met l yX1_fault wsX1_fault ({ frames := 0, cells := 0, slots := 0, locals := 0 }) (va_Pc [.ref (P 0), .int a1] (gPre s0 D [(cI, .int), (cZ, .boolean), (cC, .char), (cJ, .long), (cA, .array .int)] (aP P 51) ((wY cI cZ cC cJ cA P) M))) (gQi D (aP P 51) ((wY cI cZ cC cJ cA P) M') r') 0 0 (aP P 51) := by
  refine Met.ofW (cc := cX1_fault) (maxL := 2) (ret := (some .int)) (by decide) rfl ?_
  intro p e s m args below meth c s₁ B hml hv
  obtain ⟨rfl, hP, hK, hD, hO⟩ := hv
  have hx := B.exec
  have hb := B.bytes
  have hr := B.returns
  have hlk := B.notSynchronized
  have hgt := fun w (h : w ∈ GT) => atoms_spec (ws := wsX1_fault) B.pre w (List.mem_cons_of_mem _ h)
  have hown : s.vm.findClass RX1 = some m.cls := findClass_of_methodNamed B.named
  have hS : va_S (aP P 51) s.heap s.heap [] := va_S.rf
  have hl := lv_entry ([.ref (P 0), .int a1]) (n := 2) (Nat.le_of_ble_eq_true rfl)
  rw [lg_entry_eq]
  generalize (lg_sl ([.ref (P 0), .int a1]) ++ List.replicate (2 - (lg_sl ([.ref (P 0), .int a1])).length) Slot.unset).toArray = ls at hl ⊢
  have hl : lv_has ls 2 [(0, .ref (P 0)), (1, .int a1)] := hl
  exact b_ChipMapModel_fault_0 hx hb hml hr hlk hgt hown hK hO hAO M a1 s.heap [] ls hl hP hD hS h
def q_ChipMapModel_copyDevice_82  : Nat → Mm → Int32 → Int32 → Int32 → Rs
  | 0, _, _, _, _ => none
  | n' + 1, M, v1, v2, v3 => if 12 ≤ v3 then (some (M, 0)) else (ix ((12 * v1) + v3) 36 <| ix ((12 * v2) + v3) 36 <| lt' (stI M 36 (upd (M.1 36) (((12 * v2) + v3) : Int32).toNatClampNeg (vp_nar .boolean (M.1 36 (((12 * v1) + v3) : Int32).toNatClampNeg)))) fun M1 => q_ChipMapModel_copyDevice_82 n' M1 v1 v2 (v3 + 1))
def q_ChipMapModel_copyDevice_2  : Nat → Mm → Int32 → Int32 → Int32 → Rs
  | 0, _, _, _, _ => none
  | n' + 1, M, v1, v2, v3 => if 26 ≤ v3 then (q_ChipMapModel_copyDevice_82 4000 M v1 v2 0) else (ix ((26 * v1) + v3) 78 <| ix ((26 * v2) + v3) 78 <| lt' (stI M 33 (upd (M.1 33) (((26 * v2) + v3) : Int32).toNatClampNeg (M.1 33 (((26 * v1) + v3) : Int32).toNatClampNeg))) fun M1 => ix ((26 * v1) + v3) 78 <| ix ((26 * v2) + v3) 78 <| lt' (stI M1 34 (upd (M1.1 34) (((26 * v2) + v3) : Int32).toNatClampNeg (M1.1 34 (((26 * v1) + v3) : Int32).toNatClampNeg))) fun M2 => ix ((26 * v1) + v3) 78 <| ix ((26 * v2) + v3) 78 <| lt' (stI M2 35 (upd (M2.1 35) (((26 * v2) + v3) : Int32).toNatClampNeg (M2.1 35 (((26 * v1) + v3) : Int32).toNatClampNeg))) fun M3 => q_ChipMapModel_copyDevice_2 n' M3 v1 v2 (v3 + 1))
def q_ChipMapModel_copyDevice  (M : Mm) (a1 : Int32) (a2 : Int32) : Rs := q_ChipMapModel_copyDevice_2 4000 M a1 a2 0
set_option maxHeartbeats 4000000 in
set_option maxRecDepth 20000 in
theorem b_ChipMapModel_copyDevice_82 {p : Program} {l : Launch} {e : Env} {s s0 : State} {m : MethodId} {args : Array Value} {below : List Frame} {meth : Method} {c : Code} {D : va_G} {cI cZ cC cJ cA : ClassId} {P : Nat → Nat} {M' : Mm} {r' : Int32}  (hx : p.tables.exec = Jvm.exec) (hb : c.code = cX1_copyDevice) (hml : c.maxLocals = 4) (hr : meth.sig.returnType = none) (hlk : meth.locks = false) (hgt : ∀ w ∈ GT, w.before args s = true) (hown : s.vm.findClass RX1 = some m.cls) (hK : va_K D vwCl [(cI, .int), (cZ, .boolean), (cC, .char), (cJ, .long), (cA, .array .int)] s) (hO : Old s0 s) (hAO : ∀ q, (aP P 51) q → s0.heap.size ≤ q)  : ∀ (n' : Nat) (M : Mm) (v1 : Int32) (v2 : Int32) (v3 : Int32) (H : Heap) (locs : List Loc) (ls : Array Slot), lv_has ls 4 [(0, .ref (P 0)), (1, .int v1), (2, .int v2), (3, .int v3)] → va_P D vwCl ((wY cI cZ cC cJ cA P) M) H → va_D (aP P 51) ((wY cI cZ cC cJ cA P) M) → va_S (aP P 51) s.heap H locs → q_ChipMapModel_copyDevice_82 n' M v1 v2 v3 = some (M', r') → W p l e ({ frames := 0, cells := 0, slots := 0, locals := 0 }) s m args below meth c H locs 0 0 (MQ below (gQv D (aP P 51) ((wY cI cZ cC cJ cA P) M')) args s 0 0 (aP P 51)) (F0 m 82 ls []) := by
  intro n'
  induction n' with
  | zero => exact fun _ _ _ _ _ _ _ _ _ _ _ h => (rs_n h).elim
  | succ n' ih =>
    intro M v1 v2 v3 H locs ls hl hP hD hS h
    rw [q_ChipMapModel_copyDevice_82] at h
    refine lv_iload_n hx hb dX1_copyDevice_82 rfl (lv_at hl 3 rfl) ?_
    refine lv_bipush (v := 12) hx hb dX1_copyDevice_83 (by decide) ?_
    refine lv_icmp_ge hx hb dX1_copyDevice_85 (tgt := 116) rfl (fun hc => ?_) (fun hc => ?_)
    · have h := br_T hc h
      exact rt_v (w := (wY cI cZ cC cJ cA P)) (r := r') hx hb hr hlk hP hD hS h dX1_copyDevice_116
    · have h := br_F hc h
      refine lv_aload_n hx hb dX1_copyDevice_88 rfl (lv_at hl 0 rfl) ?_
      refine va_get (D := D) (ci := 1) (v := .ref (P 36)) (C := RX1) (T := TX1) (N := 76) hx hb hgt iwX1 hown hK hP 0 gY_0 rfl 46 (Nat.le_of_ble_eq_true rfl) (hgt _ wd_5_7) (fun _ h9 => h9) rfl dX1_copyDevice_89 ?_
      refine lv_bipush (v := 12) hx hb dX1_copyDevice_92 (by decide) ?_
      refine lv_iload_n hx hb dX1_copyDevice_94 rfl (lv_at hl 2 rfl) ?_
      refine lv_imul hx hb dX1_copyDevice_95 ?_
      refine lv_iload_n hx hb dX1_copyDevice_96 rfl (lv_at hl 3 rfl) ?_
      refine lv_iadd hx hb dX1_copyDevice_97 ?_
      refine lv_aload_n hx hb dX1_copyDevice_98 rfl (lv_at hl 0 rfl) ?_
      refine va_get (D := D) (ci := 1) (v := .ref (P 36)) (C := RX1) (T := TX1) (N := 76) hx hb hgt iwX1 hown hK hP 0 gY_0 rfl 46 (Nat.le_of_ble_eq_true rfl) (hgt _ wd_5_7) (fun _ h9 => h9) rfl dX1_copyDevice_99 ?_
      refine lv_bipush (v := 12) hx hb dX1_copyDevice_102 (by decide) ?_
      refine lv_iload_n hx hb dX1_copyDevice_104 rfl (lv_at hl 1 rfl) ?_
      refine lv_imul hx hb dX1_copyDevice_105 ?_
      refine lv_iload_n hx hb dX1_copyDevice_106 rfl (lv_at hl 3 rfl) ?_
      refine lv_iadd hx hb dX1_copyDevice_107 ?_
      refine va_zald hx hb hK hP 36 1 gY_36 rfl (ix_l h) dX1_copyDevice_108 ?_
      have h := ix_r h
      refine pm_zast (w := (wY cI cZ cC cJ cA P)) hx hb hK hP hD hS 36 1 gY_36 rfl sY_36 (ix_l h) dX1_copyDevice_109 (fun M1 eM1 H locs hP hD hS => ?_)
      have h := ix_r h
      have h := lt_o eM1 h
      refine lv_iinc (v := (v3 + 1)) hx hb dX1_copyDevice_110 hl (k := 3) rfl rfl (Nat.le_of_ble_eq_true rfl) (lv' := [(3, .int (v3 + 1)), (0, .ref (P 0)), (1, .int v1), (2, .int v2)]) rfl (fun ls hl => ?_)
      refine lv_goto hx hb dX1_copyDevice_113 (tgt := 82) rfl ?_
      have hl := lv_sub hl [1, 2, 3, 0] (l' := [(0, .ref (P 0)), (1, .int v1), (2, .int v2), (3, .int (v3 + 1))]) rfl
      exact ih M1 v1 v2 (v3 + 1) H locs ls hl hP hD hS h
set_option maxHeartbeats 4000000 in
set_option maxRecDepth 20000 in
theorem b_ChipMapModel_copyDevice_2 {p : Program} {l : Launch} {e : Env} {s s0 : State} {m : MethodId} {args : Array Value} {below : List Frame} {meth : Method} {c : Code} {D : va_G} {cI cZ cC cJ cA : ClassId} {P : Nat → Nat} {M' : Mm} {r' : Int32}  (hx : p.tables.exec = Jvm.exec) (hb : c.code = cX1_copyDevice) (hml : c.maxLocals = 4) (hr : meth.sig.returnType = none) (hlk : meth.locks = false) (hgt : ∀ w ∈ GT, w.before args s = true) (hown : s.vm.findClass RX1 = some m.cls) (hK : va_K D vwCl [(cI, .int), (cZ, .boolean), (cC, .char), (cJ, .long), (cA, .array .int)] s) (hO : Old s0 s) (hAO : ∀ q, (aP P 51) q → s0.heap.size ≤ q)  : ∀ (n' : Nat) (M : Mm) (v1 : Int32) (v2 : Int32) (v3 : Int32) (H : Heap) (locs : List Loc) (ls : Array Slot), lv_has ls 4 [(0, .ref (P 0)), (1, .int v1), (2, .int v2), (3, .int v3)] → va_P D vwCl ((wY cI cZ cC cJ cA P) M) H → va_D (aP P 51) ((wY cI cZ cC cJ cA P) M) → va_S (aP P 51) s.heap H locs → q_ChipMapModel_copyDevice_2 n' M v1 v2 v3 = some (M', r') → W p l e ({ frames := 0, cells := 0, slots := 0, locals := 0 }) s m args below meth c H locs 0 0 (MQ below (gQv D (aP P 51) ((wY cI cZ cC cJ cA P) M')) args s 0 0 (aP P 51)) (F0 m 2 ls []) := by
  intro n'
  induction n' with
  | zero => exact fun _ _ _ _ _ _ _ _ _ _ _ h => (rs_n h).elim
  | succ n' ih =>
    intro M v1 v2 v3 H locs ls hl hP hD hS h
    rw [q_ChipMapModel_copyDevice_2] at h
    refine lv_iload_n hx hb dX1_copyDevice_2 rfl (lv_at hl 3 rfl) ?_
    refine lv_bipush (v := 26) hx hb dX1_copyDevice_3 (by decide) ?_
    refine lv_icmp_ge hx hb dX1_copyDevice_5 (tgt := 80) rfl (fun hc => ?_) (fun hc => ?_)
    · have h := br_T hc h
      refine lv_iconst (v := 0) hx hb dX1_copyDevice_80 (by decide) ?_
      refine lv_istore_n hx hb dX1_copyDevice_81 rfl hl (Nat.le_of_ble_eq_true rfl) (lv' := [(3, .int 0), (0, .ref (P 0)), (1, .int v1), (2, .int v2)]) rfl (fun ls hl => ?_)
      have hl := lv_sub hl [1, 2, 3, 0] (l' := [(0, .ref (P 0)), (1, .int v1), (2, .int v2), (3, .int 0)]) rfl
      exact b_ChipMapModel_copyDevice_82 hx hb hml hr hlk hgt hown hK hO hAO 4000 M v1 v2 0 H _ ls hl hP hD hS h
    · have h := br_F hc h
      refine lv_aload_n hx hb dX1_copyDevice_8 rfl (lv_at hl 0 rfl) ?_
      refine va_get (D := D) (ci := 1) (v := .ref (P 33)) (C := RX1) (T := TX1) (N := 76) hx hb hgt iwX1 hown hK hP 0 gY_0 rfl 43 (Nat.le_of_ble_eq_true rfl) (hgt _ wd_5_4) (fun _ h9 => h9) rfl dX1_copyDevice_9 ?_
      refine lv_bipush (v := 26) hx hb dX1_copyDevice_12 (by decide) ?_
      refine lv_iload_n hx hb dX1_copyDevice_14 rfl (lv_at hl 2 rfl) ?_
      refine lv_imul hx hb dX1_copyDevice_15 ?_
      refine lv_iload_n hx hb dX1_copyDevice_16 rfl (lv_at hl 3 rfl) ?_
      refine lv_iadd hx hb dX1_copyDevice_17 ?_
      refine lv_aload_n hx hb dX1_copyDevice_18 rfl (lv_at hl 0 rfl) ?_
      refine va_get (D := D) (ci := 1) (v := .ref (P 33)) (C := RX1) (T := TX1) (N := 76) hx hb hgt iwX1 hown hK hP 0 gY_0 rfl 43 (Nat.le_of_ble_eq_true rfl) (hgt _ wd_5_4) (fun _ h9 => h9) rfl dX1_copyDevice_19 ?_
      refine lv_bipush (v := 26) hx hb dX1_copyDevice_22 (by decide) ?_
      refine lv_iload_n hx hb dX1_copyDevice_24 rfl (lv_at hl 1 rfl) ?_
      refine lv_imul hx hb dX1_copyDevice_25 ?_
      refine lv_iload_n hx hb dX1_copyDevice_26 rfl (lv_at hl 3 rfl) ?_
      refine lv_iadd hx hb dX1_copyDevice_27 ?_
      refine va_iald hx hb hK hP 33 0 gY_33 rfl (ix_l h) dX1_copyDevice_28 ?_
      have h := ix_r h
      refine pm_iast (w := (wY cI cZ cC cJ cA P)) hx hb hK hP hD hS 33 0 gY_33 rfl sY_33 (ix_l h) dX1_copyDevice_29 (fun M1 eM1 H locs hP hD hS => ?_)
      have h := ix_r h
      have h := lt_o eM1 h
      refine lv_aload_n hx hb dX1_copyDevice_30 rfl (lv_at hl 0 rfl) ?_
      refine va_get (D := D) (ci := 1) (v := .ref (P 34)) (C := RX1) (T := TX1) (N := 76) hx hb hgt iwX1 hown hK hP 0 gY_0 rfl 44 (Nat.le_of_ble_eq_true rfl) (hgt _ wd_5_5) (fun _ h9 => h9) rfl dX1_copyDevice_31 ?_
      refine lv_bipush (v := 26) hx hb dX1_copyDevice_34 (by decide) ?_
      refine lv_iload_n hx hb dX1_copyDevice_36 rfl (lv_at hl 2 rfl) ?_
      refine lv_imul hx hb dX1_copyDevice_37 ?_
      refine lv_iload_n hx hb dX1_copyDevice_38 rfl (lv_at hl 3 rfl) ?_
      refine lv_iadd hx hb dX1_copyDevice_39 ?_
      refine lv_aload_n hx hb dX1_copyDevice_40 rfl (lv_at hl 0 rfl) ?_
      refine va_get (D := D) (ci := 1) (v := .ref (P 34)) (C := RX1) (T := TX1) (N := 76) hx hb hgt iwX1 hown hK hP 0 gY_0 rfl 44 (Nat.le_of_ble_eq_true rfl) (hgt _ wd_5_5) (fun _ h9 => h9) rfl dX1_copyDevice_41 ?_
      refine lv_bipush (v := 26) hx hb dX1_copyDevice_44 (by decide) ?_
      refine lv_iload_n hx hb dX1_copyDevice_46 rfl (lv_at hl 1 rfl) ?_
      refine lv_imul hx hb dX1_copyDevice_47 ?_
      refine lv_iload_n hx hb dX1_copyDevice_48 rfl (lv_at hl 3 rfl) ?_
      refine lv_iadd hx hb dX1_copyDevice_49 ?_
      refine va_iald hx hb hK hP 34 0 gY_34 rfl (ix_l h) dX1_copyDevice_50 ?_
      have h := ix_r h
      refine pm_iast (w := (wY cI cZ cC cJ cA P)) hx hb hK hP hD hS 34 0 gY_34 rfl sY_34 (ix_l h) dX1_copyDevice_51 (fun M2 eM2 H locs hP hD hS => ?_)
      have h := ix_r h
      have h := lt_o eM2 h
      refine lv_aload_n hx hb dX1_copyDevice_52 rfl (lv_at hl 0 rfl) ?_
      refine va_get (D := D) (ci := 1) (v := .ref (P 35)) (C := RX1) (T := TX1) (N := 76) hx hb hgt iwX1 hown hK hP 0 gY_0 rfl 45 (Nat.le_of_ble_eq_true rfl) (hgt _ wd_5_6) (fun _ h9 => h9) rfl dX1_copyDevice_53 ?_
      refine lv_bipush (v := 26) hx hb dX1_copyDevice_56 (by decide) ?_
      refine lv_iload_n hx hb dX1_copyDevice_58 rfl (lv_at hl 2 rfl) ?_
      refine lv_imul hx hb dX1_copyDevice_59 ?_
      refine lv_iload_n hx hb dX1_copyDevice_60 rfl (lv_at hl 3 rfl) ?_
      refine lv_iadd hx hb dX1_copyDevice_61 ?_
      refine lv_aload_n hx hb dX1_copyDevice_62 rfl (lv_at hl 0 rfl) ?_
      refine va_get (D := D) (ci := 1) (v := .ref (P 35)) (C := RX1) (T := TX1) (N := 76) hx hb hgt iwX1 hown hK hP 0 gY_0 rfl 45 (Nat.le_of_ble_eq_true rfl) (hgt _ wd_5_6) (fun _ h9 => h9) rfl dX1_copyDevice_63 ?_
      refine lv_bipush (v := 26) hx hb dX1_copyDevice_66 (by decide) ?_
      refine lv_iload_n hx hb dX1_copyDevice_68 rfl (lv_at hl 1 rfl) ?_
      refine lv_imul hx hb dX1_copyDevice_69 ?_
      refine lv_iload_n hx hb dX1_copyDevice_70 rfl (lv_at hl 3 rfl) ?_
      refine lv_iadd hx hb dX1_copyDevice_71 ?_
      refine va_iald hx hb hK hP 35 0 gY_35 rfl (ix_l h) dX1_copyDevice_72 ?_
      have h := ix_r h
      refine pm_iast (w := (wY cI cZ cC cJ cA P)) hx hb hK hP hD hS 35 0 gY_35 rfl sY_35 (ix_l h) dX1_copyDevice_73 (fun M3 eM3 H locs hP hD hS => ?_)
      have h := ix_r h
      have h := lt_o eM3 h
      refine lv_iinc (v := (v3 + 1)) hx hb dX1_copyDevice_74 hl (k := 3) rfl rfl (Nat.le_of_ble_eq_true rfl) (lv' := [(3, .int (v3 + 1)), (0, .ref (P 0)), (1, .int v1), (2, .int v2)]) rfl (fun ls hl => ?_)
      refine lv_goto hx hb dX1_copyDevice_77 (tgt := 2) rfl ?_
      have hl := lv_sub hl [1, 2, 3, 0] (l' := [(0, .ref (P 0)), (1, .int v1), (2, .int v2), (3, .int (v3 + 1))]) rfl
      exact ih M3 v1 v2 (v3 + 1) H locs ls hl hP hD hS h
set_option maxHeartbeats 4000000 in
set_option maxRecDepth 20000 in
theorem b_ChipMapModel_copyDevice_0 {p : Program} {l : Launch} {e : Env} {s s0 : State} {m : MethodId} {args : Array Value} {below : List Frame} {meth : Method} {c : Code} {D : va_G} {cI cZ cC cJ cA : ClassId} {P : Nat → Nat} {M' : Mm} {r' : Int32}  (hx : p.tables.exec = Jvm.exec) (hb : c.code = cX1_copyDevice) (hml : c.maxLocals = 4) (hr : meth.sig.returnType = none) (hlk : meth.locks = false) (hgt : ∀ w ∈ GT, w.before args s = true) (hown : s.vm.findClass RX1 = some m.cls) (hK : va_K D vwCl [(cI, .int), (cZ, .boolean), (cC, .char), (cJ, .long), (cA, .array .int)] s) (hO : Old s0 s) (hAO : ∀ q, (aP P 51) q → s0.heap.size ≤ q)  : ∀ (M : Mm) (a1 : Int32) (a2 : Int32) (H : Heap) (locs : List Loc) (ls : Array Slot), lv_has ls 4 [(0, .ref (P 0)), (1, .int a1), (2, .int a2)] → va_P D vwCl ((wY cI cZ cC cJ cA P) M) H → va_D (aP P 51) ((wY cI cZ cC cJ cA P) M) → va_S (aP P 51) s.heap H locs → q_ChipMapModel_copyDevice M a1 a2 = some (M', r') → W p l e ({ frames := 0, cells := 0, slots := 0, locals := 0 }) s m args below meth c H locs 0 0 (MQ below (gQv D (aP P 51) ((wY cI cZ cC cJ cA P) M')) args s 0 0 (aP P 51)) (F0 m 0 ls []) := by
  intro M a1 a2 H locs ls hl hP hD hS h
  unfold q_ChipMapModel_copyDevice at h
  refine lv_iconst (v := 0) hx hb dX1_copyDevice_0 (by decide) ?_
  refine lv_istore_n hx hb dX1_copyDevice_1 rfl hl (Nat.le_of_ble_eq_true rfl) (lv' := [(3, .int 0), (0, .ref (P 0)), (1, .int a1), (2, .int a2)]) rfl (fun ls hl => ?_)
  have hl := lv_sub hl [1, 2, 3, 0] (l' := [(0, .ref (P 0)), (1, .int a1), (2, .int a2), (3, .int 0)]) rfl
  exact b_ChipMapModel_copyDevice_2 hx hb hml hr hlk hgt hown hK hO hAO 4000 M a1 a2 0 H _ ls hl hP hD hS h
set_option maxHeartbeats 4000000 in
set_option maxRecDepth 20000 in
theorem z_ChipMapModel_copyDevice (l : Launch) (D : va_G) (cI cZ cC cJ cA : ClassId) (P : Nat → Nat) (s0 : State) (hAO : ∀ q, (aP P 51) q → s0.heap.size ≤ q) (M : Mm) (a1 : Int32) (a2 : Int32) (M' : Mm) (r' : Int32) (h : q_ChipMapModel_copyDevice M a1 a2 = some (M', r')) : Met l yX1_copyDevice wsX1_copyDevice ({ frames := 0, cells := 0, slots := 0, locals := 0 }) (va_Pc [.ref (P 0), .int a1, .int a2] (gPre s0 D [(cI, .int), (cZ, .boolean), (cC, .char), (cJ, .long), (cA, .array .int)] (aP P 51) ((wY cI cZ cC cJ cA P) M))) (gQv D (aP P 51) ((wY cI cZ cC cJ cA P) M')) 0 0 (aP P 51) := by
  refine Met.ofW (cc := cX1_copyDevice) (maxL := 4) (ret := none) (by decide) rfl ?_
  intro p e s m args below meth c s₁ B hml hv
  obtain ⟨rfl, hP, hK, hD, hO⟩ := hv
  have hx := B.exec
  have hb := B.bytes
  have hr := B.returns
  have hlk := B.notSynchronized
  have hgt := fun w (h : w ∈ GT) => atoms_spec (ws := wsX1_copyDevice) B.pre w (List.mem_cons_of_mem _ h)
  have hown : s.vm.findClass RX1 = some m.cls := findClass_of_methodNamed B.named
  have hS : va_S (aP P 51) s.heap s.heap [] := va_S.rf
  have hl := lv_entry ([.ref (P 0), .int a1, .int a2]) (n := 4) (Nat.le_of_ble_eq_true rfl)
  rw [lg_entry_eq]
  generalize (lg_sl ([.ref (P 0), .int a1, .int a2]) ++ List.replicate (4 - (lg_sl ([.ref (P 0), .int a1, .int a2])).length) Slot.unset).toArray = ls at hl ⊢
  have hl : lv_has ls 4 [(0, .ref (P 0)), (1, .int a1), (2, .int a2)] := hl
  exact b_ChipMapModel_copyDevice_0 hx hb hml hr hlk hgt hown hK hO hAO M a1 a2 s.heap [] ls hl hP hD hS h
def q_ChipMapModel_isIn  (M : Mm) (a1 : Int32) (a2 : Int32) : Rs := ix a1 26 <| if (M.1 23 (a1 : Int32).toNatClampNeg) = 0 then (some (M, 0)) else (ix a1 26 <| if (M.1 25 (a1 : Int32).toNatClampNeg) = a2 then (some (M, 1)) else (some (M, 0)))
set_option maxHeartbeats 4000000 in
set_option maxRecDepth 20000 in
theorem b_ChipMapModel_isIn_0 {p : Program} {l : Launch} {e : Env} {s s0 : State} {m : MethodId} {args : Array Value} {below : List Frame} {meth : Method} {c : Code} {D : va_G} {cI cZ cC cJ cA : ClassId} {P : Nat → Nat} {M' : Mm} {r' : Int32}  (hx : p.tables.exec = Jvm.exec) (hb : c.code = cX1_isIn) (hml : c.maxLocals = 3) (hr : meth.sig.returnType = (some .boolean)) (hlk : meth.locks = false) (hgt : ∀ w ∈ GT, w.before args s = true) (hown : s.vm.findClass RX1 = some m.cls) (hK : va_K D vwCl [(cI, .int), (cZ, .boolean), (cC, .char), (cJ, .long), (cA, .array .int)] s) (hO : Old s0 s) (hAO : ∀ q, (aP P 51) q → s0.heap.size ≤ q)  : ∀ (M : Mm) (a1 : Int32) (a2 : Int32) (H : Heap) (locs : List Loc) (ls : Array Slot), lv_has ls 3 [(0, .ref (P 0)), (1, .int a1), (2, .int a2)] → va_P D vwCl ((wY cI cZ cC cJ cA P) M) H → va_D (aP P 51) ((wY cI cZ cC cJ cA P) M) → va_S (aP P 51) s.heap H locs → q_ChipMapModel_isIn M a1 a2 = some (M', r') → W p l e ({ frames := 0, cells := 0, slots := 0, locals := 0 }) s m args below meth c H locs 0 0 (MQ below (gQi D (aP P 51) ((wY cI cZ cC cJ cA P) M') r') args s 0 0 (aP P 51)) (F0 m 0 ls []) := by
  intro M a1 a2 H locs ls hl hP hD hS h
  unfold q_ChipMapModel_isIn at h
  refine lv_aload_n hx hb dX1_isIn_0 rfl (lv_at hl 0 rfl) ?_
  refine va_get (D := D) (ci := 1) (v := .ref (P 23)) (C := RX1) (T := TX1) (N := 76) hx hb hgt iwX1 hown hK hP 0 gY_0 rfl 32 (Nat.le_of_ble_eq_true rfl) (hgt _ wd_4_233) (fun _ h9 => h9) rfl dX1_isIn_1 ?_
  refine lv_iload_n hx hb dX1_isIn_4 rfl (lv_at hl 1 rfl) ?_
  refine va_zald hx hb hK hP 23 1 gY_23 rfl (ix_l h) dX1_isIn_5 ?_
  have h := ix_r h
  refine lv_if_eq hx hb dX1_isIn_6 (tgt := 23) rfl (fun hc => ?_) (fun hc => ?_)
  · have h := br_T hc h
    refine lv_iconst (v := 0) hx hb dX1_isIn_23 (by decide) ?_
    exact rt_z (w := (wY cI cZ cC cJ cA P)) hx hb hr hlk rfl hP hD hS h dX1_isIn_24
  · have h := br_F hc h
    refine lv_aload_n hx hb dX1_isIn_9 rfl (lv_at hl 0 rfl) ?_
    refine va_get (D := D) (ci := 1) (v := .ref (P 25)) (C := RX1) (T := TX1) (N := 76) hx hb hgt iwX1 hown hK hP 0 gY_0 rfl 34 (Nat.le_of_ble_eq_true rfl) (hgt _ wd_4_235) (fun _ h9 => h9) rfl dX1_isIn_10 ?_
    refine lv_iload_n hx hb dX1_isIn_13 rfl (lv_at hl 1 rfl) ?_
    refine va_iald hx hb hK hP 25 0 gY_25 rfl (ix_l h) dX1_isIn_14 ?_
    have h := ix_r h
    refine lv_iload_n hx hb dX1_isIn_15 rfl (lv_at hl 2 rfl) ?_
    refine lv_icmp_ne hx hb dX1_isIn_16 (tgt := 23) rfl (fun hc => ?_) (fun hc => ?_)
    · have h := br_F hc h
      refine lv_iconst (v := 0) hx hb dX1_isIn_23 (by decide) ?_
      exact rt_z (w := (wY cI cZ cC cJ cA P)) hx hb hr hlk rfl hP hD hS h dX1_isIn_24
    · have h := br_T hc h
      refine lv_iconst (v := 1) hx hb dX1_isIn_19 (by decide) ?_
      refine lv_goto hx hb dX1_isIn_20 (tgt := 24) rfl ?_
      exact rt_z (w := (wY cI cZ cC cJ cA P)) hx hb hr hlk rfl hP hD hS h dX1_isIn_24
set_option maxHeartbeats 4000000 in
set_option maxRecDepth 20000 in
theorem z_ChipMapModel_isIn (l : Launch) (D : va_G) (cI cZ cC cJ cA : ClassId) (P : Nat → Nat) (s0 : State) (hAO : ∀ q, (aP P 51) q → s0.heap.size ≤ q) (M : Mm) (a1 : Int32) (a2 : Int32) (M' : Mm) (r' : Int32) (h : q_ChipMapModel_isIn M a1 a2 = some (M', r')) : Met l yX1_isIn wsX1_isIn ({ frames := 0, cells := 0, slots := 0, locals := 0 }) (va_Pc [.ref (P 0), .int a1, .int a2] (gPre s0 D [(cI, .int), (cZ, .boolean), (cC, .char), (cJ, .long), (cA, .array .int)] (aP P 51) ((wY cI cZ cC cJ cA P) M))) (gQi D (aP P 51) ((wY cI cZ cC cJ cA P) M') r') 0 0 (aP P 51) := by
  refine Met.ofW (cc := cX1_isIn) (maxL := 3) (ret := (some .boolean)) (by decide) rfl ?_
  intro p e s m args below meth c s₁ B hml hv
  obtain ⟨rfl, hP, hK, hD, hO⟩ := hv
  have hx := B.exec
  have hb := B.bytes
  have hr := B.returns
  have hlk := B.notSynchronized
  have hgt := fun w (h : w ∈ GT) => atoms_spec (ws := wsX1_isIn) B.pre w (List.mem_cons_of_mem _ h)
  have hown : s.vm.findClass RX1 = some m.cls := findClass_of_methodNamed B.named
  have hS : va_S (aP P 51) s.heap s.heap [] := va_S.rf
  have hl := lv_entry ([.ref (P 0), .int a1, .int a2]) (n := 3) (Nat.le_of_ble_eq_true rfl)
  rw [lg_entry_eq]
  generalize (lg_sl ([.ref (P 0), .int a1, .int a2]) ++ List.replicate (3 - (lg_sl ([.ref (P 0), .int a1, .int a2])).length) Slot.unset).toArray = ls at hl ⊢
  have hl : lv_has ls 3 [(0, .ref (P 0)), (1, .int a1), (2, .int a2)] := hl
  exact b_ChipMapModel_isIn_0 hx hb hml hr hlk hgt hown hK hO hAO M a1 a2 s.heap [] ls hl hP hD hS h
def q_ChipMapModel_part  (M : Mm) (a1 : Int32) (a2 : Int32) : Rs := ix a1 26 <| ix a1 26 <| some (M, (((a2 : Int32) >>> ((M.1 26 (a1 : Int32).toNatClampNeg) &&& 31)) &&& (((1 : Int32) <<< ((M.1 27 (a1 : Int32).toNatClampNeg) &&& 31)) - 1)))
set_option maxHeartbeats 4000000 in
set_option maxRecDepth 20000 in
theorem b_ChipMapModel_part_0 {p : Program} {l : Launch} {e : Env} {s s0 : State} {m : MethodId} {args : Array Value} {below : List Frame} {meth : Method} {c : Code} {D : va_G} {cI cZ cC cJ cA : ClassId} {P : Nat → Nat} {M' : Mm} {r' : Int32}  (hx : p.tables.exec = Jvm.exec) (hb : c.code = cX1_part) (hml : c.maxLocals = 3) (hr : meth.sig.returnType = (some .int)) (hlk : meth.locks = false) (hgt : ∀ w ∈ GT, w.before args s = true) (hown : s.vm.findClass RX1 = some m.cls) (hK : va_K D vwCl [(cI, .int), (cZ, .boolean), (cC, .char), (cJ, .long), (cA, .array .int)] s) (hO : Old s0 s) (hAO : ∀ q, (aP P 51) q → s0.heap.size ≤ q)  : ∀ (M : Mm) (a1 : Int32) (a2 : Int32) (H : Heap) (locs : List Loc) (ls : Array Slot), lv_has ls 3 [(0, .ref (P 0)), (1, .int a1), (2, .int a2)] → va_P D vwCl ((wY cI cZ cC cJ cA P) M) H → va_D (aP P 51) ((wY cI cZ cC cJ cA P) M) → va_S (aP P 51) s.heap H locs → q_ChipMapModel_part M a1 a2 = some (M', r') → W p l e ({ frames := 0, cells := 0, slots := 0, locals := 0 }) s m args below meth c H locs 0 0 (MQ below (gQi D (aP P 51) ((wY cI cZ cC cJ cA P) M') r') args s 0 0 (aP P 51)) (F0 m 0 ls []) := by
  intro M a1 a2 H locs ls hl hP hD hS h
  unfold q_ChipMapModel_part at h
  refine lv_iload_n hx hb dX1_part_0 rfl (lv_at hl 2 rfl) ?_
  refine lv_aload_n hx hb dX1_part_1 rfl (lv_at hl 0 rfl) ?_
  refine va_get (D := D) (ci := 1) (v := .ref (P 26)) (C := RX1) (T := TX1) (N := 76) hx hb hgt iwX1 hown hK hP 0 gY_0 rfl 35 (Nat.le_of_ble_eq_true rfl) (hgt _ wd_4_236) (fun _ h9 => h9) rfl dX1_part_2 ?_
  refine lv_iload_n hx hb dX1_part_5 rfl (lv_at hl 1 rfl) ?_
  refine va_iald hx hb hK hP 26 0 gY_26 rfl (ix_l h) dX1_part_6 ?_
  have h := ix_r h
  refine lv_ishr hx hb dX1_part_7 ?_
  refine lv_iconst (v := 1) hx hb dX1_part_8 (by decide) ?_
  refine lv_aload_n hx hb dX1_part_9 rfl (lv_at hl 0 rfl) ?_
  refine va_get (D := D) (ci := 1) (v := .ref (P 27)) (C := RX1) (T := TX1) (N := 76) hx hb hgt iwX1 hown hK hP 0 gY_0 rfl 36 (Nat.le_of_ble_eq_true rfl) (hgt _ wd_4_237) (fun _ h9 => h9) rfl dX1_part_10 ?_
  refine lv_iload_n hx hb dX1_part_13 rfl (lv_at hl 1 rfl) ?_
  refine va_iald hx hb hK hP 27 0 gY_27 rfl (ix_l h) dX1_part_14 ?_
  have h := ix_r h
  refine lv_ishl hx hb dX1_part_15 ?_
  refine lv_iconst (v := 1) hx hb dX1_part_16 (by decide) ?_
  refine lv_isub hx hb dX1_part_17 ?_
  refine lv_iand hx hb dX1_part_18 ?_
  exact rt_i (w := (wY cI cZ cC cJ cA P)) hx hb hr hlk hP hD hS h dX1_part_19
set_option maxHeartbeats 4000000 in
set_option maxRecDepth 20000 in
theorem z_ChipMapModel_part (l : Launch) (D : va_G) (cI cZ cC cJ cA : ClassId) (P : Nat → Nat) (s0 : State) (hAO : ∀ q, (aP P 51) q → s0.heap.size ≤ q) (M : Mm) (a1 : Int32) (a2 : Int32) (M' : Mm) (r' : Int32) (h : q_ChipMapModel_part M a1 a2 = some (M', r')) : Met l yX1_part wsX1_part ({ frames := 0, cells := 0, slots := 0, locals := 0 }) (va_Pc [.ref (P 0), .int a1, .int a2] (gPre s0 D [(cI, .int), (cZ, .boolean), (cC, .char), (cJ, .long), (cA, .array .int)] (aP P 51) ((wY cI cZ cC cJ cA P) M))) (gQi D (aP P 51) ((wY cI cZ cC cJ cA P) M') r') 0 0 (aP P 51) := by
  refine Met.ofW (cc := cX1_part) (maxL := 3) (ret := (some .int)) (by decide) rfl ?_
  intro p e s m args below meth c s₁ B hml hv
  obtain ⟨rfl, hP, hK, hD, hO⟩ := hv
  have hx := B.exec
  have hb := B.bytes
  have hr := B.returns
  have hlk := B.notSynchronized
  have hgt := fun w (h : w ∈ GT) => atoms_spec (ws := wsX1_part) B.pre w (List.mem_cons_of_mem _ h)
  have hown : s.vm.findClass RX1 = some m.cls := findClass_of_methodNamed B.named
  have hS : va_S (aP P 51) s.heap s.heap [] := va_S.rf
  have hl := lv_entry ([.ref (P 0), .int a1, .int a2]) (n := 3) (Nat.le_of_ble_eq_true rfl)
  rw [lg_entry_eq]
  generalize (lg_sl ([.ref (P 0), .int a1, .int a2]) ++ List.replicate (3 - (lg_sl ([.ref (P 0), .int a1, .int a2])).length) Slot.unset).toArray = ls at hl ⊢
  have hl : lv_has ls 3 [(0, .ref (P 0)), (1, .int a1), (2, .int a2)] := hl
  exact b_ChipMapModel_part_0 hx hb hml hr hlk hgt hown hK hO hAO M a1 a2 s.heap [] ls hl hP hD hS h
def q_ChipMapModel_isStored  (M : Mm) (a1 : Int32) : Rs := ix a1 26 <| if (M.1 24 (a1 : Int32).toNatClampNeg) = 119 then (some (M, 1)) else (ix a1 26 <| if (M.1 24 (a1 : Int32).toNatClampNeg) = 111 then (some (M, 1)) else (some (M, 0)))
set_option maxHeartbeats 4000000 in
set_option maxRecDepth 20000 in
theorem b_ChipMapModel_isStored_0 {p : Program} {l : Launch} {e : Env} {s s0 : State} {m : MethodId} {args : Array Value} {below : List Frame} {meth : Method} {c : Code} {D : va_G} {cI cZ cC cJ cA : ClassId} {P : Nat → Nat} {M' : Mm} {r' : Int32}  (hx : p.tables.exec = Jvm.exec) (hb : c.code = cX1_isStored) (hml : c.maxLocals = 2) (hr : meth.sig.returnType = (some .boolean)) (hlk : meth.locks = false) (hgt : ∀ w ∈ GT, w.before args s = true) (hown : s.vm.findClass RX1 = some m.cls) (hK : va_K D vwCl [(cI, .int), (cZ, .boolean), (cC, .char), (cJ, .long), (cA, .array .int)] s) (hO : Old s0 s) (hAO : ∀ q, (aP P 51) q → s0.heap.size ≤ q)  : ∀ (M : Mm) (a1 : Int32) (H : Heap) (locs : List Loc) (ls : Array Slot), lv_has ls 2 [(0, .ref (P 0)), (1, .int a1)] → va_P D vwCl ((wY cI cZ cC cJ cA P) M) H → va_D (aP P 51) ((wY cI cZ cC cJ cA P) M) → va_S (aP P 51) s.heap H locs → q_ChipMapModel_isStored M a1 = some (M', r') → W p l e ({ frames := 0, cells := 0, slots := 0, locals := 0 }) s m args below meth c H locs 0 0 (MQ below (gQi D (aP P 51) ((wY cI cZ cC cJ cA P) M') r') args s 0 0 (aP P 51)) (F0 m 0 ls []) := by
  intro M a1 H locs ls hl hP hD hS h
  unfold q_ChipMapModel_isStored at h
  refine lv_aload_n hx hb dX1_isStored_0 rfl (lv_at hl 0 rfl) ?_
  refine va_get (D := D) (ci := 1) (v := .ref (P 24)) (C := RX1) (T := TX1) (N := 76) hx hb hgt iwX1 hown hK hP 0 gY_0 rfl 33 (Nat.le_of_ble_eq_true rfl) (hgt _ wd_4_234) (fun _ h9 => h9) rfl dX1_isStored_1 ?_
  refine lv_iload_n hx hb dX1_isStored_4 rfl (lv_at hl 1 rfl) ?_
  refine va_iald hx hb hK hP 24 0 gY_24 rfl (ix_l h) dX1_isStored_5 ?_
  have h := ix_r h
  refine lv_bipush (v := 119) hx hb dX1_isStored_6 (by decide) ?_
  refine lv_icmp_eq hx hb dX1_isStored_8 (tgt := 22) rfl (fun hc => ?_) (fun hc => ?_)
  · have h := br_T hc h
    refine lv_iconst (v := 1) hx hb dX1_isStored_22 (by decide) ?_
    refine lv_goto hx hb dX1_isStored_23 (tgt := 27) rfl ?_
    exact rt_z (w := (wY cI cZ cC cJ cA P)) hx hb hr hlk rfl hP hD hS h dX1_isStored_27
  · have h := br_F hc h
    refine lv_aload_n hx hb dX1_isStored_11 rfl (lv_at hl 0 rfl) ?_
    refine va_get (D := D) (ci := 1) (v := .ref (P 24)) (C := RX1) (T := TX1) (N := 76) hx hb hgt iwX1 hown hK hP 0 gY_0 rfl 33 (Nat.le_of_ble_eq_true rfl) (hgt _ wd_4_234) (fun _ h9 => h9) rfl dX1_isStored_12 ?_
    refine lv_iload_n hx hb dX1_isStored_15 rfl (lv_at hl 1 rfl) ?_
    refine va_iald hx hb hK hP 24 0 gY_24 rfl (ix_l h) dX1_isStored_16 ?_
    have h := ix_r h
    refine lv_bipush (v := 111) hx hb dX1_isStored_17 (by decide) ?_
    refine lv_icmp_ne hx hb dX1_isStored_19 (tgt := 26) rfl (fun hc => ?_) (fun hc => ?_)
    · have h := br_F hc h
      refine lv_iconst (v := 0) hx hb dX1_isStored_26 (by decide) ?_
      exact rt_z (w := (wY cI cZ cC cJ cA P)) hx hb hr hlk rfl hP hD hS h dX1_isStored_27
    · have h := br_T hc h
      refine lv_iconst (v := 1) hx hb dX1_isStored_22 (by decide) ?_
      refine lv_goto hx hb dX1_isStored_23 (tgt := 27) rfl ?_
      exact rt_z (w := (wY cI cZ cC cJ cA P)) hx hb hr hlk rfl hP hD hS h dX1_isStored_27
set_option maxHeartbeats 4000000 in
set_option maxRecDepth 20000 in
theorem z_ChipMapModel_isStored (l : Launch) (D : va_G) (cI cZ cC cJ cA : ClassId) (P : Nat → Nat) (s0 : State) (hAO : ∀ q, (aP P 51) q → s0.heap.size ≤ q) (M : Mm) (a1 : Int32) (M' : Mm) (r' : Int32) (h : q_ChipMapModel_isStored M a1 = some (M', r')) : Met l yX1_isStored wsX1_isStored ({ frames := 0, cells := 0, slots := 0, locals := 0 }) (va_Pc [.ref (P 0), .int a1] (gPre s0 D [(cI, .int), (cZ, .boolean), (cC, .char), (cJ, .long), (cA, .array .int)] (aP P 51) ((wY cI cZ cC cJ cA P) M))) (gQi D (aP P 51) ((wY cI cZ cC cJ cA P) M') r') 0 0 (aP P 51) := by
  refine Met.ofW (cc := cX1_isStored) (maxL := 2) (ret := (some .boolean)) (by decide) rfl ?_
  intro p e s m args below meth c s₁ B hml hv
  obtain ⟨rfl, hP, hK, hD, hO⟩ := hv
  have hx := B.exec
  have hb := B.bytes
  have hr := B.returns
  have hlk := B.notSynchronized
  have hgt := fun w (h : w ∈ GT) => atoms_spec (ws := wsX1_isStored) B.pre w (List.mem_cons_of_mem _ h)
  have hown : s.vm.findClass RX1 = some m.cls := findClass_of_methodNamed B.named
  have hS : va_S (aP P 51) s.heap s.heap [] := va_S.rf
  have hl := lv_entry ([.ref (P 0), .int a1]) (n := 2) (Nat.le_of_ble_eq_true rfl)
  rw [lg_entry_eq]
  generalize (lg_sl ([.ref (P 0), .int a1]) ++ List.replicate (2 - (lg_sl ([.ref (P 0), .int a1])).length) Slot.unset).toArray = ls at hl ⊢
  have hl : lv_has ls 2 [(0, .ref (P 0)), (1, .int a1)] := hl
  exact b_ChipMapModel_isStored_0 hx hb hml hr hlk hgt hown hK hO hAO M a1 s.heap [] ls hl hP hD hS h
def q_ChipMapModel_isWritten  (M : Mm) (a1 : Int32) (a2 : Int32) (a3 : Int32) : Rs := cal (q_ChipMapModel_isIn M a1 a2) fun M1 r2 => if r2 = 0 then (some (M1, 0)) else (ix a1 26 <| if (M1.1 24 (a1 : Int32).toNatClampNeg) = 114 then (some (M1, 0)) else (ix a1 26 <| if (M1.1 24 (a1 : Int32).toNatClampNeg) = 99 then (some (M1, 0)) else (cal (q_ChipMapModel_part M1 a1 a3) fun M3 r4 => cal (q_ChipMapModel_isStored M3 a1) fun M5 r6 => if r6 = 0 then (if r4 = 0 then (some (M5, 0)) else (some (M5, 1))) else (ix a1 78 <| if r4 = (M5.1 33 (a1 : Int32).toNatClampNeg) then (some (M5, 0)) else (some (M5, 1))))))
set_option maxHeartbeats 4000000 in
set_option maxRecDepth 20000 in
theorem b_ChipMapModel_isWritten_0 {p : Program} {l : Launch} {e : Env} {s s0 : State} {m : MethodId} {args : Array Value} {below : List Frame} {meth : Method} {c : Code} {D : va_G} {cI cZ cC cJ cA : ClassId} {P : Nat → Nat} {M' : Mm} {r' : Int32}  (hx : p.tables.exec = Jvm.exec) (hb : c.code = cX1_isWritten) (hml : c.maxLocals = 5) (hr : meth.sig.returnType = (some .boolean)) (hlk : meth.locks = false) (hgt : ∀ w ∈ GT, w.before args s = true) (hown : s.vm.findClass RX1 = some m.cls) (hK : va_K D vwCl [(cI, .int), (cZ, .boolean), (cC, .char), (cJ, .long), (cA, .array .int)] s) (hO : Old s0 s) (hAO : ∀ q, (aP P 51) q → s0.heap.size ≤ q)  : ∀ (M : Mm) (a1 : Int32) (a2 : Int32) (a3 : Int32) (H : Heap) (locs : List Loc) (ls : Array Slot), lv_has ls 5 [(0, .ref (P 0)), (1, .int a1), (2, .int a2), (3, .int a3)] → va_P D vwCl ((wY cI cZ cC cJ cA P) M) H → va_D (aP P 51) ((wY cI cZ cC cJ cA P) M) → va_S (aP P 51) s.heap H locs → q_ChipMapModel_isWritten M a1 a2 a3 = some (M', r') → W p l e ({ frames := 1, cells := 0, slots := 0, locals := 22 }) s m args below meth c H locs 0 0 (MQ below (gQi D (aP P 51) ((wY cI cZ cC cJ cA P) M') r') args s 0 0 (aP P 51)) (F0 m 0 ls []) := by
  intro M a1 a2 a3 H locs ls hl hP hD hS h
  unfold q_ChipMapModel_isWritten at h
  refine lv_aload_n hx hb dX1_isWritten_0 rfl (lv_at hl 0 rfl) ?_
  refine lv_iload_n hx hb dX1_isWritten_1 rfl (lv_at hl 1 rfl) ?_
  refine lv_iload_n hx hb dX1_isWritten_2 rfl (lv_at hl 2 rfl) ?_
  obtain ⟨M1, r2, hq, h⟩ := cal_o h
  refine cx_i (va_runV (As := [.int a1, .int a2]) (rest := []) ⟨hx, hb, hml, hown, hgt⟩ (z_ChipMapModel_isIn l D cI cZ cC cJ cA P s0 hAO M a1 a2 M1 r2 hq) (cwV 2 hgt (gV wd_6_86 wd_6_88 sl__ChipMapModel____ChipMapModel___isIn____II_Z_____ChipMapModel___isIn____II_Z__ wd_0_15 wd_6_89) rfl rfl rfl (by decide +kernel) ⟨Nat.le_of_ble_eq_true rfl, Nat.le_of_ble_eq_true rfl⟩) (prV hP hK hD hO hAO hS (va_recv hK hP (ci := 1) (q0 := 0) rfl gY_0)) rfl rfl hl.1 rfl (lv_room (Nat.le_of_ble_eq_true rfl)) dX1_isWritten_3 ⟨Nat.le_of_ble_eq_true rfl, Nat.le_of_ble_eq_true rfl⟩) hS (fun H locs hP hD hS => ?_)
  refine lv_if_eq hx hb dX1_isWritten_6 (tgt := 31) rfl (fun hc => ?_) (fun hc => ?_)
  · have h := br_T hc h
    refine lv_iconst (v := 0) hx hb dX1_isWritten_31 (by decide) ?_
    exact rt_z (w := (wY cI cZ cC cJ cA P)) hx hb hr hlk rfl hP hD hS h dX1_isWritten_32
  · have h := br_F hc h
    refine lv_aload_n hx hb dX1_isWritten_9 rfl (lv_at hl 0 rfl) ?_
    refine va_get (D := D) (ci := 1) (v := .ref (P 24)) (C := RX1) (T := TX1) (N := 76) hx hb hgt iwX1 hown hK hP 0 gY_0 rfl 33 (Nat.le_of_ble_eq_true rfl) (hgt _ wd_4_234) (fun _ h9 => h9) rfl dX1_isWritten_10 ?_
    refine lv_iload_n hx hb dX1_isWritten_13 rfl (lv_at hl 1 rfl) ?_
    refine va_iald hx hb hK hP 24 0 gY_24 rfl (ix_l h) dX1_isWritten_14 ?_
    have h := ix_r h
    refine lv_bipush (v := 114) hx hb dX1_isWritten_15 (by decide) ?_
    refine lv_icmp_eq hx hb dX1_isWritten_17 (tgt := 31) rfl (fun hc => ?_) (fun hc => ?_)
    · have h := br_T hc h
      refine lv_iconst (v := 0) hx hb dX1_isWritten_31 (by decide) ?_
      exact rt_z (w := (wY cI cZ cC cJ cA P)) hx hb hr hlk rfl hP hD hS h dX1_isWritten_32
    · have h := br_F hc h
      refine lv_aload_n hx hb dX1_isWritten_20 rfl (lv_at hl 0 rfl) ?_
      refine va_get (D := D) (ci := 1) (v := .ref (P 24)) (C := RX1) (T := TX1) (N := 76) hx hb hgt iwX1 hown hK hP 0 gY_0 rfl 33 (Nat.le_of_ble_eq_true rfl) (hgt _ wd_4_234) (fun _ h9 => h9) rfl dX1_isWritten_21 ?_
      refine lv_iload_n hx hb dX1_isWritten_24 rfl (lv_at hl 1 rfl) ?_
      refine va_iald hx hb hK hP 24 0 gY_24 rfl (ix_l h) dX1_isWritten_25 ?_
      have h := ix_r h
      refine lv_bipush (v := 99) hx hb dX1_isWritten_26 (by decide) ?_
      refine lv_icmp_ne hx hb dX1_isWritten_28 (tgt := 33) rfl (fun hc => ?_) (fun hc => ?_)
      · have h := br_F hc h
        refine lv_aload_n hx hb dX1_isWritten_33 rfl (lv_at hl 0 rfl) ?_
        refine lv_iload_n hx hb dX1_isWritten_34 rfl (lv_at hl 1 rfl) ?_
        refine lv_iload_n hx hb dX1_isWritten_35 rfl (lv_at hl 3 rfl) ?_
        obtain ⟨M3, r4, hq, h⟩ := cal_o h
        refine cx_i (va_runV (As := [.int a1, .int a3]) (rest := []) ⟨hx, hb, hml, hown, hgt⟩ (z_ChipMapModel_part l D cI cZ cC cJ cA P s0 hAO M1 a1 a3 M3 r4 hq) (cwV 2 hgt (gV wd_6_90 wd_6_92 sl__ChipMapModel____ChipMapModel___part____II_I_____ChipMapModel___part____II_I__ wd_0_15 wd_6_93) rfl rfl rfl (by decide +kernel) ⟨Nat.le_of_ble_eq_true rfl, Nat.le_of_ble_eq_true rfl⟩) (prV hP hK hD hO hAO hS (va_recv hK hP (ci := 1) (q0 := 0) rfl gY_0)) rfl rfl hl.1 rfl (lv_room (Nat.le_of_ble_eq_true rfl)) dX1_isWritten_36 ⟨Nat.le_of_ble_eq_true rfl, Nat.le_of_ble_eq_true rfl⟩) hS (fun H locs hP hD hS => ?_)
        refine lv_istore hx hb dX1_isWritten_39 hl (Nat.le_of_ble_eq_true rfl) (lv' := [(4, .int r4), (0, .ref (P 0)), (1, .int a1), (2, .int a2), (3, .int a3)]) rfl (fun ls hl => ?_)
        refine lv_aload_n hx hb dX1_isWritten_41 rfl (lv_at hl 1 rfl) ?_
        refine lv_iload_n hx hb dX1_isWritten_42 rfl (lv_at hl 2 rfl) ?_
        obtain ⟨M5, r6, hq, h⟩ := cal_o h
        refine cx_i (va_runV (As := [.int a1]) (rest := []) ⟨hx, hb, hml, hown, hgt⟩ (z_ChipMapModel_isStored l D cI cZ cC cJ cA P s0 hAO M3 a1 M5 r6 hq) (cwV 1 hgt (gV wd_6_94 wd_6_96 sl__ChipMapModel____ChipMapModel___isStored____I_Z_____ChipMapModel___isStored____I_Z__ wd_0_15 wd_6_97) rfl rfl rfl (by decide +kernel) ⟨Nat.le_of_ble_eq_true rfl, Nat.le_of_ble_eq_true rfl⟩) (prV hP hK hD hO hAO hS (va_recv hK hP (ci := 1) (q0 := 0) rfl gY_0)) rfl rfl hl.1 rfl (lv_room (Nat.le_of_ble_eq_true rfl)) dX1_isWritten_43 ⟨Nat.le_of_ble_eq_true rfl, Nat.le_of_ble_eq_true rfl⟩) hS (fun H locs hP hD hS => ?_)
        refine lv_if_eq hx hb dX1_isWritten_46 (tgt := 68) rfl (fun hc => ?_) (fun hc => ?_)
        · have h := br_T hc h
          refine lv_iload hx hb dX1_isWritten_68 (lv_at hl 0 rfl) ?_
          refine lv_if_eq hx hb dX1_isWritten_70 (tgt := 77) rfl (fun hc => ?_) (fun hc => ?_)
          · have h := br_T hc h
            refine lv_iconst (v := 0) hx hb dX1_isWritten_77 (by decide) ?_
            exact rt_z (w := (wY cI cZ cC cJ cA P)) hx hb hr hlk rfl hP hD hS h dX1_isWritten_78
          · have h := br_F hc h
            refine lv_iconst (v := 1) hx hb dX1_isWritten_73 (by decide) ?_
            refine lv_goto hx hb dX1_isWritten_74 (tgt := 78) rfl ?_
            exact rt_z (w := (wY cI cZ cC cJ cA P)) hx hb hr hlk rfl hP hD hS h dX1_isWritten_78
        · have h := br_F hc h
          refine lv_iload hx hb dX1_isWritten_49 (lv_at hl 0 rfl) ?_
          refine lv_aload_n hx hb dX1_isWritten_51 rfl (lv_at hl 1 rfl) ?_
          refine va_get (D := D) (ci := 1) (v := .ref (P 33)) (C := RX1) (T := TX1) (N := 76) hx hb hgt iwX1 hown hK hP 0 gY_0 rfl 43 (Nat.le_of_ble_eq_true rfl) (hgt _ wd_5_4) (fun _ h9 => h9) rfl dX1_isWritten_52 ?_
          refine lv_iload_n hx hb dX1_isWritten_55 rfl (lv_at hl 2 rfl) ?_
          refine va_iald hx hb hK hP 33 0 gY_33 rfl (ix_l h) dX1_isWritten_56 ?_
          have h := ix_r h
          refine lv_icmp_eq hx hb dX1_isWritten_57 (tgt := 64) rfl (fun hc => ?_) (fun hc => ?_)
          · have h := br_T hc h
            refine lv_iconst (v := 0) hx hb dX1_isWritten_64 (by decide) ?_
            refine lv_goto hx hb dX1_isWritten_65 (tgt := 78) rfl ?_
            exact rt_z (w := (wY cI cZ cC cJ cA P)) hx hb hr hlk rfl hP hD hS h dX1_isWritten_78
          · have h := br_F hc h
            refine lv_iconst (v := 1) hx hb dX1_isWritten_60 (by decide) ?_
            refine lv_goto hx hb dX1_isWritten_61 (tgt := 78) rfl ?_
            exact rt_z (w := (wY cI cZ cC cJ cA P)) hx hb hr hlk rfl hP hD hS h dX1_isWritten_78
      · have h := br_T hc h
        refine lv_iconst (v := 0) hx hb dX1_isWritten_31 (by decide) ?_
        exact rt_z (w := (wY cI cZ cC cJ cA P)) hx hb hr hlk rfl hP hD hS h dX1_isWritten_32
set_option maxHeartbeats 4000000 in
set_option maxRecDepth 20000 in
theorem z_ChipMapModel_isWritten (l : Launch) (D : va_G) (cI cZ cC cJ cA : ClassId) (P : Nat → Nat) (s0 : State) (hAO : ∀ q, (aP P 51) q → s0.heap.size ≤ q) (M : Mm) (a1 : Int32) (a2 : Int32) (a3 : Int32) (M' : Mm) (r' : Int32) (h : q_ChipMapModel_isWritten M a1 a2 a3 = some (M', r')) : Met l yX1_isWritten wsX1_isWritten ({ frames := 1, cells := 0, slots := 0, locals := 22 }) (va_Pc [.ref (P 0), .int a1, .int a2, .int a3] (gPre s0 D [(cI, .int), (cZ, .boolean), (cC, .char), (cJ, .long), (cA, .array .int)] (aP P 51) ((wY cI cZ cC cJ cA P) M))) (gQi D (aP P 51) ((wY cI cZ cC cJ cA P) M') r') 0 0 (aP P 51) := by
  refine Met.ofW (cc := cX1_isWritten) (maxL := 5) (ret := (some .boolean)) (by decide) rfl ?_
  intro p e s m args below meth c s₁ B hml hv
  obtain ⟨rfl, hP, hK, hD, hO⟩ := hv
  have hx := B.exec
  have hb := B.bytes
  have hr := B.returns
  have hlk := B.notSynchronized
  have hgt := fun w (h : w ∈ GT) => atoms_spec (ws := wsX1_isWritten) B.pre w (List.mem_cons_of_mem _ h)
  have hown : s.vm.findClass RX1 = some m.cls := findClass_of_methodNamed B.named
  have hS : va_S (aP P 51) s.heap s.heap [] := va_S.rf
  have hl := lv_entry ([.ref (P 0), .int a1, .int a2, .int a3]) (n := 5) (Nat.le_of_ble_eq_true rfl)
  rw [lg_entry_eq]
  generalize (lg_sl ([.ref (P 0), .int a1, .int a2, .int a3]) ++ List.replicate (5 - (lg_sl ([.ref (P 0), .int a1, .int a2, .int a3])).length) Slot.unset).toArray = ls at hl ⊢
  have hl : lv_has ls 5 [(0, .ref (P 0)), (1, .int a1), (2, .int a2), (3, .int a3)] := hl
  exact b_ChipMapModel_isWritten_0 hx hb hml hr hlk hgt hown hK hO hAO M a1 a2 a3 s.heap [] ls hl hP hD hS h
def q_ChipMapModel_breaks  (M : Mm) (a1 : Int32) (a2 : Int32) (a3 : Int32) : Rs := ix a1 12 <| cal (q_ChipMapModel_isWritten M (M.1 30 (a1 : Int32).toNatClampNeg) a2 a3) fun M1 r2 => ix a1 12 <| cal (q_ChipMapModel_isWritten M1 (M1.1 31 (a1 : Int32).toNatClampNeg) a2 a3) fun M3 r4 => ix a1 12 <| if (M3.1 29 (a1 : Int32).toNatClampNeg) = 60 then (if r4 = 0 then (some (M3, 0)) else (ix a1 36 <| if (M3.1 36 (a1 : Int32).toNatClampNeg) = 0 then (some (M3, 1)) else (some (M3, 0)))) else (ix a1 12 <| if (M3.1 29 (a1 : Int32).toNatClampNeg) = 38 then (if r2 = 0 then (some (M3, 0)) else (ix a1 12 <| ix (M3.1 31 (a1 : Int32).toNatClampNeg) 78 <| ix a1 12 <| if (M3.1 33 ((M3.1 31 (a1 : Int32).toNatClampNeg) : Int32).toNatClampNeg) = (M3.1 32 (a1 : Int32).toNatClampNeg) then (some (M3, 0)) else (some (M3, 1)))) else (if r2 = 0 then (some (M3, 0)) else (ix a1 36 <| if (M3.1 36 (a1 : Int32).toNatClampNeg) = 0 then (some (M3, 0)) else (some (M3, 1)))))
set_option maxHeartbeats 4000000 in
set_option maxRecDepth 20000 in
theorem b_ChipMapModel_breaks_0 {p : Program} {l : Launch} {e : Env} {s s0 : State} {m : MethodId} {args : Array Value} {below : List Frame} {meth : Method} {c : Code} {D : va_G} {cI cZ cC cJ cA : ClassId} {P : Nat → Nat} {M' : Mm} {r' : Int32}  (hx : p.tables.exec = Jvm.exec) (hb : c.code = cX1_breaks) (hml : c.maxLocals = 6) (hr : meth.sig.returnType = (some .boolean)) (hlk : meth.locks = false) (hgt : ∀ w ∈ GT, w.before args s = true) (hown : s.vm.findClass RX1 = some m.cls) (hK : va_K D vwCl [(cI, .int), (cZ, .boolean), (cC, .char), (cJ, .long), (cA, .array .int)] s) (hO : Old s0 s) (hAO : ∀ q, (aP P 51) q → s0.heap.size ≤ q)  : ∀ (M : Mm) (a1 : Int32) (a2 : Int32) (a3 : Int32) (H : Heap) (locs : List Loc) (ls : Array Slot), lv_has ls 6 [(0, .ref (P 0)), (1, .int a1), (2, .int a2), (3, .int a3)] → va_P D vwCl ((wY cI cZ cC cJ cA P) M) H → va_D (aP P 51) ((wY cI cZ cC cJ cA P) M) → va_S (aP P 51) s.heap H locs → q_ChipMapModel_breaks M a1 a2 a3 = some (M', r') → W p l e ({ frames := 2, cells := 0, slots := 0, locals := 46 }) s m args below meth c H locs 0 0 (MQ below (gQi D (aP P 51) ((wY cI cZ cC cJ cA P) M') r') args s 0 0 (aP P 51)) (F0 m 0 ls []) := by
  intro M a1 a2 a3 H locs ls hl hP hD hS h
  unfold q_ChipMapModel_breaks at h
  refine lv_aload_n hx hb dX1_breaks_0 rfl (lv_at hl 0 rfl) ?_
  refine lv_aload_n hx hb dX1_breaks_1 rfl (lv_at hl 0 rfl) ?_
  refine va_get (D := D) (ci := 1) (v := .ref (P 30)) (C := RX1) (T := TX1) (N := 76) hx hb hgt iwX1 hown hK hP 0 gY_0 rfl 40 (Nat.le_of_ble_eq_true rfl) (hgt _ wd_5_1) (fun _ h9 => h9) rfl dX1_breaks_2 ?_
  refine lv_iload_n hx hb dX1_breaks_5 rfl (lv_at hl 1 rfl) ?_
  refine va_iald hx hb hK hP 30 0 gY_30 rfl (ix_l h) dX1_breaks_6 ?_
  have h := ix_r h
  refine lv_iload_n hx hb dX1_breaks_7 rfl (lv_at hl 2 rfl) ?_
  refine lv_iload_n hx hb dX1_breaks_8 rfl (lv_at hl 3 rfl) ?_
  obtain ⟨M1, r2, hq, h⟩ := cal_o h
  refine cx_i (va_runV (As := [.int (M.1 30 (a1 : Int32).toNatClampNeg), .int a2, .int a3]) (rest := []) ⟨hx, hb, hml, hown, hgt⟩ (z_ChipMapModel_isWritten l D cI cZ cC cJ cA P s0 hAO M (M.1 30 (a1 : Int32).toNatClampNeg) a2 a3 M1 r2 hq) (cwV 3 hgt (gV wd_6_82 wd_6_84 sl__ChipMapModel____ChipMapModel___isWritten____III_Z_____ChipMapModel___isWritten____III_Z__ wd_0_15 wd_6_85) rfl rfl rfl (by decide +kernel) ⟨Nat.le_of_ble_eq_true rfl, Nat.le_of_ble_eq_true rfl⟩) (prV hP hK hD hO hAO hS (va_recv hK hP (ci := 1) (q0 := 0) rfl gY_0)) rfl rfl hl.1 rfl (lv_room (Nat.le_of_ble_eq_true rfl)) dX1_breaks_9 ⟨Nat.le_of_ble_eq_true rfl, Nat.le_of_ble_eq_true rfl⟩) hS (fun H locs hP hD hS => ?_)
  refine lv_istore hx hb dX1_breaks_12 hl (Nat.le_of_ble_eq_true rfl) (lv' := [(4, .int r2), (0, .ref (P 0)), (1, .int a1), (2, .int a2), (3, .int a3)]) rfl (fun ls hl => ?_)
  refine lv_aload_n hx hb dX1_breaks_14 rfl (lv_at hl 1 rfl) ?_
  refine lv_aload_n hx hb dX1_breaks_15 rfl (lv_at hl 1 rfl) ?_
  refine va_get (D := D) (ci := 1) (v := .ref (P 31)) (C := RX1) (T := TX1) (N := 76) hx hb hgt iwX1 hown hK hP 0 gY_0 rfl 41 (Nat.le_of_ble_eq_true rfl) (hgt _ wd_5_2) (fun _ h9 => h9) rfl dX1_breaks_16 ?_
  refine lv_iload_n hx hb dX1_breaks_19 rfl (lv_at hl 2 rfl) ?_
  refine va_iald hx hb hK hP 31 0 gY_31 rfl (ix_l h) dX1_breaks_20 ?_
  have h := ix_r h
  refine lv_iload_n hx hb dX1_breaks_21 rfl (lv_at hl 3 rfl) ?_
  refine lv_iload_n hx hb dX1_breaks_22 rfl (lv_at hl 4 rfl) ?_
  obtain ⟨M3, r4, hq, h⟩ := cal_o h
  refine cx_i (va_runV (As := [.int (M1.1 31 (a1 : Int32).toNatClampNeg), .int a2, .int a3]) (rest := []) ⟨hx, hb, hml, hown, hgt⟩ (z_ChipMapModel_isWritten l D cI cZ cC cJ cA P s0 hAO M1 (M1.1 31 (a1 : Int32).toNatClampNeg) a2 a3 M3 r4 hq) (cwV 3 hgt (gV wd_6_82 wd_6_84 sl__ChipMapModel____ChipMapModel___isWritten____III_Z_____ChipMapModel___isWritten____III_Z__ wd_0_15 wd_6_85) rfl rfl rfl (by decide +kernel) ⟨Nat.le_of_ble_eq_true rfl, Nat.le_of_ble_eq_true rfl⟩) (prV hP hK hD hO hAO hS (va_recv hK hP (ci := 1) (q0 := 0) rfl gY_0)) rfl rfl hl.1 rfl (lv_room (Nat.le_of_ble_eq_true rfl)) dX1_breaks_23 ⟨Nat.le_of_ble_eq_true rfl, Nat.le_of_ble_eq_true rfl⟩) hS (fun H locs hP hD hS => ?_)
  refine lv_istore hx hb dX1_breaks_26 hl (Nat.le_of_ble_eq_true rfl) (lv' := [(5, .int r4), (4, .int r2), (0, .ref (P 0)), (1, .int a1), (2, .int a2), (3, .int a3)]) rfl (fun ls hl => ?_)
  refine lv_aload_n hx hb dX1_breaks_28 rfl (lv_at hl 2 rfl) ?_
  refine va_get (D := D) (ci := 1) (v := .ref (P 29)) (C := RX1) (T := TX1) (N := 76) hx hb hgt iwX1 hown hK hP 0 gY_0 rfl 39 (Nat.le_of_ble_eq_true rfl) (hgt _ wd_5_0) (fun _ h9 => h9) rfl dX1_breaks_29 ?_
  refine lv_iload_n hx hb dX1_breaks_32 rfl (lv_at hl 3 rfl) ?_
  refine va_iald hx hb hK hP 29 0 gY_29 rfl (ix_l h) dX1_breaks_33 ?_
  have h := ix_r h
  refine lv_bipush (v := 60) hx hb dX1_breaks_34 (by decide) ?_
  refine lv_icmp_ne hx hb dX1_breaks_36 (tgt := 59) rfl (fun hc => ?_) (fun hc => ?_)
  · have h := br_F hc h
    refine lv_aload_n hx hb dX1_breaks_59 rfl (lv_at hl 2 rfl) ?_
    refine va_get (D := D) (ci := 1) (v := .ref (P 29)) (C := RX1) (T := TX1) (N := 76) hx hb hgt iwX1 hown hK hP 0 gY_0 rfl 39 (Nat.le_of_ble_eq_true rfl) (hgt _ wd_5_0) (fun _ h9 => h9) rfl dX1_breaks_60 ?_
    refine lv_iload_n hx hb dX1_breaks_63 rfl (lv_at hl 3 rfl) ?_
    refine va_iald hx hb hK hP 29 0 gY_29 rfl (ix_l h) dX1_breaks_64 ?_
    have h := ix_r h
    refine lv_bipush (v := 38) hx hb dX1_breaks_65 (by decide) ?_
    refine lv_icmp_ne hx hb dX1_breaks_67 (tgt := 101) rfl (fun hc => ?_) (fun hc => ?_)
    · have h := br_F hc h
      refine lv_iload hx hb dX1_breaks_101 (lv_at hl 1 rfl) ?_
      refine lv_if_eq hx hb dX1_breaks_103 (tgt := 119) rfl (fun hc => ?_) (fun hc => ?_)
      · have h := br_T hc h
        refine lv_iconst (v := 0) hx hb dX1_breaks_119 (by decide) ?_
        exact rt_z (w := (wY cI cZ cC cJ cA P)) hx hb hr hlk rfl hP hD hS h dX1_breaks_120
      · have h := br_F hc h
        refine lv_aload_n hx hb dX1_breaks_106 rfl (lv_at hl 2 rfl) ?_
        refine va_get (D := D) (ci := 1) (v := .ref (P 36)) (C := RX1) (T := TX1) (N := 76) hx hb hgt iwX1 hown hK hP 0 gY_0 rfl 46 (Nat.le_of_ble_eq_true rfl) (hgt _ wd_5_7) (fun _ h9 => h9) rfl dX1_breaks_107 ?_
        refine lv_iload_n hx hb dX1_breaks_110 rfl (lv_at hl 3 rfl) ?_
        refine va_zald hx hb hK hP 36 1 gY_36 rfl (ix_l h) dX1_breaks_111 ?_
        have h := ix_r h
        refine lv_if_eq hx hb dX1_breaks_112 (tgt := 119) rfl (fun hc => ?_) (fun hc => ?_)
        · have h := br_T hc h
          refine lv_iconst (v := 0) hx hb dX1_breaks_119 (by decide) ?_
          exact rt_z (w := (wY cI cZ cC cJ cA P)) hx hb hr hlk rfl hP hD hS h dX1_breaks_120
        · have h := br_F hc h
          refine lv_iconst (v := 1) hx hb dX1_breaks_115 (by decide) ?_
          refine lv_goto hx hb dX1_breaks_116 (tgt := 120) rfl ?_
          exact rt_z (w := (wY cI cZ cC cJ cA P)) hx hb hr hlk rfl hP hD hS h dX1_breaks_120
    · have h := br_T hc h
      refine lv_iload hx hb dX1_breaks_70 (lv_at hl 1 rfl) ?_
      refine lv_if_eq hx hb dX1_breaks_72 (tgt := 99) rfl (fun hc => ?_) (fun hc => ?_)
      · have h := br_T hc h
        refine lv_iconst (v := 0) hx hb dX1_breaks_99 (by decide) ?_
        exact rt_z (w := (wY cI cZ cC cJ cA P)) hx hb hr hlk rfl hP hD hS h dX1_breaks_100
      · have h := br_F hc h
        refine lv_aload_n hx hb dX1_breaks_75 rfl (lv_at hl 2 rfl) ?_
        refine va_get (D := D) (ci := 1) (v := .ref (P 33)) (C := RX1) (T := TX1) (N := 76) hx hb hgt iwX1 hown hK hP 0 gY_0 rfl 43 (Nat.le_of_ble_eq_true rfl) (hgt _ wd_5_4) (fun _ h9 => h9) rfl dX1_breaks_76 ?_
        refine lv_aload_n hx hb dX1_breaks_79 rfl (lv_at hl 2 rfl) ?_
        refine va_get (D := D) (ci := 1) (v := .ref (P 31)) (C := RX1) (T := TX1) (N := 76) hx hb hgt iwX1 hown hK hP 0 gY_0 rfl 41 (Nat.le_of_ble_eq_true rfl) (hgt _ wd_5_2) (fun _ h9 => h9) rfl dX1_breaks_80 ?_
        refine lv_iload_n hx hb dX1_breaks_83 rfl (lv_at hl 3 rfl) ?_
        refine va_iald hx hb hK hP 31 0 gY_31 rfl (ix_l h) dX1_breaks_84 ?_
        have h := ix_r h
        refine va_iald hx hb hK hP 33 0 gY_33 rfl (ix_l h) dX1_breaks_85 ?_
        have h := ix_r h
        refine lv_aload_n hx hb dX1_breaks_86 rfl (lv_at hl 2 rfl) ?_
        refine va_get (D := D) (ci := 1) (v := .ref (P 32)) (C := RX1) (T := TX1) (N := 76) hx hb hgt iwX1 hown hK hP 0 gY_0 rfl 42 (Nat.le_of_ble_eq_true rfl) (hgt _ wd_5_3) (fun _ h9 => h9) rfl dX1_breaks_87 ?_
        refine lv_iload_n hx hb dX1_breaks_90 rfl (lv_at hl 3 rfl) ?_
        refine va_iald hx hb hK hP 32 0 gY_32 rfl (ix_l h) dX1_breaks_91 ?_
        have h := ix_r h
        refine lv_icmp_eq hx hb dX1_breaks_92 (tgt := 99) rfl (fun hc => ?_) (fun hc => ?_)
        · have h := br_T hc h
          refine lv_iconst (v := 0) hx hb dX1_breaks_99 (by decide) ?_
          exact rt_z (w := (wY cI cZ cC cJ cA P)) hx hb hr hlk rfl hP hD hS h dX1_breaks_100
        · have h := br_F hc h
          refine lv_iconst (v := 1) hx hb dX1_breaks_95 (by decide) ?_
          refine lv_goto hx hb dX1_breaks_96 (tgt := 100) rfl ?_
          exact rt_z (w := (wY cI cZ cC cJ cA P)) hx hb hr hlk rfl hP hD hS h dX1_breaks_100
  · have h := br_T hc h
    refine lv_iload hx hb dX1_breaks_39 (lv_at hl 0 rfl) ?_
    refine lv_if_eq hx hb dX1_breaks_41 (tgt := 57) rfl (fun hc => ?_) (fun hc => ?_)
    · have h := br_T hc h
      refine lv_iconst (v := 0) hx hb dX1_breaks_57 (by decide) ?_
      exact rt_z (w := (wY cI cZ cC cJ cA P)) hx hb hr hlk rfl hP hD hS h dX1_breaks_58
    · have h := br_F hc h
      refine lv_aload_n hx hb dX1_breaks_44 rfl (lv_at hl 2 rfl) ?_
      refine va_get (D := D) (ci := 1) (v := .ref (P 36)) (C := RX1) (T := TX1) (N := 76) hx hb hgt iwX1 hown hK hP 0 gY_0 rfl 46 (Nat.le_of_ble_eq_true rfl) (hgt _ wd_5_7) (fun _ h9 => h9) rfl dX1_breaks_45 ?_
      refine lv_iload_n hx hb dX1_breaks_48 rfl (lv_at hl 3 rfl) ?_
      refine va_zald hx hb hK hP 36 1 gY_36 rfl (ix_l h) dX1_breaks_49 ?_
      have h := ix_r h
      refine lv_if_ne hx hb dX1_breaks_50 (tgt := 57) rfl (fun hc => ?_) (fun hc => ?_)
      · have h := br_F hc h
        refine lv_iconst (v := 0) hx hb dX1_breaks_57 (by decide) ?_
        exact rt_z (w := (wY cI cZ cC cJ cA P)) hx hb hr hlk rfl hP hD hS h dX1_breaks_58
      · have h := br_T hc h
        refine lv_iconst (v := 1) hx hb dX1_breaks_53 (by decide) ?_
        refine lv_goto hx hb dX1_breaks_54 (tgt := 58) rfl ?_
        exact rt_z (w := (wY cI cZ cC cJ cA P)) hx hb hr hlk rfl hP hD hS h dX1_breaks_58
set_option maxHeartbeats 4000000 in
set_option maxRecDepth 20000 in
theorem z_ChipMapModel_breaks (l : Launch) (D : va_G) (cI cZ cC cJ cA : ClassId) (P : Nat → Nat) (s0 : State) (hAO : ∀ q, (aP P 51) q → s0.heap.size ≤ q) (M : Mm) (a1 : Int32) (a2 : Int32) (a3 : Int32) (M' : Mm) (r' : Int32) (h : q_ChipMapModel_breaks M a1 a2 a3 = some (M', r')) : Met l yX1_breaks wsX1_breaks ({ frames := 2, cells := 0, slots := 0, locals := 46 }) (va_Pc [.ref (P 0), .int a1, .int a2, .int a3] (gPre s0 D [(cI, .int), (cZ, .boolean), (cC, .char), (cJ, .long), (cA, .array .int)] (aP P 51) ((wY cI cZ cC cJ cA P) M))) (gQi D (aP P 51) ((wY cI cZ cC cJ cA P) M') r') 0 0 (aP P 51) := by
  refine Met.ofW (cc := cX1_breaks) (maxL := 6) (ret := (some .boolean)) (by decide) rfl ?_
  intro p e s m args below meth c s₁ B hml hv
  obtain ⟨rfl, hP, hK, hD, hO⟩ := hv
  have hx := B.exec
  have hb := B.bytes
  have hr := B.returns
  have hlk := B.notSynchronized
  have hgt := fun w (h : w ∈ GT) => atoms_spec (ws := wsX1_breaks) B.pre w (List.mem_cons_of_mem _ h)
  have hown : s.vm.findClass RX1 = some m.cls := findClass_of_methodNamed B.named
  have hS : va_S (aP P 51) s.heap s.heap [] := va_S.rf
  have hl := lv_entry ([.ref (P 0), .int a1, .int a2, .int a3]) (n := 6) (Nat.le_of_ble_eq_true rfl)
  rw [lg_entry_eq]
  generalize (lg_sl ([.ref (P 0), .int a1, .int a2, .int a3]) ++ List.replicate (6 - (lg_sl ([.ref (P 0), .int a1, .int a2, .int a3])).length) Slot.unset).toArray = ls at hl ⊢
  have hl : lv_has ls 6 [(0, .ref (P 0)), (1, .int a1), (2, .int a2), (3, .int a3)] := hl
  exact b_ChipMapModel_breaks_0 hx hb hml hr hlk hgt hown hK hO hAO M a1 a2 a3 s.heap [] ls hl hP hD hS h
def q_ChipMapModel_firstBroken_2  : Nat → Mm → Int32 → Int32 → Int32 → Rs
  | 0, _, _, _, _ => none
  | n' + 1, M, v1, v2, v3 => if (M.1 0 38) ≤ v3 then (some (M, (-1))) else (cal (q_ChipMapModel_breaks M v3 v1 v2) fun M1 r2 => if r2 = 0 then (q_ChipMapModel_firstBroken_2 n' M1 v1 v2 (v3 + 1)) else (some (M1, v3)))
def q_ChipMapModel_firstBroken  (M : Mm) (a1 : Int32) (a2 : Int32) : Rs := q_ChipMapModel_firstBroken_2 4000 M a1 a2 0
set_option maxHeartbeats 4000000 in
set_option maxRecDepth 20000 in
theorem b_ChipMapModel_firstBroken_2 {p : Program} {l : Launch} {e : Env} {s s0 : State} {m : MethodId} {args : Array Value} {below : List Frame} {meth : Method} {c : Code} {D : va_G} {cI cZ cC cJ cA : ClassId} {P : Nat → Nat} {M' : Mm} {r' : Int32}  (hx : p.tables.exec = Jvm.exec) (hb : c.code = cX1_firstBroken) (hml : c.maxLocals = 4) (hr : meth.sig.returnType = (some .int)) (hlk : meth.locks = false) (hgt : ∀ w ∈ GT, w.before args s = true) (hown : s.vm.findClass RX1 = some m.cls) (hK : va_K D vwCl [(cI, .int), (cZ, .boolean), (cC, .char), (cJ, .long), (cA, .array .int)] s) (hO : Old s0 s) (hAO : ∀ q, (aP P 51) q → s0.heap.size ≤ q)  : ∀ (n' : Nat) (M : Mm) (v1 : Int32) (v2 : Int32) (v3 : Int32) (H : Heap) (locs : List Loc) (ls : Array Slot), lv_has ls 4 [(0, .ref (P 0)), (1, .int v1), (2, .int v2), (3, .int v3)] → va_P D vwCl ((wY cI cZ cC cJ cA P) M) H → va_D (aP P 51) ((wY cI cZ cC cJ cA P) M) → va_S (aP P 51) s.heap H locs → q_ChipMapModel_firstBroken_2 n' M v1 v2 v3 = some (M', r') → W p l e ({ frames := 3, cells := 0, slots := 0, locals := 71 }) s m args below meth c H locs 0 0 (MQ below (gQi D (aP P 51) ((wY cI cZ cC cJ cA P) M') r') args s 0 0 (aP P 51)) (F0 m 2 ls []) := by
  intro n'
  induction n' with
  | zero => exact fun _ _ _ _ _ _ _ _ _ _ _ h => (rs_n h).elim
  | succ n' ih =>
    intro M v1 v2 v3 H locs ls hl hP hD hS h
    rw [q_ChipMapModel_firstBroken_2] at h
    refine lv_iload_n hx hb dX1_firstBroken_2 rfl (lv_at hl 3 rfl) ?_
    refine lv_aload_n hx hb dX1_firstBroken_3 rfl (lv_at hl 0 rfl) ?_
    refine va_get (D := D) (ci := 1) (v := .int (M.1 0 38)) (C := RX1) (T := TX1) (N := 76) hx hb hgt iwX1 hown hK hP 0 gY_0 rfl 38 (Nat.le_of_ble_eq_true rfl) (hgt _ wd_4_239) (fun _ h9 => h9) rfl dX1_firstBroken_4 ?_
    refine lv_icmp_ge hx hb dX1_firstBroken_7 (tgt := 28) rfl (fun hc => ?_) (fun hc => ?_)
    · have h := br_T hc h
      refine lv_iconst (v := (-1)) hx hb dX1_firstBroken_28 (by decide) ?_
      exact rt_i (w := (wY cI cZ cC cJ cA P)) hx hb hr hlk hP hD hS h dX1_firstBroken_29
    · have h := br_F hc h
      refine lv_aload_n hx hb dX1_firstBroken_10 rfl (lv_at hl 0 rfl) ?_
      refine lv_iload_n hx hb dX1_firstBroken_11 rfl (lv_at hl 3 rfl) ?_
      refine lv_iload_n hx hb dX1_firstBroken_12 rfl (lv_at hl 1 rfl) ?_
      refine lv_iload_n hx hb dX1_firstBroken_13 rfl (lv_at hl 2 rfl) ?_
      obtain ⟨M1, r2, hq, h⟩ := cal_o h
      refine cx_i (va_runV (As := [.int v3, .int v1, .int v2]) (rest := []) ⟨hx, hb, hml, hown, hgt⟩ (z_ChipMapModel_breaks l D cI cZ cC cJ cA P s0 hAO M v3 v1 v2 M1 r2 hq) (cwV 3 hgt (gV wd_6_78 wd_6_80 sl__ChipMapModel____ChipMapModel___breaks____III_Z_____ChipMapModel___breaks____III_Z__ wd_0_15 wd_6_81) rfl rfl rfl (by decide +kernel) ⟨Nat.le_of_ble_eq_true rfl, Nat.le_of_ble_eq_true rfl⟩) (prV hP hK hD hO hAO hS (va_recv hK hP (ci := 1) (q0 := 0) rfl gY_0)) rfl rfl hl.1 rfl (lv_room (Nat.le_of_ble_eq_true rfl)) dX1_firstBroken_14 ⟨Nat.le_of_ble_eq_true rfl, Nat.le_of_ble_eq_true rfl⟩) hS (fun H locs hP hD hS => ?_)
      refine lv_if_eq hx hb dX1_firstBroken_17 (tgt := 22) rfl (fun hc => ?_) (fun hc => ?_)
      · have h := br_T hc h
        refine lv_iinc (v := (v3 + 1)) hx hb dX1_firstBroken_22 hl (k := 3) rfl rfl (Nat.le_of_ble_eq_true rfl) (lv' := [(3, .int (v3 + 1)), (0, .ref (P 0)), (1, .int v1), (2, .int v2)]) rfl (fun ls hl => ?_)
        refine lv_goto hx hb dX1_firstBroken_25 (tgt := 2) rfl ?_
        have hl := lv_sub hl [1, 2, 3, 0] (l' := [(0, .ref (P 0)), (1, .int v1), (2, .int v2), (3, .int (v3 + 1))]) rfl
        exact ih M1 v1 v2 (v3 + 1) H locs ls hl hP hD hS h
      · have h := br_F hc h
        refine lv_iload_n hx hb dX1_firstBroken_20 rfl (lv_at hl 3 rfl) ?_
        exact rt_i (w := (wY cI cZ cC cJ cA P)) hx hb hr hlk hP hD hS h dX1_firstBroken_21
set_option maxHeartbeats 4000000 in
set_option maxRecDepth 20000 in
theorem b_ChipMapModel_firstBroken_0 {p : Program} {l : Launch} {e : Env} {s s0 : State} {m : MethodId} {args : Array Value} {below : List Frame} {meth : Method} {c : Code} {D : va_G} {cI cZ cC cJ cA : ClassId} {P : Nat → Nat} {M' : Mm} {r' : Int32}  (hx : p.tables.exec = Jvm.exec) (hb : c.code = cX1_firstBroken) (hml : c.maxLocals = 4) (hr : meth.sig.returnType = (some .int)) (hlk : meth.locks = false) (hgt : ∀ w ∈ GT, w.before args s = true) (hown : s.vm.findClass RX1 = some m.cls) (hK : va_K D vwCl [(cI, .int), (cZ, .boolean), (cC, .char), (cJ, .long), (cA, .array .int)] s) (hO : Old s0 s) (hAO : ∀ q, (aP P 51) q → s0.heap.size ≤ q)  : ∀ (M : Mm) (a1 : Int32) (a2 : Int32) (H : Heap) (locs : List Loc) (ls : Array Slot), lv_has ls 4 [(0, .ref (P 0)), (1, .int a1), (2, .int a2)] → va_P D vwCl ((wY cI cZ cC cJ cA P) M) H → va_D (aP P 51) ((wY cI cZ cC cJ cA P) M) → va_S (aP P 51) s.heap H locs → q_ChipMapModel_firstBroken M a1 a2 = some (M', r') → W p l e ({ frames := 3, cells := 0, slots := 0, locals := 71 }) s m args below meth c H locs 0 0 (MQ below (gQi D (aP P 51) ((wY cI cZ cC cJ cA P) M') r') args s 0 0 (aP P 51)) (F0 m 0 ls []) := by
  intro M a1 a2 H locs ls hl hP hD hS h
  unfold q_ChipMapModel_firstBroken at h
  refine lv_iconst (v := 0) hx hb dX1_firstBroken_0 (by decide) ?_
  refine lv_istore_n hx hb dX1_firstBroken_1 rfl hl (Nat.le_of_ble_eq_true rfl) (lv' := [(3, .int 0), (0, .ref (P 0)), (1, .int a1), (2, .int a2)]) rfl (fun ls hl => ?_)
  have hl := lv_sub hl [1, 2, 3, 0] (l' := [(0, .ref (P 0)), (1, .int a1), (2, .int a2), (3, .int 0)]) rfl
  exact b_ChipMapModel_firstBroken_2 hx hb hml hr hlk hgt hown hK hO hAO 4000 M a1 a2 0 H _ ls hl hP hD hS h
set_option maxHeartbeats 4000000 in
set_option maxRecDepth 20000 in
theorem z_ChipMapModel_firstBroken (l : Launch) (D : va_G) (cI cZ cC cJ cA : ClassId) (P : Nat → Nat) (s0 : State) (hAO : ∀ q, (aP P 51) q → s0.heap.size ≤ q) (M : Mm) (a1 : Int32) (a2 : Int32) (M' : Mm) (r' : Int32) (h : q_ChipMapModel_firstBroken M a1 a2 = some (M', r')) : Met l yX1_firstBroken wsX1_firstBroken ({ frames := 3, cells := 0, slots := 0, locals := 71 }) (va_Pc [.ref (P 0), .int a1, .int a2] (gPre s0 D [(cI, .int), (cZ, .boolean), (cC, .char), (cJ, .long), (cA, .array .int)] (aP P 51) ((wY cI cZ cC cJ cA P) M))) (gQi D (aP P 51) ((wY cI cZ cC cJ cA P) M') r') 0 0 (aP P 51) := by
  refine Met.ofW (cc := cX1_firstBroken) (maxL := 4) (ret := (some .int)) (by decide) rfl ?_
  intro p e s m args below meth c s₁ B hml hv
  obtain ⟨rfl, hP, hK, hD, hO⟩ := hv
  have hx := B.exec
  have hb := B.bytes
  have hr := B.returns
  have hlk := B.notSynchronized
  have hgt := fun w (h : w ∈ GT) => atoms_spec (ws := wsX1_firstBroken) B.pre w (List.mem_cons_of_mem _ h)
  have hown : s.vm.findClass RX1 = some m.cls := findClass_of_methodNamed B.named
  have hS : va_S (aP P 51) s.heap s.heap [] := va_S.rf
  have hl := lv_entry ([.ref (P 0), .int a1, .int a2]) (n := 4) (Nat.le_of_ble_eq_true rfl)
  rw [lg_entry_eq]
  generalize (lg_sl ([.ref (P 0), .int a1, .int a2]) ++ List.replicate (4 - (lg_sl ([.ref (P 0), .int a1, .int a2])).length) Slot.unset).toArray = ls at hl ⊢
  have hl : lv_has ls 4 [(0, .ref (P 0)), (1, .int a1), (2, .int a2)] := hl
  exact b_ChipMapModel_firstBroken_0 hx hb hml hr hlk hgt hown hK hO hAO M a1 a2 s.heap [] ls hl hP hD hS h
