section
def q_ChipMapModel_memoryWord_29 (kf4 : Mm → Int32 → Int32 → Rs) (M : Mm) (v2 : Int32) (t0 : Int32) (t1 : Int32) : Rs := lt' (t1 ||| t0) fun x1 => kf4 M x1 (v2 + 1)
def q_ChipMapModel_memoryWord_4  : Nat → Mm → Int32 → Int32 → Rs
  | 0, _, _, _ => none
  | n' + 1, M, v1, v2 => if (M.1 0 38) ≤ v2 then (some (M, v1)) else (ix v2 36 <| if (M.1 36 (v2 : Int32).toNatClampNeg) = 0 then (q_ChipMapModel_memoryWord_29 (q_ChipMapModel_memoryWord_4 n') M v2 0 v1) else (q_ChipMapModel_memoryWord_29 (q_ChipMapModel_memoryWord_4 n') M v2 ((1 : Int32) <<< (v2 &&& 31)) v1))
def q_ChipMapModel_memoryWord  (M : Mm)  : Rs := q_ChipMapModel_memoryWord_4 4000 M 0 0
set_option maxHeartbeats 4000000 in
set_option maxRecDepth 20000 in
theorem b_ChipMapModel_memoryWord_29 {p : Program} {l : Launch} {e : Env} {s s0 : State} {m : MethodId} {args : Array Value} {below : List Frame} {meth : Method} {c : Code} {D : va_G} {cI cZ cC cJ cA : ClassId} {P : Nat → Nat} {M' : Mm} {r' : Int32} {kf4 : Mm → Int32 → Int32 → Rs} (hx : p.tables.exec = Jvm.exec) (hb : c.code = cX1_memoryWord) (hml : c.maxLocals = 3) (hr : meth.sig.returnType = (some .int)) (hlk : meth.locks = false) (hgt : ∀ w ∈ GT, w.before args s = true) (hown : s.vm.findClass RX1 = some m.cls) (hK : va_K D vwCl [(cI, .int), (cZ, .boolean), (cC, .char), (cJ, .long), (cA, .array .int)] s) (hO : Old s0 s) (hAO : ∀ q, (aP P 51) q → s0.heap.size ≤ q) (kk4 : ∀ (M : Mm) (v1 : Int32) (v2 : Int32) (H : Heap) (locs : List Loc) (ls : Array Slot), lv_has ls 3 [(0, .ref (P 0)), (1, .int v1), (2, .int v2)] → va_P D vwCl ((wY cI cZ cC cJ cA P) M) H → va_D (aP P 51) ((wY cI cZ cC cJ cA P) M) → va_S (aP P 51) s.heap H locs → kf4 M v1 v2 = some (M', r') → W p l e ({ frames := 0, cells := 0, slots := 0, locals := 0 }) s m args below meth c H locs 0 0 (MQ below (gQi D (aP P 51) ((wY cI cZ cC cJ cA P) M') r') args s 0 0 (aP P 51)) (F0 m 4 ls [])) : ∀ (M : Mm) (v2 : Int32) (t0 : Int32) (t1 : Int32) (H : Heap) (locs : List Loc) (ls : Array Slot), lv_has ls 3 [(0, .ref (P 0)), (2, .int v2)] → va_P D vwCl ((wY cI cZ cC cJ cA P) M) H → va_D (aP P 51) ((wY cI cZ cC cJ cA P) M) → va_S (aP P 51) s.heap H locs → q_ChipMapModel_memoryWord_29 kf4 M v2 t0 t1 = some (M', r') → W p l e ({ frames := 0, cells := 0, slots := 0, locals := 0 }) s m args below meth c H locs 0 0 (MQ below (gQi D (aP P 51) ((wY cI cZ cC cJ cA P) M') r') args s 0 0 (aP P 51)) (F0 m 29 ls [.int t0, .int t1]) := by
  intro M v2 t0 t1 H locs ls hl hP hD hS h
  unfold q_ChipMapModel_memoryWord_29 at h
  refine lv_ior hx hb dX1_memoryWord_29 ?_
  refine lv_topi (fun x1 ex1 => ?_)
  have h := lt_o ex1 h
  refine lv_istore_n hx hb dX1_memoryWord_30 rfl hl (Nat.le_of_ble_eq_true rfl) (lv' := [(1, .int x1), (0, .ref (P 0)), (2, .int v2)]) rfl (fun ls hl => ?_)
  refine lv_iinc (v := (v2 + 1)) hx hb dX1_memoryWord_31 hl (k := 2) rfl rfl (Nat.le_of_ble_eq_true rfl) (lv' := [(2, .int (v2 + 1)), (1, .int x1), (0, .ref (P 0))]) rfl (fun ls hl => ?_)
  refine lv_goto hx hb dX1_memoryWord_34 (tgt := 4) rfl ?_
  have hl := lv_sub hl [2, 1, 0] (l' := [(0, .ref (P 0)), (1, .int x1), (2, .int (v2 + 1))]) rfl
  exact kk4 M x1 (v2 + 1) H locs ls hl hP hD hS h
set_option maxHeartbeats 4000000 in
set_option maxRecDepth 20000 in
theorem b_ChipMapModel_memoryWord_4 {p : Program} {l : Launch} {e : Env} {s s0 : State} {m : MethodId} {args : Array Value} {below : List Frame} {meth : Method} {c : Code} {D : va_G} {cI cZ cC cJ cA : ClassId} {P : Nat → Nat} {M' : Mm} {r' : Int32}  (hx : p.tables.exec = Jvm.exec) (hb : c.code = cX1_memoryWord) (hml : c.maxLocals = 3) (hr : meth.sig.returnType = (some .int)) (hlk : meth.locks = false) (hgt : ∀ w ∈ GT, w.before args s = true) (hown : s.vm.findClass RX1 = some m.cls) (hK : va_K D vwCl [(cI, .int), (cZ, .boolean), (cC, .char), (cJ, .long), (cA, .array .int)] s) (hO : Old s0 s) (hAO : ∀ q, (aP P 51) q → s0.heap.size ≤ q)  : ∀ (n' : Nat) (M : Mm) (v1 : Int32) (v2 : Int32) (H : Heap) (locs : List Loc) (ls : Array Slot), lv_has ls 3 [(0, .ref (P 0)), (1, .int v1), (2, .int v2)] → va_P D vwCl ((wY cI cZ cC cJ cA P) M) H → va_D (aP P 51) ((wY cI cZ cC cJ cA P) M) → va_S (aP P 51) s.heap H locs → q_ChipMapModel_memoryWord_4 n' M v1 v2 = some (M', r') → W p l e ({ frames := 0, cells := 0, slots := 0, locals := 0 }) s m args below meth c H locs 0 0 (MQ below (gQi D (aP P 51) ((wY cI cZ cC cJ cA P) M') r') args s 0 0 (aP P 51)) (F0 m 4 ls []) := by
  intro n'
  induction n' with
  | zero => exact fun _ _ _ _ _ _ _ _ _ _ h => (rs_n h).elim
  | succ n' ih =>
    intro M v1 v2 H locs ls hl hP hD hS h
    rw [q_ChipMapModel_memoryWord_4] at h
    refine lv_iload_n hx hb dX1_memoryWord_4 rfl (lv_at hl 2 rfl) ?_
    refine lv_aload_n hx hb dX1_memoryWord_5 rfl (lv_at hl 0 rfl) ?_
    refine va_get (D := D) (ci := 1) (v := .int (M.1 0 38)) (C := RX1) (T := TX1) (N := 76) hx hb hgt iwX1 hown hK hP 0 gY_0 rfl 38 (Nat.le_of_ble_eq_true rfl) (hgt _ wd_4_239) (fun _ h9 => h9) rfl dX1_memoryWord_6 ?_
    refine lv_icmp_ge hx hb dX1_memoryWord_9 (tgt := 37) rfl (fun hc => ?_) (fun hc => ?_)
    · have h := br_T hc h
      refine lv_iload_n hx hb dX1_memoryWord_37 rfl (lv_at hl 1 rfl) ?_
      exact rt_i (w := (wY cI cZ cC cJ cA P)) hx hb hr hlk hP hD hS h dX1_memoryWord_38
    · have h := br_F hc h
      refine lv_iload_n hx hb dX1_memoryWord_12 rfl (lv_at hl 1 rfl) ?_
      refine lv_aload_n hx hb dX1_memoryWord_13 rfl (lv_at hl 0 rfl) ?_
      refine va_get (D := D) (ci := 1) (v := .ref (P 36)) (C := RX1) (T := TX1) (N := 76) hx hb hgt iwX1 hown hK hP 0 gY_0 rfl 46 (Nat.le_of_ble_eq_true rfl) (hgt _ wd_5_7) (fun _ h9 => h9) rfl dX1_memoryWord_14 ?_
      refine lv_iload_n hx hb dX1_memoryWord_17 rfl (lv_at hl 2 rfl) ?_
      refine va_zald hx hb hK hP 36 1 gY_36 rfl (ix_l h) dX1_memoryWord_18 ?_
      have h := ix_r h
      refine lv_if_eq hx hb dX1_memoryWord_19 (tgt := 28) rfl (fun hc => ?_) (fun hc => ?_)
      · have h := br_T hc h
        refine lv_iconst (v := 0) hx hb dX1_memoryWord_28 (by decide) ?_
        have hl := lv_sub hl [0, 2] (l' := [(0, .ref (P 0)), (2, .int v2)]) rfl
        exact b_ChipMapModel_memoryWord_29 hx hb hml hr hlk hgt hown hK hO hAO ih M v2 0 v1 H _ ls hl hP hD hS h
      · have h := br_F hc h
        refine lv_iconst (v := 1) hx hb dX1_memoryWord_22 (by decide) ?_
        refine lv_iload_n hx hb dX1_memoryWord_23 rfl (lv_at hl 2 rfl) ?_
        refine lv_ishl hx hb dX1_memoryWord_24 ?_
        refine lv_goto hx hb dX1_memoryWord_25 (tgt := 29) rfl ?_
        have hl := lv_sub hl [0, 2] (l' := [(0, .ref (P 0)), (2, .int v2)]) rfl
        exact b_ChipMapModel_memoryWord_29 hx hb hml hr hlk hgt hown hK hO hAO ih M v2 ((1 : Int32) <<< (v2 &&& 31)) v1 H _ ls hl hP hD hS h
set_option maxHeartbeats 4000000 in
set_option maxRecDepth 20000 in
theorem b_ChipMapModel_memoryWord_0 {p : Program} {l : Launch} {e : Env} {s s0 : State} {m : MethodId} {args : Array Value} {below : List Frame} {meth : Method} {c : Code} {D : va_G} {cI cZ cC cJ cA : ClassId} {P : Nat → Nat} {M' : Mm} {r' : Int32}  (hx : p.tables.exec = Jvm.exec) (hb : c.code = cX1_memoryWord) (hml : c.maxLocals = 3) (hr : meth.sig.returnType = (some .int)) (hlk : meth.locks = false) (hgt : ∀ w ∈ GT, w.before args s = true) (hown : s.vm.findClass RX1 = some m.cls) (hK : va_K D vwCl [(cI, .int), (cZ, .boolean), (cC, .char), (cJ, .long), (cA, .array .int)] s) (hO : Old s0 s) (hAO : ∀ q, (aP P 51) q → s0.heap.size ≤ q)  : ∀ (M : Mm)  (H : Heap) (locs : List Loc) (ls : Array Slot), lv_has ls 3 [(0, .ref (P 0))] → va_P D vwCl ((wY cI cZ cC cJ cA P) M) H → va_D (aP P 51) ((wY cI cZ cC cJ cA P) M) → va_S (aP P 51) s.heap H locs → q_ChipMapModel_memoryWord M = some (M', r') → W p l e ({ frames := 0, cells := 0, slots := 0, locals := 0 }) s m args below meth c H locs 0 0 (MQ below (gQi D (aP P 51) ((wY cI cZ cC cJ cA P) M') r') args s 0 0 (aP P 51)) (F0 m 0 ls []) := by
  intro M H locs ls hl hP hD hS h
  unfold q_ChipMapModel_memoryWord at h
  refine lv_iconst (v := 0) hx hb dX1_memoryWord_0 (by decide) ?_
  refine lv_istore_n hx hb dX1_memoryWord_1 rfl hl (Nat.le_of_ble_eq_true rfl) (lv' := [(1, .int 0), (0, .ref (P 0))]) rfl (fun ls hl => ?_)
  refine lv_iconst (v := 0) hx hb dX1_memoryWord_2 (by decide) ?_
  refine lv_istore_n hx hb dX1_memoryWord_3 rfl hl (Nat.le_of_ble_eq_true rfl) (lv' := [(2, .int 0), (1, .int 0), (0, .ref (P 0))]) rfl (fun ls hl => ?_)
  have hl := lv_sub hl [2, 1, 0] (l' := [(0, .ref (P 0)), (1, .int 0), (2, .int 0)]) rfl
  exact b_ChipMapModel_memoryWord_4 hx hb hml hr hlk hgt hown hK hO hAO 4000 M 0 0 H _ ls hl hP hD hS h
set_option maxHeartbeats 4000000 in
set_option maxRecDepth 20000 in
theorem z_ChipMapModel_memoryWord (l : Launch) (D : va_G) (cI cZ cC cJ cA : ClassId) (P : Nat → Nat) (s0 : State) (hAO : ∀ q, (aP P 51) q → s0.heap.size ≤ q) (M : Mm)  (M' : Mm) (r' : Int32) (h : q_ChipMapModel_memoryWord M = some (M', r')) : Met l yX1_memoryWord wsX1_memoryWord ({ frames := 0, cells := 0, slots := 0, locals := 0 }) (va_Pc [.ref (P 0)] (gPre s0 D [(cI, .int), (cZ, .boolean), (cC, .char), (cJ, .long), (cA, .array .int)] (aP P 51) ((wY cI cZ cC cJ cA P) M))) (gQi D (aP P 51) ((wY cI cZ cC cJ cA P) M') r') 0 0 (aP P 51) := by
  refine Met.ofW (cc := cX1_memoryWord) (maxL := 3) (ret := (some .int)) (by decide) rfl ?_
  intro p e s m args below meth c s₁ B hml hv
  obtain ⟨rfl, hP, hK, hD, hO⟩ := hv
  have hx := B.exec
  have hb := B.bytes
  have hr := B.returns
  have hlk := B.notSynchronized
  have hgt := fun w (h : w ∈ GT) => atoms_spec (ws := wsX1_memoryWord) B.pre w (List.mem_cons_of_mem _ h)
  have hown : s.vm.findClass RX1 = some m.cls := findClass_of_methodNamed B.named
  have hS : va_S (aP P 51) s.heap s.heap [] := va_S.rf
  have hl := lv_entry ([.ref (P 0)]) (n := 3) (Nat.le_of_ble_eq_true rfl)
  rw [lg_entry_eq]
  generalize (lg_sl ([.ref (P 0)]) ++ List.replicate (3 - (lg_sl ([.ref (P 0)])).length) Slot.unset).toArray = ls at hl ⊢
  have hl : lv_has ls 3 [(0, .ref (P 0))] := hl
  exact b_ChipMapModel_memoryWord_0 hx hb hml hr hlk hgt hown hK hO hAO M s.heap [] ls hl hP hD hS h
def q_ChipMapModel_isSituation_72 (kf27 : Mm → Int32 → Int32 → Rs) (M : Mm) (v1 : Int32) (v3 : Int32) : Rs := kf27 M v1 (v3 + 1)
def q_ChipMapModel_isSituation_27  : Nat → Mm → Int32 → Int32 → Rs
  | 0, _, _, _ => none
  | n' + 1, M, v1, v3 => if 26 ≤ v3 then (some (M, 1)) else (ix v3 26 <| if (M.1 23 (v3 : Int32).toNatClampNeg) = 0 then (q_ChipMapModel_isSituation_72 (q_ChipMapModel_isSituation_27 n') M v1 v3) else (cal (q_ChipMapModel_isStored M v3) fun M1 r2 => if r2 = 0 then (q_ChipMapModel_isSituation_72 (q_ChipMapModel_isSituation_27 n') M1 v1 v3) else (ix ((26 * v1) + v3) 26026 <| ix v3 78 <| if (M1.1 46 (((26 * v1) + v3) : Int32).toNatClampNeg) = (M1.1 33 (v3 : Int32).toNatClampNeg) then (q_ChipMapModel_isSituation_72 (q_ChipMapModel_isSituation_27 n') M1 v1 v3) else (some (M1, 0)))))
def q_ChipMapModel_isSituation  (M : Mm) (a1 : Int32) (a2 : Int32) : Rs := ix a1 1001 <| if (M.1 45 (a1 : Int32).toNatClampNeg) = a2 then (ix a1 1001 <| cal (q_ChipMapModel_memoryWord M) fun M1 r2 => if (M.1 47 (a1 : Int32).toNatClampNeg) = r2 then (q_ChipMapModel_isSituation_27 4000 M1 a1 0) else (some (M1, 0))) else (some (M, 0))
set_option maxHeartbeats 4000000 in
set_option maxRecDepth 20000 in
theorem b_ChipMapModel_isSituation_72 {p : Program} {l : Launch} {e : Env} {s s0 : State} {m : MethodId} {args : Array Value} {below : List Frame} {meth : Method} {c : Code} {D : va_G} {cI cZ cC cJ cA : ClassId} {P : Nat → Nat} {M' : Mm} {r' : Int32} {kf27 : Mm → Int32 → Int32 → Rs} (hx : p.tables.exec = Jvm.exec) (hb : c.code = cX1_isSituation) (hml : c.maxLocals = 4) (hr : meth.sig.returnType = (some .boolean)) (hlk : meth.locks = false) (hgt : ∀ w ∈ GT, w.before args s = true) (hown : s.vm.findClass RX1 = some m.cls) (hK : va_K D vwCl [(cI, .int), (cZ, .boolean), (cC, .char), (cJ, .long), (cA, .array .int)] s) (hO : Old s0 s) (hAO : ∀ q, (aP P 51) q → s0.heap.size ≤ q) (kk27 : ∀ (M : Mm) (v1 : Int32) (v3 : Int32) (H : Heap) (locs : List Loc) (ls : Array Slot), lv_has ls 4 [(0, .ref (P 0)), (1, .int v1), (3, .int v3)] → va_P D vwCl ((wY cI cZ cC cJ cA P) M) H → va_D (aP P 51) ((wY cI cZ cC cJ cA P) M) → va_S (aP P 51) s.heap H locs → kf27 M v1 v3 = some (M', r') → W p l e ({ frames := 1, cells := 0, slots := 0, locals := 22 }) s m args below meth c H locs 0 0 (MQ below (gQi D (aP P 51) ((wY cI cZ cC cJ cA P) M') r') args s 0 0 (aP P 51)) (F0 m 27 ls [])) : ∀ (M : Mm) (v1 : Int32) (v3 : Int32) (H : Heap) (locs : List Loc) (ls : Array Slot), lv_has ls 4 [(0, .ref (P 0)), (1, .int v1), (3, .int v3)] → va_P D vwCl ((wY cI cZ cC cJ cA P) M) H → va_D (aP P 51) ((wY cI cZ cC cJ cA P) M) → va_S (aP P 51) s.heap H locs → q_ChipMapModel_isSituation_72 kf27 M v1 v3 = some (M', r') → W p l e ({ frames := 1, cells := 0, slots := 0, locals := 22 }) s m args below meth c H locs 0 0 (MQ below (gQi D (aP P 51) ((wY cI cZ cC cJ cA P) M') r') args s 0 0 (aP P 51)) (F0 m 72 ls []) := by
  intro M v1 v3 H locs ls hl hP hD hS h
  unfold q_ChipMapModel_isSituation_72 at h
  refine lv_iinc (v := (v3 + 1)) hx hb dX1_isSituation_72 hl (k := 2) rfl rfl (Nat.le_of_ble_eq_true rfl) (lv' := [(3, .int (v3 + 1)), (0, .ref (P 0)), (1, .int v1)]) rfl (fun ls hl => ?_)
  refine lv_goto hx hb dX1_isSituation_75 (tgt := 27) rfl ?_
  have hl := lv_sub hl [1, 2, 0] (l' := [(0, .ref (P 0)), (1, .int v1), (3, .int (v3 + 1))]) rfl
  exact kk27 M v1 (v3 + 1) H locs ls hl hP hD hS h
set_option maxHeartbeats 4000000 in
set_option maxRecDepth 20000 in
theorem b_ChipMapModel_isSituation_27 {p : Program} {l : Launch} {e : Env} {s s0 : State} {m : MethodId} {args : Array Value} {below : List Frame} {meth : Method} {c : Code} {D : va_G} {cI cZ cC cJ cA : ClassId} {P : Nat → Nat} {M' : Mm} {r' : Int32}  (hx : p.tables.exec = Jvm.exec) (hb : c.code = cX1_isSituation) (hml : c.maxLocals = 4) (hr : meth.sig.returnType = (some .boolean)) (hlk : meth.locks = false) (hgt : ∀ w ∈ GT, w.before args s = true) (hown : s.vm.findClass RX1 = some m.cls) (hK : va_K D vwCl [(cI, .int), (cZ, .boolean), (cC, .char), (cJ, .long), (cA, .array .int)] s) (hO : Old s0 s) (hAO : ∀ q, (aP P 51) q → s0.heap.size ≤ q)  : ∀ (n' : Nat) (M : Mm) (v1 : Int32) (v3 : Int32) (H : Heap) (locs : List Loc) (ls : Array Slot), lv_has ls 4 [(0, .ref (P 0)), (1, .int v1), (3, .int v3)] → va_P D vwCl ((wY cI cZ cC cJ cA P) M) H → va_D (aP P 51) ((wY cI cZ cC cJ cA P) M) → va_S (aP P 51) s.heap H locs → q_ChipMapModel_isSituation_27 n' M v1 v3 = some (M', r') → W p l e ({ frames := 1, cells := 0, slots := 0, locals := 22 }) s m args below meth c H locs 0 0 (MQ below (gQi D (aP P 51) ((wY cI cZ cC cJ cA P) M') r') args s 0 0 (aP P 51)) (F0 m 27 ls []) := by
  intro n'
  induction n' with
  | zero => exact fun _ _ _ _ _ _ _ _ _ _ h => (rs_n h).elim
  | succ n' ih =>
    intro M v1 v3 H locs ls hl hP hD hS h
    rw [q_ChipMapModel_isSituation_27] at h
    refine lv_iload_n hx hb dX1_isSituation_27 rfl (lv_at hl 2 rfl) ?_
    refine lv_bipush (v := 26) hx hb dX1_isSituation_28 (by decide) ?_
    refine lv_icmp_ge hx hb dX1_isSituation_30 (tgt := 78) rfl (fun hc => ?_) (fun hc => ?_)
    · have h := br_T hc h
      refine lv_iconst (v := 1) hx hb dX1_isSituation_78 (by decide) ?_
      exact rt_z (w := (wY cI cZ cC cJ cA P)) hx hb hr hlk rfl hP hD hS h dX1_isSituation_79
    · have h := br_F hc h
      refine lv_aload_n hx hb dX1_isSituation_33 rfl (lv_at hl 0 rfl) ?_
      refine va_get (D := D) (ci := 1) (v := .ref (P 23)) (C := RX1) (T := TX1) (N := 76) hx hb hgt iwX1 hown hK hP 0 gY_0 rfl 32 (Nat.le_of_ble_eq_true rfl) (hgt _ wd_4_233) (fun _ h9 => h9) rfl dX1_isSituation_34 ?_
      refine lv_iload_n hx hb dX1_isSituation_37 rfl (lv_at hl 2 rfl) ?_
      refine va_zald hx hb hK hP 23 1 gY_23 rfl (ix_l h) dX1_isSituation_38 ?_
      have h := ix_r h
      refine lv_if_eq hx hb dX1_isSituation_39 (tgt := 72) rfl (fun hc => ?_) (fun hc => ?_)
      · have h := br_T hc h
        have hl := lv_sub hl [0, 1, 2] (l' := [(0, .ref (P 0)), (1, .int v1), (3, .int v3)]) rfl
        exact b_ChipMapModel_isSituation_72 hx hb hml hr hlk hgt hown hK hO hAO ih M v1 v3 H _ ls hl hP hD hS h
      · have h := br_F hc h
        refine lv_aload_n hx hb dX1_isSituation_42 rfl (lv_at hl 0 rfl) ?_
        refine lv_iload_n hx hb dX1_isSituation_43 rfl (lv_at hl 2 rfl) ?_
        obtain ⟨M1, r2, hq, h⟩ := cal_o h
        refine cx_i (va_runV (As := [.int v3]) (rest := []) ⟨hx, hb, hml, hown, hgt⟩ (z_ChipMapModel_isStored l D cI cZ cC cJ cA P s0 hAO M v3 M1 r2 hq) (cwV 1 hgt (gV wd_6_94 wd_6_96 sl__ChipMapModel____ChipMapModel___isStored____I_Z_____ChipMapModel___isStored____I_Z__ wd_0_15 wd_6_97) rfl rfl rfl (by decide +kernel) ⟨Nat.le_of_ble_eq_true rfl, Nat.le_of_ble_eq_true rfl⟩) (prV hP hK hD hO hAO hS (va_recv hK hP (ci := 1) (q0 := 0) rfl gY_0)) rfl rfl hl.1 rfl (lv_room (Nat.le_of_ble_eq_true rfl)) dX1_isSituation_44 ⟨Nat.le_of_ble_eq_true rfl, Nat.le_of_ble_eq_true rfl⟩) hS (fun H locs hP hD hS => ?_)
        refine lv_if_eq hx hb dX1_isSituation_47 (tgt := 72) rfl (fun hc => ?_) (fun hc => ?_)
        · have h := br_T hc h
          have hl := lv_sub hl [0, 1, 2] (l' := [(0, .ref (P 0)), (1, .int v1), (3, .int v3)]) rfl
          exact b_ChipMapModel_isSituation_72 hx hb hml hr hlk hgt hown hK hO hAO ih M1 v1 v3 H _ ls hl hP hD hS h
        · have h := br_F hc h
          refine lv_aload_n hx hb dX1_isSituation_50 rfl (lv_at hl 0 rfl) ?_
          refine va_get (D := D) (ci := 1) (v := .ref (P 46)) (C := RX1) (T := TX1) (N := 76) hx hb hgt iwX1 hown hK hP 0 gY_0 rfl 65 (Nat.le_of_ble_eq_true rfl) (hgt _ wd_5_26) (fun _ h9 => h9) rfl dX1_isSituation_51 ?_
          refine lv_bipush (v := 26) hx hb dX1_isSituation_54 (by decide) ?_
          refine lv_iload_n hx hb dX1_isSituation_56 rfl (lv_at hl 1 rfl) ?_
          refine lv_imul hx hb dX1_isSituation_57 ?_
          refine lv_iload_n hx hb dX1_isSituation_58 rfl (lv_at hl 2 rfl) ?_
          refine lv_iadd hx hb dX1_isSituation_59 ?_
          refine va_iald hx hb hK hP 46 0 gY_46 rfl (ix_l h) dX1_isSituation_60 ?_
          have h := ix_r h
          refine lv_aload_n hx hb dX1_isSituation_61 rfl (lv_at hl 0 rfl) ?_
          refine va_get (D := D) (ci := 1) (v := .ref (P 33)) (C := RX1) (T := TX1) (N := 76) hx hb hgt iwX1 hown hK hP 0 gY_0 rfl 43 (Nat.le_of_ble_eq_true rfl) (hgt _ wd_5_4) (fun _ h9 => h9) rfl dX1_isSituation_62 ?_
          refine lv_iload_n hx hb dX1_isSituation_65 rfl (lv_at hl 2 rfl) ?_
          refine va_iald hx hb hK hP 33 0 gY_33 rfl (ix_l h) dX1_isSituation_66 ?_
          have h := ix_r h
          refine lv_icmp_eq hx hb dX1_isSituation_67 (tgt := 72) rfl (fun hc => ?_) (fun hc => ?_)
          · have h := br_T hc h
            have hl := lv_sub hl [0, 1, 2] (l' := [(0, .ref (P 0)), (1, .int v1), (3, .int v3)]) rfl
            exact b_ChipMapModel_isSituation_72 hx hb hml hr hlk hgt hown hK hO hAO ih M1 v1 v3 H _ ls hl hP hD hS h
          · have h := br_F hc h
            refine lv_iconst (v := 0) hx hb dX1_isSituation_70 (by decide) ?_
            exact rt_z (w := (wY cI cZ cC cJ cA P)) hx hb hr hlk rfl hP hD hS h dX1_isSituation_71
set_option maxHeartbeats 4000000 in
set_option maxRecDepth 20000 in
theorem b_ChipMapModel_isSituation_0 {p : Program} {l : Launch} {e : Env} {s s0 : State} {m : MethodId} {args : Array Value} {below : List Frame} {meth : Method} {c : Code} {D : va_G} {cI cZ cC cJ cA : ClassId} {P : Nat → Nat} {M' : Mm} {r' : Int32}  (hx : p.tables.exec = Jvm.exec) (hb : c.code = cX1_isSituation) (hml : c.maxLocals = 4) (hr : meth.sig.returnType = (some .boolean)) (hlk : meth.locks = false) (hgt : ∀ w ∈ GT, w.before args s = true) (hown : s.vm.findClass RX1 = some m.cls) (hK : va_K D vwCl [(cI, .int), (cZ, .boolean), (cC, .char), (cJ, .long), (cA, .array .int)] s) (hO : Old s0 s) (hAO : ∀ q, (aP P 51) q → s0.heap.size ≤ q)  : ∀ (M : Mm) (a1 : Int32) (a2 : Int32) (H : Heap) (locs : List Loc) (ls : Array Slot), lv_has ls 4 [(0, .ref (P 0)), (1, .int a1), (2, .int a2)] → va_P D vwCl ((wY cI cZ cC cJ cA P) M) H → va_D (aP P 51) ((wY cI cZ cC cJ cA P) M) → va_S (aP P 51) s.heap H locs → q_ChipMapModel_isSituation M a1 a2 = some (M', r') → W p l e ({ frames := 1, cells := 0, slots := 0, locals := 22 }) s m args below meth c H locs 0 0 (MQ below (gQi D (aP P 51) ((wY cI cZ cC cJ cA P) M') r') args s 0 0 (aP P 51)) (F0 m 0 ls []) := by
  intro M a1 a2 H locs ls hl hP hD hS h
  unfold q_ChipMapModel_isSituation at h
  refine lv_aload_n hx hb dX1_isSituation_0 rfl (lv_at hl 0 rfl) ?_
  refine va_get (D := D) (ci := 1) (v := .ref (P 45)) (C := RX1) (T := TX1) (N := 76) hx hb hgt iwX1 hown hK hP 0 gY_0 rfl 64 (Nat.le_of_ble_eq_true rfl) (hgt _ wd_5_25) (fun _ h9 => h9) rfl dX1_isSituation_1 ?_
  refine lv_iload_n hx hb dX1_isSituation_4 rfl (lv_at hl 1 rfl) ?_
  refine va_iald hx hb hK hP 45 0 gY_45 rfl (ix_l h) dX1_isSituation_5 ?_
  have h := ix_r h
  refine lv_iload_n hx hb dX1_isSituation_6 rfl (lv_at hl 2 rfl) ?_
  refine lv_icmp_ne hx hb dX1_isSituation_7 (tgt := 23) rfl (fun hc => ?_) (fun hc => ?_)
  · have h := br_F hc h
    refine lv_iconst (v := 0) hx hb dX1_isSituation_23 (by decide) ?_
    exact rt_z (w := (wY cI cZ cC cJ cA P)) hx hb hr hlk rfl hP hD hS h dX1_isSituation_24
  · have h := br_T hc h
    refine lv_aload_n hx hb dX1_isSituation_10 rfl (lv_at hl 0 rfl) ?_
    refine va_get (D := D) (ci := 1) (v := .ref (P 47)) (C := RX1) (T := TX1) (N := 76) hx hb hgt iwX1 hown hK hP 0 gY_0 rfl 66 (Nat.le_of_ble_eq_true rfl) (hgt _ wd_5_27) (fun _ h9 => h9) rfl dX1_isSituation_11 ?_
    refine lv_iload_n hx hb dX1_isSituation_14 rfl (lv_at hl 1 rfl) ?_
    refine va_iald hx hb hK hP 47 0 gY_47 rfl (ix_l h) dX1_isSituation_15 ?_
    have h := ix_r h
    refine lv_aload_n hx hb dX1_isSituation_16 rfl (lv_at hl 0 rfl) ?_
    obtain ⟨M1, r2, hq, h⟩ := cal_o h
    refine cx_i (va_runV (As := []) (rest := [.int (M.1 47 (a1 : Int32).toNatClampNeg)]) ⟨hx, hb, hml, hown, hgt⟩ (z_ChipMapModel_memoryWord l D cI cZ cC cJ cA P s0 hAO M M1 r2 hq) (cwV 0 hgt (gV wd_6_214 wd_6_216 sl__ChipMapModel____ChipMapModel___memoryWord_____I_____ChipMapModel___memoryWord_____I__ wd_0_15 wd_6_217) rfl rfl rfl (by decide +kernel) ⟨Nat.le_of_ble_eq_true rfl, Nat.le_of_ble_eq_true rfl⟩) (prV hP hK hD hO hAO hS (va_recv hK hP (ci := 1) (q0 := 0) rfl gY_0)) rfl rfl hl.1 rfl (lv_room (Nat.le_of_ble_eq_true rfl)) dX1_isSituation_17 ⟨Nat.le_of_ble_eq_true rfl, Nat.le_of_ble_eq_true rfl⟩) hS (fun H locs hP hD hS => ?_)
    refine lv_icmp_eq hx hb dX1_isSituation_20 (tgt := 25) rfl (fun hc => ?_) (fun hc => ?_)
    · have h := br_T hc h
      refine lv_iconst (v := 0) hx hb dX1_isSituation_25 (by decide) ?_
      refine lv_istore_n hx hb dX1_isSituation_26 rfl hl (Nat.le_of_ble_eq_true rfl) (lv' := [(3, .int 0), (0, .ref (P 0)), (1, .int a1), (2, .int a2)]) rfl (fun ls hl => ?_)
      have hl := lv_sub hl [1, 2, 0] (l' := [(0, .ref (P 0)), (1, .int a1), (3, .int 0)]) rfl
      exact b_ChipMapModel_isSituation_27 hx hb hml hr hlk hgt hown hK hO hAO 4000 M1 a1 0 H _ ls hl hP hD hS h
    · have h := br_F hc h
      refine lv_iconst (v := 0) hx hb dX1_isSituation_23 (by decide) ?_
      exact rt_z (w := (wY cI cZ cC cJ cA P)) hx hb hr hlk rfl hP hD hS h dX1_isSituation_24
set_option maxHeartbeats 4000000 in
set_option maxRecDepth 20000 in
theorem z_ChipMapModel_isSituation (l : Launch) (D : va_G) (cI cZ cC cJ cA : ClassId) (P : Nat → Nat) (s0 : State) (hAO : ∀ q, (aP P 51) q → s0.heap.size ≤ q) (M : Mm) (a1 : Int32) (a2 : Int32) (M' : Mm) (r' : Int32) (h : q_ChipMapModel_isSituation M a1 a2 = some (M', r')) : Met l yX1_isSituation wsX1_isSituation ({ frames := 1, cells := 0, slots := 0, locals := 22 }) (va_Pc [.ref (P 0), .int a1, .int a2] (gPre s0 D [(cI, .int), (cZ, .boolean), (cC, .char), (cJ, .long), (cA, .array .int)] (aP P 51) ((wY cI cZ cC cJ cA P) M))) (gQi D (aP P 51) ((wY cI cZ cC cJ cA P) M') r') 0 0 (aP P 51) := by
  refine Met.ofW (cc := cX1_isSituation) (maxL := 4) (ret := (some .boolean)) (by decide) rfl ?_
  intro p e s m args below meth c s₁ B hml hv
  obtain ⟨rfl, hP, hK, hD, hO⟩ := hv
  have hx := B.exec
  have hb := B.bytes
  have hr := B.returns
  have hlk := B.notSynchronized
  have hgt := fun w (h : w ∈ GT) => atoms_spec (ws := wsX1_isSituation) B.pre w (List.mem_cons_of_mem _ h)
  have hown : s.vm.findClass RX1 = some m.cls := findClass_of_methodNamed B.named
  have hS : va_S (aP P 51) s.heap s.heap [] := va_S.rf
  have hl := lv_entry ([.ref (P 0), .int a1, .int a2]) (n := 4) (Nat.le_of_ble_eq_true rfl)
  rw [lg_entry_eq]
  generalize (lg_sl ([.ref (P 0), .int a1, .int a2]) ++ List.replicate (4 - (lg_sl ([.ref (P 0), .int a1, .int a2])).length) Slot.unset).toArray = ls at hl ⊢
  have hl : lv_has ls 4 [(0, .ref (P 0)), (1, .int a1), (2, .int a2)] := hl
  exact b_ChipMapModel_isSituation_0 hx hb hml hr hlk hgt hown hK hO hAO M a1 a2 s.heap [] ls hl hP hD hS h
def q_ChipMapModel_meet_82  : Nat → Mm → Int32 → Rs
  | 0, _, _ => none
  | n' + 1, M, v3 => if 26 ≤ v3 then (lt' (stI M 0 (upd (M.1 0) 63 ((M.1 0 63) + 1))) fun M1 => some (M1, 0)) else (ix v3 78 <| ix ((26 * (M.1 0 63)) + v3) 26026 <| lt' (stI M 46 (upd (M.1 46) (((26 * (M.1 0 63)) + v3) : Int32).toNatClampNeg (M.1 33 (v3 : Int32).toNatClampNeg))) fun M1 => q_ChipMapModel_meet_82 n' M1 (v3 + 1))
def q_ChipMapModel_meet_17  : Nat → Mm → Int32 → Int32 → Rs
  | 0, _, _, _ => none
  | n' + 1, M, v2, v3 => if (M.1 0 63) ≤ v3 then (if (M.1 0 63) = 1000 then (lt' (stI M 0 (upd (M.1 0) 69 1)) fun M1 => some (M1, 0)) else (ix (M.1 0 63) 1001 <| lt' (stI M 45 (upd (M.1 45) ((M.1 0 63) : Int32).toNatClampNeg v2)) fun M1 => cal (q_ChipMapModel_memoryWord M1) fun M2 r3 => ix (M1.1 0 63) 1001 <| lt' (stI M2 47 (upd (M2.1 47) ((M1.1 0 63) : Int32).toNatClampNeg r3)) fun M4 => q_ChipMapModel_meet_82 4000 M4 0)) else (cal (q_ChipMapModel_isSituation M v3 v2) fun M1 r2 => if r2 = 0 then (q_ChipMapModel_meet_17 n' M1 v2 (v3 + 1)) else (some (M1, 0)))
def q_ChipMapModel_meet_14  (M : Mm) (t0 : Int32) : Rs := q_ChipMapModel_meet_17 4000 M t0 0
def q_ChipMapModel_meet  (M : Mm) (a1 : Int32) : Rs := if a1 < (M.1 0 59) then (q_ChipMapModel_meet_14 M a1) else (q_ChipMapModel_meet_14 M 40)
set_option maxHeartbeats 4000000 in
set_option maxRecDepth 20000 in
theorem b_ChipMapModel_meet_82 {p : Program} {l : Launch} {e : Env} {s s0 : State} {m : MethodId} {args : Array Value} {below : List Frame} {meth : Method} {c : Code} {D : va_G} {cI cZ cC cJ cA : ClassId} {P : Nat → Nat} {M' : Mm} {r' : Int32}  (hx : p.tables.exec = Jvm.exec) (hb : c.code = cX1_meet) (hml : c.maxLocals = 4) (hr : meth.sig.returnType = none) (hlk : meth.locks = false) (hgt : ∀ w ∈ GT, w.before args s = true) (hown : s.vm.findClass RX1 = some m.cls) (hK : va_K D vwCl [(cI, .int), (cZ, .boolean), (cC, .char), (cJ, .long), (cA, .array .int)] s) (hO : Old s0 s) (hAO : ∀ q, (aP P 51) q → s0.heap.size ≤ q)  : ∀ (n' : Nat) (M : Mm) (v3 : Int32) (H : Heap) (locs : List Loc) (ls : Array Slot), lv_has ls 4 [(0, .ref (P 0)), (3, .int v3)] → va_P D vwCl ((wY cI cZ cC cJ cA P) M) H → va_D (aP P 51) ((wY cI cZ cC cJ cA P) M) → va_S (aP P 51) s.heap H locs → q_ChipMapModel_meet_82 n' M v3 = some (M', r') → W p l e ({ frames := 2, cells := 0, slots := 0, locals := 45 }) s m args below meth c H locs 0 0 (MQ below (gQv D (aP P 51) ((wY cI cZ cC cJ cA P) M')) args s 0 0 (aP P 51)) (F0 m 82 ls []) := by
  intro n'
  induction n' with
  | zero => exact fun _ _ _ _ _ _ _ _ _ h => (rs_n h).elim
  | succ n' ih =>
    intro M v3 H locs ls hl hP hD hS h
    rw [q_ChipMapModel_meet_82] at h
    refine lv_iload_n hx hb dX1_meet_82 rfl (lv_at hl 1 rfl) ?_
    refine lv_bipush (v := 26) hx hb dX1_meet_83 (by decide) ?_
    refine lv_icmp_ge hx hb dX1_meet_85 (tgt := 114) rfl (fun hc => ?_) (fun hc => ?_)
    · have h := br_T hc h
      refine lv_aload_n hx hb dX1_meet_114 rfl (lv_at hl 0 rfl) ?_
      refine lv_dup hx hb dX1_meet_115 rfl ?_
      refine va_get (D := D) (ci := 1) (v := .int (M.1 0 63)) (C := RX1) (T := TX1) (N := 76) hx hb hgt iwX1 hown hK hP 0 gY_0 rfl 63 (Nat.le_of_ble_eq_true rfl) (hgt _ wd_5_24) (fun _ h9 => h9) rfl dX1_meet_116 ?_
      refine lv_iconst (v := 1) hx hb dX1_meet_119 (by decide) ?_
      refine lv_iadd hx hb dX1_meet_120 ?_
      refine pm_put (w := (wY cI cZ cC cJ cA P)) (D := D) (ci := 1) (x := ((M.1 0 63) + 1)) (ty := .int) (C := RX1) (T := TX1) (N := 76) hx hb hgt iwX1 tyX1 tyX1_ok nmX1 hown hK hP hD hS 0 gY_0 rfl 63 (Nat.le_of_ble_eq_true rfl) (hgt _ wd_5_24) (fun _ h9 => h9) rfl (by decide +kernel) rfl rfl (Nat.le_of_ble_eq_true rfl) (sY_0_63 _) dX1_meet_121 (fun M1 eM1 H locs hP hD hS => ?_)
      have h := lt_o eM1 h
      exact rt_v (w := (wY cI cZ cC cJ cA P)) (r := r') hx hb hr hlk hP hD hS h dX1_meet_124
    · have h := br_F hc h
      refine lv_aload_n hx hb dX1_meet_88 rfl (lv_at hl 0 rfl) ?_
      refine va_get (D := D) (ci := 1) (v := .ref (P 46)) (C := RX1) (T := TX1) (N := 76) hx hb hgt iwX1 hown hK hP 0 gY_0 rfl 65 (Nat.le_of_ble_eq_true rfl) (hgt _ wd_5_26) (fun _ h9 => h9) rfl dX1_meet_89 ?_
      refine lv_bipush (v := 26) hx hb dX1_meet_92 (by decide) ?_
      refine lv_aload_n hx hb dX1_meet_94 rfl (lv_at hl 0 rfl) ?_
      refine va_get (D := D) (ci := 1) (v := .int (M.1 0 63)) (C := RX1) (T := TX1) (N := 76) hx hb hgt iwX1 hown hK hP 0 gY_0 rfl 63 (Nat.le_of_ble_eq_true rfl) (hgt _ wd_5_24) (fun _ h9 => h9) rfl dX1_meet_95 ?_
      refine lv_imul hx hb dX1_meet_98 ?_
      refine lv_iload_n hx hb dX1_meet_99 rfl (lv_at hl 1 rfl) ?_
      refine lv_iadd hx hb dX1_meet_100 ?_
      refine lv_aload_n hx hb dX1_meet_101 rfl (lv_at hl 0 rfl) ?_
      refine va_get (D := D) (ci := 1) (v := .ref (P 33)) (C := RX1) (T := TX1) (N := 76) hx hb hgt iwX1 hown hK hP 0 gY_0 rfl 43 (Nat.le_of_ble_eq_true rfl) (hgt _ wd_5_4) (fun _ h9 => h9) rfl dX1_meet_102 ?_
      refine lv_iload_n hx hb dX1_meet_105 rfl (lv_at hl 1 rfl) ?_
      refine va_iald hx hb hK hP 33 0 gY_33 rfl (ix_l h) dX1_meet_106 ?_
      have h := ix_r h
      refine pm_iast (w := (wY cI cZ cC cJ cA P)) hx hb hK hP hD hS 46 0 gY_46 rfl sY_46 (ix_l h) dX1_meet_107 (fun M1 eM1 H locs hP hD hS => ?_)
      have h := ix_r h
      have h := lt_o eM1 h
      refine lv_iinc (v := (v3 + 1)) hx hb dX1_meet_108 hl (k := 1) rfl rfl (Nat.le_of_ble_eq_true rfl) (lv' := [(3, .int (v3 + 1)), (0, .ref (P 0))]) rfl (fun ls hl => ?_)
      refine lv_goto hx hb dX1_meet_111 (tgt := 82) rfl ?_
      have hl := lv_sub hl [1, 0] (l' := [(0, .ref (P 0)), (3, .int (v3 + 1))]) rfl
      exact ih M1 (v3 + 1) H locs ls hl hP hD hS h
set_option maxHeartbeats 4000000 in
set_option maxRecDepth 20000 in
theorem b_ChipMapModel_meet_17 {p : Program} {l : Launch} {e : Env} {s s0 : State} {m : MethodId} {args : Array Value} {below : List Frame} {meth : Method} {c : Code} {D : va_G} {cI cZ cC cJ cA : ClassId} {P : Nat → Nat} {M' : Mm} {r' : Int32}  (hx : p.tables.exec = Jvm.exec) (hb : c.code = cX1_meet) (hml : c.maxLocals = 4) (hr : meth.sig.returnType = none) (hlk : meth.locks = false) (hgt : ∀ w ∈ GT, w.before args s = true) (hown : s.vm.findClass RX1 = some m.cls) (hK : va_K D vwCl [(cI, .int), (cZ, .boolean), (cC, .char), (cJ, .long), (cA, .array .int)] s) (hO : Old s0 s) (hAO : ∀ q, (aP P 51) q → s0.heap.size ≤ q)  : ∀ (n' : Nat) (M : Mm) (v2 : Int32) (v3 : Int32) (H : Heap) (locs : List Loc) (ls : Array Slot), lv_has ls 4 [(0, .ref (P 0)), (2, .int v2), (3, .int v3)] → va_P D vwCl ((wY cI cZ cC cJ cA P) M) H → va_D (aP P 51) ((wY cI cZ cC cJ cA P) M) → va_S (aP P 51) s.heap H locs → q_ChipMapModel_meet_17 n' M v2 v3 = some (M', r') → W p l e ({ frames := 2, cells := 0, slots := 0, locals := 45 }) s m args below meth c H locs 0 0 (MQ below (gQv D (aP P 51) ((wY cI cZ cC cJ cA P) M')) args s 0 0 (aP P 51)) (F0 m 17 ls []) := by
  intro n'
  induction n' with
  | zero => exact fun _ _ _ _ _ _ _ _ _ _ h => (rs_n h).elim
  | succ n' ih =>
    intro M v2 v3 H locs ls hl hP hD hS h
    rw [q_ChipMapModel_meet_17] at h
    refine lv_iload_n hx hb dX1_meet_17 rfl (lv_at hl 2 rfl) ?_
    refine lv_aload_n hx hb dX1_meet_18 rfl (lv_at hl 0 rfl) ?_
    refine va_get (D := D) (ci := 1) (v := .int (M.1 0 63)) (C := RX1) (T := TX1) (N := 76) hx hb hgt iwX1 hown hK hP 0 gY_0 rfl 63 (Nat.le_of_ble_eq_true rfl) (hgt _ wd_5_24) (fun _ h9 => h9) rfl dX1_meet_19 ?_
    refine lv_icmp_ge hx hb dX1_meet_22 (tgt := 41) rfl (fun hc => ?_) (fun hc => ?_)
    · have h := br_T hc h
      refine lv_aload_n hx hb dX1_meet_41 rfl (lv_at hl 0 rfl) ?_
      refine va_get (D := D) (ci := 1) (v := .int (M.1 0 63)) (C := RX1) (T := TX1) (N := 76) hx hb hgt iwX1 hown hK hP 0 gY_0 rfl 63 (Nat.le_of_ble_eq_true rfl) (hgt _ wd_5_24) (fun _ h9 => h9) rfl dX1_meet_42 ?_
      refine lv_sipush (v := 1000) hx hb dX1_meet_45 (by decide) ?_
      refine lv_icmp_ne hx hb dX1_meet_48 (tgt := 57) rfl (fun hc => ?_) (fun hc => ?_)
      · have h := br_F hc h
        refine lv_aload_n hx hb dX1_meet_57 rfl (lv_at hl 0 rfl) ?_
        refine va_get (D := D) (ci := 1) (v := .ref (P 45)) (C := RX1) (T := TX1) (N := 76) hx hb hgt iwX1 hown hK hP 0 gY_0 rfl 64 (Nat.le_of_ble_eq_true rfl) (hgt _ wd_5_25) (fun _ h9 => h9) rfl dX1_meet_58 ?_
        refine lv_aload_n hx hb dX1_meet_61 rfl (lv_at hl 0 rfl) ?_
        refine va_get (D := D) (ci := 1) (v := .int (M.1 0 63)) (C := RX1) (T := TX1) (N := 76) hx hb hgt iwX1 hown hK hP 0 gY_0 rfl 63 (Nat.le_of_ble_eq_true rfl) (hgt _ wd_5_24) (fun _ h9 => h9) rfl dX1_meet_62 ?_
        refine lv_iload_n hx hb dX1_meet_65 rfl (lv_at hl 1 rfl) ?_
        refine pm_iast (w := (wY cI cZ cC cJ cA P)) hx hb hK hP hD hS 45 0 gY_45 rfl sY_45 (ix_l h) dX1_meet_66 (fun M1 eM1 H locs hP hD hS => ?_)
        have h := ix_r h
        have h := lt_o eM1 h
        refine lv_aload_n hx hb dX1_meet_67 rfl (lv_at hl 0 rfl) ?_
        refine va_get (D := D) (ci := 1) (v := .ref (P 47)) (C := RX1) (T := TX1) (N := 76) hx hb hgt iwX1 hown hK hP 0 gY_0 rfl 66 (Nat.le_of_ble_eq_true rfl) (hgt _ wd_5_27) (fun _ h9 => h9) rfl dX1_meet_68 ?_
        refine lv_aload_n hx hb dX1_meet_71 rfl (lv_at hl 0 rfl) ?_
        refine va_get (D := D) (ci := 1) (v := .int (M1.1 0 63)) (C := RX1) (T := TX1) (N := 76) hx hb hgt iwX1 hown hK hP 0 gY_0 rfl 63 (Nat.le_of_ble_eq_true rfl) (hgt _ wd_5_24) (fun _ h9 => h9) rfl dX1_meet_72 ?_
        refine lv_aload_n hx hb dX1_meet_75 rfl (lv_at hl 0 rfl) ?_
        obtain ⟨M2, r3, hq, h⟩ := cal_o h
        refine cx_i (va_runV (As := []) (rest := [.int (M1.1 0 63), .ref (P 47)]) ⟨hx, hb, hml, hown, hgt⟩ (z_ChipMapModel_memoryWord l D cI cZ cC cJ cA P s0 hAO M1 M2 r3 hq) (cwV 0 hgt (gV wd_6_214 wd_6_216 sl__ChipMapModel____ChipMapModel___memoryWord_____I_____ChipMapModel___memoryWord_____I__ wd_0_15 wd_6_217) rfl rfl rfl (by decide +kernel) ⟨Nat.le_of_ble_eq_true rfl, Nat.le_of_ble_eq_true rfl⟩) (prV hP hK hD hO hAO hS (va_recv hK hP (ci := 1) (q0 := 0) rfl gY_0)) rfl rfl hl.1 rfl (lv_room (Nat.le_of_ble_eq_true rfl)) dX1_meet_76 ⟨Nat.le_of_ble_eq_true rfl, Nat.le_of_ble_eq_true rfl⟩) hS (fun H locs hP hD hS => ?_)
        refine pm_iast (w := (wY cI cZ cC cJ cA P)) hx hb hK hP hD hS 47 0 gY_47 rfl sY_47 (ix_l h) dX1_meet_79 (fun M4 eM4 H locs hP hD hS => ?_)
        have h := ix_r h
        have h := lt_o eM4 h
        refine lv_iconst (v := 0) hx hb dX1_meet_80 (by decide) ?_
        refine lv_istore_n hx hb dX1_meet_81 rfl hl (Nat.le_of_ble_eq_true rfl) (lv' := [(3, .int 0), (0, .ref (P 0)), (2, .int v2)]) rfl (fun ls hl => ?_)
        have hl := lv_sub hl [1, 0] (l' := [(0, .ref (P 0)), (3, .int 0)]) rfl
        exact b_ChipMapModel_meet_82 hx hb hml hr hlk hgt hown hK hO hAO 4000 M4 0 H _ ls hl hP hD hS h
      · have h := br_T hc h
        refine lv_aload_n hx hb dX1_meet_51 rfl (lv_at hl 0 rfl) ?_
        refine lv_iconst (v := 1) hx hb dX1_meet_52 (by decide) ?_
        refine pm_put (w := (wY cI cZ cC cJ cA P)) (D := D) (ci := 1) (x := 1) (ty := .boolean) (C := RX1) (T := TX1) (N := 76) hx hb hgt iwX1 tyX1 tyX1_ok nmX1 hown hK hP hD hS 0 gY_0 rfl 69 (Nat.le_of_ble_eq_true rfl) (hgt _ wd_5_30) (fun _ h9 => h9) rfl (by decide +kernel) rfl rfl (Nat.le_of_ble_eq_true rfl) (sY_0_69 _) dX1_meet_53 (fun M1 eM1 H locs hP hD hS => ?_)
        have h := lt_o eM1 h
        exact rt_v (w := (wY cI cZ cC cJ cA P)) (r := r') hx hb hr hlk hP hD hS h dX1_meet_56
    · have h := br_F hc h
      refine lv_aload_n hx hb dX1_meet_25 rfl (lv_at hl 0 rfl) ?_
      refine lv_iload_n hx hb dX1_meet_26 rfl (lv_at hl 2 rfl) ?_
      refine lv_iload_n hx hb dX1_meet_27 rfl (lv_at hl 1 rfl) ?_
      obtain ⟨M1, r2, hq, h⟩ := cal_o h
      refine cx_i (va_runV (As := [.int v3, .int v2]) (rest := []) ⟨hx, hb, hml, hown, hgt⟩ (z_ChipMapModel_isSituation l D cI cZ cC cJ cA P s0 hAO M v3 v2 M1 r2 hq) (cwV 2 hgt (gV wd_6_210 wd_6_212 sl__ChipMapModel____ChipMapModel___isSituation____II_Z_____ChipMapModel___isSituation____II_Z__ wd_0_15 wd_6_213) rfl rfl rfl (by decide +kernel) ⟨Nat.le_of_ble_eq_true rfl, Nat.le_of_ble_eq_true rfl⟩) (prV hP hK hD hO hAO hS (va_recv hK hP (ci := 1) (q0 := 0) rfl gY_0)) rfl rfl hl.1 rfl (lv_room (Nat.le_of_ble_eq_true rfl)) dX1_meet_28 ⟨Nat.le_of_ble_eq_true rfl, Nat.le_of_ble_eq_true rfl⟩) hS (fun H locs hP hD hS => ?_)
      refine lv_if_eq hx hb dX1_meet_31 (tgt := 35) rfl (fun hc => ?_) (fun hc => ?_)
      · have h := br_T hc h
        refine lv_iinc (v := (v3 + 1)) hx hb dX1_meet_35 hl (k := 2) rfl rfl (Nat.le_of_ble_eq_true rfl) (lv' := [(3, .int (v3 + 1)), (0, .ref (P 0)), (2, .int v2)]) rfl (fun ls hl => ?_)
        refine lv_goto hx hb dX1_meet_38 (tgt := 17) rfl ?_
        have hl := lv_sub hl [1, 2, 0] (l' := [(0, .ref (P 0)), (2, .int v2), (3, .int (v3 + 1))]) rfl
        exact ih M1 v2 (v3 + 1) H locs ls hl hP hD hS h
      · have h := br_F hc h
        exact rt_v (w := (wY cI cZ cC cJ cA P)) (r := r') hx hb hr hlk hP hD hS h dX1_meet_34
set_option maxHeartbeats 4000000 in
set_option maxRecDepth 20000 in
theorem b_ChipMapModel_meet_14 {p : Program} {l : Launch} {e : Env} {s s0 : State} {m : MethodId} {args : Array Value} {below : List Frame} {meth : Method} {c : Code} {D : va_G} {cI cZ cC cJ cA : ClassId} {P : Nat → Nat} {M' : Mm} {r' : Int32}  (hx : p.tables.exec = Jvm.exec) (hb : c.code = cX1_meet) (hml : c.maxLocals = 4) (hr : meth.sig.returnType = none) (hlk : meth.locks = false) (hgt : ∀ w ∈ GT, w.before args s = true) (hown : s.vm.findClass RX1 = some m.cls) (hK : va_K D vwCl [(cI, .int), (cZ, .boolean), (cC, .char), (cJ, .long), (cA, .array .int)] s) (hO : Old s0 s) (hAO : ∀ q, (aP P 51) q → s0.heap.size ≤ q)  : ∀ (M : Mm) (t0 : Int32) (H : Heap) (locs : List Loc) (ls : Array Slot), lv_has ls 4 [(0, .ref (P 0))] → va_P D vwCl ((wY cI cZ cC cJ cA P) M) H → va_D (aP P 51) ((wY cI cZ cC cJ cA P) M) → va_S (aP P 51) s.heap H locs → q_ChipMapModel_meet_14 M t0 = some (M', r') → W p l e ({ frames := 2, cells := 0, slots := 0, locals := 45 }) s m args below meth c H locs 0 0 (MQ below (gQv D (aP P 51) ((wY cI cZ cC cJ cA P) M')) args s 0 0 (aP P 51)) (F0 m 14 ls [.int t0]) := by
  intro M t0 H locs ls hl hP hD hS h
  unfold q_ChipMapModel_meet_14 at h
  refine lv_istore_n hx hb dX1_meet_14 rfl hl (Nat.le_of_ble_eq_true rfl) (lv' := [(2, .int t0), (0, .ref (P 0))]) rfl (fun ls hl => ?_)
  refine lv_iconst (v := 0) hx hb dX1_meet_15 (by decide) ?_
  refine lv_istore_n hx hb dX1_meet_16 rfl hl (Nat.le_of_ble_eq_true rfl) (lv' := [(3, .int 0), (2, .int t0), (0, .ref (P 0))]) rfl (fun ls hl => ?_)
  have hl := lv_sub hl [2, 1, 0] (l' := [(0, .ref (P 0)), (2, .int t0), (3, .int 0)]) rfl
  exact b_ChipMapModel_meet_17 hx hb hml hr hlk hgt hown hK hO hAO 4000 M t0 0 H _ ls hl hP hD hS h
set_option maxHeartbeats 4000000 in
set_option maxRecDepth 20000 in
theorem b_ChipMapModel_meet_0 {p : Program} {l : Launch} {e : Env} {s s0 : State} {m : MethodId} {args : Array Value} {below : List Frame} {meth : Method} {c : Code} {D : va_G} {cI cZ cC cJ cA : ClassId} {P : Nat → Nat} {M' : Mm} {r' : Int32}  (hx : p.tables.exec = Jvm.exec) (hb : c.code = cX1_meet) (hml : c.maxLocals = 4) (hr : meth.sig.returnType = none) (hlk : meth.locks = false) (hgt : ∀ w ∈ GT, w.before args s = true) (hown : s.vm.findClass RX1 = some m.cls) (hK : va_K D vwCl [(cI, .int), (cZ, .boolean), (cC, .char), (cJ, .long), (cA, .array .int)] s) (hO : Old s0 s) (hAO : ∀ q, (aP P 51) q → s0.heap.size ≤ q)  : ∀ (M : Mm) (a1 : Int32) (H : Heap) (locs : List Loc) (ls : Array Slot), lv_has ls 4 [(0, .ref (P 0)), (1, .int a1)] → va_P D vwCl ((wY cI cZ cC cJ cA P) M) H → va_D (aP P 51) ((wY cI cZ cC cJ cA P) M) → va_S (aP P 51) s.heap H locs → q_ChipMapModel_meet M a1 = some (M', r') → W p l e ({ frames := 2, cells := 0, slots := 0, locals := 45 }) s m args below meth c H locs 0 0 (MQ below (gQv D (aP P 51) ((wY cI cZ cC cJ cA P) M')) args s 0 0 (aP P 51)) (F0 m 0 ls []) := by
  intro M a1 H locs ls hl hP hD hS h
  unfold q_ChipMapModel_meet at h
  refine lv_iload_n hx hb dX1_meet_0 rfl (lv_at hl 1 rfl) ?_
  refine lv_aload_n hx hb dX1_meet_1 rfl (lv_at hl 0 rfl) ?_
  refine va_get (D := D) (ci := 1) (v := .int (M.1 0 59)) (C := RX1) (T := TX1) (N := 76) hx hb hgt iwX1 hown hK hP 0 gY_0 rfl 59 (Nat.le_of_ble_eq_true rfl) (hgt _ wd_5_20) (fun _ h9 => h9) rfl dX1_meet_2 ?_
  refine lv_icmp_lt hx hb dX1_meet_5 (tgt := 13) rfl (fun hc => ?_) (fun hc => ?_)
  · have h := br_T hc h
    refine lv_iload_n hx hb dX1_meet_13 rfl (lv_at hl 1 rfl) ?_
    have hl := lv_sub hl [0] (l' := [(0, .ref (P 0))]) rfl
    exact b_ChipMapModel_meet_14 hx hb hml hr hlk hgt hown hK hO hAO M a1 H _ ls hl hP hD hS h
  · have h := br_F hc h
    refine lv_bipush (v := 40) hx hb dX1_meet_8 (by decide) ?_
    refine lv_goto hx hb dX1_meet_10 (tgt := 14) rfl ?_
    have hl := lv_sub hl [0] (l' := [(0, .ref (P 0))]) rfl
    exact b_ChipMapModel_meet_14 hx hb hml hr hlk hgt hown hK hO hAO M 40 H _ ls hl hP hD hS h
set_option maxHeartbeats 4000000 in
set_option maxRecDepth 20000 in
theorem z_ChipMapModel_meet (l : Launch) (D : va_G) (cI cZ cC cJ cA : ClassId) (P : Nat → Nat) (s0 : State) (hAO : ∀ q, (aP P 51) q → s0.heap.size ≤ q) (M : Mm) (a1 : Int32) (M' : Mm) (r' : Int32) (h : q_ChipMapModel_meet M a1 = some (M', r')) : Met l yX1_meet wsX1_meet ({ frames := 2, cells := 0, slots := 0, locals := 45 }) (va_Pc [.ref (P 0), .int a1] (gPre s0 D [(cI, .int), (cZ, .boolean), (cC, .char), (cJ, .long), (cA, .array .int)] (aP P 51) ((wY cI cZ cC cJ cA P) M))) (gQv D (aP P 51) ((wY cI cZ cC cJ cA P) M')) 0 0 (aP P 51) := by
  refine Met.ofW (cc := cX1_meet) (maxL := 4) (ret := none) (by decide) rfl ?_
  intro p e s m args below meth c s₁ B hml hv
  obtain ⟨rfl, hP, hK, hD, hO⟩ := hv
  have hx := B.exec
  have hb := B.bytes
  have hr := B.returns
  have hlk := B.notSynchronized
  have hgt := fun w (h : w ∈ GT) => atoms_spec (ws := wsX1_meet) B.pre w (List.mem_cons_of_mem _ h)
  have hown : s.vm.findClass RX1 = some m.cls := findClass_of_methodNamed B.named
  have hS : va_S (aP P 51) s.heap s.heap [] := va_S.rf
  have hl := lv_entry ([.ref (P 0), .int a1]) (n := 4) (Nat.le_of_ble_eq_true rfl)
  rw [lg_entry_eq]
  generalize (lg_sl ([.ref (P 0), .int a1]) ++ List.replicate (4 - (lg_sl ([.ref (P 0), .int a1])).length) Slot.unset).toArray = ls at hl ⊢
  have hl : lv_has ls 4 [(0, .ref (P 0)), (1, .int a1)] := hl
  exact b_ChipMapModel_meet_0 hx hb hml hr hlk hgt hown hK hO hAO M a1 s.heap [] ls hl hP hD hS h
def q_ChipMapModel_stand_65 (kf33 : Mm → Int32 → Int32 → Rs) (M : Mm) (v1 : Int32) (v2 : Int32) (t0 : Int32) (t1 : Int32) : Rs := ix t1 36 <| lt' (stI M 36 (upd (M.1 36) (t1 : Int32).toNatClampNeg (vp_nar .boolean t0))) fun M1 => kf33 M1 v1 (v2 + 1)
def q_ChipMapModel_stand_33  : Nat → Mm → Int32 → Int32 → Rs
  | 0, _, _, _ => none
  | n' + 1, M, v1, v2 => if (M.1 0 38) ≤ v2 then (some (M, 0)) else (ix v1 1001 <| if ((((M.1 47 (v1 : Int32).toNatClampNeg) : Int32) >>> (v2 &&& 31)) &&& 1) = 1 then (q_ChipMapModel_stand_65 (q_ChipMapModel_stand_33 n') M v1 v2 1 v2) else (q_ChipMapModel_stand_65 (q_ChipMapModel_stand_33 n') M v1 v2 0 v2))
def q_ChipMapModel_stand_2  : Nat → Mm → Int32 → Int32 → Rs
  | 0, _, _, _ => none
  | n' + 1, M, v1, v2 => if 26 ≤ v2 then (q_ChipMapModel_stand_33 4000 M v1 0) else (ix ((26 * v1) + v2) 26026 <| ix v2 78 <| lt' (stI M 33 (upd (M.1 33) (v2 : Int32).toNatClampNeg (M.1 46 (((26 * v1) + v2) : Int32).toNatClampNeg))) fun M1 => q_ChipMapModel_stand_2 n' M1 v1 (v2 + 1))
def q_ChipMapModel_stand  (M : Mm) (a1 : Int32) : Rs := q_ChipMapModel_stand_2 4000 M a1 0
set_option maxHeartbeats 4000000 in
set_option maxRecDepth 20000 in
theorem b_ChipMapModel_stand_65 {p : Program} {l : Launch} {e : Env} {s s0 : State} {m : MethodId} {args : Array Value} {below : List Frame} {meth : Method} {c : Code} {D : va_G} {cI cZ cC cJ cA : ClassId} {P : Nat → Nat} {M' : Mm} {r' : Int32} {kf33 : Mm → Int32 → Int32 → Rs} (hx : p.tables.exec = Jvm.exec) (hb : c.code = cX1_stand) (hml : c.maxLocals = 3) (hr : meth.sig.returnType = none) (hlk : meth.locks = false) (hgt : ∀ w ∈ GT, w.before args s = true) (hown : s.vm.findClass RX1 = some m.cls) (hK : va_K D vwCl [(cI, .int), (cZ, .boolean), (cC, .char), (cJ, .long), (cA, .array .int)] s) (hO : Old s0 s) (hAO : ∀ q, (aP P 51) q → s0.heap.size ≤ q) (kk33 : ∀ (M : Mm) (v1 : Int32) (v2 : Int32) (H : Heap) (locs : List Loc) (ls : Array Slot), lv_has ls 3 [(0, .ref (P 0)), (1, .int v1), (2, .int v2)] → va_P D vwCl ((wY cI cZ cC cJ cA P) M) H → va_D (aP P 51) ((wY cI cZ cC cJ cA P) M) → va_S (aP P 51) s.heap H locs → kf33 M v1 v2 = some (M', r') → W p l e ({ frames := 0, cells := 0, slots := 0, locals := 0 }) s m args below meth c H locs 0 0 (MQ below (gQv D (aP P 51) ((wY cI cZ cC cJ cA P) M')) args s 0 0 (aP P 51)) (F0 m 33 ls [])) : ∀ (M : Mm) (v1 : Int32) (v2 : Int32) (t0 : Int32) (t1 : Int32) (H : Heap) (locs : List Loc) (ls : Array Slot), lv_has ls 3 [(0, .ref (P 0)), (1, .int v1), (2, .int v2)] → va_P D vwCl ((wY cI cZ cC cJ cA P) M) H → va_D (aP P 51) ((wY cI cZ cC cJ cA P) M) → va_S (aP P 51) s.heap H locs → q_ChipMapModel_stand_65 kf33 M v1 v2 t0 t1 = some (M', r') → W p l e ({ frames := 0, cells := 0, slots := 0, locals := 0 }) s m args below meth c H locs 0 0 (MQ below (gQv D (aP P 51) ((wY cI cZ cC cJ cA P) M')) args s 0 0 (aP P 51)) (F0 m 65 ls [.int t0, .int t1, .ref (P 36)]) := by
  intro M v1 v2 t0 t1 H locs ls hl hP hD hS h
  unfold q_ChipMapModel_stand_65 at h
  refine pm_zast (w := (wY cI cZ cC cJ cA P)) hx hb hK hP hD hS 36 1 gY_36 rfl sY_36 (ix_l h) dX1_stand_65 (fun M1 eM1 H locs hP hD hS => ?_)
  have h := ix_r h
  have h := lt_o eM1 h
  refine lv_iinc (v := (v2 + 1)) hx hb dX1_stand_66 hl (k := 2) rfl rfl (Nat.le_of_ble_eq_true rfl) (lv' := [(2, .int (v2 + 1)), (0, .ref (P 0)), (1, .int v1)]) rfl (fun ls hl => ?_)
  refine lv_goto hx hb dX1_stand_69 (tgt := 33) rfl ?_
  have hl := lv_sub hl [1, 2, 0] (l' := [(0, .ref (P 0)), (1, .int v1), (2, .int (v2 + 1))]) rfl
  exact kk33 M1 v1 (v2 + 1) H locs ls hl hP hD hS h
set_option maxHeartbeats 4000000 in
set_option maxRecDepth 20000 in
theorem b_ChipMapModel_stand_33 {p : Program} {l : Launch} {e : Env} {s s0 : State} {m : MethodId} {args : Array Value} {below : List Frame} {meth : Method} {c : Code} {D : va_G} {cI cZ cC cJ cA : ClassId} {P : Nat → Nat} {M' : Mm} {r' : Int32}  (hx : p.tables.exec = Jvm.exec) (hb : c.code = cX1_stand) (hml : c.maxLocals = 3) (hr : meth.sig.returnType = none) (hlk : meth.locks = false) (hgt : ∀ w ∈ GT, w.before args s = true) (hown : s.vm.findClass RX1 = some m.cls) (hK : va_K D vwCl [(cI, .int), (cZ, .boolean), (cC, .char), (cJ, .long), (cA, .array .int)] s) (hO : Old s0 s) (hAO : ∀ q, (aP P 51) q → s0.heap.size ≤ q)  : ∀ (n' : Nat) (M : Mm) (v1 : Int32) (v2 : Int32) (H : Heap) (locs : List Loc) (ls : Array Slot), lv_has ls 3 [(0, .ref (P 0)), (1, .int v1), (2, .int v2)] → va_P D vwCl ((wY cI cZ cC cJ cA P) M) H → va_D (aP P 51) ((wY cI cZ cC cJ cA P) M) → va_S (aP P 51) s.heap H locs → q_ChipMapModel_stand_33 n' M v1 v2 = some (M', r') → W p l e ({ frames := 0, cells := 0, slots := 0, locals := 0 }) s m args below meth c H locs 0 0 (MQ below (gQv D (aP P 51) ((wY cI cZ cC cJ cA P) M')) args s 0 0 (aP P 51)) (F0 m 33 ls []) := by
  intro n'
  induction n' with
  | zero => exact fun _ _ _ _ _ _ _ _ _ _ h => (rs_n h).elim
  | succ n' ih =>
    intro M v1 v2 H locs ls hl hP hD hS h
    rw [q_ChipMapModel_stand_33] at h
    refine lv_iload_n hx hb dX1_stand_33 rfl (lv_at hl 2 rfl) ?_
    refine lv_aload_n hx hb dX1_stand_34 rfl (lv_at hl 0 rfl) ?_
    refine va_get (D := D) (ci := 1) (v := .int (M.1 0 38)) (C := RX1) (T := TX1) (N := 76) hx hb hgt iwX1 hown hK hP 0 gY_0 rfl 38 (Nat.le_of_ble_eq_true rfl) (hgt _ wd_4_239) (fun _ h9 => h9) rfl dX1_stand_35 ?_
    refine lv_icmp_ge hx hb dX1_stand_38 (tgt := 72) rfl (fun hc => ?_) (fun hc => ?_)
    · have h := br_T hc h
      exact rt_v (w := (wY cI cZ cC cJ cA P)) (r := r') hx hb hr hlk hP hD hS h dX1_stand_72
    · have h := br_F hc h
      refine lv_aload_n hx hb dX1_stand_41 rfl (lv_at hl 0 rfl) ?_
      refine va_get (D := D) (ci := 1) (v := .ref (P 36)) (C := RX1) (T := TX1) (N := 76) hx hb hgt iwX1 hown hK hP 0 gY_0 rfl 46 (Nat.le_of_ble_eq_true rfl) (hgt _ wd_5_7) (fun _ h9 => h9) rfl dX1_stand_42 ?_
      refine lv_iload_n hx hb dX1_stand_45 rfl (lv_at hl 2 rfl) ?_
      refine lv_aload_n hx hb dX1_stand_46 rfl (lv_at hl 0 rfl) ?_
      refine va_get (D := D) (ci := 1) (v := .ref (P 47)) (C := RX1) (T := TX1) (N := 76) hx hb hgt iwX1 hown hK hP 0 gY_0 rfl 66 (Nat.le_of_ble_eq_true rfl) (hgt _ wd_5_27) (fun _ h9 => h9) rfl dX1_stand_47 ?_
      refine lv_iload_n hx hb dX1_stand_50 rfl (lv_at hl 1 rfl) ?_
      refine va_iald hx hb hK hP 47 0 gY_47 rfl (ix_l h) dX1_stand_51 ?_
      have h := ix_r h
      refine lv_iload_n hx hb dX1_stand_52 rfl (lv_at hl 2 rfl) ?_
      refine lv_ishr hx hb dX1_stand_53 ?_
      refine lv_iconst (v := 1) hx hb dX1_stand_54 (by decide) ?_
      refine lv_iand hx hb dX1_stand_55 ?_
      refine lv_iconst (v := 1) hx hb dX1_stand_56 (by decide) ?_
      refine lv_icmp_ne hx hb dX1_stand_57 (tgt := 64) rfl (fun hc => ?_) (fun hc => ?_)
      · have h := br_F hc h
        refine lv_iconst (v := 0) hx hb dX1_stand_64 (by decide) ?_
        have hl := lv_sub hl [0, 1, 2] (l' := [(0, .ref (P 0)), (1, .int v1), (2, .int v2)]) rfl
        exact b_ChipMapModel_stand_65 hx hb hml hr hlk hgt hown hK hO hAO ih M v1 v2 0 v2 H _ ls hl hP hD hS h
      · have h := br_T hc h
        refine lv_iconst (v := 1) hx hb dX1_stand_60 (by decide) ?_
        refine lv_goto hx hb dX1_stand_61 (tgt := 65) rfl ?_
        have hl := lv_sub hl [0, 1, 2] (l' := [(0, .ref (P 0)), (1, .int v1), (2, .int v2)]) rfl
        exact b_ChipMapModel_stand_65 hx hb hml hr hlk hgt hown hK hO hAO ih M v1 v2 1 v2 H _ ls hl hP hD hS h
set_option maxHeartbeats 4000000 in
set_option maxRecDepth 20000 in
theorem b_ChipMapModel_stand_2 {p : Program} {l : Launch} {e : Env} {s s0 : State} {m : MethodId} {args : Array Value} {below : List Frame} {meth : Method} {c : Code} {D : va_G} {cI cZ cC cJ cA : ClassId} {P : Nat → Nat} {M' : Mm} {r' : Int32}  (hx : p.tables.exec = Jvm.exec) (hb : c.code = cX1_stand) (hml : c.maxLocals = 3) (hr : meth.sig.returnType = none) (hlk : meth.locks = false) (hgt : ∀ w ∈ GT, w.before args s = true) (hown : s.vm.findClass RX1 = some m.cls) (hK : va_K D vwCl [(cI, .int), (cZ, .boolean), (cC, .char), (cJ, .long), (cA, .array .int)] s) (hO : Old s0 s) (hAO : ∀ q, (aP P 51) q → s0.heap.size ≤ q)  : ∀ (n' : Nat) (M : Mm) (v1 : Int32) (v2 : Int32) (H : Heap) (locs : List Loc) (ls : Array Slot), lv_has ls 3 [(0, .ref (P 0)), (1, .int v1), (2, .int v2)] → va_P D vwCl ((wY cI cZ cC cJ cA P) M) H → va_D (aP P 51) ((wY cI cZ cC cJ cA P) M) → va_S (aP P 51) s.heap H locs → q_ChipMapModel_stand_2 n' M v1 v2 = some (M', r') → W p l e ({ frames := 0, cells := 0, slots := 0, locals := 0 }) s m args below meth c H locs 0 0 (MQ below (gQv D (aP P 51) ((wY cI cZ cC cJ cA P) M')) args s 0 0 (aP P 51)) (F0 m 2 ls []) := by
  intro n'
  induction n' with
  | zero => exact fun _ _ _ _ _ _ _ _ _ _ h => (rs_n h).elim
  | succ n' ih =>
    intro M v1 v2 H locs ls hl hP hD hS h
    rw [q_ChipMapModel_stand_2] at h
    refine lv_iload_n hx hb dX1_stand_2 rfl (lv_at hl 2 rfl) ?_
    refine lv_bipush (v := 26) hx hb dX1_stand_3 (by decide) ?_
    refine lv_icmp_ge hx hb dX1_stand_5 (tgt := 31) rfl (fun hc => ?_) (fun hc => ?_)
    · have h := br_T hc h
      refine lv_iconst (v := 0) hx hb dX1_stand_31 (by decide) ?_
      refine lv_istore_n hx hb dX1_stand_32 rfl hl (Nat.le_of_ble_eq_true rfl) (lv' := [(2, .int 0), (0, .ref (P 0)), (1, .int v1)]) rfl (fun ls hl => ?_)
      have hl := lv_sub hl [1, 2, 0] (l' := [(0, .ref (P 0)), (1, .int v1), (2, .int 0)]) rfl
      exact b_ChipMapModel_stand_33 hx hb hml hr hlk hgt hown hK hO hAO 4000 M v1 0 H _ ls hl hP hD hS h
    · have h := br_F hc h
      refine lv_aload_n hx hb dX1_stand_8 rfl (lv_at hl 0 rfl) ?_
      refine va_get (D := D) (ci := 1) (v := .ref (P 33)) (C := RX1) (T := TX1) (N := 76) hx hb hgt iwX1 hown hK hP 0 gY_0 rfl 43 (Nat.le_of_ble_eq_true rfl) (hgt _ wd_5_4) (fun _ h9 => h9) rfl dX1_stand_9 ?_
      refine lv_iload_n hx hb dX1_stand_12 rfl (lv_at hl 2 rfl) ?_
      refine lv_aload_n hx hb dX1_stand_13 rfl (lv_at hl 0 rfl) ?_
      refine va_get (D := D) (ci := 1) (v := .ref (P 46)) (C := RX1) (T := TX1) (N := 76) hx hb hgt iwX1 hown hK hP 0 gY_0 rfl 65 (Nat.le_of_ble_eq_true rfl) (hgt _ wd_5_26) (fun _ h9 => h9) rfl dX1_stand_14 ?_
      refine lv_bipush (v := 26) hx hb dX1_stand_17 (by decide) ?_
      refine lv_iload_n hx hb dX1_stand_19 rfl (lv_at hl 1 rfl) ?_
      refine lv_imul hx hb dX1_stand_20 ?_
      refine lv_iload_n hx hb dX1_stand_21 rfl (lv_at hl 2 rfl) ?_
      refine lv_iadd hx hb dX1_stand_22 ?_
      refine va_iald hx hb hK hP 46 0 gY_46 rfl (ix_l h) dX1_stand_23 ?_
      have h := ix_r h
      refine pm_iast (w := (wY cI cZ cC cJ cA P)) hx hb hK hP hD hS 33 0 gY_33 rfl sY_33 (ix_l h) dX1_stand_24 (fun M1 eM1 H locs hP hD hS => ?_)
      have h := ix_r h
      have h := lt_o eM1 h
      refine lv_iinc (v := (v2 + 1)) hx hb dX1_stand_25 hl (k := 2) rfl rfl (Nat.le_of_ble_eq_true rfl) (lv' := [(2, .int (v2 + 1)), (0, .ref (P 0)), (1, .int v1)]) rfl (fun ls hl => ?_)
      refine lv_goto hx hb dX1_stand_28 (tgt := 2) rfl ?_
      have hl := lv_sub hl [1, 2, 0] (l' := [(0, .ref (P 0)), (1, .int v1), (2, .int (v2 + 1))]) rfl
      exact ih M1 v1 (v2 + 1) H locs ls hl hP hD hS h
set_option maxHeartbeats 4000000 in
set_option maxRecDepth 20000 in
theorem b_ChipMapModel_stand_0 {p : Program} {l : Launch} {e : Env} {s s0 : State} {m : MethodId} {args : Array Value} {below : List Frame} {meth : Method} {c : Code} {D : va_G} {cI cZ cC cJ cA : ClassId} {P : Nat → Nat} {M' : Mm} {r' : Int32}  (hx : p.tables.exec = Jvm.exec) (hb : c.code = cX1_stand) (hml : c.maxLocals = 3) (hr : meth.sig.returnType = none) (hlk : meth.locks = false) (hgt : ∀ w ∈ GT, w.before args s = true) (hown : s.vm.findClass RX1 = some m.cls) (hK : va_K D vwCl [(cI, .int), (cZ, .boolean), (cC, .char), (cJ, .long), (cA, .array .int)] s) (hO : Old s0 s) (hAO : ∀ q, (aP P 51) q → s0.heap.size ≤ q)  : ∀ (M : Mm) (a1 : Int32) (H : Heap) (locs : List Loc) (ls : Array Slot), lv_has ls 3 [(0, .ref (P 0)), (1, .int a1)] → va_P D vwCl ((wY cI cZ cC cJ cA P) M) H → va_D (aP P 51) ((wY cI cZ cC cJ cA P) M) → va_S (aP P 51) s.heap H locs → q_ChipMapModel_stand M a1 = some (M', r') → W p l e ({ frames := 0, cells := 0, slots := 0, locals := 0 }) s m args below meth c H locs 0 0 (MQ below (gQv D (aP P 51) ((wY cI cZ cC cJ cA P) M')) args s 0 0 (aP P 51)) (F0 m 0 ls []) := by
  intro M a1 H locs ls hl hP hD hS h
  unfold q_ChipMapModel_stand at h
  refine lv_iconst (v := 0) hx hb dX1_stand_0 (by decide) ?_
  refine lv_istore_n hx hb dX1_stand_1 rfl hl (Nat.le_of_ble_eq_true rfl) (lv' := [(2, .int 0), (0, .ref (P 0)), (1, .int a1)]) rfl (fun ls hl => ?_)
  have hl := lv_sub hl [1, 2, 0] (l' := [(0, .ref (P 0)), (1, .int a1), (2, .int 0)]) rfl
  exact b_ChipMapModel_stand_2 hx hb hml hr hlk hgt hown hK hO hAO 4000 M a1 0 H _ ls hl hP hD hS h
set_option maxHeartbeats 4000000 in
set_option maxRecDepth 20000 in
theorem z_ChipMapModel_stand (l : Launch) (D : va_G) (cI cZ cC cJ cA : ClassId) (P : Nat → Nat) (s0 : State) (hAO : ∀ q, (aP P 51) q → s0.heap.size ≤ q) (M : Mm) (a1 : Int32) (M' : Mm) (r' : Int32) (h : q_ChipMapModel_stand M a1 = some (M', r')) : Met l yX1_stand wsX1_stand ({ frames := 0, cells := 0, slots := 0, locals := 0 }) (va_Pc [.ref (P 0), .int a1] (gPre s0 D [(cI, .int), (cZ, .boolean), (cC, .char), (cJ, .long), (cA, .array .int)] (aP P 51) ((wY cI cZ cC cJ cA P) M))) (gQv D (aP P 51) ((wY cI cZ cC cJ cA P) M')) 0 0 (aP P 51) := by
  refine Met.ofW (cc := cX1_stand) (maxL := 3) (ret := none) (by decide) rfl ?_
  intro p e s m args below meth c s₁ B hml hv
  obtain ⟨rfl, hP, hK, hD, hO⟩ := hv
  have hx := B.exec
  have hb := B.bytes
  have hr := B.returns
  have hlk := B.notSynchronized
  have hgt := fun w (h : w ∈ GT) => atoms_spec (ws := wsX1_stand) B.pre w (List.mem_cons_of_mem _ h)
  have hown : s.vm.findClass RX1 = some m.cls := findClass_of_methodNamed B.named
  have hS : va_S (aP P 51) s.heap s.heap [] := va_S.rf
  have hl := lv_entry ([.ref (P 0), .int a1]) (n := 3) (Nat.le_of_ble_eq_true rfl)
  rw [lg_entry_eq]
  generalize (lg_sl ([.ref (P 0), .int a1]) ++ List.replicate (3 - (lg_sl ([.ref (P 0), .int a1])).length) Slot.unset).toArray = ls at hl ⊢
  have hl : lv_has ls 3 [(0, .ref (P 0)), (1, .int a1)] := hl
  exact b_ChipMapModel_stand_0 hx hb hml hr hlk hgt hown hK hO hAO M a1 s.heap [] ls hl hP hD hS h
def q_ChipMapModel_goOn_23  (M : Mm) (v1 : Int32) (v2 : Int32) : Rs := cal (q_ChipMapModel_stand M v1) fun M1 r2 => if v2 = 40 then (some (M1, 0)) else (cal (q_ChipMapModel_meet M1 40) fun M3 r4 => some (M3, 0))
def q_ChipMapModel_goOn_171  (M : Mm) (v2 : Int32) : Rs := lt' (stI M 0 (upd (M.1 0) 75 v2)) fun M1 => lt' (stI M1 0 (upd (M1.1 0) 68 ((M1.1 0 56) + 1))) fun M2 => some (M2, 0)
def q_ChipMapModel_goOn_117  (M : Mm) (v2 : Int32) : Rs := if (M.1 0 55) = 0 then (cal (q_ChipMapModel_meet M (v2 + 1)) fun M1 r2 => some (M1, 0)) else (if (M.1 0 75) = (-1) then (q_ChipMapModel_goOn_171 M v2) else (if v2 < (M.1 0 75) then (q_ChipMapModel_goOn_171 M v2) else (if v2 = (M.1 0 75) then (if ((M.1 0 68) - 1) ≤ (M.1 0 56) then (some (M, 0)) else (q_ChipMapModel_goOn_171 M v2)) else (some (M, 0)))))
def q_ChipMapModel_goOn  (M : Mm) (a1 : Int32) : Rs := ix a1 1001 <| lt' (M.1 45 (a1 : Int32).toNatClampNeg) fun x1 => if x1 = 40 then (q_ChipMapModel_goOn_23 M a1 x1) else (ix x1 40 <| if (M.1 42 (x1 : Int32).toNatClampNeg) = 3 then (q_ChipMapModel_goOn_23 M a1 x1) else (cal (q_ChipMapModel_stand M a1) fun M2 r3 => ix x1 40 <| if (M2.1 42 (x1 : Int32).toNatClampNeg) = 2 then (ix x1 40 <| cal (q_ChipMapModel_meet M2 (M2.1 44 (x1 : Int32).toNatClampNeg)) fun M4 r5 => cal (q_ChipMapModel_meet M4 (x1 + 1)) fun M6 r7 => some (M6, 0)) else (lt' (stI M2 0 (upd (M2.1 0) 55 0)) fun M4 => ix x1 40 <| if (M4.1 42 (x1 : Int32).toNatClampNeg) = 0 then (ix x1 40 <| ix x1 40 <| cal (q_ChipMapModel_doPut M4 (M4.1 43 (x1 : Int32).toNatClampNeg) (M4.1 44 (x1 : Int32).toNatClampNeg)) fun M5 r6 => q_ChipMapModel_goOn_117 M5 x1) else (ix x1 40 <| cal (q_ChipMapModel_doFetch M4 (M4.1 43 (x1 : Int32).toNatClampNeg)) fun M5 r6 => q_ChipMapModel_goOn_117 M5 x1))))
set_option maxHeartbeats 4000000 in
set_option maxRecDepth 20000 in
theorem b_ChipMapModel_goOn_23 {p : Program} {l : Launch} {e : Env} {s s0 : State} {m : MethodId} {args : Array Value} {below : List Frame} {meth : Method} {c : Code} {D : va_G} {cI cZ cC cJ cA : ClassId} {P : Nat → Nat} {M' : Mm} {r' : Int32}  (hx : p.tables.exec = Jvm.exec) (hb : c.code = cX1_goOn) (hml : c.maxLocals = 3) (hr : meth.sig.returnType = none) (hlk : meth.locks = false) (hgt : ∀ w ∈ GT, w.before args s = true) (hown : s.vm.findClass RX1 = some m.cls) (hK : va_K D vwCl [(cI, .int), (cZ, .boolean), (cC, .char), (cJ, .long), (cA, .array .int)] s) (hO : Old s0 s) (hAO : ∀ q, (aP P 51) q → s0.heap.size ≤ q)  : ∀ (M : Mm) (v1 : Int32) (v2 : Int32) (H : Heap) (locs : List Loc) (ls : Array Slot), lv_has ls 3 [(0, .ref (P 0)), (1, .int v1), (2, .int v2)] → va_P D vwCl ((wY cI cZ cC cJ cA P) M) H → va_D (aP P 51) ((wY cI cZ cC cJ cA P) M) → va_S (aP P 51) s.heap H locs → q_ChipMapModel_goOn_23 M v1 v2 = some (M', r') → W p l e ({ frames := 7, cells := 0, slots := 0, locals := 161 }) s m args below meth c H locs 0 0 (MQ below (gQv D (aP P 51) ((wY cI cZ cC cJ cA P) M')) args s 0 0 (aP P 51)) (F0 m 23 ls []) := by
  intro M v1 v2 H locs ls hl hP hD hS h
  unfold q_ChipMapModel_goOn_23 at h
  refine lv_aload_n hx hb dX1_goOn_23 rfl (lv_at hl 0 rfl) ?_
  refine lv_iload_n hx hb dX1_goOn_24 rfl (lv_at hl 1 rfl) ?_
  obtain ⟨M1, r2, hq, h⟩ := cal_o h
  refine cx_v (va_runV (As := [.int v1]) (rest := []) ⟨hx, hb, hml, hown, hgt⟩ (z_ChipMapModel_stand l D cI cZ cC cJ cA P s0 hAO M v1 M1 r2 hq) (cwV 1 hgt (gV wd_6_222 wd_6_224 sl__ChipMapModel____ChipMapModel___stand____I_V_____ChipMapModel___stand____I_V__ wd_0_15 wd_6_225) rfl rfl rfl (by decide +kernel) ⟨Nat.le_of_ble_eq_true rfl, Nat.le_of_ble_eq_true rfl⟩) (prV hP hK hD hO hAO hS (va_recv hK hP (ci := 1) (q0 := 0) rfl gY_0)) rfl rfl hl.1 rfl (lv_room (Nat.le_of_ble_eq_true rfl)) dX1_goOn_25 ⟨Nat.le_of_ble_eq_true rfl, Nat.le_of_ble_eq_true rfl⟩) hS (fun H locs hP hD hS => ?_)
  refine lv_iload_n hx hb dX1_goOn_28 rfl (lv_at hl 2 rfl) ?_
  refine lv_bipush (v := 40) hx hb dX1_goOn_29 (by decide) ?_
  refine lv_icmp_eq hx hb dX1_goOn_31 (tgt := 40) rfl (fun hc => ?_) (fun hc => ?_)
  · have h := br_T hc h
    exact rt_v (w := (wY cI cZ cC cJ cA P)) (r := r') hx hb hr hlk hP hD hS h dX1_goOn_40
  · have h := br_F hc h
    refine lv_aload_n hx hb dX1_goOn_34 rfl (lv_at hl 0 rfl) ?_
    refine lv_bipush (v := 40) hx hb dX1_goOn_35 (by decide) ?_
    obtain ⟨M3, r4, hq, h⟩ := cal_o h
    refine cx_v (va_runV (As := [.int 40]) (rest := []) ⟨hx, hb, hml, hown, hgt⟩ (z_ChipMapModel_meet l D cI cZ cC cJ cA P s0 hAO M1 40 M3 r4 hq) (cwV 1 hgt (gV wd_6_206 wd_6_208 sl__ChipMapModel____ChipMapModel___meet____I_V_____ChipMapModel___meet____I_V__ wd_0_15 wd_6_209) rfl rfl rfl (by decide +kernel) ⟨Nat.le_of_ble_eq_true rfl, Nat.le_of_ble_eq_true rfl⟩) (prV hP hK hD hO hAO hS (va_recv hK hP (ci := 1) (q0 := 0) rfl gY_0)) rfl rfl hl.1 rfl (lv_room (Nat.le_of_ble_eq_true rfl)) dX1_goOn_37 ⟨Nat.le_of_ble_eq_true rfl, Nat.le_of_ble_eq_true rfl⟩) hS (fun H locs hP hD hS => ?_)
    exact rt_v (w := (wY cI cZ cC cJ cA P)) (r := r') hx hb hr hlk hP hD hS h dX1_goOn_40
set_option maxHeartbeats 4000000 in
set_option maxRecDepth 20000 in
theorem b_ChipMapModel_goOn_171 {p : Program} {l : Launch} {e : Env} {s s0 : State} {m : MethodId} {args : Array Value} {below : List Frame} {meth : Method} {c : Code} {D : va_G} {cI cZ cC cJ cA : ClassId} {P : Nat → Nat} {M' : Mm} {r' : Int32}  (hx : p.tables.exec = Jvm.exec) (hb : c.code = cX1_goOn) (hml : c.maxLocals = 3) (hr : meth.sig.returnType = none) (hlk : meth.locks = false) (hgt : ∀ w ∈ GT, w.before args s = true) (hown : s.vm.findClass RX1 = some m.cls) (hK : va_K D vwCl [(cI, .int), (cZ, .boolean), (cC, .char), (cJ, .long), (cA, .array .int)] s) (hO : Old s0 s) (hAO : ∀ q, (aP P 51) q → s0.heap.size ≤ q)  : ∀ (M : Mm) (v2 : Int32) (H : Heap) (locs : List Loc) (ls : Array Slot), lv_has ls 3 [(0, .ref (P 0)), (2, .int v2)] → va_P D vwCl ((wY cI cZ cC cJ cA P) M) H → va_D (aP P 51) ((wY cI cZ cC cJ cA P) M) → va_S (aP P 51) s.heap H locs → q_ChipMapModel_goOn_171 M v2 = some (M', r') → W p l e ({ frames := 7, cells := 0, slots := 0, locals := 161 }) s m args below meth c H locs 0 0 (MQ below (gQv D (aP P 51) ((wY cI cZ cC cJ cA P) M')) args s 0 0 (aP P 51)) (F0 m 171 ls []) := by
  intro M v2 H locs ls hl hP hD hS h
  unfold q_ChipMapModel_goOn_171 at h
  refine lv_aload_n hx hb dX1_goOn_171 rfl (lv_at hl 0 rfl) ?_
  refine lv_iload_n hx hb dX1_goOn_172 rfl (lv_at hl 1 rfl) ?_
  refine pm_put (w := (wY cI cZ cC cJ cA P)) (D := D) (ci := 1) (x := v2) (ty := .int) (C := RX1) (T := TX1) (N := 76) hx hb hgt iwX1 tyX1 tyX1_ok nmX1 hown hK hP hD hS 0 gY_0 rfl 75 (Nat.le_of_ble_eq_true rfl) (hgt _ wd_5_36) (fun _ h9 => h9) rfl (by decide +kernel) rfl rfl (Nat.le_of_ble_eq_true rfl) (sY_0_75 _) dX1_goOn_173 (fun M1 eM1 H locs hP hD hS => ?_)
  have h := lt_o eM1 h
  refine lv_aload_n hx hb dX1_goOn_176 rfl (lv_at hl 0 rfl) ?_
  refine lv_aload_n hx hb dX1_goOn_177 rfl (lv_at hl 0 rfl) ?_
  refine va_get (D := D) (ci := 1) (v := .int (M1.1 0 56)) (C := RX1) (T := TX1) (N := 76) hx hb hgt iwX1 hown hK hP 0 gY_0 rfl 56 (Nat.le_of_ble_eq_true rfl) (hgt _ wd_5_17) (fun _ h9 => h9) rfl dX1_goOn_178 ?_
  refine lv_iconst (v := 1) hx hb dX1_goOn_181 (by decide) ?_
  refine lv_iadd hx hb dX1_goOn_182 ?_
  refine pm_put (w := (wY cI cZ cC cJ cA P)) (D := D) (ci := 1) (x := ((M1.1 0 56) + 1)) (ty := .int) (C := RX1) (T := TX1) (N := 76) hx hb hgt iwX1 tyX1 tyX1_ok nmX1 hown hK hP hD hS 0 gY_0 rfl 68 (Nat.le_of_ble_eq_true rfl) (hgt _ wd_5_29) (fun _ h9 => h9) rfl (by decide +kernel) rfl rfl (Nat.le_of_ble_eq_true rfl) (sY_0_68 _) dX1_goOn_183 (fun M2 eM2 H locs hP hD hS => ?_)
  have h := lt_o eM2 h
  exact rt_v (w := (wY cI cZ cC cJ cA P)) (r := r') hx hb hr hlk hP hD hS h dX1_goOn_186
set_option maxHeartbeats 4000000 in
set_option maxRecDepth 20000 in
theorem b_ChipMapModel_goOn_117 {p : Program} {l : Launch} {e : Env} {s s0 : State} {m : MethodId} {args : Array Value} {below : List Frame} {meth : Method} {c : Code} {D : va_G} {cI cZ cC cJ cA : ClassId} {P : Nat → Nat} {M' : Mm} {r' : Int32}  (hx : p.tables.exec = Jvm.exec) (hb : c.code = cX1_goOn) (hml : c.maxLocals = 3) (hr : meth.sig.returnType = none) (hlk : meth.locks = false) (hgt : ∀ w ∈ GT, w.before args s = true) (hown : s.vm.findClass RX1 = some m.cls) (hK : va_K D vwCl [(cI, .int), (cZ, .boolean), (cC, .char), (cJ, .long), (cA, .array .int)] s) (hO : Old s0 s) (hAO : ∀ q, (aP P 51) q → s0.heap.size ≤ q)  : ∀ (M : Mm) (v2 : Int32) (H : Heap) (locs : List Loc) (ls : Array Slot), lv_has ls 3 [(0, .ref (P 0)), (2, .int v2)] → va_P D vwCl ((wY cI cZ cC cJ cA P) M) H → va_D (aP P 51) ((wY cI cZ cC cJ cA P) M) → va_S (aP P 51) s.heap H locs → q_ChipMapModel_goOn_117 M v2 = some (M', r') → W p l e ({ frames := 7, cells := 0, slots := 0, locals := 161 }) s m args below meth c H locs 0 0 (MQ below (gQv D (aP P 51) ((wY cI cZ cC cJ cA P) M')) args s 0 0 (aP P 51)) (F0 m 117 ls []) := by
  intro M v2 H locs ls hl hP hD hS h
  unfold q_ChipMapModel_goOn_117 at h
  refine lv_aload_n hx hb dX1_goOn_117 rfl (lv_at hl 0 rfl) ?_
  refine va_get (D := D) (ci := 1) (v := .int (M.1 0 55)) (C := RX1) (T := TX1) (N := 76) hx hb hgt iwX1 hown hK hP 0 gY_0 rfl 55 (Nat.le_of_ble_eq_true rfl) (hgt _ wd_5_16) (fun _ h9 => h9) rfl dX1_goOn_118 ?_
  refine lv_if_ne hx hb dX1_goOn_121 (tgt := 134) rfl (fun hc => ?_) (fun hc => ?_)
  · have h := br_F hc h
    refine lv_aload_n hx hb dX1_goOn_134 rfl (lv_at hl 0 rfl) ?_
    refine va_get (D := D) (ci := 1) (v := .int (M.1 0 75)) (C := RX1) (T := TX1) (N := 76) hx hb hgt iwX1 hown hK hP 0 gY_0 rfl 75 (Nat.le_of_ble_eq_true rfl) (hgt _ wd_5_36) (fun _ h9 => h9) rfl dX1_goOn_135 ?_
    refine lv_iconst (v := (-1)) hx hb dX1_goOn_138 (by decide) ?_
    refine lv_icmp_eq hx hb dX1_goOn_139 (tgt := 171) rfl (fun hc => ?_) (fun hc => ?_)
    · have h := br_T hc h
      have hl := lv_sub hl [0, 1] (l' := [(0, .ref (P 0)), (2, .int v2)]) rfl
      exact b_ChipMapModel_goOn_171 hx hb hml hr hlk hgt hown hK hO hAO M v2 H _ ls hl hP hD hS h
    · have h := br_F hc h
      refine lv_iload_n hx hb dX1_goOn_142 rfl (lv_at hl 1 rfl) ?_
      refine lv_aload_n hx hb dX1_goOn_143 rfl (lv_at hl 0 rfl) ?_
      refine va_get (D := D) (ci := 1) (v := .int (M.1 0 75)) (C := RX1) (T := TX1) (N := 76) hx hb hgt iwX1 hown hK hP 0 gY_0 rfl 75 (Nat.le_of_ble_eq_true rfl) (hgt _ wd_5_36) (fun _ h9 => h9) rfl dX1_goOn_144 ?_
      refine lv_icmp_lt hx hb dX1_goOn_147 (tgt := 171) rfl (fun hc => ?_) (fun hc => ?_)
      · have h := br_T hc h
        have hl := lv_sub hl [0, 1] (l' := [(0, .ref (P 0)), (2, .int v2)]) rfl
        exact b_ChipMapModel_goOn_171 hx hb hml hr hlk hgt hown hK hO hAO M v2 H _ ls hl hP hD hS h
      · have h := br_F hc h
        refine lv_iload_n hx hb dX1_goOn_150 rfl (lv_at hl 1 rfl) ?_
        refine lv_aload_n hx hb dX1_goOn_151 rfl (lv_at hl 0 rfl) ?_
        refine va_get (D := D) (ci := 1) (v := .int (M.1 0 75)) (C := RX1) (T := TX1) (N := 76) hx hb hgt iwX1 hown hK hP 0 gY_0 rfl 75 (Nat.le_of_ble_eq_true rfl) (hgt _ wd_5_36) (fun _ h9 => h9) rfl dX1_goOn_152 ?_
        refine lv_icmp_ne hx hb dX1_goOn_155 (tgt := 186) rfl (fun hc => ?_) (fun hc => ?_)
        · have h := br_F hc h
          exact rt_v (w := (wY cI cZ cC cJ cA P)) (r := r') hx hb hr hlk hP hD hS h dX1_goOn_186
        · have h := br_T hc h
          refine lv_aload_n hx hb dX1_goOn_158 rfl (lv_at hl 0 rfl) ?_
          refine va_get (D := D) (ci := 1) (v := .int (M.1 0 56)) (C := RX1) (T := TX1) (N := 76) hx hb hgt iwX1 hown hK hP 0 gY_0 rfl 56 (Nat.le_of_ble_eq_true rfl) (hgt _ wd_5_17) (fun _ h9 => h9) rfl dX1_goOn_159 ?_
          refine lv_aload_n hx hb dX1_goOn_162 rfl (lv_at hl 0 rfl) ?_
          refine va_get (D := D) (ci := 1) (v := .int (M.1 0 68)) (C := RX1) (T := TX1) (N := 76) hx hb hgt iwX1 hown hK hP 0 gY_0 rfl 68 (Nat.le_of_ble_eq_true rfl) (hgt _ wd_5_29) (fun _ h9 => h9) rfl dX1_goOn_163 ?_
          refine lv_iconst (v := 1) hx hb dX1_goOn_166 (by decide) ?_
          refine lv_isub hx hb dX1_goOn_167 ?_
          refine lv_icmp_ge hx hb dX1_goOn_168 (tgt := 186) rfl (fun hc => ?_) (fun hc => ?_)
          · have h := br_T hc h
            exact rt_v (w := (wY cI cZ cC cJ cA P)) (r := r') hx hb hr hlk hP hD hS h dX1_goOn_186
          · have h := br_F hc h
            have hl := lv_sub hl [0, 1] (l' := [(0, .ref (P 0)), (2, .int v2)]) rfl
            exact b_ChipMapModel_goOn_171 hx hb hml hr hlk hgt hown hK hO hAO M v2 H _ ls hl hP hD hS h
  · have h := br_T hc h
    refine lv_aload_n hx hb dX1_goOn_124 rfl (lv_at hl 0 rfl) ?_
    refine lv_iload_n hx hb dX1_goOn_125 rfl (lv_at hl 1 rfl) ?_
    refine lv_iconst (v := 1) hx hb dX1_goOn_126 (by decide) ?_
    refine lv_iadd hx hb dX1_goOn_127 ?_
    obtain ⟨M1, r2, hq, h⟩ := cal_o h
    refine cx_v (va_runV (As := [.int (v2 + 1)]) (rest := []) ⟨hx, hb, hml, hown, hgt⟩ (z_ChipMapModel_meet l D cI cZ cC cJ cA P s0 hAO M (v2 + 1) M1 r2 hq) (cwV 1 hgt (gV wd_6_206 wd_6_208 sl__ChipMapModel____ChipMapModel___meet____I_V_____ChipMapModel___meet____I_V__ wd_0_15 wd_6_209) rfl rfl rfl (by decide +kernel) ⟨Nat.le_of_ble_eq_true rfl, Nat.le_of_ble_eq_true rfl⟩) (prV hP hK hD hO hAO hS (va_recv hK hP (ci := 1) (q0 := 0) rfl gY_0)) rfl rfl hl.1 rfl (lv_room (Nat.le_of_ble_eq_true rfl)) dX1_goOn_128 ⟨Nat.le_of_ble_eq_true rfl, Nat.le_of_ble_eq_true rfl⟩) hS (fun H locs hP hD hS => ?_)
    refine lv_goto hx hb dX1_goOn_131 (tgt := 186) rfl ?_
    exact rt_v (w := (wY cI cZ cC cJ cA P)) (r := r') hx hb hr hlk hP hD hS h dX1_goOn_186
set_option maxHeartbeats 4000000 in
set_option maxRecDepth 20000 in
theorem b_ChipMapModel_goOn_0 {p : Program} {l : Launch} {e : Env} {s s0 : State} {m : MethodId} {args : Array Value} {below : List Frame} {meth : Method} {c : Code} {D : va_G} {cI cZ cC cJ cA : ClassId} {P : Nat → Nat} {M' : Mm} {r' : Int32}  (hx : p.tables.exec = Jvm.exec) (hb : c.code = cX1_goOn) (hml : c.maxLocals = 3) (hr : meth.sig.returnType = none) (hlk : meth.locks = false) (hgt : ∀ w ∈ GT, w.before args s = true) (hown : s.vm.findClass RX1 = some m.cls) (hK : va_K D vwCl [(cI, .int), (cZ, .boolean), (cC, .char), (cJ, .long), (cA, .array .int)] s) (hO : Old s0 s) (hAO : ∀ q, (aP P 51) q → s0.heap.size ≤ q)  : ∀ (M : Mm) (a1 : Int32) (H : Heap) (locs : List Loc) (ls : Array Slot), lv_has ls 3 [(0, .ref (P 0)), (1, .int a1)] → va_P D vwCl ((wY cI cZ cC cJ cA P) M) H → va_D (aP P 51) ((wY cI cZ cC cJ cA P) M) → va_S (aP P 51) s.heap H locs → q_ChipMapModel_goOn M a1 = some (M', r') → W p l e ({ frames := 7, cells := 0, slots := 0, locals := 161 }) s m args below meth c H locs 0 0 (MQ below (gQv D (aP P 51) ((wY cI cZ cC cJ cA P) M')) args s 0 0 (aP P 51)) (F0 m 0 ls []) := by
  intro M a1 H locs ls hl hP hD hS h
  unfold q_ChipMapModel_goOn at h
  refine lv_aload_n hx hb dX1_goOn_0 rfl (lv_at hl 0 rfl) ?_
  refine va_get (D := D) (ci := 1) (v := .ref (P 45)) (C := RX1) (T := TX1) (N := 76) hx hb hgt iwX1 hown hK hP 0 gY_0 rfl 64 (Nat.le_of_ble_eq_true rfl) (hgt _ wd_5_25) (fun _ h9 => h9) rfl dX1_goOn_1 ?_
  refine lv_iload_n hx hb dX1_goOn_4 rfl (lv_at hl 1 rfl) ?_
  refine va_iald hx hb hK hP 45 0 gY_45 rfl (ix_l h) dX1_goOn_5 ?_
  have h := ix_r h
  refine lv_topi (fun x1 ex1 => ?_)
  have h := lt_o ex1 h
  refine lv_istore_n hx hb dX1_goOn_6 rfl hl (Nat.le_of_ble_eq_true rfl) (lv' := [(2, .int x1), (0, .ref (P 0)), (1, .int a1)]) rfl (fun ls hl => ?_)
  refine lv_iload_n hx hb dX1_goOn_7 rfl (lv_at hl 0 rfl) ?_
  refine lv_bipush (v := 40) hx hb dX1_goOn_8 (by decide) ?_
  refine lv_icmp_eq hx hb dX1_goOn_10 (tgt := 23) rfl (fun hc => ?_) (fun hc => ?_)
  · have h := br_T hc h
    have hl := lv_sub hl [1, 2, 0] (l' := [(0, .ref (P 0)), (1, .int a1), (2, .int x1)]) rfl
    exact b_ChipMapModel_goOn_23 hx hb hml hr hlk hgt hown hK hO hAO M a1 x1 H _ ls hl hP hD hS h
  · have h := br_F hc h
    refine lv_aload_n hx hb dX1_goOn_13 rfl (lv_at hl 1 rfl) ?_
    refine va_get (D := D) (ci := 1) (v := .ref (P 42)) (C := RX1) (T := TX1) (N := 76) hx hb hgt iwX1 hown hK hP 0 gY_0 rfl 60 (Nat.le_of_ble_eq_true rfl) (hgt _ wd_5_21) (fun _ h9 => h9) rfl dX1_goOn_14 ?_
    refine lv_iload_n hx hb dX1_goOn_17 rfl (lv_at hl 0 rfl) ?_
    refine va_iald hx hb hK hP 42 0 gY_42 rfl (ix_l h) dX1_goOn_18 ?_
    have h := ix_r h
    refine lv_iconst (v := 3) hx hb dX1_goOn_19 (by decide) ?_
    refine lv_icmp_ne hx hb dX1_goOn_20 (tgt := 41) rfl (fun hc => ?_) (fun hc => ?_)
    · have h := br_F hc h
      refine lv_aload_n hx hb dX1_goOn_41 rfl (lv_at hl 1 rfl) ?_
      refine lv_iload_n hx hb dX1_goOn_42 rfl (lv_at hl 2 rfl) ?_
      obtain ⟨M2, r3, hq, h⟩ := cal_o h
      refine cx_v (va_runV (As := [.int a1]) (rest := []) ⟨hx, hb, hml, hown, hgt⟩ (z_ChipMapModel_stand l D cI cZ cC cJ cA P s0 hAO M a1 M2 r3 hq) (cwV 1 hgt (gV wd_6_222 wd_6_224 sl__ChipMapModel____ChipMapModel___stand____I_V_____ChipMapModel___stand____I_V__ wd_0_15 wd_6_225) rfl rfl rfl (by decide +kernel) ⟨Nat.le_of_ble_eq_true rfl, Nat.le_of_ble_eq_true rfl⟩) (prV hP hK hD hO hAO hS (va_recv hK hP (ci := 1) (q0 := 0) rfl gY_0)) rfl rfl hl.1 rfl (lv_room (Nat.le_of_ble_eq_true rfl)) dX1_goOn_43 ⟨Nat.le_of_ble_eq_true rfl, Nat.le_of_ble_eq_true rfl⟩) hS (fun H locs hP hD hS => ?_)
      refine lv_aload_n hx hb dX1_goOn_46 rfl (lv_at hl 1 rfl) ?_
      refine va_get (D := D) (ci := 1) (v := .ref (P 42)) (C := RX1) (T := TX1) (N := 76) hx hb hgt iwX1 hown hK hP 0 gY_0 rfl 60 (Nat.le_of_ble_eq_true rfl) (hgt _ wd_5_21) (fun _ h9 => h9) rfl dX1_goOn_47 ?_
      refine lv_iload_n hx hb dX1_goOn_50 rfl (lv_at hl 0 rfl) ?_
      refine va_iald hx hb hK hP 42 0 gY_42 rfl (ix_l h) dX1_goOn_51 ?_
      have h := ix_r h
      refine lv_iconst (v := 2) hx hb dX1_goOn_52 (by decide) ?_
      refine lv_icmp_ne hx hb dX1_goOn_53 (tgt := 74) rfl (fun hc => ?_) (fun hc => ?_)
      · have h := br_F hc h
        refine lv_aload_n hx hb dX1_goOn_74 rfl (lv_at hl 1 rfl) ?_
        refine lv_iconst (v := 0) hx hb dX1_goOn_75 (by decide) ?_
        refine pm_put (w := (wY cI cZ cC cJ cA P)) (D := D) (ci := 1) (x := 0) (ty := .boolean) (C := RX1) (T := TX1) (N := 76) hx hb hgt iwX1 tyX1 tyX1_ok nmX1 hown hK hP hD hS 0 gY_0 rfl 55 (Nat.le_of_ble_eq_true rfl) (hgt _ wd_5_16) (fun _ h9 => h9) rfl (by decide +kernel) rfl rfl (Nat.le_of_ble_eq_true rfl) (sY_0_55 _) dX1_goOn_76 (fun M4 eM4 H locs hP hD hS => ?_)
        have h := lt_o eM4 h
        refine lv_aload_n hx hb dX1_goOn_79 rfl (lv_at hl 1 rfl) ?_
        refine va_get (D := D) (ci := 1) (v := .ref (P 42)) (C := RX1) (T := TX1) (N := 76) hx hb hgt iwX1 hown hK hP 0 gY_0 rfl 60 (Nat.le_of_ble_eq_true rfl) (hgt _ wd_5_21) (fun _ h9 => h9) rfl dX1_goOn_80 ?_
        refine lv_iload_n hx hb dX1_goOn_83 rfl (lv_at hl 0 rfl) ?_
        refine va_iald hx hb hK hP 42 0 gY_42 rfl (ix_l h) dX1_goOn_84 ?_
        have h := ix_r h
        refine lv_if_ne hx hb dX1_goOn_85 (tgt := 107) rfl (fun hc => ?_) (fun hc => ?_)
        · have h := br_F hc h
          refine lv_aload_n hx hb dX1_goOn_107 rfl (lv_at hl 1 rfl) ?_
          refine lv_aload_n hx hb dX1_goOn_108 rfl (lv_at hl 1 rfl) ?_
          refine va_get (D := D) (ci := 1) (v := .ref (P 43)) (C := RX1) (T := TX1) (N := 76) hx hb hgt iwX1 hown hK hP 0 gY_0 rfl 61 (Nat.le_of_ble_eq_true rfl) (hgt _ wd_5_22) (fun _ h9 => h9) rfl dX1_goOn_109 ?_
          refine lv_iload_n hx hb dX1_goOn_112 rfl (lv_at hl 0 rfl) ?_
          refine va_iald hx hb hK hP 43 0 gY_43 rfl (ix_l h) dX1_goOn_113 ?_
          have h := ix_r h
          obtain ⟨M5, r6, hq, h⟩ := cal_o h
          refine cx_v (va_runV (As := [.int (M4.1 43 (x1 : Int32).toNatClampNeg)]) (rest := []) ⟨hx, hb, hml, hown, hgt⟩ (z_ChipMapModel_doFetch l D cI cZ cC cJ cA P s0 hAO M4 (M4.1 43 (x1 : Int32).toNatClampNeg) M5 r6 hq) (cwV 1 hgt (gV wd_6_170 wd_6_172 sl__ChipMapModel____ChipMapModel___doFetch____I_V_____ChipMapModel___doFetch____I_V__ wd_0_15 wd_6_173) rfl rfl rfl (by decide +kernel) ⟨Nat.le_of_ble_eq_true rfl, Nat.le_of_ble_eq_true rfl⟩) (prV hP hK hD hO hAO hS (va_recv hK hP (ci := 1) (q0 := 0) rfl gY_0)) rfl rfl hl.1 rfl (lv_room (Nat.le_of_ble_eq_true rfl)) dX1_goOn_114 ⟨Nat.le_of_ble_eq_true rfl, Nat.le_of_ble_eq_true rfl⟩) hS (fun H locs hP hD hS => ?_)
          have hl := lv_sub hl [1, 0] (l' := [(0, .ref (P 0)), (2, .int x1)]) rfl
          exact b_ChipMapModel_goOn_117 hx hb hml hr hlk hgt hown hK hO hAO M5 x1 H _ ls hl hP hD hS h
        · have h := br_T hc h
          refine lv_aload_n hx hb dX1_goOn_88 rfl (lv_at hl 1 rfl) ?_
          refine lv_aload_n hx hb dX1_goOn_89 rfl (lv_at hl 1 rfl) ?_
          refine va_get (D := D) (ci := 1) (v := .ref (P 43)) (C := RX1) (T := TX1) (N := 76) hx hb hgt iwX1 hown hK hP 0 gY_0 rfl 61 (Nat.le_of_ble_eq_true rfl) (hgt _ wd_5_22) (fun _ h9 => h9) rfl dX1_goOn_90 ?_
          refine lv_iload_n hx hb dX1_goOn_93 rfl (lv_at hl 0 rfl) ?_
          refine va_iald hx hb hK hP 43 0 gY_43 rfl (ix_l h) dX1_goOn_94 ?_
          have h := ix_r h
          refine lv_aload_n hx hb dX1_goOn_95 rfl (lv_at hl 1 rfl) ?_
          refine va_get (D := D) (ci := 1) (v := .ref (P 44)) (C := RX1) (T := TX1) (N := 76) hx hb hgt iwX1 hown hK hP 0 gY_0 rfl 62 (Nat.le_of_ble_eq_true rfl) (hgt _ wd_5_23) (fun _ h9 => h9) rfl dX1_goOn_96 ?_
          refine lv_iload_n hx hb dX1_goOn_99 rfl (lv_at hl 0 rfl) ?_
          refine va_iald hx hb hK hP 44 0 gY_44 rfl (ix_l h) dX1_goOn_100 ?_
          have h := ix_r h
          obtain ⟨M5, r6, hq, h⟩ := cal_o h
          refine cx_v (va_runV (As := [.int (M4.1 43 (x1 : Int32).toNatClampNeg), .int (M4.1 44 (x1 : Int32).toNatClampNeg)]) (rest := []) ⟨hx, hb, hml, hown, hgt⟩ (z_ChipMapModel_doPut l D cI cZ cC cJ cA P s0 hAO M4 (M4.1 43 (x1 : Int32).toNatClampNeg) (M4.1 44 (x1 : Int32).toNatClampNeg) M5 r6 hq) (cwV 2 hgt (gV wd_6_138 wd_6_140 sl__ChipMapModel____ChipMapModel___doPut____II_V_____ChipMapModel___doPut____II_V__ wd_0_15 wd_6_141) rfl rfl rfl (by decide +kernel) ⟨Nat.le_of_ble_eq_true rfl, Nat.le_of_ble_eq_true rfl⟩) (prV hP hK hD hO hAO hS (va_recv hK hP (ci := 1) (q0 := 0) rfl gY_0)) rfl rfl hl.1 rfl (lv_room (Nat.le_of_ble_eq_true rfl)) dX1_goOn_101 ⟨Nat.le_of_ble_eq_true rfl, Nat.le_of_ble_eq_true rfl⟩) hS (fun H locs hP hD hS => ?_)
          refine lv_goto hx hb dX1_goOn_104 (tgt := 117) rfl ?_
          have hl := lv_sub hl [1, 0] (l' := [(0, .ref (P 0)), (2, .int x1)]) rfl
          exact b_ChipMapModel_goOn_117 hx hb hml hr hlk hgt hown hK hO hAO M5 x1 H _ ls hl hP hD hS h
      · have h := br_T hc h
        refine lv_aload_n hx hb dX1_goOn_56 rfl (lv_at hl 1 rfl) ?_
        refine lv_aload_n hx hb dX1_goOn_57 rfl (lv_at hl 1 rfl) ?_
        refine va_get (D := D) (ci := 1) (v := .ref (P 44)) (C := RX1) (T := TX1) (N := 76) hx hb hgt iwX1 hown hK hP 0 gY_0 rfl 62 (Nat.le_of_ble_eq_true rfl) (hgt _ wd_5_23) (fun _ h9 => h9) rfl dX1_goOn_58 ?_
        refine lv_iload_n hx hb dX1_goOn_61 rfl (lv_at hl 0 rfl) ?_
        refine va_iald hx hb hK hP 44 0 gY_44 rfl (ix_l h) dX1_goOn_62 ?_
        have h := ix_r h
        obtain ⟨M4, r5, hq, h⟩ := cal_o h
        refine cx_v (va_runV (As := [.int (M2.1 44 (x1 : Int32).toNatClampNeg)]) (rest := []) ⟨hx, hb, hml, hown, hgt⟩ (z_ChipMapModel_meet l D cI cZ cC cJ cA P s0 hAO M2 (M2.1 44 (x1 : Int32).toNatClampNeg) M4 r5 hq) (cwV 1 hgt (gV wd_6_206 wd_6_208 sl__ChipMapModel____ChipMapModel___meet____I_V_____ChipMapModel___meet____I_V__ wd_0_15 wd_6_209) rfl rfl rfl (by decide +kernel) ⟨Nat.le_of_ble_eq_true rfl, Nat.le_of_ble_eq_true rfl⟩) (prV hP hK hD hO hAO hS (va_recv hK hP (ci := 1) (q0 := 0) rfl gY_0)) rfl rfl hl.1 rfl (lv_room (Nat.le_of_ble_eq_true rfl)) dX1_goOn_63 ⟨Nat.le_of_ble_eq_true rfl, Nat.le_of_ble_eq_true rfl⟩) hS (fun H locs hP hD hS => ?_)
        refine lv_aload_n hx hb dX1_goOn_66 rfl (lv_at hl 1 rfl) ?_
        refine lv_iload_n hx hb dX1_goOn_67 rfl (lv_at hl 0 rfl) ?_
        refine lv_iconst (v := 1) hx hb dX1_goOn_68 (by decide) ?_
        refine lv_iadd hx hb dX1_goOn_69 ?_
        obtain ⟨M6, r7, hq, h⟩ := cal_o h
        refine cx_v (va_runV (As := [.int (x1 + 1)]) (rest := []) ⟨hx, hb, hml, hown, hgt⟩ (z_ChipMapModel_meet l D cI cZ cC cJ cA P s0 hAO M4 (x1 + 1) M6 r7 hq) (cwV 1 hgt (gV wd_6_206 wd_6_208 sl__ChipMapModel____ChipMapModel___meet____I_V_____ChipMapModel___meet____I_V__ wd_0_15 wd_6_209) rfl rfl rfl (by decide +kernel) ⟨Nat.le_of_ble_eq_true rfl, Nat.le_of_ble_eq_true rfl⟩) (prV hP hK hD hO hAO hS (va_recv hK hP (ci := 1) (q0 := 0) rfl gY_0)) rfl rfl hl.1 rfl (lv_room (Nat.le_of_ble_eq_true rfl)) dX1_goOn_70 ⟨Nat.le_of_ble_eq_true rfl, Nat.le_of_ble_eq_true rfl⟩) hS (fun H locs hP hD hS => ?_)
        exact rt_v (w := (wY cI cZ cC cJ cA P)) (r := r') hx hb hr hlk hP hD hS h dX1_goOn_73
    · have h := br_T hc h
      have hl := lv_sub hl [1, 2, 0] (l' := [(0, .ref (P 0)), (1, .int a1), (2, .int x1)]) rfl
      exact b_ChipMapModel_goOn_23 hx hb hml hr hlk hgt hown hK hO hAO M a1 x1 H _ ls hl hP hD hS h
set_option maxHeartbeats 4000000 in
set_option maxRecDepth 20000 in
theorem z_ChipMapModel_goOn (l : Launch) (D : va_G) (cI cZ cC cJ cA : ClassId) (P : Nat → Nat) (s0 : State) (hAO : ∀ q, (aP P 51) q → s0.heap.size ≤ q) (M : Mm) (a1 : Int32) (M' : Mm) (r' : Int32) (h : q_ChipMapModel_goOn M a1 = some (M', r')) : Met l yX1_goOn wsX1_goOn ({ frames := 7, cells := 0, slots := 0, locals := 161 }) (va_Pc [.ref (P 0), .int a1] (gPre s0 D [(cI, .int), (cZ, .boolean), (cC, .char), (cJ, .long), (cA, .array .int)] (aP P 51) ((wY cI cZ cC cJ cA P) M))) (gQv D (aP P 51) ((wY cI cZ cC cJ cA P) M')) 0 0 (aP P 51) := by
  refine Met.ofW (cc := cX1_goOn) (maxL := 3) (ret := none) (by decide) rfl ?_
  intro p e s m args below meth c s₁ B hml hv
  obtain ⟨rfl, hP, hK, hD, hO⟩ := hv
  have hx := B.exec
  have hb := B.bytes
  have hr := B.returns
  have hlk := B.notSynchronized
  have hgt := fun w (h : w ∈ GT) => atoms_spec (ws := wsX1_goOn) B.pre w (List.mem_cons_of_mem _ h)
  have hown : s.vm.findClass RX1 = some m.cls := findClass_of_methodNamed B.named
  have hS : va_S (aP P 51) s.heap s.heap [] := va_S.rf
  have hl := lv_entry ([.ref (P 0), .int a1]) (n := 3) (Nat.le_of_ble_eq_true rfl)
  rw [lg_entry_eq]
  generalize (lg_sl ([.ref (P 0), .int a1]) ++ List.replicate (3 - (lg_sl ([.ref (P 0), .int a1])).length) Slot.unset).toArray = ls at hl ⊢
  have hl : lv_has ls 3 [(0, .ref (P 0)), (1, .int a1)] := hl
  exact b_ChipMapModel_goOn_0 hx hb hml hr hlk hgt hown hK hO hAO M a1 s.heap [] ls hl hP hD hS h
end
section
def q_ChipMapModel_check_82  (M : Mm)  : Rs := lt' (stI M 0 (upd (M.1 0) 58 0)) fun M1 => cal (q_ChipMapModel_copyDevice M1 2 0) fun M2 r3 => lt' (stI M2 0 (upd (M2.1 0) 67 (M2.1 0 63))) fun M4 => if (M4.1 0 69) = 0 then (some (M4, ((M4.1 0 75) + 1))) else (lt' (stI M4 0 (upd (M4.1 0) 68 0)) fun M5 => some (M5, (-2)))
def q_ChipMapModel_check_56  : Nat → Mm → Int32 → Rs
  | 0, _, _ => none
  | n' + 1, M, v1 => if (M.1 0 63) ≤ v1 then (q_ChipMapModel_check_82 M) else (if (M.1 0 69) = 0 then (cal (q_ChipMapModel_goOn M v1) fun M1 r2 => q_ChipMapModel_check_56 n' M1 (v1 + 1)) else (q_ChipMapModel_check_82 M))
def q_ChipMapModel_check  (M : Mm)  : Rs := lt' (stI M 0 (upd (M.1 0) 0 0)) fun M1 => if (M1.1 0 27) = 0 then (some (M1, (-1))) else (cal (q_ChipMapModel_copyDevice M1 0 2) fun M2 r3 => lt' (stI M2 0 (upd (M2.1 0) 58 1)) fun M4 => cal (q_ChipMapModel_resetDevice M4) fun M5 r6 => lt' (stI M5 0 (upd (M5.1 0) 63 0)) fun M7 => lt' (stI M7 0 (upd (M7.1 0) 69 0)) fun M8 => lt' (stI M8 0 (upd (M8.1 0) 75 (-1))) fun M9 => lt' (stI M9 0 (upd (M9.1 0) 68 0)) fun M10 => cal (q_ChipMapModel_meet M10 0) fun M11 r12 => q_ChipMapModel_check_56 4000 M11 0)
set_option maxHeartbeats 4000000 in
set_option maxRecDepth 20000 in
theorem b_ChipMapModel_check_82 {p : Program} {l : Launch} {e : Env} {s s0 : State} {m : MethodId} {args : Array Value} {below : List Frame} {meth : Method} {c : Code} {D : va_G} {cI cZ cC cJ cA : ClassId} {P : Nat → Nat} {M' : Mm} {r' : Int32}  (hx : p.tables.exec = Jvm.exec) (hb : c.code = cX1_check) (hml : c.maxLocals = 2) (hr : meth.sig.returnType = (some .int)) (hlk : meth.locks = false) (hgt : ∀ w ∈ GT, w.before args s = true) (hown : s.vm.findClass RX1 = some m.cls) (hK : va_K D vwCl [(cI, .int), (cZ, .boolean), (cC, .char), (cJ, .long), (cA, .array .int)] s) (hO : Old s0 s) (hAO : ∀ q, (aP P 51) q → s0.heap.size ≤ q)  : ∀ (M : Mm)  (H : Heap) (locs : List Loc) (ls : Array Slot), lv_has ls 2 [(0, .ref (P 0))] → va_P D vwCl ((wY cI cZ cC cJ cA P) M) H → va_D (aP P 51) ((wY cI cZ cC cJ cA P) M) → va_S (aP P 51) s.heap H locs → q_ChipMapModel_check_82 M = some (M', r') → W p l e ({ frames := 8, cells := 0, slots := 0, locals := 183 }) s m args below meth c H locs 0 0 (MQ below (gQi D (aP P 51) ((wY cI cZ cC cJ cA P) M') r') args s 0 0 (aP P 51)) (F0 m 82 ls []) := by
  intro M H locs ls hl hP hD hS h
  unfold q_ChipMapModel_check_82 at h
  refine lv_aload_n hx hb dX1_check_82 rfl (lv_at hl 0 rfl) ?_
  refine lv_iconst (v := 0) hx hb dX1_check_83 (by decide) ?_
  refine pm_put (w := (wY cI cZ cC cJ cA P)) (D := D) (ci := 1) (x := 0) (ty := .boolean) (C := RX1) (T := TX1) (N := 76) hx hb hgt iwX1 tyX1 tyX1_ok nmX1 hown hK hP hD hS 0 gY_0 rfl 58 (Nat.le_of_ble_eq_true rfl) (hgt _ wd_5_19) (fun _ h9 => h9) rfl (by decide +kernel) rfl rfl (Nat.le_of_ble_eq_true rfl) (sY_0_58 _) dX1_check_84 (fun M1 eM1 H locs hP hD hS => ?_)
  have h := lt_o eM1 h
  refine lv_aload_n hx hb dX1_check_87 rfl (lv_at hl 0 rfl) ?_
  refine lv_iconst (v := 2) hx hb dX1_check_88 (by decide) ?_
  refine lv_iconst (v := 0) hx hb dX1_check_89 (by decide) ?_
  obtain ⟨M2, r3, hq, h⟩ := cal_o h
  refine cx_v (va_runV (As := [.int 2, .int 0]) (rest := []) ⟨hx, hb, hml, hown, hgt⟩ (z_ChipMapModel_copyDevice l D cI cZ cC cJ cA P s0 hAO M1 2 0 M2 r3 hq) (cwV 2 hgt (gV wd_6_134 wd_6_136 sl__ChipMapModel____ChipMapModel___copyDevice____II_V_____ChipMapModel___copyDevice____II_V__ wd_0_15 wd_6_137) rfl rfl rfl (by decide +kernel) ⟨Nat.le_of_ble_eq_true rfl, Nat.le_of_ble_eq_true rfl⟩) (prV hP hK hD hO hAO hS (va_recv hK hP (ci := 1) (q0 := 0) rfl gY_0)) rfl rfl hl.1 rfl (lv_room (Nat.le_of_ble_eq_true rfl)) dX1_check_90 ⟨Nat.le_of_ble_eq_true rfl, Nat.le_of_ble_eq_true rfl⟩) hS (fun H locs hP hD hS => ?_)
  refine lv_aload_n hx hb dX1_check_93 rfl (lv_at hl 0 rfl) ?_
  refine lv_aload_n hx hb dX1_check_94 rfl (lv_at hl 0 rfl) ?_
  refine va_get (D := D) (ci := 1) (v := .int (M2.1 0 63)) (C := RX1) (T := TX1) (N := 76) hx hb hgt iwX1 hown hK hP 0 gY_0 rfl 63 (Nat.le_of_ble_eq_true rfl) (hgt _ wd_5_24) (fun _ h9 => h9) rfl dX1_check_95 ?_
  refine pm_put (w := (wY cI cZ cC cJ cA P)) (D := D) (ci := 1) (x := (M2.1 0 63)) (ty := .int) (C := RX1) (T := TX1) (N := 76) hx hb hgt iwX1 tyX1 tyX1_ok nmX1 hown hK hP hD hS 0 gY_0 rfl 67 (Nat.le_of_ble_eq_true rfl) (hgt _ wd_5_28) (fun _ h9 => h9) rfl (by decide +kernel) rfl rfl (Nat.le_of_ble_eq_true rfl) (sY_0_67 _) dX1_check_98 (fun M4 eM4 H locs hP hD hS => ?_)
  have h := lt_o eM4 h
  refine lv_aload_n hx hb dX1_check_101 rfl (lv_at hl 0 rfl) ?_
  refine va_get (D := D) (ci := 1) (v := .int (M4.1 0 69)) (C := RX1) (T := TX1) (N := 76) hx hb hgt iwX1 hown hK hP 0 gY_0 rfl 69 (Nat.le_of_ble_eq_true rfl) (hgt _ wd_5_30) (fun _ h9 => h9) rfl dX1_check_102 ?_
  refine lv_if_eq hx hb dX1_check_105 (tgt := 116) rfl (fun hc => ?_) (fun hc => ?_)
  · have h := br_T hc h
    refine lv_aload_n hx hb dX1_check_116 rfl (lv_at hl 0 rfl) ?_
    refine va_get (D := D) (ci := 1) (v := .int (M4.1 0 75)) (C := RX1) (T := TX1) (N := 76) hx hb hgt iwX1 hown hK hP 0 gY_0 rfl 75 (Nat.le_of_ble_eq_true rfl) (hgt _ wd_5_36) (fun _ h9 => h9) rfl dX1_check_117 ?_
    refine lv_iconst (v := 1) hx hb dX1_check_120 (by decide) ?_
    refine lv_iadd hx hb dX1_check_121 ?_
    exact rt_i (w := (wY cI cZ cC cJ cA P)) hx hb hr hlk hP hD hS h dX1_check_122
  · have h := br_F hc h
    refine lv_aload_n hx hb dX1_check_108 rfl (lv_at hl 0 rfl) ?_
    refine lv_iconst (v := 0) hx hb dX1_check_109 (by decide) ?_
    refine pm_put (w := (wY cI cZ cC cJ cA P)) (D := D) (ci := 1) (x := 0) (ty := .int) (C := RX1) (T := TX1) (N := 76) hx hb hgt iwX1 tyX1 tyX1_ok nmX1 hown hK hP hD hS 0 gY_0 rfl 68 (Nat.le_of_ble_eq_true rfl) (hgt _ wd_5_29) (fun _ h9 => h9) rfl (by decide +kernel) rfl rfl (Nat.le_of_ble_eq_true rfl) (sY_0_68 _) dX1_check_110 (fun M5 eM5 H locs hP hD hS => ?_)
    have h := lt_o eM5 h
    refine lv_bipush (v := (-2)) hx hb dX1_check_113 (by decide) ?_
    exact rt_i (w := (wY cI cZ cC cJ cA P)) hx hb hr hlk hP hD hS h dX1_check_115
set_option maxHeartbeats 4000000 in
set_option maxRecDepth 20000 in
theorem b_ChipMapModel_check_56 {p : Program} {l : Launch} {e : Env} {s s0 : State} {m : MethodId} {args : Array Value} {below : List Frame} {meth : Method} {c : Code} {D : va_G} {cI cZ cC cJ cA : ClassId} {P : Nat → Nat} {M' : Mm} {r' : Int32}  (hx : p.tables.exec = Jvm.exec) (hb : c.code = cX1_check) (hml : c.maxLocals = 2) (hr : meth.sig.returnType = (some .int)) (hlk : meth.locks = false) (hgt : ∀ w ∈ GT, w.before args s = true) (hown : s.vm.findClass RX1 = some m.cls) (hK : va_K D vwCl [(cI, .int), (cZ, .boolean), (cC, .char), (cJ, .long), (cA, .array .int)] s) (hO : Old s0 s) (hAO : ∀ q, (aP P 51) q → s0.heap.size ≤ q)  : ∀ (n' : Nat) (M : Mm) (v1 : Int32) (H : Heap) (locs : List Loc) (ls : Array Slot), lv_has ls 2 [(0, .ref (P 0)), (1, .int v1)] → va_P D vwCl ((wY cI cZ cC cJ cA P) M) H → va_D (aP P 51) ((wY cI cZ cC cJ cA P) M) → va_S (aP P 51) s.heap H locs → q_ChipMapModel_check_56 n' M v1 = some (M', r') → W p l e ({ frames := 8, cells := 0, slots := 0, locals := 183 }) s m args below meth c H locs 0 0 (MQ below (gQi D (aP P 51) ((wY cI cZ cC cJ cA P) M') r') args s 0 0 (aP P 51)) (F0 m 56 ls []) := by
  intro n'
  induction n' with
  | zero => exact fun _ _ _ _ _ _ _ _ _ h => (rs_n h).elim
  | succ n' ih =>
    intro M v1 H locs ls hl hP hD hS h
    rw [q_ChipMapModel_check_56] at h
    refine lv_iload_n hx hb dX1_check_56 rfl (lv_at hl 1 rfl) ?_
    refine lv_aload_n hx hb dX1_check_57 rfl (lv_at hl 0 rfl) ?_
    refine va_get (D := D) (ci := 1) (v := .int (M.1 0 63)) (C := RX1) (T := TX1) (N := 76) hx hb hgt iwX1 hown hK hP 0 gY_0 rfl 63 (Nat.le_of_ble_eq_true rfl) (hgt _ wd_5_24) (fun _ h9 => h9) rfl dX1_check_58 ?_
    refine lv_icmp_ge hx hb dX1_check_61 (tgt := 82) rfl (fun hc => ?_) (fun hc => ?_)
    · have h := br_T hc h
      have hl := lv_sub hl [0] (l' := [(0, .ref (P 0))]) rfl
      exact b_ChipMapModel_check_82 hx hb hml hr hlk hgt hown hK hO hAO M H _ ls hl hP hD hS h
    · have h := br_F hc h
      refine lv_aload_n hx hb dX1_check_64 rfl (lv_at hl 0 rfl) ?_
      refine va_get (D := D) (ci := 1) (v := .int (M.1 0 69)) (C := RX1) (T := TX1) (N := 76) hx hb hgt iwX1 hown hK hP 0 gY_0 rfl 69 (Nat.le_of_ble_eq_true rfl) (hgt _ wd_5_30) (fun _ h9 => h9) rfl dX1_check_65 ?_
      refine lv_if_ne hx hb dX1_check_68 (tgt := 82) rfl (fun hc => ?_) (fun hc => ?_)
      · have h := br_F hc h
        have hl := lv_sub hl [0] (l' := [(0, .ref (P 0))]) rfl
        exact b_ChipMapModel_check_82 hx hb hml hr hlk hgt hown hK hO hAO M H _ ls hl hP hD hS h
      · have h := br_T hc h
        refine lv_aload_n hx hb dX1_check_71 rfl (lv_at hl 0 rfl) ?_
        refine lv_iload_n hx hb dX1_check_72 rfl (lv_at hl 1 rfl) ?_
        obtain ⟨M1, r2, hq, h⟩ := cal_o h
        refine cx_v (va_runV (As := [.int v1]) (rest := []) ⟨hx, hb, hml, hown, hgt⟩ (z_ChipMapModel_goOn l D cI cZ cC cJ cA P s0 hAO M v1 M1 r2 hq) (cwV 1 hgt (gV wd_6_218 wd_6_220 sl__ChipMapModel____ChipMapModel___goOn____I_V_____ChipMapModel___goOn____I_V__ wd_0_15 wd_6_221) rfl rfl rfl (by decide +kernel) ⟨Nat.le_of_ble_eq_true rfl, Nat.le_of_ble_eq_true rfl⟩) (prV hP hK hD hO hAO hS (va_recv hK hP (ci := 1) (q0 := 0) rfl gY_0)) rfl rfl hl.1 rfl (lv_room (Nat.le_of_ble_eq_true rfl)) dX1_check_73 ⟨Nat.le_of_ble_eq_true rfl, Nat.le_of_ble_eq_true rfl⟩) hS (fun H locs hP hD hS => ?_)
        refine lv_iinc (v := (v1 + 1)) hx hb dX1_check_76 hl (k := 1) rfl rfl (Nat.le_of_ble_eq_true rfl) (lv' := [(1, .int (v1 + 1)), (0, .ref (P 0))]) rfl (fun ls hl => ?_)
        refine lv_goto hx hb dX1_check_79 (tgt := 56) rfl ?_
        have hl := lv_sub hl [1, 0] (l' := [(0, .ref (P 0)), (1, .int (v1 + 1))]) rfl
        exact ih M1 (v1 + 1) H locs ls hl hP hD hS h
set_option maxHeartbeats 4000000 in
set_option maxRecDepth 20000 in
theorem b_ChipMapModel_check_0 {p : Program} {l : Launch} {e : Env} {s s0 : State} {m : MethodId} {args : Array Value} {below : List Frame} {meth : Method} {c : Code} {D : va_G} {cI cZ cC cJ cA : ClassId} {P : Nat → Nat} {M' : Mm} {r' : Int32}  (hx : p.tables.exec = Jvm.exec) (hb : c.code = cX1_check) (hml : c.maxLocals = 2) (hr : meth.sig.returnType = (some .int)) (hlk : meth.locks = false) (hgt : ∀ w ∈ GT, w.before args s = true) (hown : s.vm.findClass RX1 = some m.cls) (hK : va_K D vwCl [(cI, .int), (cZ, .boolean), (cC, .char), (cJ, .long), (cA, .array .int)] s) (hO : Old s0 s) (hAO : ∀ q, (aP P 51) q → s0.heap.size ≤ q)  : ∀ (M : Mm)  (H : Heap) (locs : List Loc) (ls : Array Slot), lv_has ls 2 [(0, .ref (P 0))] → va_P D vwCl ((wY cI cZ cC cJ cA P) M) H → va_D (aP P 51) ((wY cI cZ cC cJ cA P) M) → va_S (aP P 51) s.heap H locs → q_ChipMapModel_check M = some (M', r') → W p l e ({ frames := 8, cells := 0, slots := 0, locals := 183 }) s m args below meth c H locs 0 0 (MQ below (gQi D (aP P 51) ((wY cI cZ cC cJ cA P) M') r') args s 0 0 (aP P 51)) (F0 m 0 ls []) := by
  intro M H locs ls hl hP hD hS h
  unfold q_ChipMapModel_check at h
  refine lv_aload_n hx hb dX1_check_0 rfl (lv_at hl 0 rfl) ?_
  refine lv_iconst (v := 0) hx hb dX1_check_1 (by decide) ?_
  refine pm_put (w := (wY cI cZ cC cJ cA P)) (D := D) (ci := 1) (x := 0) (ty := .int) (C := RX1) (T := TX1) (N := 76) hx hb hgt iwX1 tyX1 tyX1_ok nmX1 hown hK hP hD hS 0 gY_0 rfl 0 (Nat.le_of_ble_eq_true rfl) (hgt _ wd_4_201) (fun _ h9 => h9) rfl (by decide +kernel) rfl rfl (Nat.le_of_ble_eq_true rfl) (sY_0_0 _) dX1_check_2 (fun M1 eM1 H locs hP hD hS => ?_)
  have h := lt_o eM1 h
  refine lv_aload_n hx hb dX1_check_5 rfl (lv_at hl 0 rfl) ?_
  refine va_get (D := D) (ci := 1) (v := .int (M1.1 0 27)) (C := RX1) (T := TX1) (N := 76) hx hb hgt iwX1 hown hK hP 0 gY_0 rfl 27 (Nat.le_of_ble_eq_true rfl) (hgt _ wd_4_228) (fun _ h9 => h9) rfl dX1_check_6 ?_
  refine lv_if_ne hx hb dX1_check_9 (tgt := 14) rfl (fun hc => ?_) (fun hc => ?_)
  · have h := br_F hc h
    refine lv_aload_n hx hb dX1_check_14 rfl (lv_at hl 0 rfl) ?_
    refine lv_iconst (v := 0) hx hb dX1_check_15 (by decide) ?_
    refine lv_iconst (v := 2) hx hb dX1_check_16 (by decide) ?_
    obtain ⟨M2, r3, hq, h⟩ := cal_o h
    refine cx_v (va_runV (As := [.int 0, .int 2]) (rest := []) ⟨hx, hb, hml, hown, hgt⟩ (z_ChipMapModel_copyDevice l D cI cZ cC cJ cA P s0 hAO M1 0 2 M2 r3 hq) (cwV 2 hgt (gV wd_6_134 wd_6_136 sl__ChipMapModel____ChipMapModel___copyDevice____II_V_____ChipMapModel___copyDevice____II_V__ wd_0_15 wd_6_137) rfl rfl rfl (by decide +kernel) ⟨Nat.le_of_ble_eq_true rfl, Nat.le_of_ble_eq_true rfl⟩) (prV hP hK hD hO hAO hS (va_recv hK hP (ci := 1) (q0 := 0) rfl gY_0)) rfl rfl hl.1 rfl (lv_room (Nat.le_of_ble_eq_true rfl)) dX1_check_17 ⟨Nat.le_of_ble_eq_true rfl, Nat.le_of_ble_eq_true rfl⟩) hS (fun H locs hP hD hS => ?_)
    refine lv_aload_n hx hb dX1_check_20 rfl (lv_at hl 0 rfl) ?_
    refine lv_iconst (v := 1) hx hb dX1_check_21 (by decide) ?_
    refine pm_put (w := (wY cI cZ cC cJ cA P)) (D := D) (ci := 1) (x := 1) (ty := .boolean) (C := RX1) (T := TX1) (N := 76) hx hb hgt iwX1 tyX1 tyX1_ok nmX1 hown hK hP hD hS 0 gY_0 rfl 58 (Nat.le_of_ble_eq_true rfl) (hgt _ wd_5_19) (fun _ h9 => h9) rfl (by decide +kernel) rfl rfl (Nat.le_of_ble_eq_true rfl) (sY_0_58 _) dX1_check_22 (fun M4 eM4 H locs hP hD hS => ?_)
    have h := lt_o eM4 h
    refine lv_aload_n hx hb dX1_check_25 rfl (lv_at hl 0 rfl) ?_
    obtain ⟨M5, r6, hq, h⟩ := cal_o h
    refine cx_v (va_runV (As := []) (rest := []) ⟨hx, hb, hml, hown, hgt⟩ (z_ChipMapModel_resetDevice l D cI cZ cC cJ cA P s0 hAO M4 M5 r6 hq) (cwV 0 hgt (gV wd_6_41 wd_6_43 sl__ChipMapModel____ChipMapModel___resetDevice_____V_____ChipMapModel___resetDevice_____V__ wd_0_15 wd_6_44) rfl rfl rfl (by decide +kernel) ⟨Nat.le_of_ble_eq_true rfl, Nat.le_of_ble_eq_true rfl⟩) (prV hP hK hD hO hAO hS (va_recv hK hP (ci := 1) (q0 := 0) rfl gY_0)) rfl rfl hl.1 rfl (lv_room (Nat.le_of_ble_eq_true rfl)) dX1_check_26 ⟨Nat.le_of_ble_eq_true rfl, Nat.le_of_ble_eq_true rfl⟩) hS (fun H locs hP hD hS => ?_)
    refine lv_aload_n hx hb dX1_check_29 rfl (lv_at hl 0 rfl) ?_
    refine lv_iconst (v := 0) hx hb dX1_check_30 (by decide) ?_
    refine pm_put (w := (wY cI cZ cC cJ cA P)) (D := D) (ci := 1) (x := 0) (ty := .int) (C := RX1) (T := TX1) (N := 76) hx hb hgt iwX1 tyX1 tyX1_ok nmX1 hown hK hP hD hS 0 gY_0 rfl 63 (Nat.le_of_ble_eq_true rfl) (hgt _ wd_5_24) (fun _ h9 => h9) rfl (by decide +kernel) rfl rfl (Nat.le_of_ble_eq_true rfl) (sY_0_63 _) dX1_check_31 (fun M7 eM7 H locs hP hD hS => ?_)
    have h := lt_o eM7 h
    refine lv_aload_n hx hb dX1_check_34 rfl (lv_at hl 0 rfl) ?_
    refine lv_iconst (v := 0) hx hb dX1_check_35 (by decide) ?_
    refine pm_put (w := (wY cI cZ cC cJ cA P)) (D := D) (ci := 1) (x := 0) (ty := .boolean) (C := RX1) (T := TX1) (N := 76) hx hb hgt iwX1 tyX1 tyX1_ok nmX1 hown hK hP hD hS 0 gY_0 rfl 69 (Nat.le_of_ble_eq_true rfl) (hgt _ wd_5_30) (fun _ h9 => h9) rfl (by decide +kernel) rfl rfl (Nat.le_of_ble_eq_true rfl) (sY_0_69 _) dX1_check_36 (fun M8 eM8 H locs hP hD hS => ?_)
    have h := lt_o eM8 h
    refine lv_aload_n hx hb dX1_check_39 rfl (lv_at hl 0 rfl) ?_
    refine lv_iconst (v := (-1)) hx hb dX1_check_40 (by decide) ?_
    refine pm_put (w := (wY cI cZ cC cJ cA P)) (D := D) (ci := 1) (x := (-1)) (ty := .int) (C := RX1) (T := TX1) (N := 76) hx hb hgt iwX1 tyX1 tyX1_ok nmX1 hown hK hP hD hS 0 gY_0 rfl 75 (Nat.le_of_ble_eq_true rfl) (hgt _ wd_5_36) (fun _ h9 => h9) rfl (by decide +kernel) rfl rfl (Nat.le_of_ble_eq_true rfl) (sY_0_75 _) dX1_check_41 (fun M9 eM9 H locs hP hD hS => ?_)
    have h := lt_o eM9 h
    refine lv_aload_n hx hb dX1_check_44 rfl (lv_at hl 0 rfl) ?_
    refine lv_iconst (v := 0) hx hb dX1_check_45 (by decide) ?_
    refine pm_put (w := (wY cI cZ cC cJ cA P)) (D := D) (ci := 1) (x := 0) (ty := .int) (C := RX1) (T := TX1) (N := 76) hx hb hgt iwX1 tyX1 tyX1_ok nmX1 hown hK hP hD hS 0 gY_0 rfl 68 (Nat.le_of_ble_eq_true rfl) (hgt _ wd_5_29) (fun _ h9 => h9) rfl (by decide +kernel) rfl rfl (Nat.le_of_ble_eq_true rfl) (sY_0_68 _) dX1_check_46 (fun M10 eM10 H locs hP hD hS => ?_)
    have h := lt_o eM10 h
    refine lv_aload_n hx hb dX1_check_49 rfl (lv_at hl 0 rfl) ?_
    refine lv_iconst (v := 0) hx hb dX1_check_50 (by decide) ?_
    obtain ⟨M11, r12, hq, h⟩ := cal_o h
    refine cx_v (va_runV (As := [.int 0]) (rest := []) ⟨hx, hb, hml, hown, hgt⟩ (z_ChipMapModel_meet l D cI cZ cC cJ cA P s0 hAO M10 0 M11 r12 hq) (cwV 1 hgt (gV wd_6_206 wd_6_208 sl__ChipMapModel____ChipMapModel___meet____I_V_____ChipMapModel___meet____I_V__ wd_0_15 wd_6_209) rfl rfl rfl (by decide +kernel) ⟨Nat.le_of_ble_eq_true rfl, Nat.le_of_ble_eq_true rfl⟩) (prV hP hK hD hO hAO hS (va_recv hK hP (ci := 1) (q0 := 0) rfl gY_0)) rfl rfl hl.1 rfl (lv_room (Nat.le_of_ble_eq_true rfl)) dX1_check_51 ⟨Nat.le_of_ble_eq_true rfl, Nat.le_of_ble_eq_true rfl⟩) hS (fun H locs hP hD hS => ?_)
    refine lv_iconst (v := 0) hx hb dX1_check_54 (by decide) ?_
    refine lv_istore_n hx hb dX1_check_55 rfl hl (Nat.le_of_ble_eq_true rfl) (lv' := [(1, .int 0), (0, .ref (P 0))]) rfl (fun ls hl => ?_)
    have hl := lv_sub hl [1, 0] (l' := [(0, .ref (P 0)), (1, .int 0)]) rfl
    exact b_ChipMapModel_check_56 hx hb hml hr hlk hgt hown hK hO hAO 4000 M11 0 H _ ls hl hP hD hS h
  · have h := br_T hc h
    refine lv_iconst (v := (-1)) hx hb dX1_check_12 (by decide) ?_
    exact rt_i (w := (wY cI cZ cC cJ cA P)) hx hb hr hlk hP hD hS h dX1_check_13
set_option maxHeartbeats 4000000 in
set_option maxRecDepth 20000 in
theorem z_ChipMapModel_check (l : Launch) (D : va_G) (cI cZ cC cJ cA : ClassId) (P : Nat → Nat) (s0 : State) (hAO : ∀ q, (aP P 51) q → s0.heap.size ≤ q) (M : Mm)  (M' : Mm) (r' : Int32) (h : q_ChipMapModel_check M = some (M', r')) : Met l yX1_check wsX1_check ({ frames := 8, cells := 0, slots := 0, locals := 183 }) (va_Pc [.ref (P 0)] (gPre s0 D [(cI, .int), (cZ, .boolean), (cC, .char), (cJ, .long), (cA, .array .int)] (aP P 51) ((wY cI cZ cC cJ cA P) M))) (gQi D (aP P 51) ((wY cI cZ cC cJ cA P) M') r') 0 0 (aP P 51) := by
  refine Met.ofW (cc := cX1_check) (maxL := 2) (ret := (some .int)) (by decide) rfl ?_
  intro p e s m args below meth c s₁ B hml hv
  obtain ⟨rfl, hP, hK, hD, hO⟩ := hv
  have hx := B.exec
  have hb := B.bytes
  have hr := B.returns
  have hlk := B.notSynchronized
  have hgt := fun w (h : w ∈ GT) => atoms_spec (ws := wsX1_check) B.pre w (List.mem_cons_of_mem _ h)
  have hown : s.vm.findClass RX1 = some m.cls := findClass_of_methodNamed B.named
  have hS : va_S (aP P 51) s.heap s.heap [] := va_S.rf
  have hl := lv_entry ([.ref (P 0)]) (n := 2) (Nat.le_of_ble_eq_true rfl)
  rw [lg_entry_eq]
  generalize (lg_sl ([.ref (P 0)]) ++ List.replicate (2 - (lg_sl ([.ref (P 0)])).length) Slot.unset).toArray = ls at hl ⊢
  have hl : lv_has ls 2 [(0, .ref (P 0))] := hl
  exact b_ChipMapModel_check_0 hx hb hml hr hlk hgt hown hK hO hAO M s.heap [] ls hl hP hD hS h
def q_ChipMapModel_found  (M : Mm) (a1 : Int32) : Rs := lt' (stI M 0 (upd (M.1 0) 0 0)) fun M1 => if a1 = 0 then (some (M1, (M1.1 0 67))) else (if a1 = 1 then (some (M1, (M1.1 0 68))) else (some (M1, (-1))))
set_option maxHeartbeats 4000000 in
set_option maxRecDepth 20000 in
theorem b_ChipMapModel_found_0 {p : Program} {l : Launch} {e : Env} {s s0 : State} {m : MethodId} {args : Array Value} {below : List Frame} {meth : Method} {c : Code} {D : va_G} {cI cZ cC cJ cA : ClassId} {P : Nat → Nat} {M' : Mm} {r' : Int32}  (hx : p.tables.exec = Jvm.exec) (hb : c.code = cX1_found) (hml : c.maxLocals = 2) (hr : meth.sig.returnType = (some .int)) (hlk : meth.locks = false) (hgt : ∀ w ∈ GT, w.before args s = true) (hown : s.vm.findClass RX1 = some m.cls) (hK : va_K D vwCl [(cI, .int), (cZ, .boolean), (cC, .char), (cJ, .long), (cA, .array .int)] s) (hO : Old s0 s) (hAO : ∀ q, (aP P 51) q → s0.heap.size ≤ q)  : ∀ (M : Mm) (a1 : Int32) (H : Heap) (locs : List Loc) (ls : Array Slot), lv_has ls 2 [(0, .ref (P 0)), (1, .int a1)] → va_P D vwCl ((wY cI cZ cC cJ cA P) M) H → va_D (aP P 51) ((wY cI cZ cC cJ cA P) M) → va_S (aP P 51) s.heap H locs → q_ChipMapModel_found M a1 = some (M', r') → W p l e ({ frames := 0, cells := 0, slots := 0, locals := 0 }) s m args below meth c H locs 0 0 (MQ below (gQi D (aP P 51) ((wY cI cZ cC cJ cA P) M') r') args s 0 0 (aP P 51)) (F0 m 0 ls []) := by
  intro M a1 H locs ls hl hP hD hS h
  unfold q_ChipMapModel_found at h
  refine lv_aload_n hx hb dX1_found_0 rfl (lv_at hl 0 rfl) ?_
  refine lv_iconst (v := 0) hx hb dX1_found_1 (by decide) ?_
  refine pm_put (w := (wY cI cZ cC cJ cA P)) (D := D) (ci := 1) (x := 0) (ty := .int) (C := RX1) (T := TX1) (N := 76) hx hb hgt iwX1 tyX1 tyX1_ok nmX1 hown hK hP hD hS 0 gY_0 rfl 0 (Nat.le_of_ble_eq_true rfl) (hgt _ wd_4_201) (fun _ h9 => h9) rfl (by decide +kernel) rfl rfl (Nat.le_of_ble_eq_true rfl) (sY_0_0 _) dX1_found_2 (fun M1 eM1 H locs hP hD hS => ?_)
  have h := lt_o eM1 h
  refine lv_iload_n hx hb dX1_found_5 rfl (lv_at hl 1 rfl) ?_
  refine lv_if_ne hx hb dX1_found_6 (tgt := 16) rfl (fun hc => ?_) (fun hc => ?_)
  · have h := br_F hc h
    refine lv_iload_n hx hb dX1_found_16 rfl (lv_at hl 1 rfl) ?_
    refine lv_iconst (v := 1) hx hb dX1_found_17 (by decide) ?_
    refine lv_icmp_ne hx hb dX1_found_18 (tgt := 28) rfl (fun hc => ?_) (fun hc => ?_)
    · have h := br_F hc h
      refine lv_iconst (v := (-1)) hx hb dX1_found_28 (by decide) ?_
      exact rt_i (w := (wY cI cZ cC cJ cA P)) hx hb hr hlk hP hD hS h dX1_found_29
    · have h := br_T hc h
      refine lv_aload_n hx hb dX1_found_21 rfl (lv_at hl 0 rfl) ?_
      refine va_get (D := D) (ci := 1) (v := .int (M1.1 0 68)) (C := RX1) (T := TX1) (N := 76) hx hb hgt iwX1 hown hK hP 0 gY_0 rfl 68 (Nat.le_of_ble_eq_true rfl) (hgt _ wd_5_29) (fun _ h9 => h9) rfl dX1_found_22 ?_
      refine lv_goto hx hb dX1_found_25 (tgt := 29) rfl ?_
      exact rt_i (w := (wY cI cZ cC cJ cA P)) hx hb hr hlk hP hD hS h dX1_found_29
  · have h := br_T hc h
    refine lv_aload_n hx hb dX1_found_9 rfl (lv_at hl 0 rfl) ?_
    refine va_get (D := D) (ci := 1) (v := .int (M1.1 0 67)) (C := RX1) (T := TX1) (N := 76) hx hb hgt iwX1 hown hK hP 0 gY_0 rfl 67 (Nat.le_of_ble_eq_true rfl) (hgt _ wd_5_28) (fun _ h9 => h9) rfl dX1_found_10 ?_
    refine lv_goto hx hb dX1_found_13 (tgt := 29) rfl ?_
    exact rt_i (w := (wY cI cZ cC cJ cA P)) hx hb hr hlk hP hD hS h dX1_found_29
set_option maxHeartbeats 4000000 in
set_option maxRecDepth 20000 in
theorem z_ChipMapModel_found (l : Launch) (D : va_G) (cI cZ cC cJ cA : ClassId) (P : Nat → Nat) (s0 : State) (hAO : ∀ q, (aP P 51) q → s0.heap.size ≤ q) (M : Mm) (a1 : Int32) (M' : Mm) (r' : Int32) (h : q_ChipMapModel_found M a1 = some (M', r')) : Met l yX1_found wsX1_found ({ frames := 0, cells := 0, slots := 0, locals := 0 }) (va_Pc [.ref (P 0), .int a1] (gPre s0 D [(cI, .int), (cZ, .boolean), (cC, .char), (cJ, .long), (cA, .array .int)] (aP P 51) ((wY cI cZ cC cJ cA P) M))) (gQi D (aP P 51) ((wY cI cZ cC cJ cA P) M') r') 0 0 (aP P 51) := by
  refine Met.ofW (cc := cX1_found) (maxL := 2) (ret := (some .int)) (by decide) rfl ?_
  intro p e s m args below meth c s₁ B hml hv
  obtain ⟨rfl, hP, hK, hD, hO⟩ := hv
  have hx := B.exec
  have hb := B.bytes
  have hr := B.returns
  have hlk := B.notSynchronized
  have hgt := fun w (h : w ∈ GT) => atoms_spec (ws := wsX1_found) B.pre w (List.mem_cons_of_mem _ h)
  have hown : s.vm.findClass RX1 = some m.cls := findClass_of_methodNamed B.named
  have hS : va_S (aP P 51) s.heap s.heap [] := va_S.rf
  have hl := lv_entry ([.ref (P 0), .int a1]) (n := 2) (Nat.le_of_ble_eq_true rfl)
  rw [lg_entry_eq]
  generalize (lg_sl ([.ref (P 0), .int a1]) ++ List.replicate (2 - (lg_sl ([.ref (P 0), .int a1])).length) Slot.unset).toArray = ls at hl ⊢
  have hl : lv_has ls 2 [(0, .ref (P 0)), (1, .int a1)] := hl
  exact b_ChipMapModel_found_0 hx hb hml hr hlk hgt hown hK hO hAO M a1 s.heap [] ls hl hP hD hS h
def q_ChipMapModel_run_153 (kf28 : Mm → Int32 → Int32 → Int32 → Int32 → Rs) (M : Mm) (v1 : Int32) (v2 : Int32) (v3 : Int32) (v4 : Int32) : Rs := kf28 M v1 v2 v3 (v4 + 1)
def q_ChipMapModel_run_137 (kf28 : Mm → Int32 → Int32 → Int32 → Int32 → Rs) (M : Mm) (v1 : Int32) (v2 : Int32) (v3 : Int32) (v4 : Int32) : Rs := cal (q_ChipMapModel_end M) fun M1 r2 => if r2 = (-2) then (some (M1, (v2 + 1))) else (q_ChipMapModel_run_153 kf28 M1 v1 (v2 + 1) v3 v4)
def q_ChipMapModel_run_92 (kf28 : Mm → Int32 → Int32 → Int32 → Int32 → Rs) (M : Mm) (v1 : Int32) (v3 : Int32) (v4 : Int32) (t0 : Int32) : Rs := q_ChipMapModel_run_153 kf28 M v1 t0 (v3 + 1) v4
def q_ChipMapModel_run_28  : Nat → Mm → Int32 → Int32 → Int32 → Int32 → Rs
  | 0, _, _, _, _, _ => none
  | n' + 1, M, v1, v2, v3, v4 => if 300 ≤ v4 then (if v2 < (M.1 0 59) then (some (M, (-2))) else (some (M, 0))) else (if v2 < (M.1 0 59) then (ix v2 40 <| lt' (M.1 42 (v2 : Int32).toNatClampNeg) fun x1 => if x1 = 3 then (some (M, 0)) else (if x1 = 2 then (if (((v1 : Int32) >>> ((v3 - v3 / 32 * 32) &&& 31)) &&& 1) = 1 then (ix v2 40 <| q_ChipMapModel_run_92 (q_ChipMapModel_run_28 n') M v1 v3 v4 (M.1 44 (v2 : Int32).toNatClampNeg)) else (q_ChipMapModel_run_92 (q_ChipMapModel_run_28 n') M v1 v3 v4 (v2 + 1))) else (cal (q_ChipMapModel_begin M) fun M2 r3 => if x1 = 0 then (ix v2 40 <| ix v2 40 <| cal (q_ChipMapModel_doPut M2 (M2.1 43 (v2 : Int32).toNatClampNeg) (M2.1 44 (v2 : Int32).toNatClampNeg)) fun M4 r5 => q_ChipMapModel_run_137 (q_ChipMapModel_run_28 n') M4 v1 v2 v3 v4) else (ix v2 40 <| cal (q_ChipMapModel_doFetch M2 (M2.1 43 (v2 : Int32).toNatClampNeg)) fun M4 r5 => q_ChipMapModel_run_137 (q_ChipMapModel_run_28 n') M4 v1 v2 v3 v4)))) else (some (M, 0)))
def q_ChipMapModel_run  (M : Mm) (a1 : Int32) : Rs := lt' (stI M 0 (upd (M.1 0) 0 0)) fun M1 => if (M1.1 0 27) = 0 then (some (M1, (-1))) else (if (M1.1 0 52) ≤ 0 then (q_ChipMapModel_run_28 4000 M1 a1 0 0 0) else (some (M1, (-1))))
set_option maxHeartbeats 4000000 in
set_option maxRecDepth 20000 in
theorem b_ChipMapModel_run_153 {p : Program} {l : Launch} {e : Env} {s s0 : State} {m : MethodId} {args : Array Value} {below : List Frame} {meth : Method} {c : Code} {D : va_G} {cI cZ cC cJ cA : ClassId} {P : Nat → Nat} {M' : Mm} {r' : Int32} {kf28 : Mm → Int32 → Int32 → Int32 → Int32 → Rs} (hx : p.tables.exec = Jvm.exec) (hb : c.code = cX1_run) (hml : c.maxLocals = 6) (hr : meth.sig.returnType = (some .int)) (hlk : meth.locks = false) (hgt : ∀ w ∈ GT, w.before args s = true) (hown : s.vm.findClass RX1 = some m.cls) (hK : va_K D vwCl [(cI, .int), (cZ, .boolean), (cC, .char), (cJ, .long), (cA, .array .int)] s) (hO : Old s0 s) (hAO : ∀ q, (aP P 51) q → s0.heap.size ≤ q) (kk28 : ∀ (M : Mm) (v1 : Int32) (v2 : Int32) (v3 : Int32) (v4 : Int32) (H : Heap) (locs : List Loc) (ls : Array Slot), lv_has ls 6 [(0, .ref (P 0)), (1, .int v1), (2, .int v2), (3, .int v3), (4, .int v4)] → va_P D vwCl ((wY cI cZ cC cJ cA P) M) H → va_D (aP P 51) ((wY cI cZ cC cJ cA P) M) → va_S (aP P 51) s.heap H locs → kf28 M v1 v2 v3 v4 = some (M', r') → W p l e ({ frames := 7, cells := 0, slots := 0, locals := 161 }) s m args below meth c H locs 0 0 (MQ below (gQi D (aP P 51) ((wY cI cZ cC cJ cA P) M') r') args s 0 0 (aP P 51)) (F0 m 28 ls [])) : ∀ (M : Mm) (v1 : Int32) (v2 : Int32) (v3 : Int32) (v4 : Int32) (H : Heap) (locs : List Loc) (ls : Array Slot), lv_has ls 6 [(0, .ref (P 0)), (1, .int v1), (2, .int v2), (3, .int v3), (4, .int v4)] → va_P D vwCl ((wY cI cZ cC cJ cA P) M) H → va_D (aP P 51) ((wY cI cZ cC cJ cA P) M) → va_S (aP P 51) s.heap H locs → q_ChipMapModel_run_153 kf28 M v1 v2 v3 v4 = some (M', r') → W p l e ({ frames := 7, cells := 0, slots := 0, locals := 161 }) s m args below meth c H locs 0 0 (MQ below (gQi D (aP P 51) ((wY cI cZ cC cJ cA P) M') r') args s 0 0 (aP P 51)) (F0 m 153 ls []) := by
  intro M v1 v2 v3 v4 H locs ls hl hP hD hS h
  unfold q_ChipMapModel_run_153 at h
  refine lv_iinc (v := (v4 + 1)) hx hb dX1_run_153 hl (k := 4) rfl rfl (Nat.le_of_ble_eq_true rfl) (lv' := [(4, .int (v4 + 1)), (0, .ref (P 0)), (1, .int v1), (2, .int v2), (3, .int v3)]) rfl (fun ls hl => ?_)
  refine lv_goto hx hb dX1_run_156 (tgt := 28) rfl ?_
  have hl := lv_sub hl [1, 2, 3, 4, 0] (l' := [(0, .ref (P 0)), (1, .int v1), (2, .int v2), (3, .int v3), (4, .int (v4 + 1))]) rfl
  exact kk28 M v1 v2 v3 (v4 + 1) H locs ls hl hP hD hS h
set_option maxHeartbeats 4000000 in
set_option maxRecDepth 20000 in
theorem b_ChipMapModel_run_137 {p : Program} {l : Launch} {e : Env} {s s0 : State} {m : MethodId} {args : Array Value} {below : List Frame} {meth : Method} {c : Code} {D : va_G} {cI cZ cC cJ cA : ClassId} {P : Nat → Nat} {M' : Mm} {r' : Int32} {kf28 : Mm → Int32 → Int32 → Int32 → Int32 → Rs} (hx : p.tables.exec = Jvm.exec) (hb : c.code = cX1_run) (hml : c.maxLocals = 6) (hr : meth.sig.returnType = (some .int)) (hlk : meth.locks = false) (hgt : ∀ w ∈ GT, w.before args s = true) (hown : s.vm.findClass RX1 = some m.cls) (hK : va_K D vwCl [(cI, .int), (cZ, .boolean), (cC, .char), (cJ, .long), (cA, .array .int)] s) (hO : Old s0 s) (hAO : ∀ q, (aP P 51) q → s0.heap.size ≤ q) (kk28 : ∀ (M : Mm) (v1 : Int32) (v2 : Int32) (v3 : Int32) (v4 : Int32) (H : Heap) (locs : List Loc) (ls : Array Slot), lv_has ls 6 [(0, .ref (P 0)), (1, .int v1), (2, .int v2), (3, .int v3), (4, .int v4)] → va_P D vwCl ((wY cI cZ cC cJ cA P) M) H → va_D (aP P 51) ((wY cI cZ cC cJ cA P) M) → va_S (aP P 51) s.heap H locs → kf28 M v1 v2 v3 v4 = some (M', r') → W p l e ({ frames := 7, cells := 0, slots := 0, locals := 161 }) s m args below meth c H locs 0 0 (MQ below (gQi D (aP P 51) ((wY cI cZ cC cJ cA P) M') r') args s 0 0 (aP P 51)) (F0 m 28 ls [])) : ∀ (M : Mm) (v1 : Int32) (v2 : Int32) (v3 : Int32) (v4 : Int32) (H : Heap) (locs : List Loc) (ls : Array Slot), lv_has ls 6 [(0, .ref (P 0)), (1, .int v1), (2, .int v2), (3, .int v3), (4, .int v4)] → va_P D vwCl ((wY cI cZ cC cJ cA P) M) H → va_D (aP P 51) ((wY cI cZ cC cJ cA P) M) → va_S (aP P 51) s.heap H locs → q_ChipMapModel_run_137 kf28 M v1 v2 v3 v4 = some (M', r') → W p l e ({ frames := 7, cells := 0, slots := 0, locals := 161 }) s m args below meth c H locs 0 0 (MQ below (gQi D (aP P 51) ((wY cI cZ cC cJ cA P) M') r') args s 0 0 (aP P 51)) (F0 m 137 ls []) := by
  intro M v1 v2 v3 v4 H locs ls hl hP hD hS h
  unfold q_ChipMapModel_run_137 at h
  refine lv_aload_n hx hb dX1_run_137 rfl (lv_at hl 0 rfl) ?_
  obtain ⟨M1, r2, hq, h⟩ := cal_o h
  refine cx_i (va_runV (As := []) (rest := []) ⟨hx, hb, hml, hown, hgt⟩ (z_ChipMapModel_end l D cI cZ cC cJ cA P s0 hAO M M1 r2 hq) (cwV 0 hgt (gV wd_6_158 wd_6_160 sl__ChipMapModel____ChipMapModel___end_____I_____ChipMapModel___end_____I__ wd_0_15 wd_6_161) rfl rfl rfl (by decide +kernel) ⟨Nat.le_of_ble_eq_true rfl, Nat.le_of_ble_eq_true rfl⟩) (prV hP hK hD hO hAO hS (va_recv hK hP (ci := 1) (q0 := 0) rfl gY_0)) rfl rfl hl.1 rfl (lv_room (Nat.le_of_ble_eq_true rfl)) dX1_run_138 ⟨Nat.le_of_ble_eq_true rfl, Nat.le_of_ble_eq_true rfl⟩) hS (fun H locs hP hD hS => ?_)
  refine lv_bipush (v := (-2)) hx hb dX1_run_141 (by decide) ?_
  refine lv_icmp_ne hx hb dX1_run_143 (tgt := 150) rfl (fun hc => ?_) (fun hc => ?_)
  · have h := br_F hc h
    refine lv_iinc (v := (v2 + 1)) hx hb dX1_run_150 hl (k := 2) rfl rfl (Nat.le_of_ble_eq_true rfl) (lv' := [(2, .int (v2 + 1)), (0, .ref (P 0)), (1, .int v1), (3, .int v3), (4, .int v4)]) rfl (fun ls hl => ?_)
    have hl := lv_sub hl [1, 2, 0, 3, 4] (l' := [(0, .ref (P 0)), (1, .int v1), (2, .int (v2 + 1)), (3, .int v3), (4, .int v4)]) rfl
    exact b_ChipMapModel_run_153 hx hb hml hr hlk hgt hown hK hO hAO kk28 M1 v1 (v2 + 1) v3 v4 H _ ls hl hP hD hS h
  · have h := br_T hc h
    refine lv_iload_n hx hb dX1_run_146 rfl (lv_at hl 2 rfl) ?_
    refine lv_iconst (v := 1) hx hb dX1_run_147 (by decide) ?_
    refine lv_iadd hx hb dX1_run_148 ?_
    exact rt_i (w := (wY cI cZ cC cJ cA P)) hx hb hr hlk hP hD hS h dX1_run_149
set_option maxHeartbeats 4000000 in
set_option maxRecDepth 20000 in
theorem b_ChipMapModel_run_92 {p : Program} {l : Launch} {e : Env} {s s0 : State} {m : MethodId} {args : Array Value} {below : List Frame} {meth : Method} {c : Code} {D : va_G} {cI cZ cC cJ cA : ClassId} {P : Nat → Nat} {M' : Mm} {r' : Int32} {kf28 : Mm → Int32 → Int32 → Int32 → Int32 → Rs} (hx : p.tables.exec = Jvm.exec) (hb : c.code = cX1_run) (hml : c.maxLocals = 6) (hr : meth.sig.returnType = (some .int)) (hlk : meth.locks = false) (hgt : ∀ w ∈ GT, w.before args s = true) (hown : s.vm.findClass RX1 = some m.cls) (hK : va_K D vwCl [(cI, .int), (cZ, .boolean), (cC, .char), (cJ, .long), (cA, .array .int)] s) (hO : Old s0 s) (hAO : ∀ q, (aP P 51) q → s0.heap.size ≤ q) (kk28 : ∀ (M : Mm) (v1 : Int32) (v2 : Int32) (v3 : Int32) (v4 : Int32) (H : Heap) (locs : List Loc) (ls : Array Slot), lv_has ls 6 [(0, .ref (P 0)), (1, .int v1), (2, .int v2), (3, .int v3), (4, .int v4)] → va_P D vwCl ((wY cI cZ cC cJ cA P) M) H → va_D (aP P 51) ((wY cI cZ cC cJ cA P) M) → va_S (aP P 51) s.heap H locs → kf28 M v1 v2 v3 v4 = some (M', r') → W p l e ({ frames := 7, cells := 0, slots := 0, locals := 161 }) s m args below meth c H locs 0 0 (MQ below (gQi D (aP P 51) ((wY cI cZ cC cJ cA P) M') r') args s 0 0 (aP P 51)) (F0 m 28 ls [])) : ∀ (M : Mm) (v1 : Int32) (v3 : Int32) (v4 : Int32) (t0 : Int32) (H : Heap) (locs : List Loc) (ls : Array Slot), lv_has ls 6 [(0, .ref (P 0)), (1, .int v1), (3, .int v3), (4, .int v4)] → va_P D vwCl ((wY cI cZ cC cJ cA P) M) H → va_D (aP P 51) ((wY cI cZ cC cJ cA P) M) → va_S (aP P 51) s.heap H locs → q_ChipMapModel_run_92 kf28 M v1 v3 v4 t0 = some (M', r') → W p l e ({ frames := 7, cells := 0, slots := 0, locals := 161 }) s m args below meth c H locs 0 0 (MQ below (gQi D (aP P 51) ((wY cI cZ cC cJ cA P) M') r') args s 0 0 (aP P 51)) (F0 m 92 ls [.int t0]) := by
  intro M v1 v3 v4 t0 H locs ls hl hP hD hS h
  unfold q_ChipMapModel_run_92 at h
  refine lv_istore_n hx hb dX1_run_92 rfl hl (Nat.le_of_ble_eq_true rfl) (lv' := [(2, .int t0), (0, .ref (P 0)), (1, .int v1), (3, .int v3), (4, .int v4)]) rfl (fun ls hl => ?_)
  refine lv_iinc (v := (v3 + 1)) hx hb dX1_run_93 hl (k := 3) rfl rfl (Nat.le_of_ble_eq_true rfl) (lv' := [(3, .int (v3 + 1)), (2, .int t0), (0, .ref (P 0)), (1, .int v1), (4, .int v4)]) rfl (fun ls hl => ?_)
  refine lv_goto hx hb dX1_run_96 (tgt := 153) rfl ?_
  have hl := lv_sub hl [2, 3, 1, 0, 4] (l' := [(0, .ref (P 0)), (1, .int v1), (2, .int t0), (3, .int (v3 + 1)), (4, .int v4)]) rfl
  exact b_ChipMapModel_run_153 hx hb hml hr hlk hgt hown hK hO hAO kk28 M v1 t0 (v3 + 1) v4 H _ ls hl hP hD hS h
set_option maxHeartbeats 4000000 in
set_option maxRecDepth 20000 in
theorem b_ChipMapModel_run_28 {p : Program} {l : Launch} {e : Env} {s s0 : State} {m : MethodId} {args : Array Value} {below : List Frame} {meth : Method} {c : Code} {D : va_G} {cI cZ cC cJ cA : ClassId} {P : Nat → Nat} {M' : Mm} {r' : Int32}  (hx : p.tables.exec = Jvm.exec) (hb : c.code = cX1_run) (hml : c.maxLocals = 6) (hr : meth.sig.returnType = (some .int)) (hlk : meth.locks = false) (hgt : ∀ w ∈ GT, w.before args s = true) (hown : s.vm.findClass RX1 = some m.cls) (hK : va_K D vwCl [(cI, .int), (cZ, .boolean), (cC, .char), (cJ, .long), (cA, .array .int)] s) (hO : Old s0 s) (hAO : ∀ q, (aP P 51) q → s0.heap.size ≤ q)  : ∀ (n' : Nat) (M : Mm) (v1 : Int32) (v2 : Int32) (v3 : Int32) (v4 : Int32) (H : Heap) (locs : List Loc) (ls : Array Slot), lv_has ls 6 [(0, .ref (P 0)), (1, .int v1), (2, .int v2), (3, .int v3), (4, .int v4)] → va_P D vwCl ((wY cI cZ cC cJ cA P) M) H → va_D (aP P 51) ((wY cI cZ cC cJ cA P) M) → va_S (aP P 51) s.heap H locs → q_ChipMapModel_run_28 n' M v1 v2 v3 v4 = some (M', r') → W p l e ({ frames := 7, cells := 0, slots := 0, locals := 161 }) s m args below meth c H locs 0 0 (MQ below (gQi D (aP P 51) ((wY cI cZ cC cJ cA P) M') r') args s 0 0 (aP P 51)) (F0 m 28 ls []) := by
  intro n'
  induction n' with
  | zero => exact fun _ _ _ _ _ _ _ _ _ _ _ _ h => (rs_n h).elim
  | succ n' ih =>
    intro M v1 v2 v3 v4 H locs ls hl hP hD hS h
    rw [q_ChipMapModel_run_28] at h
    refine lv_iload hx hb dX1_run_28 (lv_at hl 4 rfl) ?_
    refine lv_sipush (v := 300) hx hb dX1_run_30 (by decide) ?_
    refine lv_icmp_ge hx hb dX1_run_33 (tgt := 159) rfl (fun hc => ?_) (fun hc => ?_)
    · have h := br_T hc h
      refine lv_iload_n hx hb dX1_run_159 rfl (lv_at hl 2 rfl) ?_
      refine lv_aload_n hx hb dX1_run_160 rfl (lv_at hl 0 rfl) ?_
      refine va_get (D := D) (ci := 1) (v := .int (M.1 0 59)) (C := RX1) (T := TX1) (N := 76) hx hb hgt iwX1 hown hK hP 0 gY_0 rfl 59 (Nat.le_of_ble_eq_true rfl) (hgt _ wd_5_20) (fun _ h9 => h9) rfl dX1_run_161 ?_
      refine lv_icmp_lt hx hb dX1_run_164 (tgt := 171) rfl (fun hc => ?_) (fun hc => ?_)
      · have h := br_T hc h
        refine lv_bipush (v := (-2)) hx hb dX1_run_171 (by decide) ?_
        exact rt_i (w := (wY cI cZ cC cJ cA P)) hx hb hr hlk hP hD hS h dX1_run_173
      · have h := br_F hc h
        refine lv_iconst (v := 0) hx hb dX1_run_167 (by decide) ?_
        refine lv_goto hx hb dX1_run_168 (tgt := 173) rfl ?_
        exact rt_i (w := (wY cI cZ cC cJ cA P)) hx hb hr hlk hP hD hS h dX1_run_173
    · have h := br_F hc h
      refine lv_iload_n hx hb dX1_run_36 rfl (lv_at hl 2 rfl) ?_
      refine lv_aload_n hx hb dX1_run_37 rfl (lv_at hl 0 rfl) ?_
      refine va_get (D := D) (ci := 1) (v := .int (M.1 0 59)) (C := RX1) (T := TX1) (N := 76) hx hb hgt iwX1 hown hK hP 0 gY_0 rfl 59 (Nat.le_of_ble_eq_true rfl) (hgt _ wd_5_20) (fun _ h9 => h9) rfl dX1_run_38 ?_
      refine lv_icmp_lt hx hb dX1_run_41 (tgt := 46) rfl (fun hc => ?_) (fun hc => ?_)
      · have h := br_T hc h
        refine lv_aload_n hx hb dX1_run_46 rfl (lv_at hl 0 rfl) ?_
        refine va_get (D := D) (ci := 1) (v := .ref (P 42)) (C := RX1) (T := TX1) (N := 76) hx hb hgt iwX1 hown hK hP 0 gY_0 rfl 60 (Nat.le_of_ble_eq_true rfl) (hgt _ wd_5_21) (fun _ h9 => h9) rfl dX1_run_47 ?_
        refine lv_iload_n hx hb dX1_run_50 rfl (lv_at hl 2 rfl) ?_
        refine va_iald hx hb hK hP 42 0 gY_42 rfl (ix_l h) dX1_run_51 ?_
        have h := ix_r h
        refine lv_topi (fun x1 ex1 => ?_)
        have h := lt_o ex1 h
        refine lv_istore hx hb dX1_run_52 hl (Nat.le_of_ble_eq_true rfl) (lv' := [(5, .int x1), (0, .ref (P 0)), (1, .int v1), (2, .int v2), (3, .int v3), (4, .int v4)]) rfl (fun ls hl => ?_)
        refine lv_iload hx hb dX1_run_54 (lv_at hl 0 rfl) ?_
        refine lv_iconst (v := 3) hx hb dX1_run_56 (by decide) ?_
        refine lv_icmp_ne hx hb dX1_run_57 (tgt := 62) rfl (fun hc => ?_) (fun hc => ?_)
        · have h := br_F hc h
          refine lv_iload hx hb dX1_run_62 (lv_at hl 0 rfl) ?_
          refine lv_iconst (v := 2) hx hb dX1_run_64 (by decide) ?_
          refine lv_icmp_ne hx hb dX1_run_65 (tgt := 99) rfl (fun hc => ?_) (fun hc => ?_)
          · have h := br_F hc h
            refine lv_aload_n hx hb dX1_run_99 rfl (lv_at hl 1 rfl) ?_
            obtain ⟨M2, r3, hq, h⟩ := cal_o h
            refine cx_v (va_runV (As := []) (rest := []) ⟨hx, hb, hml, hown, hgt⟩ (z_ChipMapModel_begin l D cI cZ cC cJ cA P s0 hAO M M2 r3 hq) (cwV 0 hgt (gV wd_6_130 wd_6_132 sl__ChipMapModel____ChipMapModel___begin_____V_____ChipMapModel___begin_____V__ wd_0_15 wd_6_133) rfl rfl rfl (by decide +kernel) ⟨Nat.le_of_ble_eq_true rfl, Nat.le_of_ble_eq_true rfl⟩) (prV hP hK hD hO hAO hS (va_recv hK hP (ci := 1) (q0 := 0) rfl gY_0)) rfl rfl hl.1 rfl (lv_room (Nat.le_of_ble_eq_true rfl)) dX1_run_100 ⟨Nat.le_of_ble_eq_true rfl, Nat.le_of_ble_eq_true rfl⟩) hS (fun H locs hP hD hS => ?_)
            refine lv_iload hx hb dX1_run_103 (lv_at hl 0 rfl) ?_
            refine lv_if_ne hx hb dX1_run_105 (tgt := 127) rfl (fun hc => ?_) (fun hc => ?_)
            · have h := br_F hc h
              refine lv_aload_n hx hb dX1_run_127 rfl (lv_at hl 1 rfl) ?_
              refine lv_aload_n hx hb dX1_run_128 rfl (lv_at hl 1 rfl) ?_
              refine va_get (D := D) (ci := 1) (v := .ref (P 43)) (C := RX1) (T := TX1) (N := 76) hx hb hgt iwX1 hown hK hP 0 gY_0 rfl 61 (Nat.le_of_ble_eq_true rfl) (hgt _ wd_5_22) (fun _ h9 => h9) rfl dX1_run_129 ?_
              refine lv_iload_n hx hb dX1_run_132 rfl (lv_at hl 3 rfl) ?_
              refine va_iald hx hb hK hP 43 0 gY_43 rfl (ix_l h) dX1_run_133 ?_
              have h := ix_r h
              obtain ⟨M4, r5, hq, h⟩ := cal_o h
              refine cx_v (va_runV (As := [.int (M2.1 43 (v2 : Int32).toNatClampNeg)]) (rest := []) ⟨hx, hb, hml, hown, hgt⟩ (z_ChipMapModel_doFetch l D cI cZ cC cJ cA P s0 hAO M2 (M2.1 43 (v2 : Int32).toNatClampNeg) M4 r5 hq) (cwV 1 hgt (gV wd_6_170 wd_6_172 sl__ChipMapModel____ChipMapModel___doFetch____I_V_____ChipMapModel___doFetch____I_V__ wd_0_15 wd_6_173) rfl rfl rfl (by decide +kernel) ⟨Nat.le_of_ble_eq_true rfl, Nat.le_of_ble_eq_true rfl⟩) (prV hP hK hD hO hAO hS (va_recv hK hP (ci := 1) (q0 := 0) rfl gY_0)) rfl rfl hl.1 rfl (lv_room (Nat.le_of_ble_eq_true rfl)) dX1_run_134 ⟨Nat.le_of_ble_eq_true rfl, Nat.le_of_ble_eq_true rfl⟩) hS (fun H locs hP hD hS => ?_)
              have hl := lv_sub hl [1, 2, 3, 4, 5] (l' := [(0, .ref (P 0)), (1, .int v1), (2, .int v2), (3, .int v3), (4, .int v4)]) rfl
              exact b_ChipMapModel_run_137 hx hb hml hr hlk hgt hown hK hO hAO ih M4 v1 v2 v3 v4 H _ ls hl hP hD hS h
            · have h := br_T hc h
              refine lv_aload_n hx hb dX1_run_108 rfl (lv_at hl 1 rfl) ?_
              refine lv_aload_n hx hb dX1_run_109 rfl (lv_at hl 1 rfl) ?_
              refine va_get (D := D) (ci := 1) (v := .ref (P 43)) (C := RX1) (T := TX1) (N := 76) hx hb hgt iwX1 hown hK hP 0 gY_0 rfl 61 (Nat.le_of_ble_eq_true rfl) (hgt _ wd_5_22) (fun _ h9 => h9) rfl dX1_run_110 ?_
              refine lv_iload_n hx hb dX1_run_113 rfl (lv_at hl 3 rfl) ?_
              refine va_iald hx hb hK hP 43 0 gY_43 rfl (ix_l h) dX1_run_114 ?_
              have h := ix_r h
              refine lv_aload_n hx hb dX1_run_115 rfl (lv_at hl 1 rfl) ?_
              refine va_get (D := D) (ci := 1) (v := .ref (P 44)) (C := RX1) (T := TX1) (N := 76) hx hb hgt iwX1 hown hK hP 0 gY_0 rfl 62 (Nat.le_of_ble_eq_true rfl) (hgt _ wd_5_23) (fun _ h9 => h9) rfl dX1_run_116 ?_
              refine lv_iload_n hx hb dX1_run_119 rfl (lv_at hl 3 rfl) ?_
              refine va_iald hx hb hK hP 44 0 gY_44 rfl (ix_l h) dX1_run_120 ?_
              have h := ix_r h
              obtain ⟨M4, r5, hq, h⟩ := cal_o h
              refine cx_v (va_runV (As := [.int (M2.1 43 (v2 : Int32).toNatClampNeg), .int (M2.1 44 (v2 : Int32).toNatClampNeg)]) (rest := []) ⟨hx, hb, hml, hown, hgt⟩ (z_ChipMapModel_doPut l D cI cZ cC cJ cA P s0 hAO M2 (M2.1 43 (v2 : Int32).toNatClampNeg) (M2.1 44 (v2 : Int32).toNatClampNeg) M4 r5 hq) (cwV 2 hgt (gV wd_6_138 wd_6_140 sl__ChipMapModel____ChipMapModel___doPut____II_V_____ChipMapModel___doPut____II_V__ wd_0_15 wd_6_141) rfl rfl rfl (by decide +kernel) ⟨Nat.le_of_ble_eq_true rfl, Nat.le_of_ble_eq_true rfl⟩) (prV hP hK hD hO hAO hS (va_recv hK hP (ci := 1) (q0 := 0) rfl gY_0)) rfl rfl hl.1 rfl (lv_room (Nat.le_of_ble_eq_true rfl)) dX1_run_121 ⟨Nat.le_of_ble_eq_true rfl, Nat.le_of_ble_eq_true rfl⟩) hS (fun H locs hP hD hS => ?_)
              refine lv_goto hx hb dX1_run_124 (tgt := 137) rfl ?_
              have hl := lv_sub hl [1, 2, 3, 4, 5] (l' := [(0, .ref (P 0)), (1, .int v1), (2, .int v2), (3, .int v3), (4, .int v4)]) rfl
              exact b_ChipMapModel_run_137 hx hb hml hr hlk hgt hown hK hO hAO ih M4 v1 v2 v3 v4 H _ ls hl hP hD hS h
          · have h := br_T hc h
            refine lv_iload_n hx hb dX1_run_68 rfl (lv_at hl 2 rfl) ?_
            refine lv_iload_n hx hb dX1_run_69 rfl (lv_at hl 4 rfl) ?_
            refine lv_bipush (v := 32) hx hb dX1_run_70 (by decide) ?_
            refine lv_irem hx hb dX1_run_72 (by decide) ?_
            refine lv_ishr hx hb dX1_run_73 ?_
            refine lv_iconst (v := 1) hx hb dX1_run_74 (by decide) ?_
            refine lv_iand hx hb dX1_run_75 ?_
            refine lv_iconst (v := 1) hx hb dX1_run_76 (by decide) ?_
            refine lv_icmp_ne hx hb dX1_run_77 (tgt := 89) rfl (fun hc => ?_) (fun hc => ?_)
            · have h := br_F hc h
              refine lv_iload_n hx hb dX1_run_89 rfl (lv_at hl 3 rfl) ?_
              refine lv_iconst (v := 1) hx hb dX1_run_90 (by decide) ?_
              refine lv_iadd hx hb dX1_run_91 ?_
              have hl := lv_sub hl [1, 2, 4, 5] (l' := [(0, .ref (P 0)), (1, .int v1), (3, .int v3), (4, .int v4)]) rfl
              exact b_ChipMapModel_run_92 hx hb hml hr hlk hgt hown hK hO hAO ih M v1 v3 v4 (v2 + 1) H _ ls hl hP hD hS h
            · have h := br_T hc h
              refine lv_aload_n hx hb dX1_run_80 rfl (lv_at hl 1 rfl) ?_
              refine va_get (D := D) (ci := 1) (v := .ref (P 44)) (C := RX1) (T := TX1) (N := 76) hx hb hgt iwX1 hown hK hP 0 gY_0 rfl 62 (Nat.le_of_ble_eq_true rfl) (hgt _ wd_5_23) (fun _ h9 => h9) rfl dX1_run_81 ?_
              refine lv_iload_n hx hb dX1_run_84 rfl (lv_at hl 3 rfl) ?_
              refine va_iald hx hb hK hP 44 0 gY_44 rfl (ix_l h) dX1_run_85 ?_
              have h := ix_r h
              refine lv_goto hx hb dX1_run_86 (tgt := 92) rfl ?_
              have hl := lv_sub hl [1, 2, 4, 5] (l' := [(0, .ref (P 0)), (1, .int v1), (3, .int v3), (4, .int v4)]) rfl
              exact b_ChipMapModel_run_92 hx hb hml hr hlk hgt hown hK hO hAO ih M v1 v3 v4 (M.1 44 (v2 : Int32).toNatClampNeg) H _ ls hl hP hD hS h
        · have h := br_T hc h
          refine lv_iconst (v := 0) hx hb dX1_run_60 (by decide) ?_
          exact rt_i (w := (wY cI cZ cC cJ cA P)) hx hb hr hlk hP hD hS h dX1_run_61
      · have h := br_F hc h
        refine lv_iconst (v := 0) hx hb dX1_run_44 (by decide) ?_
        exact rt_i (w := (wY cI cZ cC cJ cA P)) hx hb hr hlk hP hD hS h dX1_run_45
set_option maxHeartbeats 4000000 in
set_option maxRecDepth 20000 in
theorem b_ChipMapModel_run_0 {p : Program} {l : Launch} {e : Env} {s s0 : State} {m : MethodId} {args : Array Value} {below : List Frame} {meth : Method} {c : Code} {D : va_G} {cI cZ cC cJ cA : ClassId} {P : Nat → Nat} {M' : Mm} {r' : Int32}  (hx : p.tables.exec = Jvm.exec) (hb : c.code = cX1_run) (hml : c.maxLocals = 6) (hr : meth.sig.returnType = (some .int)) (hlk : meth.locks = false) (hgt : ∀ w ∈ GT, w.before args s = true) (hown : s.vm.findClass RX1 = some m.cls) (hK : va_K D vwCl [(cI, .int), (cZ, .boolean), (cC, .char), (cJ, .long), (cA, .array .int)] s) (hO : Old s0 s) (hAO : ∀ q, (aP P 51) q → s0.heap.size ≤ q)  : ∀ (M : Mm) (a1 : Int32) (H : Heap) (locs : List Loc) (ls : Array Slot), lv_has ls 6 [(0, .ref (P 0)), (1, .int a1)] → va_P D vwCl ((wY cI cZ cC cJ cA P) M) H → va_D (aP P 51) ((wY cI cZ cC cJ cA P) M) → va_S (aP P 51) s.heap H locs → q_ChipMapModel_run M a1 = some (M', r') → W p l e ({ frames := 7, cells := 0, slots := 0, locals := 161 }) s m args below meth c H locs 0 0 (MQ below (gQi D (aP P 51) ((wY cI cZ cC cJ cA P) M') r') args s 0 0 (aP P 51)) (F0 m 0 ls []) := by
  intro M a1 H locs ls hl hP hD hS h
  unfold q_ChipMapModel_run at h
  refine lv_aload_n hx hb dX1_run_0 rfl (lv_at hl 0 rfl) ?_
  refine lv_iconst (v := 0) hx hb dX1_run_1 (by decide) ?_
  refine pm_put (w := (wY cI cZ cC cJ cA P)) (D := D) (ci := 1) (x := 0) (ty := .int) (C := RX1) (T := TX1) (N := 76) hx hb hgt iwX1 tyX1 tyX1_ok nmX1 hown hK hP hD hS 0 gY_0 rfl 0 (Nat.le_of_ble_eq_true rfl) (hgt _ wd_4_201) (fun _ h9 => h9) rfl (by decide +kernel) rfl rfl (Nat.le_of_ble_eq_true rfl) (sY_0_0 _) dX1_run_2 (fun M1 eM1 H locs hP hD hS => ?_)
  have h := lt_o eM1 h
  refine lv_aload_n hx hb dX1_run_5 rfl (lv_at hl 0 rfl) ?_
  refine va_get (D := D) (ci := 1) (v := .int (M1.1 0 27)) (C := RX1) (T := TX1) (N := 76) hx hb hgt iwX1 hown hK hP 0 gY_0 rfl 27 (Nat.le_of_ble_eq_true rfl) (hgt _ wd_4_228) (fun _ h9 => h9) rfl dX1_run_6 ?_
  refine lv_if_eq hx hb dX1_run_9 (tgt := 19) rfl (fun hc => ?_) (fun hc => ?_)
  · have h := br_T hc h
    refine lv_iconst (v := (-1)) hx hb dX1_run_19 (by decide) ?_
    exact rt_i (w := (wY cI cZ cC cJ cA P)) hx hb hr hlk hP hD hS h dX1_run_20
  · have h := br_F hc h
    refine lv_aload_n hx hb dX1_run_12 rfl (lv_at hl 0 rfl) ?_
    refine va_get (D := D) (ci := 1) (v := .int (M1.1 0 52)) (C := RX1) (T := TX1) (N := 76) hx hb hgt iwX1 hown hK hP 0 gY_0 rfl 52 (Nat.le_of_ble_eq_true rfl) (hgt _ wd_5_13) (fun _ h9 => h9) rfl dX1_run_13 ?_
    refine lv_if_le hx hb dX1_run_16 (tgt := 21) rfl (fun hc => ?_) (fun hc => ?_)
    · have h := br_T hc h
      refine lv_iconst (v := 0) hx hb dX1_run_21 (by decide) ?_
      refine lv_istore_n hx hb dX1_run_22 rfl hl (Nat.le_of_ble_eq_true rfl) (lv' := [(2, .int 0), (0, .ref (P 0)), (1, .int a1)]) rfl (fun ls hl => ?_)
      refine lv_iconst (v := 0) hx hb dX1_run_23 (by decide) ?_
      refine lv_istore_n hx hb dX1_run_24 rfl hl (Nat.le_of_ble_eq_true rfl) (lv' := [(3, .int 0), (2, .int 0), (0, .ref (P 0)), (1, .int a1)]) rfl (fun ls hl => ?_)
      refine lv_iconst (v := 0) hx hb dX1_run_25 (by decide) ?_
      refine lv_istore hx hb dX1_run_26 hl (Nat.le_of_ble_eq_true rfl) (lv' := [(4, .int 0), (3, .int 0), (2, .int 0), (0, .ref (P 0)), (1, .int a1)]) rfl (fun ls hl => ?_)
      have hl := lv_sub hl [3, 4, 2, 1, 0] (l' := [(0, .ref (P 0)), (1, .int a1), (2, .int 0), (3, .int 0), (4, .int 0)]) rfl
      exact b_ChipMapModel_run_28 hx hb hml hr hlk hgt hown hK hO hAO 4000 M1 a1 0 0 0 H _ ls hl hP hD hS h
    · have h := br_F hc h
      refine lv_iconst (v := (-1)) hx hb dX1_run_19 (by decide) ?_
      exact rt_i (w := (wY cI cZ cC cJ cA P)) hx hb hr hlk hP hD hS h dX1_run_20
set_option maxHeartbeats 4000000 in
set_option maxRecDepth 20000 in
theorem z_ChipMapModel_run (l : Launch) (D : va_G) (cI cZ cC cJ cA : ClassId) (P : Nat → Nat) (s0 : State) (hAO : ∀ q, (aP P 51) q → s0.heap.size ≤ q) (M : Mm) (a1 : Int32) (M' : Mm) (r' : Int32) (h : q_ChipMapModel_run M a1 = some (M', r')) : Met l yX1_run wsX1_run ({ frames := 7, cells := 0, slots := 0, locals := 161 }) (va_Pc [.ref (P 0), .int a1] (gPre s0 D [(cI, .int), (cZ, .boolean), (cC, .char), (cJ, .long), (cA, .array .int)] (aP P 51) ((wY cI cZ cC cJ cA P) M))) (gQi D (aP P 51) ((wY cI cZ cC cJ cA P) M') r') 0 0 (aP P 51) := by
  refine Met.ofW (cc := cX1_run) (maxL := 6) (ret := (some .int)) (by decide) rfl ?_
  intro p e s m args below meth c s₁ B hml hv
  obtain ⟨rfl, hP, hK, hD, hO⟩ := hv
  have hx := B.exec
  have hb := B.bytes
  have hr := B.returns
  have hlk := B.notSynchronized
  have hgt := fun w (h : w ∈ GT) => atoms_spec (ws := wsX1_run) B.pre w (List.mem_cons_of_mem _ h)
  have hown : s.vm.findClass RX1 = some m.cls := findClass_of_methodNamed B.named
  have hS : va_S (aP P 51) s.heap s.heap [] := va_S.rf
  have hl := lv_entry ([.ref (P 0), .int a1]) (n := 6) (Nat.le_of_ble_eq_true rfl)
  rw [lg_entry_eq]
  generalize (lg_sl ([.ref (P 0), .int a1]) ++ List.replicate (6 - (lg_sl ([.ref (P 0), .int a1])).length) Slot.unset).toArray = ls at hl ⊢
  have hl : lv_has ls 6 [(0, .ref (P 0)), (1, .int a1)] := hl
  exact b_ChipMapModel_run_0 hx hb hml hr hlk hgt hown hK hO hAO M a1 s.heap [] ls hl hP hD hS h
def q_ChipMapModel_state  (M : Mm) (a1 : Int32) : Rs := lt' (stI M 0 (upd (M.1 0) 0 0)) fun M1 => if a1 = 0 then (some (M1, (M1.1 0 47))) else (if a1 = 1 then (some (M1, (M1.1 0 48))) else (if a1 = 2 then (some (M1, (M1.1 0 52))) else (if a1 = 3 then (some (M1, (M1.1 0 59))) else (if a1 = 4 then (some (M1, (M1.1 0 38))) else (some (M1, (-1)))))))
set_option maxHeartbeats 4000000 in
set_option maxRecDepth 20000 in
theorem b_ChipMapModel_state_0 {p : Program} {l : Launch} {e : Env} {s s0 : State} {m : MethodId} {args : Array Value} {below : List Frame} {meth : Method} {c : Code} {D : va_G} {cI cZ cC cJ cA : ClassId} {P : Nat → Nat} {M' : Mm} {r' : Int32}  (hx : p.tables.exec = Jvm.exec) (hb : c.code = cX1_state) (hml : c.maxLocals = 2) (hr : meth.sig.returnType = (some .int)) (hlk : meth.locks = false) (hgt : ∀ w ∈ GT, w.before args s = true) (hown : s.vm.findClass RX1 = some m.cls) (hK : va_K D vwCl [(cI, .int), (cZ, .boolean), (cC, .char), (cJ, .long), (cA, .array .int)] s) (hO : Old s0 s) (hAO : ∀ q, (aP P 51) q → s0.heap.size ≤ q)  : ∀ (M : Mm) (a1 : Int32) (H : Heap) (locs : List Loc) (ls : Array Slot), lv_has ls 2 [(0, .ref (P 0)), (1, .int a1)] → va_P D vwCl ((wY cI cZ cC cJ cA P) M) H → va_D (aP P 51) ((wY cI cZ cC cJ cA P) M) → va_S (aP P 51) s.heap H locs → q_ChipMapModel_state M a1 = some (M', r') → W p l e ({ frames := 0, cells := 0, slots := 0, locals := 0 }) s m args below meth c H locs 0 0 (MQ below (gQi D (aP P 51) ((wY cI cZ cC cJ cA P) M') r') args s 0 0 (aP P 51)) (F0 m 0 ls []) := by
  intro M a1 H locs ls hl hP hD hS h
  unfold q_ChipMapModel_state at h
  refine lv_aload_n hx hb dX1_state_0 rfl (lv_at hl 0 rfl) ?_
  refine lv_iconst (v := 0) hx hb dX1_state_1 (by decide) ?_
  refine pm_put (w := (wY cI cZ cC cJ cA P)) (D := D) (ci := 1) (x := 0) (ty := .int) (C := RX1) (T := TX1) (N := 76) hx hb hgt iwX1 tyX1 tyX1_ok nmX1 hown hK hP hD hS 0 gY_0 rfl 0 (Nat.le_of_ble_eq_true rfl) (hgt _ wd_4_201) (fun _ h9 => h9) rfl (by decide +kernel) rfl rfl (Nat.le_of_ble_eq_true rfl) (sY_0_0 _) dX1_state_2 (fun M1 eM1 H locs hP hD hS => ?_)
  have h := lt_o eM1 h
  refine lv_iload_n hx hb dX1_state_5 rfl (lv_at hl 1 rfl) ?_
  refine lv_if_ne hx hb dX1_state_6 (tgt := 16) rfl (fun hc => ?_) (fun hc => ?_)
  · have h := br_F hc h
    refine lv_iload_n hx hb dX1_state_16 rfl (lv_at hl 1 rfl) ?_
    refine lv_iconst (v := 1) hx hb dX1_state_17 (by decide) ?_
    refine lv_icmp_ne hx hb dX1_state_18 (tgt := 28) rfl (fun hc => ?_) (fun hc => ?_)
    · have h := br_F hc h
      refine lv_iload_n hx hb dX1_state_28 rfl (lv_at hl 1 rfl) ?_
      refine lv_iconst (v := 2) hx hb dX1_state_29 (by decide) ?_
      refine lv_icmp_ne hx hb dX1_state_30 (tgt := 40) rfl (fun hc => ?_) (fun hc => ?_)
      · have h := br_F hc h
        refine lv_iload_n hx hb dX1_state_40 rfl (lv_at hl 1 rfl) ?_
        refine lv_iconst (v := 3) hx hb dX1_state_41 (by decide) ?_
        refine lv_icmp_ne hx hb dX1_state_42 (tgt := 52) rfl (fun hc => ?_) (fun hc => ?_)
        · have h := br_F hc h
          refine lv_iload_n hx hb dX1_state_52 rfl (lv_at hl 1 rfl) ?_
          refine lv_iconst (v := 4) hx hb dX1_state_53 (by decide) ?_
          refine lv_icmp_ne hx hb dX1_state_54 (tgt := 64) rfl (fun hc => ?_) (fun hc => ?_)
          · have h := br_F hc h
            refine lv_iconst (v := (-1)) hx hb dX1_state_64 (by decide) ?_
            exact rt_i (w := (wY cI cZ cC cJ cA P)) hx hb hr hlk hP hD hS h dX1_state_65
          · have h := br_T hc h
            refine lv_aload_n hx hb dX1_state_57 rfl (lv_at hl 0 rfl) ?_
            refine va_get (D := D) (ci := 1) (v := .int (M1.1 0 38)) (C := RX1) (T := TX1) (N := 76) hx hb hgt iwX1 hown hK hP 0 gY_0 rfl 38 (Nat.le_of_ble_eq_true rfl) (hgt _ wd_4_239) (fun _ h9 => h9) rfl dX1_state_58 ?_
            refine lv_goto hx hb dX1_state_61 (tgt := 65) rfl ?_
            exact rt_i (w := (wY cI cZ cC cJ cA P)) hx hb hr hlk hP hD hS h dX1_state_65
        · have h := br_T hc h
          refine lv_aload_n hx hb dX1_state_45 rfl (lv_at hl 0 rfl) ?_
          refine va_get (D := D) (ci := 1) (v := .int (M1.1 0 59)) (C := RX1) (T := TX1) (N := 76) hx hb hgt iwX1 hown hK hP 0 gY_0 rfl 59 (Nat.le_of_ble_eq_true rfl) (hgt _ wd_5_20) (fun _ h9 => h9) rfl dX1_state_46 ?_
          refine lv_goto hx hb dX1_state_49 (tgt := 65) rfl ?_
          exact rt_i (w := (wY cI cZ cC cJ cA P)) hx hb hr hlk hP hD hS h dX1_state_65
      · have h := br_T hc h
        refine lv_aload_n hx hb dX1_state_33 rfl (lv_at hl 0 rfl) ?_
        refine va_get (D := D) (ci := 1) (v := .int (M1.1 0 52)) (C := RX1) (T := TX1) (N := 76) hx hb hgt iwX1 hown hK hP 0 gY_0 rfl 52 (Nat.le_of_ble_eq_true rfl) (hgt _ wd_5_13) (fun _ h9 => h9) rfl dX1_state_34 ?_
        refine lv_goto hx hb dX1_state_37 (tgt := 65) rfl ?_
        exact rt_i (w := (wY cI cZ cC cJ cA P)) hx hb hr hlk hP hD hS h dX1_state_65
    · have h := br_T hc h
      refine lv_aload_n hx hb dX1_state_21 rfl (lv_at hl 0 rfl) ?_
      refine va_get (D := D) (ci := 1) (v := .int (M1.1 0 48)) (C := RX1) (T := TX1) (N := 76) hx hb hgt iwX1 hown hK hP 0 gY_0 rfl 48 (Nat.le_of_ble_eq_true rfl) (hgt _ wd_5_9) (fun _ h9 => h9) rfl dX1_state_22 ?_
      refine lv_goto hx hb dX1_state_25 (tgt := 65) rfl ?_
      exact rt_i (w := (wY cI cZ cC cJ cA P)) hx hb hr hlk hP hD hS h dX1_state_65
  · have h := br_T hc h
    refine lv_aload_n hx hb dX1_state_9 rfl (lv_at hl 0 rfl) ?_
    refine va_get (D := D) (ci := 1) (v := .int (M1.1 0 47)) (C := RX1) (T := TX1) (N := 76) hx hb hgt iwX1 hown hK hP 0 gY_0 rfl 47 (Nat.le_of_ble_eq_true rfl) (hgt _ wd_5_8) (fun _ h9 => h9) rfl dX1_state_10 ?_
    refine lv_goto hx hb dX1_state_13 (tgt := 65) rfl ?_
    exact rt_i (w := (wY cI cZ cC cJ cA P)) hx hb hr hlk hP hD hS h dX1_state_65
set_option maxHeartbeats 4000000 in
set_option maxRecDepth 20000 in
theorem z_ChipMapModel_state (l : Launch) (D : va_G) (cI cZ cC cJ cA : ClassId) (P : Nat → Nat) (s0 : State) (hAO : ∀ q, (aP P 51) q → s0.heap.size ≤ q) (M : Mm) (a1 : Int32) (M' : Mm) (r' : Int32) (h : q_ChipMapModel_state M a1 = some (M', r')) : Met l yX1_state wsX1_state ({ frames := 0, cells := 0, slots := 0, locals := 0 }) (va_Pc [.ref (P 0), .int a1] (gPre s0 D [(cI, .int), (cZ, .boolean), (cC, .char), (cJ, .long), (cA, .array .int)] (aP P 51) ((wY cI cZ cC cJ cA P) M))) (gQi D (aP P 51) ((wY cI cZ cC cJ cA P) M') r') 0 0 (aP P 51) := by
  refine Met.ofW (cc := cX1_state) (maxL := 2) (ret := (some .int)) (by decide) rfl ?_
  intro p e s m args below meth c s₁ B hml hv
  obtain ⟨rfl, hP, hK, hD, hO⟩ := hv
  have hx := B.exec
  have hb := B.bytes
  have hr := B.returns
  have hlk := B.notSynchronized
  have hgt := fun w (h : w ∈ GT) => atoms_spec (ws := wsX1_state) B.pre w (List.mem_cons_of_mem _ h)
  have hown : s.vm.findClass RX1 = some m.cls := findClass_of_methodNamed B.named
  have hS : va_S (aP P 51) s.heap s.heap [] := va_S.rf
  have hl := lv_entry ([.ref (P 0), .int a1]) (n := 2) (Nat.le_of_ble_eq_true rfl)
  rw [lg_entry_eq]
  generalize (lg_sl ([.ref (P 0), .int a1]) ++ List.replicate (2 - (lg_sl ([.ref (P 0), .int a1])).length) Slot.unset).toArray = ls at hl ⊢
  have hl : lv_has ls 2 [(0, .ref (P 0)), (1, .int a1)] := hl
  exact b_ChipMapModel_state_0 hx hb hml hr hlk hgt hown hK hO hAO M a1 s.heap [] ls hl hP hD hS h
end
