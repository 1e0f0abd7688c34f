def q_Integer_bitCount  (M : Mm) (a0 : Int32) : Rs := lt' (a0 - ((((a0 : Int32).toUInt32 >>> ((1 : Int32).toUInt32 &&& Int32.toUInt32 31)).toInt32) &&& 1431655765)) fun x1 => lt' ((x1 &&& 858993459) + ((((x1 : Int32).toUInt32 >>> ((2 : Int32).toUInt32 &&& Int32.toUInt32 31)).toInt32) &&& 858993459)) fun x2 => lt' ((x2 + (((x2 : Int32).toUInt32 >>> ((4 : Int32).toUInt32 &&& Int32.toUInt32 31)).toInt32)) &&& 252645135) fun x3 => lt' (x3 + (((x3 : Int32).toUInt32 >>> ((8 : Int32).toUInt32 &&& Int32.toUInt32 31)).toInt32)) fun x4 => lt' (x4 + (((x4 : Int32).toUInt32 >>> ((16 : Int32).toUInt32 &&& Int32.toUInt32 31)).toInt32)) fun x5 => some (M, (x5 &&& 63))
set_option maxHeartbeats 4000000 in
set_option maxRecDepth 20000 in
theorem b_Integer_bitCount_0 {p : Program} {l : Launch} {e : Env} {s s0 : State} {m : MethodId} {args : Array Value} {below : List Frame} {meth : Method} {c : Code} {D : va_G} {cI cZ cC cJ cA : ClassId} {P : Nat → Nat} {M' : Mm} {r' : Int32}  (hx : p.tables.exec = Jvm.exec) (hb : c.code = cJ2_bitCount) (hml : c.maxLocals = 1) (hr : meth.sig.returnType = (some .int)) (hlk : meth.locks = false) (hgt : ∀ w ∈ GT, w.before args s = true) (hown : s.vm.findClass RJ2 = some m.cls) (hK : va_K D vwCl [(cI, .int), (cZ, .boolean), (cC, .char), (cJ, .long), (cA, .array .int)] s) (hO : Old s0 s) (hAO : ∀ q, (aP P 77) q → s0.heap.size ≤ q)  : ∀ (M : Mm) (a0 : Int32) (H : Heap) (locs : List Loc) (ls : Array Slot), lv_has ls 1 [(0, .int a0)] → va_P D vwCl ((wX cI cZ cC cJ cA P) M) H → va_D (aP P 77) ((wX cI cZ cC cJ cA P) M) → va_S (aP P 77) s.heap H locs → q_Integer_bitCount M a0 = some (M', r') → W p l e ({ frames := 0, cells := 0, slots := 0, locals := 0 }) s m args below meth c H locs 0 0 (MQ below (gQi D (aP P 77) ((wX cI cZ cC cJ cA P) M') r') args s 0 0 (aP P 77)) (F0 m 0 ls []) := by
  intro M a0 H locs ls hl hP hD hS h
  unfold q_Integer_bitCount at h
  refine lv_iload_n hx hb dJ2_bitCount_0 rfl (lv_at hl 0 rfl) ?_
  refine lv_iload_n hx hb dJ2_bitCount_1 rfl (lv_at hl 0 rfl) ?_
  refine lv_iconst (v := 1) hx hb dJ2_bitCount_2 (by decide) ?_
  refine lv_iushr (v := (((a0 : Int32).toUInt32 >>> ((1 : Int32).toUInt32 &&& Int32.toUInt32 31)).toInt32)) hx hb dJ2_bitCount_3 rfl ?_
  refine lv_ldcw (v := 1431655765) hx hb hown (hgt _ wd_2_146) dJ2_bitCount_4 ?_
  refine lv_iand hx hb dJ2_bitCount_7 ?_
  refine lv_isub hx hb dJ2_bitCount_8 ?_
  refine lv_topi (fun x1 ex1 => ?_)
  have h := lt_o ex1 h
  refine lv_istore_n hx hb dJ2_bitCount_9 rfl hl (Nat.le_of_ble_eq_true rfl) (lv' := [(0, .int x1)]) rfl (fun ls hl => ?_)
  refine lv_iload_n hx hb dJ2_bitCount_10 rfl (lv_at hl 0 rfl) ?_
  refine lv_ldcw (v := 858993459) hx hb hown (hgt _ wd_2_147) dJ2_bitCount_11 ?_
  refine lv_iand hx hb dJ2_bitCount_14 ?_
  refine lv_iload_n hx hb dJ2_bitCount_15 rfl (lv_at hl 0 rfl) ?_
  refine lv_iconst (v := 2) hx hb dJ2_bitCount_16 (by decide) ?_
  refine lv_iushr (v := (((x1 : Int32).toUInt32 >>> ((2 : Int32).toUInt32 &&& Int32.toUInt32 31)).toInt32)) hx hb dJ2_bitCount_17 rfl ?_
  refine lv_ldcw (v := 858993459) hx hb hown (hgt _ wd_2_147) dJ2_bitCount_18 ?_
  refine lv_iand hx hb dJ2_bitCount_21 ?_
  refine lv_iadd hx hb dJ2_bitCount_22 ?_
  refine lv_topi (fun x2 ex2 => ?_)
  have h := lt_o ex2 h
  refine lv_istore_n hx hb dJ2_bitCount_23 rfl hl (Nat.le_of_ble_eq_true rfl) (lv' := [(0, .int x2)]) rfl (fun ls hl => ?_)
  refine lv_iload_n hx hb dJ2_bitCount_24 rfl (lv_at hl 0 rfl) ?_
  refine lv_iload_n hx hb dJ2_bitCount_25 rfl (lv_at hl 0 rfl) ?_
  refine lv_iconst (v := 4) hx hb dJ2_bitCount_26 (by decide) ?_
  refine lv_iushr (v := (((x2 : Int32).toUInt32 >>> ((4 : Int32).toUInt32 &&& Int32.toUInt32 31)).toInt32)) hx hb dJ2_bitCount_27 rfl ?_
  refine lv_iadd hx hb dJ2_bitCount_28 ?_
  refine lv_ldcw (v := 252645135) hx hb hown (hgt _ wd_2_148) dJ2_bitCount_29 ?_
  refine lv_iand hx hb dJ2_bitCount_32 ?_
  refine lv_topi (fun x3 ex3 => ?_)
  have h := lt_o ex3 h
  refine lv_istore_n hx hb dJ2_bitCount_33 rfl hl (Nat.le_of_ble_eq_true rfl) (lv' := [(0, .int x3)]) rfl (fun ls hl => ?_)
  refine lv_iload_n hx hb dJ2_bitCount_34 rfl (lv_at hl 0 rfl) ?_
  refine lv_iload_n hx hb dJ2_bitCount_35 rfl (lv_at hl 0 rfl) ?_
  refine lv_bipush (v := 8) hx hb dJ2_bitCount_36 (by decide) ?_
  refine lv_iushr (v := (((x3 : Int32).toUInt32 >>> ((8 : Int32).toUInt32 &&& Int32.toUInt32 31)).toInt32)) hx hb dJ2_bitCount_38 rfl ?_
  refine lv_iadd hx hb dJ2_bitCount_39 ?_
  refine lv_topi (fun x4 ex4 => ?_)
  have h := lt_o ex4 h
  refine lv_istore_n hx hb dJ2_bitCount_40 rfl hl (Nat.le_of_ble_eq_true rfl) (lv' := [(0, .int x4)]) rfl (fun ls hl => ?_)
  refine lv_iload_n hx hb dJ2_bitCount_41 rfl (lv_at hl 0 rfl) ?_
  refine lv_iload_n hx hb dJ2_bitCount_42 rfl (lv_at hl 0 rfl) ?_
  refine lv_bipush (v := 16) hx hb dJ2_bitCount_43 (by decide) ?_
  refine lv_iushr (v := (((x4 : Int32).toUInt32 >>> ((16 : Int32).toUInt32 &&& Int32.toUInt32 31)).toInt32)) hx hb dJ2_bitCount_45 rfl ?_
  refine lv_iadd hx hb dJ2_bitCount_46 ?_
  refine lv_topi (fun x5 ex5 => ?_)
  have h := lt_o ex5 h
  refine lv_istore_n hx hb dJ2_bitCount_47 rfl hl (Nat.le_of_ble_eq_true rfl) (lv' := [(0, .int x5)]) rfl (fun ls hl => ?_)
  refine lv_iload_n hx hb dJ2_bitCount_48 rfl (lv_at hl 0 rfl) ?_
  refine lv_bipush (v := 63) hx hb dJ2_bitCount_49 (by decide) ?_
  refine lv_iand hx hb dJ2_bitCount_51 ?_
  exact rt_i (w := (wX cI cZ cC cJ cA P)) hx hb hr hlk hP hD hS h dJ2_bitCount_52
set_option maxHeartbeats 4000000 in
set_option maxRecDepth 20000 in
theorem z_Integer_bitCount (l : Launch) (D : va_G) (cI cZ cC cJ cA : ClassId) (P : Nat → Nat) (s0 : State) (hAO : ∀ q, (aP P 77) q → s0.heap.size ≤ q) (M : Mm) (a0 : Int32) (M' : Mm) (r' : Int32) (h : q_Integer_bitCount M a0 = some (M', r')) : Met l yJ2_bitCount wsJ2_bitCount ({ frames := 0, cells := 0, slots := 0, locals := 0 }) (va_Pc [.int a0] (gPre s0 D [(cI, .int), (cZ, .boolean), (cC, .char), (cJ, .long), (cA, .array .int)] (aP P 77) ((wX cI cZ cC cJ cA P) M))) (gQi D (aP P 77) ((wX cI cZ cC cJ cA P) M') r') 0 0 (aP P 77) := by
  refine Met.ofW (cc := cJ2_bitCount) (maxL := 1) (ret := (some .int)) (by decide) rfl ?_
  intro p e s m args below meth c s₁ B hml hv
  obtain ⟨rfl, hP, hK, hD, hO⟩ := hv
  have hx := B.exec
  have hb := B.bytes
  have hr := B.returns
  have hlk := B.notSynchronized
  have hgt := fun w (h : w ∈ GT) => atoms_spec (ws := wsJ2_bitCount) B.pre w (List.mem_cons_of_mem _ h)
  have hown : s.vm.findClass RJ2 = some m.cls := findClass_of_methodNamed B.named
  have hS : va_S (aP P 77) s.heap s.heap [] := va_S.rf
  have hl := lv_entry ([.int a0]) (n := 1) (Nat.le_of_ble_eq_true rfl)
  rw [lg_entry_eq]
  generalize (lg_sl ([.int a0]) ++ List.replicate (1 - (lg_sl ([.int a0])).length) Slot.unset).toArray = ls at hl ⊢
  have hl : lv_has ls 1 [(0, .int a0)] := hl
  exact b_Integer_bitCount_0 hx hb hml hr hlk hgt hown hK hO hAO M a0 s.heap [] ls hl hP hD hS h
def q_Integer_numberOfTrailingZeros_74  (M : Mm) (v0 : Int32) (v1 : Int32) : Rs := some (M, (v1 + (((v0 : Int32).toUInt32 >>> ((1 : Int32).toUInt32 &&& Int32.toUInt32 31)).toInt32)))
def q_Integer_numberOfTrailingZeros_62  (M : Mm) (v0 : Int32) (v1 : Int32) : Rs := if v0 ≤ 4 then (q_Integer_numberOfTrailingZeros_74 M v0 v1) else (lt' (((v0 : Int32).toUInt32 >>> ((2 : Int32).toUInt32 &&& Int32.toUInt32 31)).toInt32) fun x1 => q_Integer_numberOfTrailingZeros_74 M x1 (v1 + 2))
def q_Integer_numberOfTrailingZeros_49  (M : Mm) (v0 : Int32) (v1 : Int32) : Rs := if v0 ≤ 16 then (q_Integer_numberOfTrailingZeros_62 M v0 v1) else (lt' (((v0 : Int32).toUInt32 >>> ((4 : Int32).toUInt32 &&& Int32.toUInt32 31)).toInt32) fun x1 => q_Integer_numberOfTrailingZeros_62 M x1 (v1 + 4))
def q_Integer_numberOfTrailingZeros_34  (M : Mm) (v0 : Int32) (v1 : Int32) : Rs := if v0 ≤ 256 then (q_Integer_numberOfTrailingZeros_49 M v0 v1) else (lt' (((v0 : Int32).toUInt32 >>> ((8 : Int32).toUInt32 &&& Int32.toUInt32 31)).toInt32) fun x1 => q_Integer_numberOfTrailingZeros_49 M x1 (v1 + 8))
def q_Integer_numberOfTrailingZeros  (M : Mm) (a0 : Int32) : Rs := lt' ((a0 ^^^ (-1)) &&& (a0 - 1)) fun x1 => if 0 < x1 then (if x1 ≤ 65536 then (q_Integer_numberOfTrailingZeros_34 M x1 1) else (lt' (((x1 : Int32).toUInt32 >>> ((16 : Int32).toUInt32 &&& Int32.toUInt32 31)).toInt32) fun x2 => q_Integer_numberOfTrailingZeros_34 M x2 (1 + 16))) else (some (M, (x1 &&& 32)))
set_option maxHeartbeats 4000000 in
set_option maxRecDepth 20000 in
theorem b_Integer_numberOfTrailingZeros_74 {p : Program} {l : Launch} {e : Env} {s s0 : State} {m : MethodId} {args : Array Value} {below : List Frame} {meth : Method} {c : Code} {D : va_G} {cI cZ cC cJ cA : ClassId} {P : Nat → Nat} {M' : Mm} {r' : Int32}  (hx : p.tables.exec = Jvm.exec) (hb : c.code = cJ2_numberOfTrailingZeros) (hml : c.maxLocals = 2) (hr : meth.sig.returnType = (some .int)) (hlk : meth.locks = false) (hgt : ∀ w ∈ GT, w.before args s = true) (hown : s.vm.findClass RJ2 = some m.cls) (hK : va_K D vwCl [(cI, .int), (cZ, .boolean), (cC, .char), (cJ, .long), (cA, .array .int)] s) (hO : Old s0 s) (hAO : ∀ q, (aP P 77) q → s0.heap.size ≤ q)  : ∀ (M : Mm) (v0 : Int32) (v1 : Int32) (H : Heap) (locs : List Loc) (ls : Array Slot), lv_has ls 2 [(0, .int v0), (1, .int v1)] → va_P D vwCl ((wX cI cZ cC cJ cA P) M) H → va_D (aP P 77) ((wX cI cZ cC cJ cA P) M) → va_S (aP P 77) s.heap H locs → q_Integer_numberOfTrailingZeros_74 M v0 v1 = some (M', r') → W p l e ({ frames := 0, cells := 0, slots := 0, locals := 0 }) s m args below meth c H locs 0 0 (MQ below (gQi D (aP P 77) ((wX cI cZ cC cJ cA P) M') r') args s 0 0 (aP P 77)) (F0 m 74 ls []) := by
  intro M v0 v1 H locs ls hl hP hD hS h
  unfold q_Integer_numberOfTrailingZeros_74 at h
  refine lv_iload_n hx hb dJ2_numberOfTrailingZeros_74 rfl (lv_at hl 1 rfl) ?_
  refine lv_iload_n hx hb dJ2_numberOfTrailingZeros_75 rfl (lv_at hl 0 rfl) ?_
  refine lv_iconst (v := 1) hx hb dJ2_numberOfTrailingZeros_76 (by decide) ?_
  refine lv_iushr (v := (((v0 : Int32).toUInt32 >>> ((1 : Int32).toUInt32 &&& Int32.toUInt32 31)).toInt32)) hx hb dJ2_numberOfTrailingZeros_77 rfl ?_
  refine lv_iadd hx hb dJ2_numberOfTrailingZeros_78 ?_
  exact rt_i (w := (wX cI cZ cC cJ cA P)) hx hb hr hlk hP hD hS h dJ2_numberOfTrailingZeros_79
set_option maxHeartbeats 4000000 in
set_option maxRecDepth 20000 in
theorem b_Integer_numberOfTrailingZeros_62 {p : Program} {l : Launch} {e : Env} {s s0 : State} {m : MethodId} {args : Array Value} {below : List Frame} {meth : Method} {c : Code} {D : va_G} {cI cZ cC cJ cA : ClassId} {P : Nat → Nat} {M' : Mm} {r' : Int32}  (hx : p.tables.exec = Jvm.exec) (hb : c.code = cJ2_numberOfTrailingZeros) (hml : c.maxLocals = 2) (hr : meth.sig.returnType = (some .int)) (hlk : meth.locks = false) (hgt : ∀ w ∈ GT, w.before args s = true) (hown : s.vm.findClass RJ2 = some m.cls) (hK : va_K D vwCl [(cI, .int), (cZ, .boolean), (cC, .char), (cJ, .long), (cA, .array .int)] s) (hO : Old s0 s) (hAO : ∀ q, (aP P 77) q → s0.heap.size ≤ q)  : ∀ (M : Mm) (v0 : Int32) (v1 : Int32) (H : Heap) (locs : List Loc) (ls : Array Slot), lv_has ls 2 [(0, .int v0), (1, .int v1)] → va_P D vwCl ((wX cI cZ cC cJ cA P) M) H → va_D (aP P 77) ((wX cI cZ cC cJ cA P) M) → va_S (aP P 77) s.heap H locs → q_Integer_numberOfTrailingZeros_62 M v0 v1 = some (M', r') → W p l e ({ frames := 0, cells := 0, slots := 0, locals := 0 }) s m args below meth c H locs 0 0 (MQ below (gQi D (aP P 77) ((wX cI cZ cC cJ cA P) M') r') args s 0 0 (aP P 77)) (F0 m 62 ls []) := by
  intro M v0 v1 H locs ls hl hP hD hS h
  unfold q_Integer_numberOfTrailingZeros_62 at h
  refine lv_iload_n hx hb dJ2_numberOfTrailingZeros_62 rfl (lv_at hl 0 rfl) ?_
  refine lv_iconst (v := 4) hx hb dJ2_numberOfTrailingZeros_63 (by decide) ?_
  refine lv_icmp_le hx hb dJ2_numberOfTrailingZeros_64 (tgt := 74) rfl (fun hc => ?_) (fun hc => ?_)
  · have h := br_T hc h
    have hl := lv_sub hl [0, 1] (l' := [(0, .int v0), (1, .int v1)]) rfl
    exact b_Integer_numberOfTrailingZeros_74 hx hb hml hr hlk hgt hown hK hO hAO M v0 v1 H _ ls hl hP hD hS h
  · have h := br_F hc h
    refine lv_iinc (v := (v1 + 2)) hx hb dJ2_numberOfTrailingZeros_67 hl (k := 1) rfl rfl (Nat.le_of_ble_eq_true rfl) (lv' := [(1, .int (v1 + 2)), (0, .int v0)]) rfl (fun ls hl => ?_)
    refine lv_iload_n hx hb dJ2_numberOfTrailingZeros_70 rfl (lv_at hl 1 rfl) ?_
    refine lv_iconst (v := 2) hx hb dJ2_numberOfTrailingZeros_71 (by decide) ?_
    refine lv_iushr (v := (((v0 : Int32).toUInt32 >>> ((2 : Int32).toUInt32 &&& Int32.toUInt32 31)).toInt32)) hx hb dJ2_numberOfTrailingZeros_72 rfl ?_
    refine lv_topi (fun x1 ex1 => ?_)
    have h := lt_o ex1 h
    refine lv_istore_n hx hb dJ2_numberOfTrailingZeros_73 rfl hl (Nat.le_of_ble_eq_true rfl) (lv' := [(0, .int x1), (1, .int (v1 + 2))]) rfl (fun ls hl => ?_)
    have hl := lv_sub hl [0, 1] (l' := [(0, .int x1), (1, .int (v1 + 2))]) rfl
    exact b_Integer_numberOfTrailingZeros_74 hx hb hml hr hlk hgt hown hK hO hAO M x1 (v1 + 2) H _ ls hl hP hD hS h
set_option maxHeartbeats 4000000 in
set_option maxRecDepth 20000 in
theorem b_Integer_numberOfTrailingZeros_49 {p : Program} {l : Launch} {e : Env} {s s0 : State} {m : MethodId} {args : Array Value} {below : List Frame} {meth : Method} {c : Code} {D : va_G} {cI cZ cC cJ cA : ClassId} {P : Nat → Nat} {M' : Mm} {r' : Int32}  (hx : p.tables.exec = Jvm.exec) (hb : c.code = cJ2_numberOfTrailingZeros) (hml : c.maxLocals = 2) (hr : meth.sig.returnType = (some .int)) (hlk : meth.locks = false) (hgt : ∀ w ∈ GT, w.before args s = true) (hown : s.vm.findClass RJ2 = some m.cls) (hK : va_K D vwCl [(cI, .int), (cZ, .boolean), (cC, .char), (cJ, .long), (cA, .array .int)] s) (hO : Old s0 s) (hAO : ∀ q, (aP P 77) q → s0.heap.size ≤ q)  : ∀ (M : Mm) (v0 : Int32) (v1 : Int32) (H : Heap) (locs : List Loc) (ls : Array Slot), lv_has ls 2 [(0, .int v0), (1, .int v1)] → va_P D vwCl ((wX cI cZ cC cJ cA P) M) H → va_D (aP P 77) ((wX cI cZ cC cJ cA P) M) → va_S (aP P 77) s.heap H locs → q_Integer_numberOfTrailingZeros_49 M v0 v1 = some (M', r') → W p l e ({ frames := 0, cells := 0, slots := 0, locals := 0 }) s m args below meth c H locs 0 0 (MQ below (gQi D (aP P 77) ((wX cI cZ cC cJ cA P) M') r') args s 0 0 (aP P 77)) (F0 m 49 ls []) := by
  intro M v0 v1 H locs ls hl hP hD hS h
  unfold q_Integer_numberOfTrailingZeros_49 at h
  refine lv_iload_n hx hb dJ2_numberOfTrailingZeros_49 rfl (lv_at hl 0 rfl) ?_
  refine lv_bipush (v := 16) hx hb dJ2_numberOfTrailingZeros_50 (by decide) ?_
  refine lv_icmp_le hx hb dJ2_numberOfTrailingZeros_52 (tgt := 62) rfl (fun hc => ?_) (fun hc => ?_)
  · have h := br_T hc h
    have hl := lv_sub hl [0, 1] (l' := [(0, .int v0), (1, .int v1)]) rfl
    exact b_Integer_numberOfTrailingZeros_62 hx hb hml hr hlk hgt hown hK hO hAO M v0 v1 H _ ls hl hP hD hS h
  · have h := br_F hc h
    refine lv_iinc (v := (v1 + 4)) hx hb dJ2_numberOfTrailingZeros_55 hl (k := 1) rfl rfl (Nat.le_of_ble_eq_true rfl) (lv' := [(1, .int (v1 + 4)), (0, .int v0)]) rfl (fun ls hl => ?_)
    refine lv_iload_n hx hb dJ2_numberOfTrailingZeros_58 rfl (lv_at hl 1 rfl) ?_
    refine lv_iconst (v := 4) hx hb dJ2_numberOfTrailingZeros_59 (by decide) ?_
    refine lv_iushr (v := (((v0 : Int32).toUInt32 >>> ((4 : Int32).toUInt32 &&& Int32.toUInt32 31)).toInt32)) hx hb dJ2_numberOfTrailingZeros_60 rfl ?_
    refine lv_topi (fun x1 ex1 => ?_)
    have h := lt_o ex1 h
    refine lv_istore_n hx hb dJ2_numberOfTrailingZeros_61 rfl hl (Nat.le_of_ble_eq_true rfl) (lv' := [(0, .int x1), (1, .int (v1 + 4))]) rfl (fun ls hl => ?_)
    have hl := lv_sub hl [0, 1] (l' := [(0, .int x1), (1, .int (v1 + 4))]) rfl
    exact b_Integer_numberOfTrailingZeros_62 hx hb hml hr hlk hgt hown hK hO hAO M x1 (v1 + 4) H _ ls hl hP hD hS h
set_option maxHeartbeats 4000000 in
set_option maxRecDepth 20000 in
theorem b_Integer_numberOfTrailingZeros_34 {p : Program} {l : Launch} {e : Env} {s s0 : State} {m : MethodId} {args : Array Value} {below : List Frame} {meth : Method} {c : Code} {D : va_G} {cI cZ cC cJ cA : ClassId} {P : Nat → Nat} {M' : Mm} {r' : Int32}  (hx : p.tables.exec = Jvm.exec) (hb : c.code = cJ2_numberOfTrailingZeros) (hml : c.maxLocals = 2) (hr : meth.sig.returnType = (some .int)) (hlk : meth.locks = false) (hgt : ∀ w ∈ GT, w.before args s = true) (hown : s.vm.findClass RJ2 = some m.cls) (hK : va_K D vwCl [(cI, .int), (cZ, .boolean), (cC, .char), (cJ, .long), (cA, .array .int)] s) (hO : Old s0 s) (hAO : ∀ q, (aP P 77) q → s0.heap.size ≤ q)  : ∀ (M : Mm) (v0 : Int32) (v1 : Int32) (H : Heap) (locs : List Loc) (ls : Array Slot), lv_has ls 2 [(0, .int v0), (1, .int v1)] → va_P D vwCl ((wX cI cZ cC cJ cA P) M) H → va_D (aP P 77) ((wX cI cZ cC cJ cA P) M) → va_S (aP P 77) s.heap H locs → q_Integer_numberOfTrailingZeros_34 M v0 v1 = some (M', r') → W p l e ({ frames := 0, cells := 0, slots := 0, locals := 0 }) s m args below meth c H locs 0 0 (MQ below (gQi D (aP P 77) ((wX cI cZ cC cJ cA P) M') r') args s 0 0 (aP P 77)) (F0 m 34 ls []) := by
  intro M v0 v1 H locs ls hl hP hD hS h
  unfold q_Integer_numberOfTrailingZeros_34 at h
  refine lv_iload_n hx hb dJ2_numberOfTrailingZeros_34 rfl (lv_at hl 0 rfl) ?_
  refine lv_sipush (v := 256) hx hb dJ2_numberOfTrailingZeros_35 (by decide) ?_
  refine lv_icmp_le hx hb dJ2_numberOfTrailingZeros_38 (tgt := 49) rfl (fun hc => ?_) (fun hc => ?_)
  · have h := br_T hc h
    have hl := lv_sub hl [0, 1] (l' := [(0, .int v0), (1, .int v1)]) rfl
    exact b_Integer_numberOfTrailingZeros_49 hx hb hml hr hlk hgt hown hK hO hAO M v0 v1 H _ ls hl hP hD hS h
  · have h := br_F hc h
    refine lv_iinc (v := (v1 + 8)) hx hb dJ2_numberOfTrailingZeros_41 hl (k := 1) rfl rfl (Nat.le_of_ble_eq_true rfl) (lv' := [(1, .int (v1 + 8)), (0, .int v0)]) rfl (fun ls hl => ?_)
    refine lv_iload_n hx hb dJ2_numberOfTrailingZeros_44 rfl (lv_at hl 1 rfl) ?_
    refine lv_bipush (v := 8) hx hb dJ2_numberOfTrailingZeros_45 (by decide) ?_
    refine lv_iushr (v := (((v0 : Int32).toUInt32 >>> ((8 : Int32).toUInt32 &&& Int32.toUInt32 31)).toInt32)) hx hb dJ2_numberOfTrailingZeros_47 rfl ?_
    refine lv_topi (fun x1 ex1 => ?_)
    have h := lt_o ex1 h
    refine lv_istore_n hx hb dJ2_numberOfTrailingZeros_48 rfl hl (Nat.le_of_ble_eq_true rfl) (lv' := [(0, .int x1), (1, .int (v1 + 8))]) rfl (fun ls hl => ?_)
    have hl := lv_sub hl [0, 1] (l' := [(0, .int x1), (1, .int (v1 + 8))]) rfl
    exact b_Integer_numberOfTrailingZeros_49 hx hb hml hr hlk hgt hown hK hO hAO M x1 (v1 + 8) H _ ls hl hP hD hS h
set_option maxHeartbeats 4000000 in
set_option maxRecDepth 20000 in
theorem b_Integer_numberOfTrailingZeros_0 {p : Program} {l : Launch} {e : Env} {s s0 : State} {m : MethodId} {args : Array Value} {below : List Frame} {meth : Method} {c : Code} {D : va_G} {cI cZ cC cJ cA : ClassId} {P : Nat → Nat} {M' : Mm} {r' : Int32}  (hx : p.tables.exec = Jvm.exec) (hb : c.code = cJ2_numberOfTrailingZeros) (hml : c.maxLocals = 2) (hr : meth.sig.returnType = (some .int)) (hlk : meth.locks = false) (hgt : ∀ w ∈ GT, w.before args s = true) (hown : s.vm.findClass RJ2 = some m.cls) (hK : va_K D vwCl [(cI, .int), (cZ, .boolean), (cC, .char), (cJ, .long), (cA, .array .int)] s) (hO : Old s0 s) (hAO : ∀ q, (aP P 77) q → s0.heap.size ≤ q)  : ∀ (M : Mm) (a0 : Int32) (H : Heap) (locs : List Loc) (ls : Array Slot), lv_has ls 2 [(0, .int a0)] → va_P D vwCl ((wX cI cZ cC cJ cA P) M) H → va_D (aP P 77) ((wX cI cZ cC cJ cA P) M) → va_S (aP P 77) s.heap H locs → q_Integer_numberOfTrailingZeros M a0 = some (M', r') → W p l e ({ frames := 0, cells := 0, slots := 0, locals := 0 }) s m args below meth c H locs 0 0 (MQ below (gQi D (aP P 77) ((wX cI cZ cC cJ cA P) M') r') args s 0 0 (aP P 77)) (F0 m 0 ls []) := by
  intro M a0 H locs ls hl hP hD hS h
  unfold q_Integer_numberOfTrailingZeros at h
  refine lv_iload_n hx hb dJ2_numberOfTrailingZeros_0 rfl (lv_at hl 0 rfl) ?_
  refine lv_iconst (v := (-1)) hx hb dJ2_numberOfTrailingZeros_1 (by decide) ?_
  refine lv_ixor hx hb dJ2_numberOfTrailingZeros_2 ?_
  refine lv_iload_n hx hb dJ2_numberOfTrailingZeros_3 rfl (lv_at hl 0 rfl) ?_
  refine lv_iconst (v := 1) hx hb dJ2_numberOfTrailingZeros_4 (by decide) ?_
  refine lv_isub hx hb dJ2_numberOfTrailingZeros_5 ?_
  refine lv_iand hx hb dJ2_numberOfTrailingZeros_6 ?_
  refine lv_topi (fun x1 ex1 => ?_)
  have h := lt_o ex1 h
  refine lv_istore_n hx hb dJ2_numberOfTrailingZeros_7 rfl hl (Nat.le_of_ble_eq_true rfl) (lv' := [(0, .int x1)]) rfl (fun ls hl => ?_)
  refine lv_iload_n hx hb dJ2_numberOfTrailingZeros_8 rfl (lv_at hl 0 rfl) ?_
  refine lv_if_gt hx hb dJ2_numberOfTrailingZeros_9 (tgt := 17) rfl (fun hc => ?_) (fun hc => ?_)
  · have h := br_T hc h
    refine lv_iconst (v := 1) hx hb dJ2_numberOfTrailingZeros_17 (by decide) ?_
    refine lv_istore_n hx hb dJ2_numberOfTrailingZeros_18 rfl hl (Nat.le_of_ble_eq_true rfl) (lv' := [(1, .int 1), (0, .int x1)]) rfl (fun ls hl => ?_)
    refine lv_iload_n hx hb dJ2_numberOfTrailingZeros_19 rfl (lv_at hl 1 rfl) ?_
    refine lv_ldcw (v := 65536) hx hb hown (hgt _ wd_2_152) dJ2_numberOfTrailingZeros_20 ?_
    refine lv_icmp_le hx hb dJ2_numberOfTrailingZeros_23 (tgt := 34) rfl (fun hc => ?_) (fun hc => ?_)
    · have h := br_T hc h
      have hl := lv_sub hl [1, 0] (l' := [(0, .int x1), (1, .int 1)]) rfl
      exact b_Integer_numberOfTrailingZeros_34 hx hb hml hr hlk hgt hown hK hO hAO M x1 1 H _ ls hl hP hD hS h
    · have h := br_F hc h
      refine lv_iinc (v := (1 + 16)) hx hb dJ2_numberOfTrailingZeros_26 hl (k := 0) rfl rfl (Nat.le_of_ble_eq_true rfl) (lv' := [(1, .int (1 + 16)), (0, .int x1)]) rfl (fun ls hl => ?_)
      refine lv_iload_n hx hb dJ2_numberOfTrailingZeros_29 rfl (lv_at hl 1 rfl) ?_
      refine lv_bipush (v := 16) hx hb dJ2_numberOfTrailingZeros_30 (by decide) ?_
      refine lv_iushr (v := (((x1 : Int32).toUInt32 >>> ((16 : Int32).toUInt32 &&& Int32.toUInt32 31)).toInt32)) hx hb dJ2_numberOfTrailingZeros_32 rfl ?_
      refine lv_topi (fun x2 ex2 => ?_)
      have h := lt_o ex2 h
      refine lv_istore_n hx hb dJ2_numberOfTrailingZeros_33 rfl hl (Nat.le_of_ble_eq_true rfl) (lv' := [(0, .int x2), (1, .int (1 + 16))]) rfl (fun ls hl => ?_)
      have hl := lv_sub hl [0, 1] (l' := [(0, .int x2), (1, .int (1 + 16))]) rfl
      exact b_Integer_numberOfTrailingZeros_34 hx hb hml hr hlk hgt hown hK hO hAO M x2 (1 + 16) H _ ls hl hP hD hS h
  · have h := br_F hc h
    refine lv_iload_n hx hb dJ2_numberOfTrailingZeros_12 rfl (lv_at hl 0 rfl) ?_
    refine lv_bipush (v := 32) hx hb dJ2_numberOfTrailingZeros_13 (by decide) ?_
    refine lv_iand hx hb dJ2_numberOfTrailingZeros_15 ?_
    exact rt_i (w := (wX cI cZ cC cJ cA P)) hx hb hr hlk hP hD hS h dJ2_numberOfTrailingZeros_16
set_option maxHeartbeats 4000000 in
set_option maxRecDepth 20000 in
theorem z_Integer_numberOfTrailingZeros (l : Launch) (D : va_G) (cI cZ cC cJ cA : ClassId) (P : Nat → Nat) (s0 : State) (hAO : ∀ q, (aP P 77) q → s0.heap.size ≤ q) (M : Mm) (a0 : Int32) (M' : Mm) (r' : Int32) (h : q_Integer_numberOfTrailingZeros M a0 = some (M', r')) : Met l yJ2_numberOfTrailingZeros wsJ2_numberOfTrailingZeros ({ frames := 0, cells := 0, slots := 0, locals := 0 }) (va_Pc [.int a0] (gPre s0 D [(cI, .int), (cZ, .boolean), (cC, .char), (cJ, .long), (cA, .array .int)] (aP P 77) ((wX cI cZ cC cJ cA P) M))) (gQi D (aP P 77) ((wX cI cZ cC cJ cA P) M') r') 0 0 (aP P 77) := by
  refine Met.ofW (cc := cJ2_numberOfTrailingZeros) (maxL := 2) (ret := (some .int)) (by decide) rfl ?_
  intro p e s m args below meth c s₁ B hml hv
  obtain ⟨rfl, hP, hK, hD, hO⟩ := hv
  have hx := B.exec
  have hb := B.bytes
  have hr := B.returns
  have hlk := B.notSynchronized
  have hgt := fun w (h : w ∈ GT) => atoms_spec (ws := wsJ2_numberOfTrailingZeros) B.pre w (List.mem_cons_of_mem _ h)
  have hown : s.vm.findClass RJ2 = some m.cls := findClass_of_methodNamed B.named
  have hS : va_S (aP P 77) s.heap s.heap [] := va_S.rf
  have hl := lv_entry ([.int a0]) (n := 2) (Nat.le_of_ble_eq_true rfl)
  rw [lg_entry_eq]
  generalize (lg_sl ([.int a0]) ++ List.replicate (2 - (lg_sl ([.int a0])).length) Slot.unset).toArray = ls at hl ⊢
  have hl : lv_has ls 2 [(0, .int a0)] := hl
  exact b_Integer_numberOfTrailingZeros_0 hx hb hml hr hlk hgt hown hK hO hAO M a0 s.heap [] ls hl hP hD hS h
def q_ChipMap_busWrite  (M : Mm) (a1 : Int32) (a2 : Int32) : Rs := cal (q_Device_registerAt M a1) fun M1 r2 => if r2 = (-1) then (some (M1, (-1))) else (cal (q_Mind_brokenBy M1 r2 (a2 &&& 65535)) fun M3 r4 => cal (q_Device_write M3 r2 (a2 &&& 65535)) fun M5 r6 => cal (q_Integer_bitCount M5 r4) fun M7 r8 => lt' (stI M7 50 (upd (M7.1 50) 3 ((M5.1 50 3) + r8))) fun M9 => if r4 = 0 then (some (M9, 0)) else (cal (q_Integer_numberOfTrailingZeros M9 r4) fun M10 r11 => some (M10, (1 + r11))))
set_option maxHeartbeats 4000000 in
set_option maxRecDepth 20000 in
theorem b_ChipMap_busWrite_0 {p : Program} {l : Launch} {e : Env} {s s0 : State} {m : MethodId} {args : Array Value} {below : List Frame} {meth : Method} {c : Code} {D : va_G} {cI cZ cC cJ cA : ClassId} {P : Nat → Nat} {M' : Mm} {r' : Int32}  (hx : p.tables.exec = Jvm.exec) (hb : c.code = cX0_busWrite) (hml : c.maxLocals = 5) (hr : meth.sig.returnType = (some .int)) (hlk : meth.locks = false) (hgt : ∀ w ∈ GT, w.before args s = true) (hown : s.vm.findClass RX0 = some m.cls) (hK : va_K D vwCl [(cI, .int), (cZ, .boolean), (cC, .char), (cJ, .long), (cA, .array .int)] s) (hO : Old s0 s) (hAO : ∀ q, (aP P 77) q → s0.heap.size ≤ q)  : ∀ (M : Mm) (a1 : Int32) (a2 : Int32) (H : Heap) (locs : List Loc) (ls : Array Slot), lv_has ls 5 [(0, .ref (P 0)), (1, .int a1), (2, .int a2)] → va_P D vwCl ((wX cI cZ cC cJ cA P) M) H → va_D (aP P 77) ((wX cI cZ cC cJ cA P) M) → va_S (aP P 77) s.heap H locs → q_ChipMap_busWrite M a1 a2 = some (M', r') → W p l e ({ frames := 3, cells := 0, slots := 0, locals := 69 }) s m args below meth c H locs 0 0 (MQ below (gQi D (aP P 77) ((wX cI cZ cC cJ cA P) M') r') args s 0 0 (aP P 77)) (F0 m 0 ls []) := by
  intro M a1 a2 H locs ls hl hP hD hS h
  unfold q_ChipMap_busWrite at h
  refine lv_aload_n hx hb dX0_busWrite_0 rfl (lv_at hl 0 rfl) ?_
  refine va_get (D := D) (ci := 0) (v := .ref (P 50)) (C := RX0) (T := TX0) (N := 9) hx hb hgt iwX0 hown hK hP 0 gX_0 rfl 4 (Nat.le_of_ble_eq_true rfl) (hgt _ wd_2_21) (fun _ h9 => h9) rfl dX0_busWrite_1 ?_
  refine lv_iload_n hx hb dX0_busWrite_4 rfl (lv_at hl 1 rfl) ?_
  obtain ⟨M1, r2, hq, h⟩ := cal_o h
  refine cx_i (va_runV (As := [.int a1]) (rest := []) ⟨hx, hb, hml, hown, hgt⟩ (z_Device_registerAt l D cI cZ cC cJ cA P s0 hAO M a1 M1 r2 hq) (cwV 1 hgt (gV wd_2_102 wd_2_103 wd_2_104 wd_0_9 wd_2_105) rfl rfl rfl (by decide +kernel) ⟨Nat.le_of_ble_eq_true rfl, Nat.le_of_ble_eq_true rfl⟩) (prV hP hK hD hO hAO hS (va_recv hK hP (ci := 3) (q0 := 50) rfl gX_50)) rfl rfl hl.1 rfl (lv_room (Nat.le_of_ble_eq_true rfl)) dX0_busWrite_5 ⟨Nat.le_of_ble_eq_true rfl, Nat.le_of_ble_eq_true rfl⟩) hS (fun H locs hP hD hS => ?_)
  refine lv_istore_n hx hb dX0_busWrite_8 rfl hl (Nat.le_of_ble_eq_true rfl) (lv' := [(3, .int r2), (0, .ref (P 0)), (1, .int a1), (2, .int a2)]) rfl (fun ls hl => ?_)
  refine lv_iload_n hx hb dX0_busWrite_9 rfl (lv_at hl 0 rfl) ?_
  refine lv_iconst (v := (-1)) hx hb dX0_busWrite_10 (by decide) ?_
  refine lv_icmp_ne hx hb dX0_busWrite_11 (tgt := 16) rfl (fun hc => ?_) (fun hc => ?_)
  · have h := br_F hc h
    refine lv_aload_n hx hb dX0_busWrite_16 rfl (lv_at hl 1 rfl) ?_
    refine va_get (D := D) (ci := 0) (v := .ref (P 50)) (C := RX0) (T := TX0) (N := 9) hx hb hgt iwX0 hown hK hP 0 gX_0 rfl 4 (Nat.le_of_ble_eq_true rfl) (hgt _ wd_2_21) (fun _ h9 => h9) rfl dX0_busWrite_17 ?_
    refine va_get (D := D) (ci := 3) (v := .ref (P 51)) (C := RX3) (T := TX3) (N := 7) hx hb hgt iwX3 hown hK hP 50 gX_50 rfl 1 (Nat.le_of_ble_eq_true rfl) (hgt _ wd_1_128) (fun _ h9 => h9) rfl dX0_busWrite_20 ?_
    refine lv_iload_n hx hb dX0_busWrite_23 rfl (lv_at hl 0 rfl) ?_
    refine lv_iload_n hx hb dX0_busWrite_24 rfl (lv_at hl 3 rfl) ?_
    refine lv_ldc (v := 65535) hx hb hown (hgt _ wd_2_114) dX0_busWrite_25 ?_
    refine lv_iand hx hb dX0_busWrite_27 ?_
    obtain ⟨M3, r4, hq, h⟩ := cal_o h
    refine cx_i (va_runV (As := [.int r2, .int (a2 &&& 65535)]) (rest := []) ⟨hx, hb, hml, hown, hgt⟩ (z_Mind_brokenBy l D cI cZ cC cJ cA P s0 hAO M1 r2 (a2 &&& 65535) M3 r4 hq) (cwV 2 hgt (gV wd_2_115 wd_2_116 wd_2_117 wd_0_11 wd_2_118) rfl rfl rfl (by decide +kernel) ⟨Nat.le_of_ble_eq_true rfl, Nat.le_of_ble_eq_true rfl⟩) (prV hP hK hD hO hAO hS (va_recv hK hP (ci := 8) (q0 := 51) rfl gX_51)) rfl rfl hl.1 rfl (lv_room (Nat.le_of_ble_eq_true rfl)) dX0_busWrite_28 ⟨Nat.le_of_ble_eq_true rfl, Nat.le_of_ble_eq_true rfl⟩) hS (fun H locs hP hD hS => ?_)
    refine lv_istore hx hb dX0_busWrite_31 hl (Nat.le_of_ble_eq_true rfl) (lv' := [(4, .int r4), (3, .int r2), (0, .ref (P 0)), (1, .int a1), (2, .int a2)]) rfl (fun ls hl => ?_)
    refine lv_aload_n hx hb dX0_busWrite_33 rfl (lv_at hl 2 rfl) ?_
    refine va_get (D := D) (ci := 0) (v := .ref (P 50)) (C := RX0) (T := TX0) (N := 9) hx hb hgt iwX0 hown hK hP 0 gX_0 rfl 4 (Nat.le_of_ble_eq_true rfl) (hgt _ wd_2_21) (fun _ h9 => h9) rfl dX0_busWrite_34 ?_
    refine lv_iload_n hx hb dX0_busWrite_37 rfl (lv_at hl 1 rfl) ?_
    refine lv_iload_n hx hb dX0_busWrite_38 rfl (lv_at hl 4 rfl) ?_
    refine lv_ldc (v := 65535) hx hb hown (hgt _ wd_2_114) dX0_busWrite_39 ?_
    refine lv_iand hx hb dX0_busWrite_41 ?_
    obtain ⟨M5, r6, hq, h⟩ := cal_o h
    refine cx_v (va_runV (As := [.int r2, .int (a2 &&& 65535)]) (rest := []) ⟨hx, hb, hml, hown, hgt⟩ (z_Device_write l D cI cZ cC cJ cA P s0 hAO M3 r2 (a2 &&& 65535) M5 r6 hq) (cwV 2 hgt (gV wd_2_123 wd_2_124 wd_2_125 wd_0_9 wd_2_126) rfl rfl rfl (by decide +kernel) ⟨Nat.le_of_ble_eq_true rfl, Nat.le_of_ble_eq_true rfl⟩) (prV hP hK hD hO hAO hS (va_recv hK hP (ci := 3) (q0 := 50) rfl gX_50)) rfl rfl hl.1 rfl (lv_room (Nat.le_of_ble_eq_true rfl)) dX0_busWrite_42 ⟨Nat.le_of_ble_eq_true rfl, Nat.le_of_ble_eq_true rfl⟩) hS (fun H locs hP hD hS => ?_)
    refine lv_aload_n hx hb dX0_busWrite_45 rfl (lv_at hl 2 rfl) ?_
    refine va_get (D := D) (ci := 0) (v := .ref (P 50)) (C := RX0) (T := TX0) (N := 9) hx hb hgt iwX0 hown hK hP 0 gX_0 rfl 4 (Nat.le_of_ble_eq_true rfl) (hgt _ wd_2_21) (fun _ h9 => h9) rfl dX0_busWrite_46 ?_
    refine lv_dup hx hb dX0_busWrite_49 rfl ?_
    refine va_get (D := D) (ci := 3) (v := .int (M5.1 50 3)) (C := RX3) (T := TX3) (N := 7) hx hb hgt iwX3 hown hK hP 50 gX_50 rfl 3 (Nat.le_of_ble_eq_true rfl) (hgt _ wd_1_132) (fun _ h9 => h9) rfl dX0_busWrite_50 ?_
    refine lv_iload hx hb dX0_busWrite_53 (lv_at hl 0 rfl) ?_
    obtain ⟨M7, r8, hq, h⟩ := cal_o h
    refine cx_i (va_runS (As := [.int r4]) (rest := [.int (M5.1 50 3), .ref (P 50)]) ⟨hx, hb, hml, hown, hgt⟩ (z_Integer_bitCount l D cI cZ cC cJ cA P s0 hAO M5 r4 M7 r8 hq) (va_cwS 1 hgt (gS wd_2_143 wd_2_144 wd_0_26 wd_2_145) rfl rfl rfl (by decide +kernel) ⟨Nat.le_of_ble_eq_true rfl, Nat.le_of_ble_eq_true rfl⟩) (prS hP hK hD hO hAO hS) rfl rfl hl.1 rfl (lv_room (Nat.le_of_ble_eq_true rfl)) dX0_busWrite_55 ⟨Nat.le_of_ble_eq_true rfl, Nat.le_of_ble_eq_true rfl⟩) hS (fun H locs hP hD hS => ?_)
    refine lv_iadd hx hb dX0_busWrite_58 ?_
    refine pm_put (w := (wX cI cZ cC cJ cA P)) (D := D) (ci := 3) (x := ((M5.1 50 3) + r8)) (ty := .int) (C := RX3) (T := TX3) (N := 7) hx hb hgt iwX3 tyX3 tyX3_ok nmX3 hown hK hP hD hS 50 gX_50 rfl 3 (Nat.le_of_ble_eq_true rfl) (hgt _ wd_1_132) (fun _ h9 => h9) rfl (by decide +kernel) rfl rfl (Nat.le_of_ble_eq_true rfl) (sX_50_3 _) dX0_busWrite_59 (fun M9 eM9 H locs hP hD hS => ?_)
    have h := lt_o eM9 h
    refine lv_iload hx hb dX0_busWrite_62 (lv_at hl 0 rfl) ?_
    refine lv_if_ne hx hb dX0_busWrite_64 (tgt := 71) rfl (fun hc => ?_) (fun hc => ?_)
    · have h := br_F hc h
      refine lv_iconst (v := 1) hx hb dX0_busWrite_71 (by decide) ?_
      refine lv_iload hx hb dX0_busWrite_72 (lv_at hl 0 rfl) ?_
      obtain ⟨M10, r11, hq, h⟩ := cal_o h
      refine cx_i (va_runS (As := [.int r4]) (rest := [.int 1]) ⟨hx, hb, hml, hown, hgt⟩ (z_Integer_numberOfTrailingZeros l D cI cZ cC cJ cA P s0 hAO M9 r4 M10 r11 hq) (va_cwS 1 hgt (gS wd_2_149 wd_2_150 wd_0_26 wd_2_151) rfl rfl rfl (by decide +kernel) ⟨Nat.le_of_ble_eq_true rfl, Nat.le_of_ble_eq_true rfl⟩) (prS hP hK hD hO hAO hS) rfl rfl hl.1 rfl (lv_room (Nat.le_of_ble_eq_true rfl)) dX0_busWrite_74 ⟨Nat.le_of_ble_eq_true rfl, Nat.le_of_ble_eq_true rfl⟩) hS (fun H locs hP hD hS => ?_)
      refine lv_iadd hx hb dX0_busWrite_77 ?_
      exact rt_i (w := (wX cI cZ cC cJ cA P)) hx hb hr hlk hP hD hS h dX0_busWrite_78
    · have h := br_T hc h
      refine lv_iconst (v := 0) hx hb dX0_busWrite_67 (by decide) ?_
      refine lv_goto hx hb dX0_busWrite_68 (tgt := 78) rfl ?_
      exact rt_i (w := (wX cI cZ cC cJ cA P)) hx hb hr hlk hP hD hS h dX0_busWrite_78
  · have h := br_T hc h
    refine lv_iconst (v := (-1)) hx hb dX0_busWrite_14 (by decide) ?_
    exact rt_i (w := (wX cI cZ cC cJ cA P)) hx hb hr hlk hP hD hS h dX0_busWrite_15
set_option maxHeartbeats 4000000 in
set_option maxRecDepth 20000 in
theorem z_ChipMap_busWrite (l : Launch) (D : va_G) (cI cZ cC cJ cA : ClassId) (P : Nat → Nat) (s0 : State) (hAO : ∀ q, (aP P 77) q → s0.heap.size ≤ q) (M : Mm) (a1 : Int32) (a2 : Int32) (M' : Mm) (r' : Int32) (h : q_ChipMap_busWrite M a1 a2 = some (M', r')) : Met l yX0_busWrite wsX0_busWrite ({ frames := 3, cells := 0, slots := 0, locals := 69 }) (va_Pc [.ref (P 0), .int a1, .int a2] (gPre s0 D [(cI, .int), (cZ, .boolean), (cC, .char), (cJ, .long), (cA, .array .int)] (aP P 77) ((wX cI cZ cC cJ cA P) M))) (gQi D (aP P 77) ((wX cI cZ cC cJ cA P) M') r') 0 0 (aP P 77) := by
  refine Met.ofW (cc := cX0_busWrite) (maxL := 5) (ret := (some .int)) (by decide) rfl ?_
  intro p e s m args below meth c s₁ B hml hv
  obtain ⟨rfl, hP, hK, hD, hO⟩ := hv
  have hx := B.exec
  have hb := B.bytes
  have hr := B.returns
  have hlk := B.notSynchronized
  have hgt := fun w (h : w ∈ GT) => atoms_spec (ws := wsX0_busWrite) B.pre w (List.mem_cons_of_mem _ h)
  have hown : s.vm.findClass RX0 = some m.cls := findClass_of_methodNamed B.named
  have hS : va_S (aP P 77) s.heap s.heap [] := va_S.rf
  have hl := lv_entry ([.ref (P 0), .int a1, .int a2]) (n := 5) (Nat.le_of_ble_eq_true rfl)
  rw [lg_entry_eq]
  generalize (lg_sl ([.ref (P 0), .int a1, .int a2]) ++ List.replicate (5 - (lg_sl ([.ref (P 0), .int a1, .int a2])).length) Slot.unset).toArray = ls at hl ⊢
  have hl : lv_has ls 5 [(0, .ref (P 0)), (1, .int a1), (2, .int a2)] := hl
  exact b_ChipMap_busWrite_0 hx hb hml hr hlk hgt hown hK hO hAO M a1 a2 s.heap [] ls hl hP hD hS h
def q_Device_countPulses_55 (kf2 : Mm → Int32 → Int32 → Rs) (M : Mm) (v1 : Int32) (v2 : Int32) : Rs := kf2 M v1 (v2 + 1)
def q_Device_countPulses_2  : Nat → Mm → Int32 → Int32 → Rs
  | 0, _, _, _ => none
  | n' + 1, M, v1, v2 => if 26 ≤ v2 then (some (M, 0)) else (ix v2 26 <| if (M.1 38 (v2 : Int32).toNatClampNeg) = v1 then (ix v2 26 <| if (M.1 59 (v2 : Int32).toNatClampNeg) ≤ 0 then (q_Device_countPulses_55 (q_Device_countPulses_2 n') M v1 v2) else (ix v2 26 <| ix v2 26 <| lt' (stI M 59 (upd (M.1 59) (v2 : Int32).toNatClampNeg ((M.1 59 (v2 : Int32).toNatClampNeg) - 1))) fun M1 => ix v2 26 <| if (M1.1 59 (v2 : Int32).toNatClampNeg) = 0 then (cal (q_Device_setLoose M1 v2 0) fun M2 r3 => q_Device_countPulses_55 (q_Device_countPulses_2 n') M2 v1 v2) else (q_Device_countPulses_55 (q_Device_countPulses_2 n') M1 v1 v2))) else (q_Device_countPulses_55 (q_Device_countPulses_2 n') M v1 v2))
def q_Device_countPulses  (M : Mm) (a1 : Int32) : Rs := q_Device_countPulses_2 4000 M a1 0
set_option maxHeartbeats 4000000 in
set_option maxRecDepth 20000 in
theorem b_Device_countPulses_55 {p : Program} {l : Launch} {e : Env} {s s0 : State} {m : MethodId} {args : Array Value} {below : List Frame} {meth : Method} {c : Code} {D : va_G} {cI cZ cC cJ cA : ClassId} {P : Nat → Nat} {M' : Mm} {r' : Int32} {kf2 : Mm → Int32 → Int32 → Rs} (hx : p.tables.exec = Jvm.exec) (hb : c.code = cX3_countPulses) (hml : c.maxLocals = 3) (hr : meth.sig.returnType = none) (hlk : meth.locks = false) (hgt : ∀ w ∈ GT, w.before args s = true) (hown : s.vm.findClass RX3 = some m.cls) (hK : va_K D vwCl [(cI, .int), (cZ, .boolean), (cC, .char), (cJ, .long), (cA, .array .int)] s) (hO : Old s0 s) (hAO : ∀ q, (aP P 77) q → s0.heap.size ≤ q) (kk2 : ∀ (M : Mm) (v1 : Int32) (v2 : Int32) (H : Heap) (locs : List Loc) (ls : Array Slot), lv_has ls 3 [(0, .ref (P 50)), (1, .int v1), (2, .int v2)] → va_P D vwCl ((wX cI cZ cC cJ cA P) M) H → va_D (aP P 77) ((wX cI cZ cC cJ cA P) M) → va_S (aP P 77) s.heap H locs → kf2 M v1 v2 = some (M', r') → W p l e ({ frames := 1, cells := 0, slots := 0, locals := 23 }) s m args below meth c H locs 0 0 (MQ below (gQv D (aP P 77) ((wX cI cZ cC cJ cA P) M')) args s 0 0 (aP P 77)) (F0 m 2 ls [])) : ∀ (M : Mm) (v1 : Int32) (v2 : Int32) (H : Heap) (locs : List Loc) (ls : Array Slot), lv_has ls 3 [(0, .ref (P 50)), (1, .int v1), (2, .int v2)] → va_P D vwCl ((wX cI cZ cC cJ cA P) M) H → va_D (aP P 77) ((wX cI cZ cC cJ cA P) M) → va_S (aP P 77) s.heap H locs → q_Device_countPulses_55 kf2 M v1 v2 = some (M', r') → W p l e ({ frames := 1, cells := 0, slots := 0, locals := 23 }) s m args below meth c H locs 0 0 (MQ below (gQv D (aP P 77) ((wX cI cZ cC cJ cA P) M')) args s 0 0 (aP P 77)) (F0 m 55 ls []) := by
  intro M v1 v2 H locs ls hl hP hD hS h
  unfold q_Device_countPulses_55 at h
  refine lv_iinc (v := (v2 + 1)) hx hb dX3_countPulses_55 hl (k := 2) rfl rfl (Nat.le_of_ble_eq_true rfl) (lv' := [(2, .int (v2 + 1)), (0, .ref (P 50)), (1, .int v1)]) rfl (fun ls hl => ?_)
  refine lv_goto hx hb dX3_countPulses_58 (tgt := 2) rfl ?_
  have hl := lv_sub hl [1, 2, 0] (l' := [(0, .ref (P 50)), (1, .int v1), (2, .int (v2 + 1))]) rfl
  exact kk2 M v1 (v2 + 1) H locs ls hl hP hD hS h
set_option maxHeartbeats 4000000 in
set_option maxRecDepth 20000 in
theorem b_Device_countPulses_2 {p : Program} {l : Launch} {e : Env} {s s0 : State} {m : MethodId} {args : Array Value} {below : List Frame} {meth : Method} {c : Code} {D : va_G} {cI cZ cC cJ cA : ClassId} {P : Nat → Nat} {M' : Mm} {r' : Int32}  (hx : p.tables.exec = Jvm.exec) (hb : c.code = cX3_countPulses) (hml : c.maxLocals = 3) (hr : meth.sig.returnType = none) (hlk : meth.locks = false) (hgt : ∀ w ∈ GT, w.before args s = true) (hown : s.vm.findClass RX3 = some m.cls) (hK : va_K D vwCl [(cI, .int), (cZ, .boolean), (cC, .char), (cJ, .long), (cA, .array .int)] s) (hO : Old s0 s) (hAO : ∀ q, (aP P 77) q → s0.heap.size ≤ q)  : ∀ (n' : Nat) (M : Mm) (v1 : Int32) (v2 : Int32) (H : Heap) (locs : List Loc) (ls : Array Slot), lv_has ls 3 [(0, .ref (P 50)), (1, .int v1), (2, .int v2)] → va_P D vwCl ((wX cI cZ cC cJ cA P) M) H → va_D (aP P 77) ((wX cI cZ cC cJ cA P) M) → va_S (aP P 77) s.heap H locs → q_Device_countPulses_2 n' M v1 v2 = some (M', r') → W p l e ({ frames := 1, cells := 0, slots := 0, locals := 23 }) s m args below meth c H locs 0 0 (MQ below (gQv D (aP P 77) ((wX cI cZ cC cJ cA P) M')) args s 0 0 (aP P 77)) (F0 m 2 ls []) := by
  intro n'
  induction n' with
  | zero => exact fun _ _ _ _ _ _ _ _ _ _ h => (rs_n h).elim
  | succ n' ih =>
    intro M v1 v2 H locs ls hl hP hD hS h
    rw [q_Device_countPulses_2] at h
    refine lv_iload_n hx hb dX3_countPulses_2 rfl (lv_at hl 2 rfl) ?_
    refine lv_bipush (v := 26) hx hb dX3_countPulses_3 (by decide) ?_
    refine lv_icmp_ge hx hb dX3_countPulses_5 (tgt := 61) rfl (fun hc => ?_) (fun hc => ?_)
    · have h := br_T hc h
      exact rt_v (w := (wX cI cZ cC cJ cA P)) (r := r') hx hb hr hlk hP hD hS h dX3_countPulses_61
    · have h := br_F hc h
      refine lv_aload_n hx hb dX3_countPulses_8 rfl (lv_at hl 0 rfl) ?_
      refine va_get (D := D) (ci := 3) (v := .ref (P 24)) (C := RX3) (T := TX3) (N := 7) hx hb hgt iwX3 hown hK hP 50 gX_50 rfl 0 (Nat.le_of_ble_eq_true rfl) (hgt _ wd_1_126) (fun _ h9 => h9) rfl dX3_countPulses_9 ?_
      refine va_get (D := D) (ci := 6) (v := .ref (P 38)) (C := RX6) (T := TX6) (N := 13) hx hb hgt iwX6 hown hK hP 24 gX_24 rfl 7 (Nat.le_of_ble_eq_true rfl) (hgt _ wd_1_26) (fun _ h9 => h9) rfl dX3_countPulses_12 ?_
      refine lv_iload_n hx hb dX3_countPulses_15 rfl (lv_at hl 2 rfl) ?_
      refine va_iald hx hb hK hP 38 0 gX_38 rfl (ix_l h) dX3_countPulses_16 ?_
      have h := ix_r h
      refine lv_iload_n hx hb dX3_countPulses_17 rfl (lv_at hl 1 rfl) ?_
      refine lv_icmp_ne hx hb dX3_countPulses_18 (tgt := 55) rfl (fun hc => ?_) (fun hc => ?_)
      · have h := br_F hc h
        have hl := lv_sub hl [0, 1, 2] (l' := [(0, .ref (P 50)), (1, .int v1), (2, .int v2)]) rfl
        exact b_Device_countPulses_55 hx hb hml hr hlk hgt hown hK hO hAO ih M v1 v2 H _ ls hl hP hD hS h
      · have h := br_T hc h
        refine lv_aload_n hx hb dX3_countPulses_21 rfl (lv_at hl 0 rfl) ?_
        refine va_get (D := D) (ci := 3) (v := .ref (P 59)) (C := RX3) (T := TX3) (N := 7) hx hb hgt iwX3 hown hK hP 50 gX_50 rfl 6 (Nat.le_of_ble_eq_true rfl) (hgt _ wd_1_136) (fun _ h9 => h9) rfl dX3_countPulses_22 ?_
        refine lv_iload_n hx hb dX3_countPulses_25 rfl (lv_at hl 2 rfl) ?_
        refine va_iald hx hb hK hP 59 0 gX_59 rfl (ix_l h) dX3_countPulses_26 ?_
        have h := ix_r h
        refine lv_if_le hx hb dX3_countPulses_27 (tgt := 55) rfl (fun hc => ?_) (fun hc => ?_)
        · have h := br_T hc h
          have hl := lv_sub hl [0, 1, 2] (l' := [(0, .ref (P 50)), (1, .int v1), (2, .int v2)]) rfl
          exact b_Device_countPulses_55 hx hb hml hr hlk hgt hown hK hO hAO ih M v1 v2 H _ ls hl hP hD hS h
        · have h := br_F hc h
          refine lv_aload_n hx hb dX3_countPulses_30 rfl (lv_at hl 0 rfl) ?_
          refine va_get (D := D) (ci := 3) (v := .ref (P 59)) (C := RX3) (T := TX3) (N := 7) hx hb hgt iwX3 hown hK hP 50 gX_50 rfl 6 (Nat.le_of_ble_eq_true rfl) (hgt _ wd_1_136) (fun _ h9 => h9) rfl dX3_countPulses_31 ?_
          refine lv_iload_n hx hb dX3_countPulses_34 rfl (lv_at hl 2 rfl) ?_
          refine lv_dup2_11 hx hb dX3_countPulses_35 rfl rfl ?_
          refine va_iald hx hb hK hP 59 0 gX_59 rfl (ix_l h) dX3_countPulses_36 ?_
          have h := ix_r h
          refine lv_iconst (v := 1) hx hb dX3_countPulses_37 (by decide) ?_
          refine lv_isub hx hb dX3_countPulses_38 ?_
          refine pm_iast (w := (wX cI cZ cC cJ cA P)) hx hb hK hP hD hS 59 0 gX_59 rfl sX_59 (ix_l h) dX3_countPulses_39 (fun M1 eM1 H locs hP hD hS => ?_)
          have h := ix_r h
          have h := lt_o eM1 h
          refine lv_aload_n hx hb dX3_countPulses_40 rfl (lv_at hl 0 rfl) ?_
          refine va_get (D := D) (ci := 3) (v := .ref (P 59)) (C := RX3) (T := TX3) (N := 7) hx hb hgt iwX3 hown hK hP 50 gX_50 rfl 6 (Nat.le_of_ble_eq_true rfl) (hgt _ wd_1_136) (fun _ h9 => h9) rfl dX3_countPulses_41 ?_
          refine lv_iload_n hx hb dX3_countPulses_44 rfl (lv_at hl 2 rfl) ?_
          refine va_iald hx hb hK hP 59 0 gX_59 rfl (ix_l h) dX3_countPulses_45 ?_
          have h := ix_r h
          refine lv_if_ne hx hb dX3_countPulses_46 (tgt := 55) rfl (fun hc => ?_) (fun hc => ?_)
          · have h := br_F hc h
            have hl := lv_sub hl [0, 1, 2] (l' := [(0, .ref (P 50)), (1, .int v1), (2, .int v2)]) rfl
            exact b_Device_countPulses_55 hx hb hml hr hlk hgt hown hK hO hAO ih M1 v1 v2 H _ ls hl hP hD hS h
          · have h := br_T hc h
            refine lv_aload_n hx hb dX3_countPulses_49 rfl (lv_at hl 0 rfl) ?_
            refine lv_iload_n hx hb dX3_countPulses_50 rfl (lv_at hl 2 rfl) ?_
            refine lv_iconst (v := 0) hx hb dX3_countPulses_51 (by decide) ?_
            obtain ⟨M2, r3, hq, h⟩ := cal_o h
            refine cx_v (va_runV (As := [.int v2, .int 0]) (rest := []) ⟨hx, hb, hml, hown, hgt⟩ (z_Device_setLoose l D cI cZ cC cJ cA P s0 hAO M1 v2 0 M2 r3 hq) (cwV 2 hgt (gV wd_2_139 wd_2_140 wd_2_141 wd_0_9 wd_2_142) rfl rfl rfl (by decide +kernel) ⟨Nat.le_of_ble_eq_true rfl, Nat.le_of_ble_eq_true rfl⟩) (prV hP hK hD hO hAO hS (va_recv hK hP (ci := 3) (q0 := 50) rfl gX_50)) rfl rfl hl.1 rfl (lv_room (Nat.le_of_ble_eq_true rfl)) dX3_countPulses_52 ⟨Nat.le_of_ble_eq_true rfl, Nat.le_of_ble_eq_true rfl⟩) hS (fun H locs hP hD hS => ?_)
            have hl := lv_sub hl [0, 1, 2] (l' := [(0, .ref (P 50)), (1, .int v1), (2, .int v2)]) rfl
            exact b_Device_countPulses_55 hx hb hml hr hlk hgt hown hK hO hAO ih M2 v1 v2 H _ ls hl hP hD hS h
set_option maxHeartbeats 4000000 in
set_option maxRecDepth 20000 in
theorem b_Device_countPulses_0 {p : Program} {l : Launch} {e : Env} {s s0 : State} {m : MethodId} {args : Array Value} {below : List Frame} {meth : Method} {c : Code} {D : va_G} {cI cZ cC cJ cA : ClassId} {P : Nat → Nat} {M' : Mm} {r' : Int32}  (hx : p.tables.exec = Jvm.exec) (hb : c.code = cX3_countPulses) (hml : c.maxLocals = 3) (hr : meth.sig.returnType = none) (hlk : meth.locks = false) (hgt : ∀ w ∈ GT, w.before args s = true) (hown : s.vm.findClass RX3 = some m.cls) (hK : va_K D vwCl [(cI, .int), (cZ, .boolean), (cC, .char), (cJ, .long), (cA, .array .int)] s) (hO : Old s0 s) (hAO : ∀ q, (aP P 77) q → s0.heap.size ≤ q)  : ∀ (M : Mm) (a1 : Int32) (H : Heap) (locs : List Loc) (ls : Array Slot), lv_has ls 3 [(0, .ref (P 50)), (1, .int a1)] → va_P D vwCl ((wX cI cZ cC cJ cA P) M) H → va_D (aP P 77) ((wX cI cZ cC cJ cA P) M) → va_S (aP P 77) s.heap H locs → q_Device_countPulses M a1 = some (M', r') → W p l e ({ frames := 1, cells := 0, slots := 0, locals := 23 }) s m args below meth c H locs 0 0 (MQ below (gQv D (aP P 77) ((wX cI cZ cC cJ cA P) M')) args s 0 0 (aP P 77)) (F0 m 0 ls []) := by
  intro M a1 H locs ls hl hP hD hS h
  unfold q_Device_countPulses at h
  refine lv_iconst (v := 0) hx hb dX3_countPulses_0 (by decide) ?_
  refine lv_istore_n hx hb dX3_countPulses_1 rfl hl (Nat.le_of_ble_eq_true rfl) (lv' := [(2, .int 0), (0, .ref (P 50)), (1, .int a1)]) rfl (fun ls hl => ?_)
  have hl := lv_sub hl [1, 2, 0] (l' := [(0, .ref (P 50)), (1, .int a1), (2, .int 0)]) rfl
  exact b_Device_countPulses_2 hx hb hml hr hlk hgt hown hK hO hAO 4000 M a1 0 H _ ls hl hP hD hS h
set_option maxHeartbeats 4000000 in
set_option maxRecDepth 20000 in
theorem z_Device_countPulses (l : Launch) (D : va_G) (cI cZ cC cJ cA : ClassId) (P : Nat → Nat) (s0 : State) (hAO : ∀ q, (aP P 77) q → s0.heap.size ≤ q) (M : Mm) (a1 : Int32) (M' : Mm) (r' : Int32) (h : q_Device_countPulses M a1 = some (M', r')) : Met l yX3_countPulses wsX3_countPulses ({ frames := 1, cells := 0, slots := 0, locals := 23 }) (va_Pc [.ref (P 50), .int a1] (gPre s0 D [(cI, .int), (cZ, .boolean), (cC, .char), (cJ, .long), (cA, .array .int)] (aP P 77) ((wX cI cZ cC cJ cA P) M))) (gQv D (aP P 77) ((wX cI cZ cC cJ cA P) M')) 0 0 (aP P 77) := by
  refine Met.ofW (cc := cX3_countPulses) (maxL := 3) (ret := none) (by decide) rfl ?_
  intro p e s m args below meth c s₁ B hml hv
  obtain ⟨rfl, hP, hK, hD, hO⟩ := hv
  have hx := B.exec
  have hb := B.bytes
  have hr := B.returns
  have hlk := B.notSynchronized
  have hgt := fun w (h : w ∈ GT) => atoms_spec (ws := wsX3_countPulses) B.pre w (List.mem_cons_of_mem _ h)
  have hown : s.vm.findClass RX3 = some m.cls := findClass_of_methodNamed B.named
  have hS : va_S (aP P 77) s.heap s.heap [] := va_S.rf
  have hl := lv_entry ([.ref (P 50), .int a1]) (n := 3) (Nat.le_of_ble_eq_true rfl)
  rw [lg_entry_eq]
  generalize (lg_sl ([.ref (P 50), .int a1]) ++ List.replicate (3 - (lg_sl ([.ref (P 50), .int a1])).length) Slot.unset).toArray = ls at hl ⊢
  have hl : lv_has ls 3 [(0, .ref (P 50)), (1, .int a1)] := hl
  exact b_Device_countPulses_0 hx hb hml hr hlk hgt hown hK hO hAO M a1 s.heap [] ls hl hP hD hS h
def q_Device_read  (M : Mm) (a1 : Int32) : Rs := ix a1 16 <| ix a1 16 <| ix a1 16 <| lt' (((M.1 52 (a1 : Int32).toNatClampNeg) &&& ((M.1 33 (a1 : Int32).toNatClampNeg) ^^^ (-1))) ||| (M.1 57 (a1 : Int32).toNatClampNeg)) fun x1 => ix a1 16 <| cal (q_Log_add M 0 (M.1 25 (a1 : Int32).toNatClampNeg) x1) fun M2 r3 => ix a1 16 <| ix a1 16 <| ix a1 16 <| ix a1 16 <| lt' (stI M2 58 (upd (M2.1 58) (a1 : Int32).toNatClampNeg ((M2.1 58 (a1 : Int32).toNatClampNeg) ||| ((M2.1 57 (a1 : Int32).toNatClampNeg) &&& (M2.1 34 (a1 : Int32).toNatClampNeg))))) fun M4 => ix a1 16 <| ix a1 16 <| ix a1 16 <| lt' (stI M4 57 (upd (M4.1 57) (a1 : Int32).toNatClampNeg ((M4.1 57 (a1 : Int32).toNatClampNeg) &&& ((M4.1 34 (a1 : Int32).toNatClampNeg) ^^^ (-1))))) fun M5 => ix a1 16 <| if (M5.1 37 (a1 : Int32).toNatClampNeg) = 0 then (some (M5, x1)) else (cal (q_Device_countPulses M5 a1) fun M6 r7 => some (M6, x1))
set_option maxHeartbeats 4000000 in
set_option maxRecDepth 20000 in
theorem b_Device_read_0 {p : Program} {l : Launch} {e : Env} {s s0 : State} {m : MethodId} {args : Array Value} {below : List Frame} {meth : Method} {c : Code} {D : va_G} {cI cZ cC cJ cA : ClassId} {P : Nat → Nat} {M' : Mm} {r' : Int32}  (hx : p.tables.exec = Jvm.exec) (hb : c.code = cX3_read) (hml : c.maxLocals = 3) (hr : meth.sig.returnType = (some .int)) (hlk : meth.locks = false) (hgt : ∀ w ∈ GT, w.before args s = true) (hown : s.vm.findClass RX3 = some m.cls) (hK : va_K D vwCl [(cI, .int), (cZ, .boolean), (cC, .char), (cJ, .long), (cA, .array .int)] s) (hO : Old s0 s) (hAO : ∀ q, (aP P 77) q → s0.heap.size ≤ q)  : ∀ (M : Mm) (a1 : Int32) (H : Heap) (locs : List Loc) (ls : Array Slot), lv_has ls 3 [(0, .ref (P 50)), (1, .int a1)] → va_P D vwCl ((wX cI cZ cC cJ cA P) M) H → va_D (aP P 77) ((wX cI cZ cC cJ cA P) M) → va_S (aP P 77) s.heap H locs → q_Device_read M a1 = some (M', r') → W p l e ({ frames := 2, cells := 0, slots := 0, locals := 45 }) s m args below meth c H locs 0 0 (MQ below (gQi D (aP P 77) ((wX cI cZ cC cJ cA P) M') r') args s 0 0 (aP P 77)) (F0 m 0 ls []) := by
  intro M a1 H locs ls hl hP hD hS h
  unfold q_Device_read at h
  refine lv_aload_n hx hb dX3_read_0 rfl (lv_at hl 0 rfl) ?_
  refine va_get (D := D) (ci := 3) (v := .ref (P 51)) (C := RX3) (T := TX3) (N := 7) hx hb hgt iwX3 hown hK hP 50 gX_50 rfl 1 (Nat.le_of_ble_eq_true rfl) (hgt _ wd_1_127) (fun _ h9 => h9) rfl dX3_read_1 ?_
  refine va_get (D := D) (ci := 8) (v := .ref (P 52)) (C := RX8) (T := TX8) (N := 3) hx hb hgt iwX8 hown hK hP 51 gX_51 rfl 1 (Nat.le_of_ble_eq_true rfl) (hgt _ wd_1_114) (fun _ h9 => h9) rfl dX3_read_4 ?_
  refine lv_iload_n hx hb dX3_read_7 rfl (lv_at hl 1 rfl) ?_
  refine va_iald hx hb hK hP 52 0 gX_52 rfl (ix_l h) dX3_read_8 ?_
  have h := ix_r h
  refine lv_aload_n hx hb dX3_read_9 rfl (lv_at hl 0 rfl) ?_
  refine va_get (D := D) (ci := 3) (v := .ref (P 24)) (C := RX3) (T := TX3) (N := 7) hx hb hgt iwX3 hown hK hP 50 gX_50 rfl 0 (Nat.le_of_ble_eq_true rfl) (hgt _ wd_1_126) (fun _ h9 => h9) rfl dX3_read_10 ?_
  refine va_get (D := D) (ci := 6) (v := .ref (P 30)) (C := RX6) (T := TX6) (N := 13) hx hb hgt iwX6 hown hK hP 24 gX_24 rfl 6 (Nat.le_of_ble_eq_true rfl) (hgt _ wd_1_24) (fun _ h9 => h9) rfl dX3_read_13 ?_
  refine lv_iconst (v := 2) hx hb dX3_read_16 (by decide) ?_
  refine pm_aald hx hb hK hP 30 4 gX_30 rfl (by unfold vp_in; decide) dX3_read_17 ?_
  refine W.eq (g2 := F0 m 18 ls [.ref (P 33), .int (M.1 52 (a1 : Int32).toNatClampNeg)]) rfl ?_
  refine lv_iload_n hx hb dX3_read_18 rfl (lv_at hl 1 rfl) ?_
  refine va_iald hx hb hK hP 33 0 gX_33 rfl (ix_l h) dX3_read_19 ?_
  have h := ix_r h
  refine lv_iconst (v := (-1)) hx hb dX3_read_20 (by decide) ?_
  refine lv_ixor hx hb dX3_read_21 ?_
  refine lv_iand hx hb dX3_read_22 ?_
  refine lv_aload_n hx hb dX3_read_23 rfl (lv_at hl 0 rfl) ?_
  refine va_get (D := D) (ci := 3) (v := .ref (P 57)) (C := RX3) (T := TX3) (N := 7) hx hb hgt iwX3 hown hK hP 50 gX_50 rfl 4 (Nat.le_of_ble_eq_true rfl) (hgt _ wd_1_133) (fun _ h9 => h9) rfl dX3_read_24 ?_
  refine lv_iload_n hx hb dX3_read_27 rfl (lv_at hl 1 rfl) ?_
  refine va_iald hx hb hK hP 57 0 gX_57 rfl (ix_l h) dX3_read_28 ?_
  have h := ix_r h
  refine lv_ior hx hb dX3_read_29 ?_
  refine lv_topi (fun x1 ex1 => ?_)
  have h := lt_o ex1 h
  refine lv_istore_n hx hb dX3_read_30 rfl hl (Nat.le_of_ble_eq_true rfl) (lv' := [(2, .int x1), (0, .ref (P 50)), (1, .int a1)]) rfl (fun ls hl => ?_)
  refine lv_aload_n hx hb dX3_read_31 rfl (lv_at hl 1 rfl) ?_
  refine va_get (D := D) (ci := 3) (v := .ref (P 53)) (C := RX3) (T := TX3) (N := 7) hx hb hgt iwX3 hown hK hP 50 gX_50 rfl 2 (Nat.le_of_ble_eq_true rfl) (hgt _ wd_1_129) (fun _ h9 => h9) rfl dX3_read_32 ?_
  refine lv_iconst (v := 0) hx hb dX3_read_35 (by decide) ?_
  refine lv_aload_n hx hb dX3_read_36 rfl (lv_at hl 1 rfl) ?_
  refine va_get (D := D) (ci := 3) (v := .ref (P 24)) (C := RX3) (T := TX3) (N := 7) hx hb hgt iwX3 hown hK hP 50 gX_50 rfl 0 (Nat.le_of_ble_eq_true rfl) (hgt _ wd_1_126) (fun _ h9 => h9) rfl dX3_read_37 ?_
  refine va_get (D := D) (ci := 6) (v := .ref (P 25)) (C := RX6) (T := TX6) (N := 13) hx hb hgt iwX6 hown hK hP 24 gX_24 rfl 1 (Nat.le_of_ble_eq_true rfl) (hgt _ wd_1_9) (fun _ h9 => h9) rfl dX3_read_40 ?_
  refine lv_iload_n hx hb dX3_read_43 rfl (lv_at hl 2 rfl) ?_
  refine va_iald hx hb hK hP 25 0 gX_25 rfl (ix_l h) dX3_read_44 ?_
  have h := ix_r h
  refine lv_iload_n hx hb dX3_read_45 rfl (lv_at hl 0 rfl) ?_
  obtain ⟨M2, r3, hq, h⟩ := cal_o h
  refine cx_v (va_runV (As := [.int 0, .int (M.1 25 (a1 : Int32).toNatClampNeg), .int x1]) (rest := []) ⟨hx, hb, hml, hown, hgt⟩ (z_Log_add l D cI cZ cC cJ cA P s0 hAO M 0 (M.1 25 (a1 : Int32).toNatClampNeg) x1 M2 r3 hq) (cwV 3 hgt (gV wd_2_127 wd_2_128 wd_2_129 wd_0_10 wd_2_130) rfl rfl rfl (by decide +kernel) ⟨Nat.le_of_ble_eq_true rfl, Nat.le_of_ble_eq_true rfl⟩) (prV hP hK hD hO hAO hS (va_recv hK hP (ci := 7) (q0 := 53) rfl gX_53)) rfl rfl hl.1 rfl (lv_room (Nat.le_of_ble_eq_true rfl)) dX3_read_46 ⟨Nat.le_of_ble_eq_true rfl, Nat.le_of_ble_eq_true rfl⟩) hS (fun H locs hP hD hS => ?_)
  refine lv_aload_n hx hb dX3_read_49 rfl (lv_at hl 1 rfl) ?_
  refine va_get (D := D) (ci := 3) (v := .ref (P 58)) (C := RX3) (T := TX3) (N := 7) hx hb hgt iwX3 hown hK hP 50 gX_50 rfl 5 (Nat.le_of_ble_eq_true rfl) (hgt _ wd_1_134) (fun _ h9 => h9) rfl dX3_read_50 ?_
  refine lv_iload_n hx hb dX3_read_53 rfl (lv_at hl 2 rfl) ?_
  refine lv_dup2_11 hx hb dX3_read_54 rfl rfl ?_
  refine va_iald hx hb hK hP 58 0 gX_58 rfl (ix_l h) dX3_read_55 ?_
  have h := ix_r h
  refine lv_aload_n hx hb dX3_read_56 rfl (lv_at hl 1 rfl) ?_
  refine va_get (D := D) (ci := 3) (v := .ref (P 57)) (C := RX3) (T := TX3) (N := 7) hx hb hgt iwX3 hown hK hP 50 gX_50 rfl 4 (Nat.le_of_ble_eq_true rfl) (hgt _ wd_1_133) (fun _ h9 => h9) rfl dX3_read_57 ?_
  refine lv_iload_n hx hb dX3_read_60 rfl (lv_at hl 2 rfl) ?_
  refine va_iald hx hb hK hP 57 0 gX_57 rfl (ix_l h) dX3_read_61 ?_
  have h := ix_r h
  refine lv_aload_n hx hb dX3_read_62 rfl (lv_at hl 1 rfl) ?_
  refine va_get (D := D) (ci := 3) (v := .ref (P 24)) (C := RX3) (T := TX3) (N := 7) hx hb hgt iwX3 hown hK hP 50 gX_50 rfl 0 (Nat.le_of_ble_eq_true rfl) (hgt _ wd_1_126) (fun _ h9 => h9) rfl dX3_read_63 ?_
  refine va_get (D := D) (ci := 6) (v := .ref (P 30)) (C := RX6) (T := TX6) (N := 13) hx hb hgt iwX6 hown hK hP 24 gX_24 rfl 6 (Nat.le_of_ble_eq_true rfl) (hgt _ wd_1_24) (fun _ h9 => h9) rfl dX3_read_66 ?_
  refine lv_iconst (v := 3) hx hb dX3_read_69 (by decide) ?_
  refine pm_aald hx hb hK hP 30 4 gX_30 rfl (by unfold vp_in; decide) dX3_read_70 ?_
  refine W.eq (g2 := F0 m 71 ls [.ref (P 34), .int (M2.1 57 (a1 : Int32).toNatClampNeg), .int (M2.1 58 (a1 : Int32).toNatClampNeg), .int a1, .ref (P 58)]) rfl ?_
  refine lv_iload_n hx hb dX3_read_71 rfl (lv_at hl 2 rfl) ?_
  refine va_iald hx hb hK hP 34 0 gX_34 rfl (ix_l h) dX3_read_72 ?_
  have h := ix_r h
  refine lv_iand hx hb dX3_read_73 ?_
  refine lv_ior hx hb dX3_read_74 ?_
  refine pm_iast (w := (wX cI cZ cC cJ cA P)) hx hb hK hP hD hS 58 0 gX_58 rfl sX_58 (ix_l h) dX3_read_75 (fun M4 eM4 H locs hP hD hS => ?_)
  have h := ix_r h
  have h := lt_o eM4 h
  refine lv_aload_n hx hb dX3_read_76 rfl (lv_at hl 1 rfl) ?_
  refine va_get (D := D) (ci := 3) (v := .ref (P 57)) (C := RX3) (T := TX3) (N := 7) hx hb hgt iwX3 hown hK hP 50 gX_50 rfl 4 (Nat.le_of_ble_eq_true rfl) (hgt _ wd_1_133) (fun _ h9 => h9) rfl dX3_read_77 ?_
  refine lv_iload_n hx hb dX3_read_80 rfl (lv_at hl 2 rfl) ?_
  refine lv_dup2_11 hx hb dX3_read_81 rfl rfl ?_
  refine va_iald hx hb hK hP 57 0 gX_57 rfl (ix_l h) dX3_read_82 ?_
  have h := ix_r h
  refine lv_aload_n hx hb dX3_read_83 rfl (lv_at hl 1 rfl) ?_
  refine va_get (D := D) (ci := 3) (v := .ref (P 24)) (C := RX3) (T := TX3) (N := 7) hx hb hgt iwX3 hown hK hP 50 gX_50 rfl 0 (Nat.le_of_ble_eq_true rfl) (hgt _ wd_1_126) (fun _ h9 => h9) rfl dX3_read_84 ?_
  refine va_get (D := D) (ci := 6) (v := .ref (P 30)) (C := RX6) (T := TX6) (N := 13) hx hb hgt iwX6 hown hK hP 24 gX_24 rfl 6 (Nat.le_of_ble_eq_true rfl) (hgt _ wd_1_24) (fun _ h9 => h9) rfl dX3_read_87 ?_
  refine lv_iconst (v := 3) hx hb dX3_read_90 (by decide) ?_
  refine pm_aald hx hb hK hP 30 4 gX_30 rfl (by unfold vp_in; decide) dX3_read_91 ?_
  refine W.eq (g2 := F0 m 92 ls [.ref (P 34), .int (M4.1 57 (a1 : Int32).toNatClampNeg), .int a1, .ref (P 57)]) rfl ?_
  refine lv_iload_n hx hb dX3_read_92 rfl (lv_at hl 2 rfl) ?_
  refine va_iald hx hb hK hP 34 0 gX_34 rfl (ix_l h) dX3_read_93 ?_
  have h := ix_r h
  refine lv_iconst (v := (-1)) hx hb dX3_read_94 (by decide) ?_
  refine lv_ixor hx hb dX3_read_95 ?_
  refine lv_iand hx hb dX3_read_96 ?_
  refine pm_iast (w := (wX cI cZ cC cJ cA P)) hx hb hK hP hD hS 57 0 gX_57 rfl sX_57 (ix_l h) dX3_read_97 (fun M5 eM5 H locs hP hD hS => ?_)
  have h := ix_r h
  have h := lt_o eM5 h
  refine lv_aload_n hx hb dX3_read_98 rfl (lv_at hl 1 rfl) ?_
  refine va_get (D := D) (ci := 3) (v := .ref (P 24)) (C := RX3) (T := TX3) (N := 7) hx hb hgt iwX3 hown hK hP 50 gX_50 rfl 0 (Nat.le_of_ble_eq_true rfl) (hgt _ wd_1_126) (fun _ h9 => h9) rfl dX3_read_99 ?_
  refine va_get (D := D) (ci := 6) (v := .ref (P 30)) (C := RX6) (T := TX6) (N := 13) hx hb hgt iwX6 hown hK hP 24 gX_24 rfl 6 (Nat.le_of_ble_eq_true rfl) (hgt _ wd_1_24) (fun _ h9 => h9) rfl dX3_read_102 ?_
  refine lv_bipush (v := 6) hx hb dX3_read_105 (by decide) ?_
  refine pm_aald hx hb hK hP 30 4 gX_30 rfl (by unfold vp_in; decide) dX3_read_107 ?_
  refine W.eq (g2 := F0 m 108 ls [.ref (P 37)]) rfl ?_
  refine lv_iload_n hx hb dX3_read_108 rfl (lv_at hl 2 rfl) ?_
  refine va_iald hx hb hK hP 37 0 gX_37 rfl (ix_l h) dX3_read_109 ?_
  have h := ix_r h
  refine lv_if_eq hx hb dX3_read_110 (tgt := 118) rfl (fun hc => ?_) (fun hc => ?_)
  · have h := br_T hc h
    refine lv_iload_n hx hb dX3_read_118 rfl (lv_at hl 0 rfl) ?_
    exact rt_i (w := (wX cI cZ cC cJ cA P)) hx hb hr hlk hP hD hS h dX3_read_119
  · have h := br_F hc h
    refine lv_aload_n hx hb dX3_read_113 rfl (lv_at hl 1 rfl) ?_
    refine lv_iload_n hx hb dX3_read_114 rfl (lv_at hl 2 rfl) ?_
    obtain ⟨M6, r7, hq, h⟩ := cal_o h
    refine cx_v (va_runV (As := [.int a1]) (rest := []) ⟨hx, hb, hml, hown, hgt⟩ (z_Device_countPulses l D cI cZ cC cJ cA P s0 hAO M5 a1 M6 r7 hq) (cwV 1 hgt (gV wd_2_161 wd_2_163 sl__ChipMap_Device____ChipMap_Device___countPulses____I_V_____ChipMap_Device___countPulses____I_V__ wd_0_9 wd_2_164) rfl rfl rfl (by decide +kernel) ⟨Nat.le_of_ble_eq_true rfl, Nat.le_of_ble_eq_true rfl⟩) (prV hP hK hD hO hAO hS (va_recv hK hP (ci := 3) (q0 := 50) rfl gX_50)) rfl rfl hl.1 rfl (lv_room (Nat.le_of_ble_eq_true rfl)) dX3_read_115 ⟨Nat.le_of_ble_eq_true rfl, Nat.le_of_ble_eq_true rfl⟩) hS (fun H locs hP hD hS => ?_)
    refine lv_iload_n hx hb dX3_read_118 rfl (lv_at hl 0 rfl) ?_
    exact rt_i (w := (wX cI cZ cC cJ cA P)) hx hb hr hlk hP hD hS h dX3_read_119
set_option maxHeartbeats 4000000 in
set_option maxRecDepth 20000 in
theorem z_Device_read (l : Launch) (D : va_G) (cI cZ cC cJ cA : ClassId) (P : Nat → Nat) (s0 : State) (hAO : ∀ q, (aP P 77) q → s0.heap.size ≤ q) (M : Mm) (a1 : Int32) (M' : Mm) (r' : Int32) (h : q_Device_read M a1 = some (M', r')) : Met l yX3_read wsX3_read ({ frames := 2, cells := 0, slots := 0, locals := 45 }) (va_Pc [.ref (P 50), .int a1] (gPre s0 D [(cI, .int), (cZ, .boolean), (cC, .char), (cJ, .long), (cA, .array .int)] (aP P 77) ((wX cI cZ cC cJ cA P) M))) (gQi D (aP P 77) ((wX cI cZ cC cJ cA P) M') r') 0 0 (aP P 77) := by
  refine Met.ofW (cc := cX3_read) (maxL := 3) (ret := (some .int)) (by decide) rfl ?_
  intro p e s m args below meth c s₁ B hml hv
  obtain ⟨rfl, hP, hK, hD, hO⟩ := hv
  have hx := B.exec
  have hb := B.bytes
  have hr := B.returns
  have hlk := B.notSynchronized
  have hgt := fun w (h : w ∈ GT) => atoms_spec (ws := wsX3_read) B.pre w (List.mem_cons_of_mem _ h)
  have hown : s.vm.findClass RX3 = some m.cls := findClass_of_methodNamed B.named
  have hS : va_S (aP P 77) s.heap s.heap [] := va_S.rf
  have hl := lv_entry ([.ref (P 50), .int a1]) (n := 3) (Nat.le_of_ble_eq_true rfl)
  rw [lg_entry_eq]
  generalize (lg_sl ([.ref (P 50), .int a1]) ++ List.replicate (3 - (lg_sl ([.ref (P 50), .int a1])).length) Slot.unset).toArray = ls at hl ⊢
  have hl : lv_has ls 3 [(0, .ref (P 50)), (1, .int a1)] := hl
  exact b_Device_read_0 hx hb hml hr hlk hgt hown hK hO hAO M a1 s.heap [] ls hl hP hD hS h
