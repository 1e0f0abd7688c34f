section
def q_ChipMapModel_raise  (M : Mm) (a1 : Int32) : Rs := lt' (stI M 0 (upd (M.1 0) 0 a1)) fun M1 => some (M1, 0)
set_option maxHeartbeats 4000000 in
set_option maxRecDepth 20000 in
theorem b_ChipMapModel_raise_0 {p : Program} {l : Launch} {e : Env} {s s0 : State} {m : MethodId} {args : Array Value} {below : List Frame} {meth : Method} {c : Code} {D : va_G} {cI cZ cC cJ cA : ClassId} {P : Nat → Nat} {M' : Mm} {r' : Int32}  (hx : p.tables.exec = Jvm.exec) (hb : c.code = cX1_raise) (hml : c.maxLocals = 2) (hr : meth.sig.returnType = (some .int)) (hlk : meth.locks = false) (hgt : ∀ w ∈ GT, w.before args s = true) (hown : s.vm.findClass RX1 = some m.cls) (hK : va_K D vwCl [(cI, .int), (cZ, .boolean), (cC, .char), (cJ, .long), (cA, .array .int)] s) (hO : Old s0 s) (hAO : ∀ q, (aP P 51) q → s0.heap.size ≤ q)  : ∀ (M : Mm) (a1 : Int32) (H : Heap) (locs : List Loc) (ls : Array Slot), lv_has ls 2 [(0, .ref (P 0)), (1, .int a1)] → va_P D vwCl ((wY cI cZ cC cJ cA P) M) H → va_D (aP P 51) ((wY cI cZ cC cJ cA P) M) → va_S (aP P 51) s.heap H locs → q_ChipMapModel_raise M a1 = some (M', r') → W p l e ({ frames := 0, cells := 0, slots := 0, locals := 0 }) s m args below meth c H locs 0 0 (MQ below (gQi D (aP P 51) ((wY cI cZ cC cJ cA P) M') r') args s 0 0 (aP P 51)) (F0 m 0 ls []) := by
  intro M a1 H locs ls hl hP hD hS h
  unfold q_ChipMapModel_raise at h
  refine lv_aload_n hx hb dX1_raise_0 rfl (lv_at hl 0 rfl) ?_
  refine lv_iload_n hx hb dX1_raise_1 rfl (lv_at hl 1 rfl) ?_
  refine pm_put (w := (wY cI cZ cC cJ cA P)) (D := D) (ci := 1) (x := a1) (ty := .int) (C := RX1) (T := TX1) (N := 76) hx hb hgt iwX1 tyX1 tyX1_ok nmX1 hown hK hP hD hS 0 gY_0 rfl 0 (Nat.le_of_ble_eq_true rfl) (hgt _ wd_4_201) (fun _ h9 => h9) rfl (by decide +kernel) rfl rfl (Nat.le_of_ble_eq_true rfl) (sY_0_0 _) dX1_raise_2 (fun M1 eM1 H locs hP hD hS => ?_)
  have h := lt_o eM1 h
  refine lv_iconst (v := 0) hx hb dX1_raise_5 (by decide) ?_
  exact rt_i (w := (wY cI cZ cC cJ cA P)) hx hb hr hlk hP hD hS h dX1_raise_6
set_option maxHeartbeats 4000000 in
set_option maxRecDepth 20000 in
theorem z_ChipMapModel_raise (l : Launch) (D : va_G) (cI cZ cC cJ cA : ClassId) (P : Nat → Nat) (s0 : State) (hAO : ∀ q, (aP P 51) q → s0.heap.size ≤ q) (M : Mm) (a1 : Int32) (M' : Mm) (r' : Int32) (h : q_ChipMapModel_raise M a1 = some (M', r')) : Met l yX1_raise wsX1_raise ({ frames := 0, cells := 0, slots := 0, locals := 0 }) (va_Pc [.ref (P 0), .int a1] (gPre s0 D [(cI, .int), (cZ, .boolean), (cC, .char), (cJ, .long), (cA, .array .int)] (aP P 51) ((wY cI cZ cC cJ cA P) M))) (gQi D (aP P 51) ((wY cI cZ cC cJ cA P) M') r') 0 0 (aP P 51) := by
  refine Met.ofW (cc := cX1_raise) (maxL := 2) (ret := (some .int)) (by decide) rfl ?_
  intro p e s m args below meth c s₁ B hml hv
  obtain ⟨rfl, hP, hK, hD, hO⟩ := hv
  have hx := B.exec
  have hb := B.bytes
  have hr := B.returns
  have hlk := B.notSynchronized
  have hgt := fun w (h : w ∈ GT) => atoms_spec (ws := wsX1_raise) B.pre w (List.mem_cons_of_mem _ h)
  have hown : s.vm.findClass RX1 = some m.cls := findClass_of_methodNamed B.named
  have hS : va_S (aP P 51) s.heap s.heap [] := va_S.rf
  have hl := lv_entry ([.ref (P 0), .int a1]) (n := 2) (Nat.le_of_ble_eq_true rfl)
  rw [lg_entry_eq]
  generalize (lg_sl ([.ref (P 0), .int a1]) ++ List.replicate (2 - (lg_sl ([.ref (P 0), .int a1])).length) Slot.unset).toArray = ls at hl ⊢
  have hl : lv_has ls 2 [(0, .ref (P 0)), (1, .int a1)] := hl
  exact b_ChipMapModel_raise_0 hx hb hml hr hlk hgt hown hK hO hAO M a1 s.heap [] ls hl hP hD hS h
def q_ChipMapModel_type_80  : Nat → Mm → Int64 → Int32 → Rs
  | 0, _, _, _ => none
  | n' + 1, M, v1, v4 => if v4 < 0 then (some (M, 1)) else (ix (M.1 0 2) 480 <| lt' (stI M 1 (upd (M.1 1) ((M.1 0 2) : Int32).toNatClampNeg ((((v1 >>> (((8 * v4) : Int32).toInt64 &&& 63)) &&& 255) : Int64).toInt32))) fun M1 => lt' (stI M1 0 (upd (M1.1 0) 2 ((M1.1 0 2) + 1))) fun M2 => q_ChipMapModel_type_80 n' M2 v1 (v4 + (-1)))
def q_ChipMapModel_type_33  : Nat → Mm → Int64 → Int32 → Int32 → Rs
  | 0, _, _, _, _ => none
  | n' + 1, M, v1, v3, v4 => if v3 ≤ v4 then (lt' (v3 - 1) fun x1 => q_ChipMapModel_type_80 4000 M v1 x1) else (lt' ((((v1 >>> (((8 * v4) : Int32).toInt64 &&& 63)) &&& 255) : Int64).toInt32) fun x1 => if x1 < 33 then (some (M, 0)) else (if x1 ≤ 126 then (q_ChipMapModel_type_33 n' M v1 v3 (v4 + 1)) else (some (M, 0))))
def q_ChipMapModel_type  (M : Mm) (a1 : Int64) (a3 : Int32) : Rs := lt' (stI M 0 (upd (M.1 0) 0 0)) fun M1 => if a3 < 1 then (some (M1, 0)) else (if 8 < a3 then (some (M1, 0)) else (if ((M1.1 0 2) + a3) ≤ 480 then (q_ChipMapModel_type_33 4000 M1 a1 a3 0) else (some (M1, 0))))
set_option maxHeartbeats 4000000 in
set_option maxRecDepth 20000 in
theorem b_ChipMapModel_type_80 {p : Program} {l : Launch} {e : Env} {s s0 : State} {m : MethodId} {args : Array Value} {below : List Frame} {meth : Method} {c : Code} {D : va_G} {cI cZ cC cJ cA : ClassId} {P : Nat → Nat} {M' : Mm} {r' : Int32}  (hx : p.tables.exec = Jvm.exec) (hb : c.code = cX1_type) (hml : c.maxLocals = 6) (hr : meth.sig.returnType = (some .boolean)) (hlk : meth.locks = false) (hgt : ∀ w ∈ GT, w.before args s = true) (hown : s.vm.findClass RX1 = some m.cls) (hK : va_K D vwCl [(cI, .int), (cZ, .boolean), (cC, .char), (cJ, .long), (cA, .array .int)] s) (hO : Old s0 s) (hAO : ∀ q, (aP P 51) q → s0.heap.size ≤ q)  : ∀ (n' : Nat) (M : Mm) (v1 : Int64) (v4 : Int32) (H : Heap) (locs : List Loc) (ls : Array Slot), lv_has ls 6 [(0, .ref (P 0)), (1, .long v1), (4, .int v4)] → va_P D vwCl ((wY cI cZ cC cJ cA P) M) H → va_D (aP P 51) ((wY cI cZ cC cJ cA P) M) → va_S (aP P 51) s.heap H locs → q_ChipMapModel_type_80 n' M v1 v4 = some (M', r') → W p l e ({ frames := 0, cells := 0, slots := 0, locals := 0 }) s m args below meth c H locs 0 0 (MQ below (gQi D (aP P 51) ((wY cI cZ cC cJ cA P) M') r') args s 0 0 (aP P 51)) (F0 m 80 ls []) := by
  intro n'
  induction n' with
  | zero => exact fun _ _ _ _ _ _ _ _ _ _ h => (rs_n h).elim
  | succ n' ih =>
    intro M v1 v4 H locs ls hl hP hD hS h
    rw [q_ChipMapModel_type_80] at h
    refine lv_iload hx hb dX1_type_80 (lv_at hl 2 rfl) ?_
    refine lv_if_lt hx hb dX1_type_82 (tgt := 122) rfl (fun hc => ?_) (fun hc => ?_)
    · have h := br_T hc h
      refine lv_iconst (v := 1) hx hb dX1_type_122 (by decide) ?_
      exact rt_z (w := (wY cI cZ cC cJ cA P)) hx hb hr hlk rfl hP hD hS h dX1_type_123
    · have h := br_F hc h
      refine lv_aload_n hx hb dX1_type_85 rfl (lv_at hl 0 rfl) ?_
      refine va_get (D := D) (ci := 1) (v := .ref (P 1)) (C := RX1) (T := TX1) (N := 76) hx hb hgt iwX1 hown hK hP 0 gY_0 rfl 1 (Nat.le_of_ble_eq_true rfl) (hgt _ wd_4_202) (fun _ h9 => h9) rfl dX1_type_86 ?_
      refine lv_aload_n hx hb dX1_type_89 rfl (lv_at hl 0 rfl) ?_
      refine va_get (D := D) (ci := 1) (v := .int (M.1 0 2)) (C := RX1) (T := TX1) (N := 76) hx hb hgt iwX1 hown hK hP 0 gY_0 rfl 2 (Nat.le_of_ble_eq_true rfl) (hgt _ wd_4_203) (fun _ h9 => h9) rfl dX1_type_90 ?_
      refine lv_lload_n hx hb dX1_type_93 rfl (lv_at hl 1 rfl) ?_
      refine lv_bipush (v := 8) hx hb dX1_type_94 (by decide) ?_
      refine lv_iload hx hb dX1_type_96 (lv_at hl 2 rfl) ?_
      refine lv_imul hx hb dX1_type_98 ?_
      refine lv_lshr (v := (v1 >>> (((8 * v4) : Int32).toInt64 &&& 63))) hx hb dX1_type_99 rfl ?_
      refine lv_ldc2 (v := 255) hx hb hown (hgt _ wd_5_195) dX1_type_100 ?_
      refine lv_land hx hb dX1_type_103 ?_
      refine lv_l2i (v := (((v1 >>> (((8 * v4) : Int32).toInt64 &&& 63)) &&& 255) : Int64).toInt32) hx hb dX1_type_104 rfl ?_
      refine pm_iast (w := (wY cI cZ cC cJ cA P)) hx hb hK hP hD hS 1 0 gY_1 rfl sY_1 (ix_l h) dX1_type_105 (fun M1 eM1 H locs hP hD hS => ?_)
      have h := ix_r h
      have h := lt_o eM1 h
      refine lv_aload_n hx hb dX1_type_106 rfl (lv_at hl 0 rfl) ?_
      refine lv_dup hx hb dX1_type_107 rfl ?_
      refine va_get (D := D) (ci := 1) (v := .int (M1.1 0 2)) (C := RX1) (T := TX1) (N := 76) hx hb hgt iwX1 hown hK hP 0 gY_0 rfl 2 (Nat.le_of_ble_eq_true rfl) (hgt _ wd_4_203) (fun _ h9 => h9) rfl dX1_type_108 ?_
      refine lv_iconst (v := 1) hx hb dX1_type_111 (by decide) ?_
      refine lv_iadd hx hb dX1_type_112 ?_
      refine pm_put (w := (wY cI cZ cC cJ cA P)) (D := D) (ci := 1) (x := ((M1.1 0 2) + 1)) (ty := .int) (C := RX1) (T := TX1) (N := 76) hx hb hgt iwX1 tyX1 tyX1_ok nmX1 hown hK hP hD hS 0 gY_0 rfl 2 (Nat.le_of_ble_eq_true rfl) (hgt _ wd_4_203) (fun _ h9 => h9) rfl (by decide +kernel) rfl rfl (Nat.le_of_ble_eq_true rfl) (sY_0_2 _) dX1_type_113 (fun M2 eM2 H locs hP hD hS => ?_)
      have h := lt_o eM2 h
      refine lv_iinc (v := (v4 + (-1))) hx hb dX1_type_116 hl (k := 2) rfl rfl (Nat.le_of_ble_eq_true rfl) (lv' := [(4, .int (v4 + (-1))), (0, .ref (P 0)), (1, .long v1)]) rfl (fun ls hl => ?_)
      refine lv_goto hx hb dX1_type_119 (tgt := 80) rfl ?_
      have hl := lv_sub hl [1, 2, 0] (l' := [(0, .ref (P 0)), (1, .long v1), (4, .int (v4 + (-1)))]) rfl
      exact ih M2 v1 (v4 + (-1)) H locs ls hl hP hD hS h
set_option maxHeartbeats 4000000 in
set_option maxRecDepth 20000 in
theorem b_ChipMapModel_type_33 {p : Program} {l : Launch} {e : Env} {s s0 : State} {m : MethodId} {args : Array Value} {below : List Frame} {meth : Method} {c : Code} {D : va_G} {cI cZ cC cJ cA : ClassId} {P : Nat → Nat} {M' : Mm} {r' : Int32}  (hx : p.tables.exec = Jvm.exec) (hb : c.code = cX1_type) (hml : c.maxLocals = 6) (hr : meth.sig.returnType = (some .boolean)) (hlk : meth.locks = false) (hgt : ∀ w ∈ GT, w.before args s = true) (hown : s.vm.findClass RX1 = some m.cls) (hK : va_K D vwCl [(cI, .int), (cZ, .boolean), (cC, .char), (cJ, .long), (cA, .array .int)] s) (hO : Old s0 s) (hAO : ∀ q, (aP P 51) q → s0.heap.size ≤ q)  : ∀ (n' : Nat) (M : Mm) (v1 : Int64) (v3 : Int32) (v4 : Int32) (H : Heap) (locs : List Loc) (ls : Array Slot), lv_has ls 6 [(0, .ref (P 0)), (1, .long v1), (3, .int v3), (4, .int v4)] → va_P D vwCl ((wY cI cZ cC cJ cA P) M) H → va_D (aP P 51) ((wY cI cZ cC cJ cA P) M) → va_S (aP P 51) s.heap H locs → q_ChipMapModel_type_33 n' M v1 v3 v4 = some (M', r') → W p l e ({ frames := 0, cells := 0, slots := 0, locals := 0 }) s m args below meth c H locs 0 0 (MQ below (gQi D (aP P 51) ((wY cI cZ cC cJ cA P) M') r') args s 0 0 (aP P 51)) (F0 m 33 ls []) := by
  intro n'
  induction n' with
  | zero => exact fun _ _ _ _ _ _ _ _ _ _ _ h => (rs_n h).elim
  | succ n' ih =>
    intro M v1 v3 v4 H locs ls hl hP hD hS h
    rw [q_ChipMapModel_type_33] at h
    refine lv_iload hx hb dX1_type_33 (lv_at hl 3 rfl) ?_
    refine lv_iload_n hx hb dX1_type_35 rfl (lv_at hl 2 rfl) ?_
    refine lv_icmp_ge hx hb dX1_type_36 (tgt := 75) rfl (fun hc => ?_) (fun hc => ?_)
    · have h := br_T hc h
      refine lv_iload_n hx hb dX1_type_75 rfl (lv_at hl 2 rfl) ?_
      refine lv_iconst (v := 1) hx hb dX1_type_76 (by decide) ?_
      refine lv_isub hx hb dX1_type_77 ?_
      refine lv_topi (fun x1 ex1 => ?_)
      have h := lt_o ex1 h
      refine lv_istore hx hb dX1_type_78 hl (Nat.le_of_ble_eq_true rfl) (lv' := [(4, .int x1), (0, .ref (P 0)), (1, .long v1), (3, .int v3)]) rfl (fun ls hl => ?_)
      have hl := lv_sub hl [1, 2, 0] (l' := [(0, .ref (P 0)), (1, .long v1), (4, .int x1)]) rfl
      exact b_ChipMapModel_type_80 hx hb hml hr hlk hgt hown hK hO hAO 4000 M v1 x1 H _ ls hl hP hD hS h
    · have h := br_F hc h
      refine lv_lload_n hx hb dX1_type_39 rfl (lv_at hl 1 rfl) ?_
      refine lv_bipush (v := 8) hx hb dX1_type_40 (by decide) ?_
      refine lv_iload hx hb dX1_type_42 (lv_at hl 3 rfl) ?_
      refine lv_imul hx hb dX1_type_44 ?_
      refine lv_lshr (v := (v1 >>> (((8 * v4) : Int32).toInt64 &&& 63))) hx hb dX1_type_45 rfl ?_
      refine lv_ldc2 (v := 255) hx hb hown (hgt _ wd_5_195) dX1_type_46 ?_
      refine lv_land hx hb dX1_type_49 ?_
      refine lv_l2i (v := (((v1 >>> (((8 * v4) : Int32).toInt64 &&& 63)) &&& 255) : Int64).toInt32) hx hb dX1_type_50 rfl ?_
      refine lv_topi (fun x1 ex1 => ?_)
      have h := lt_o ex1 h
      refine lv_istore hx hb dX1_type_51 hl (Nat.le_of_ble_eq_true rfl) (lv' := [(5, .int x1), (0, .ref (P 0)), (1, .long v1), (3, .int v3), (4, .int v4)]) rfl (fun ls hl => ?_)
      refine lv_iload hx hb dX1_type_53 (lv_at hl 0 rfl) ?_
      refine lv_bipush (v := 33) hx hb dX1_type_55 (by decide) ?_
      refine lv_icmp_lt hx hb dX1_type_57 (tgt := 67) rfl (fun hc => ?_) (fun hc => ?_)
      · have h := br_T hc h
        refine lv_iconst (v := 0) hx hb dX1_type_67 (by decide) ?_
        exact rt_z (w := (wY cI cZ cC cJ cA P)) hx hb hr hlk rfl hP hD hS h dX1_type_68
      · have h := br_F hc h
        refine lv_iload hx hb dX1_type_60 (lv_at hl 0 rfl) ?_
        refine lv_bipush (v := 126) hx hb dX1_type_62 (by decide) ?_
        refine lv_icmp_le hx hb dX1_type_64 (tgt := 69) rfl (fun hc => ?_) (fun hc => ?_)
        · have h := br_T hc h
          refine lv_iinc (v := (v4 + 1)) hx hb dX1_type_69 hl (k := 4) rfl rfl (Nat.le_of_ble_eq_true rfl) (lv' := [(4, .int (v4 + 1)), (5, .int x1), (0, .ref (P 0)), (1, .long v1), (3, .int v3)]) rfl (fun ls hl => ?_)
          refine lv_goto hx hb dX1_type_72 (tgt := 33) rfl ?_
          have hl := lv_sub hl [2, 3, 4, 0] (l' := [(0, .ref (P 0)), (1, .long v1), (3, .int v3), (4, .int (v4 + 1))]) rfl
          exact ih M v1 v3 (v4 + 1) H locs ls hl hP hD hS h
        · have h := br_F hc h
          refine lv_iconst (v := 0) hx hb dX1_type_67 (by decide) ?_
          exact rt_z (w := (wY cI cZ cC cJ cA P)) hx hb hr hlk rfl hP hD hS h dX1_type_68
set_option maxHeartbeats 4000000 in
set_option maxRecDepth 20000 in
theorem b_ChipMapModel_type_0 {p : Program} {l : Launch} {e : Env} {s s0 : State} {m : MethodId} {args : Array Value} {below : List Frame} {meth : Method} {c : Code} {D : va_G} {cI cZ cC cJ cA : ClassId} {P : Nat → Nat} {M' : Mm} {r' : Int32}  (hx : p.tables.exec = Jvm.exec) (hb : c.code = cX1_type) (hml : c.maxLocals = 6) (hr : meth.sig.returnType = (some .boolean)) (hlk : meth.locks = false) (hgt : ∀ w ∈ GT, w.before args s = true) (hown : s.vm.findClass RX1 = some m.cls) (hK : va_K D vwCl [(cI, .int), (cZ, .boolean), (cC, .char), (cJ, .long), (cA, .array .int)] s) (hO : Old s0 s) (hAO : ∀ q, (aP P 51) q → s0.heap.size ≤ q)  : ∀ (M : Mm) (a1 : Int64) (a3 : Int32) (H : Heap) (locs : List Loc) (ls : Array Slot), lv_has ls 6 [(0, .ref (P 0)), (1, .long a1), (3, .int a3)] → va_P D vwCl ((wY cI cZ cC cJ cA P) M) H → va_D (aP P 51) ((wY cI cZ cC cJ cA P) M) → va_S (aP P 51) s.heap H locs → q_ChipMapModel_type M a1 a3 = some (M', r') → W p l e ({ frames := 0, cells := 0, slots := 0, locals := 0 }) s m args below meth c H locs 0 0 (MQ below (gQi D (aP P 51) ((wY cI cZ cC cJ cA P) M') r') args s 0 0 (aP P 51)) (F0 m 0 ls []) := by
  intro M a1 a3 H locs ls hl hP hD hS h
  unfold q_ChipMapModel_type at h
  refine lv_aload_n hx hb dX1_type_0 rfl (lv_at hl 0 rfl) ?_
  refine lv_iconst (v := 0) hx hb dX1_type_1 (by decide) ?_
  refine pm_put (w := (wY cI cZ cC cJ cA P)) (D := D) (ci := 1) (x := 0) (ty := .int) (C := RX1) (T := TX1) (N := 76) hx hb hgt iwX1 tyX1 tyX1_ok nmX1 hown hK hP hD hS 0 gY_0 rfl 0 (Nat.le_of_ble_eq_true rfl) (hgt _ wd_4_201) (fun _ h9 => h9) rfl (by decide +kernel) rfl rfl (Nat.le_of_ble_eq_true rfl) (sY_0_0 _) dX1_type_2 (fun M1 eM1 H locs hP hD hS => ?_)
  have h := lt_o eM1 h
  refine lv_iload_n hx hb dX1_type_5 rfl (lv_at hl 2 rfl) ?_
  refine lv_iconst (v := 1) hx hb dX1_type_6 (by decide) ?_
  refine lv_icmp_lt hx hb dX1_type_7 (tgt := 28) rfl (fun hc => ?_) (fun hc => ?_)
  · have h := br_T hc h
    refine lv_iconst (v := 0) hx hb dX1_type_28 (by decide) ?_
    exact rt_z (w := (wY cI cZ cC cJ cA P)) hx hb hr hlk rfl hP hD hS h dX1_type_29
  · have h := br_F hc h
    refine lv_iload_n hx hb dX1_type_10 rfl (lv_at hl 2 rfl) ?_
    refine lv_bipush (v := 8) hx hb dX1_type_11 (by decide) ?_
    refine lv_icmp_gt hx hb dX1_type_13 (tgt := 28) rfl (fun hc => ?_) (fun hc => ?_)
    · have h := br_T hc h
      refine lv_iconst (v := 0) hx hb dX1_type_28 (by decide) ?_
      exact rt_z (w := (wY cI cZ cC cJ cA P)) hx hb hr hlk rfl hP hD hS h dX1_type_29
    · have h := br_F hc h
      refine lv_aload_n hx hb dX1_type_16 rfl (lv_at hl 0 rfl) ?_
      refine va_get (D := D) (ci := 1) (v := .int (M1.1 0 2)) (C := RX1) (T := TX1) (N := 76) hx hb hgt iwX1 hown hK hP 0 gY_0 rfl 2 (Nat.le_of_ble_eq_true rfl) (hgt _ wd_4_203) (fun _ h9 => h9) rfl dX1_type_17 ?_
      refine lv_iload_n hx hb dX1_type_20 rfl (lv_at hl 2 rfl) ?_
      refine lv_iadd hx hb dX1_type_21 ?_
      refine lv_sipush (v := 480) hx hb dX1_type_22 (by decide) ?_
      refine lv_icmp_le hx hb dX1_type_25 (tgt := 30) rfl (fun hc => ?_) (fun hc => ?_)
      · have h := br_T hc h
        refine lv_iconst (v := 0) hx hb dX1_type_30 (by decide) ?_
        refine lv_istore hx hb dX1_type_31 hl (Nat.le_of_ble_eq_true rfl) (lv' := [(4, .int 0), (0, .ref (P 0)), (1, .long a1), (3, .int a3)]) rfl (fun ls hl => ?_)
        have hl := lv_sub hl [1, 2, 3, 0] (l' := [(0, .ref (P 0)), (1, .long a1), (3, .int a3), (4, .int 0)]) rfl
        exact b_ChipMapModel_type_33 hx hb hml hr hlk hgt hown hK hO hAO 4000 M1 a1 a3 0 H _ ls hl hP hD hS h
      · have h := br_F hc h
        refine lv_iconst (v := 0) hx hb dX1_type_28 (by decide) ?_
        exact rt_z (w := (wY cI cZ cC cJ cA P)) hx hb hr hlk rfl hP hD hS h dX1_type_29
set_option maxHeartbeats 4000000 in
set_option maxRecDepth 20000 in
theorem z_ChipMapModel_type (l : Launch) (D : va_G) (cI cZ cC cJ cA : ClassId) (P : Nat → Nat) (s0 : State) (hAO : ∀ q, (aP P 51) q → s0.heap.size ≤ q) (M : Mm) (a1 : Int64) (a3 : Int32) (M' : Mm) (r' : Int32) (h : q_ChipMapModel_type M a1 a3 = some (M', r')) : Met l yX1_type wsX1_type ({ frames := 0, cells := 0, slots := 0, locals := 0 }) (va_Pc [.ref (P 0), .long a1, .int a3] (gPre s0 D [(cI, .int), (cZ, .boolean), (cC, .char), (cJ, .long), (cA, .array .int)] (aP P 51) ((wY cI cZ cC cJ cA P) M))) (gQi D (aP P 51) ((wY cI cZ cC cJ cA P) M') r') 0 0 (aP P 51) := by
  refine Met.ofW (cc := cX1_type) (maxL := 6) (ret := (some .boolean)) (by decide) rfl ?_
  intro p e s m args below meth c s₁ B hml hv
  obtain ⟨rfl, hP, hK, hD, hO⟩ := hv
  have hx := B.exec
  have hb := B.bytes
  have hr := B.returns
  have hlk := B.notSynchronized
  have hgt := fun w (h : w ∈ GT) => atoms_spec (ws := wsX1_type) B.pre w (List.mem_cons_of_mem _ h)
  have hown : s.vm.findClass RX1 = some m.cls := findClass_of_methodNamed B.named
  have hS : va_S (aP P 51) s.heap s.heap [] := va_S.rf
  have hl := lv_entry ([.ref (P 0), .long a1, .int a3]) (n := 6) (Nat.le_of_ble_eq_true rfl)
  rw [lg_entry_eq]
  generalize (lg_sl ([.ref (P 0), .long a1, .int a3]) ++ List.replicate (6 - (lg_sl ([.ref (P 0), .long a1, .int a3])).length) Slot.unset).toArray = ls at hl ⊢
  have hl : lv_has ls 6 [(0, .ref (P 0)), (1, .long a1), (3, .int a3)] := hl
  exact b_ChipMapModel_type_0 hx hb hml hr hlk hgt hown hK hO hAO M a1 a3 s.heap [] ls hl hP hD hS h
def q_ChipMapModel_here  (M : Mm)  : Rs := if (M.1 0 2) ≤ (M.1 0 3) then (some (M, 0)) else (ix (M.1 0 3) 480 <| some (M, (M.1 1 ((M.1 0 3) : Int32).toNatClampNeg)))
set_option maxHeartbeats 4000000 in
set_option maxRecDepth 20000 in
theorem b_ChipMapModel_here_0 {p : Program} {l : Launch} {e : Env} {s s0 : State} {m : MethodId} {args : Array Value} {below : List Frame} {meth : Method} {c : Code} {D : va_G} {cI cZ cC cJ cA : ClassId} {P : Nat → Nat} {M' : Mm} {r' : Int32}  (hx : p.tables.exec = Jvm.exec) (hb : c.code = cX1_here) (hml : c.maxLocals = 1) (hr : meth.sig.returnType = (some .int)) (hlk : meth.locks = false) (hgt : ∀ w ∈ GT, w.before args s = true) (hown : s.vm.findClass RX1 = some m.cls) (hK : va_K D vwCl [(cI, .int), (cZ, .boolean), (cC, .char), (cJ, .long), (cA, .array .int)] s) (hO : Old s0 s) (hAO : ∀ q, (aP P 51) q → s0.heap.size ≤ q)  : ∀ (M : Mm)  (H : Heap) (locs : List Loc) (ls : Array Slot), lv_has ls 1 [(0, .ref (P 0))] → va_P D vwCl ((wY cI cZ cC cJ cA P) M) H → va_D (aP P 51) ((wY cI cZ cC cJ cA P) M) → va_S (aP P 51) s.heap H locs → q_ChipMapModel_here M = some (M', r') → W p l e ({ frames := 0, cells := 0, slots := 0, locals := 0 }) s m args below meth c H locs 0 0 (MQ below (gQi D (aP P 51) ((wY cI cZ cC cJ cA P) M') r') args s 0 0 (aP P 51)) (F0 m 0 ls []) := by
  intro M H locs ls hl hP hD hS h
  unfold q_ChipMapModel_here at h
  refine lv_aload_n hx hb dX1_here_0 rfl (lv_at hl 0 rfl) ?_
  refine va_get (D := D) (ci := 1) (v := .int (M.1 0 3)) (C := RX1) (T := TX1) (N := 76) hx hb hgt iwX1 hown hK hP 0 gY_0 rfl 3 (Nat.le_of_ble_eq_true rfl) (hgt _ wd_4_204) (fun _ h9 => h9) rfl dX1_here_1 ?_
  refine lv_aload_n hx hb dX1_here_4 rfl (lv_at hl 0 rfl) ?_
  refine va_get (D := D) (ci := 1) (v := .int (M.1 0 2)) (C := RX1) (T := TX1) (N := 76) hx hb hgt iwX1 hown hK hP 0 gY_0 rfl 2 (Nat.le_of_ble_eq_true rfl) (hgt _ wd_4_203) (fun _ h9 => h9) rfl dX1_here_5 ?_
  refine lv_icmp_ge hx hb dX1_here_8 (tgt := 23) rfl (fun hc => ?_) (fun hc => ?_)
  · have h := br_T hc h
    refine lv_iconst (v := 0) hx hb dX1_here_23 (by decide) ?_
    exact rt_i (w := (wY cI cZ cC cJ cA P)) hx hb hr hlk hP hD hS h dX1_here_24
  · have h := br_F hc h
    refine lv_aload_n hx hb dX1_here_11 rfl (lv_at hl 0 rfl) ?_
    refine va_get (D := D) (ci := 1) (v := .ref (P 1)) (C := RX1) (T := TX1) (N := 76) hx hb hgt iwX1 hown hK hP 0 gY_0 rfl 1 (Nat.le_of_ble_eq_true rfl) (hgt _ wd_4_202) (fun _ h9 => h9) rfl dX1_here_12 ?_
    refine lv_aload_n hx hb dX1_here_15 rfl (lv_at hl 0 rfl) ?_
    refine va_get (D := D) (ci := 1) (v := .int (M.1 0 3)) (C := RX1) (T := TX1) (N := 76) hx hb hgt iwX1 hown hK hP 0 gY_0 rfl 3 (Nat.le_of_ble_eq_true rfl) (hgt _ wd_4_204) (fun _ h9 => h9) rfl dX1_here_16 ?_
    refine va_iald hx hb hK hP 1 0 gY_1 rfl (ix_l h) dX1_here_19 ?_
    have h := ix_r h
    refine lv_goto hx hb dX1_here_20 (tgt := 24) rfl ?_
    exact rt_i (w := (wY cI cZ cC cJ cA P)) hx hb hr hlk hP hD hS h dX1_here_24
set_option maxHeartbeats 4000000 in
set_option maxRecDepth 20000 in
theorem z_ChipMapModel_here (l : Launch) (D : va_G) (cI cZ cC cJ cA : ClassId) (P : Nat → Nat) (s0 : State) (hAO : ∀ q, (aP P 51) q → s0.heap.size ≤ q) (M : Mm)  (M' : Mm) (r' : Int32) (h : q_ChipMapModel_here M = some (M', r')) : Met l yX1_here wsX1_here ({ frames := 0, cells := 0, slots := 0, locals := 0 }) (va_Pc [.ref (P 0)] (gPre s0 D [(cI, .int), (cZ, .boolean), (cC, .char), (cJ, .long), (cA, .array .int)] (aP P 51) ((wY cI cZ cC cJ cA P) M))) (gQi D (aP P 51) ((wY cI cZ cC cJ cA P) M') r') 0 0 (aP P 51) := by
  refine Met.ofW (cc := cX1_here) (maxL := 1) (ret := (some .int)) (by decide) rfl ?_
  intro p e s m args below meth c s₁ B hml hv
  obtain ⟨rfl, hP, hK, hD, hO⟩ := hv
  have hx := B.exec
  have hb := B.bytes
  have hr := B.returns
  have hlk := B.notSynchronized
  have hgt := fun w (h : w ∈ GT) => atoms_spec (ws := wsX1_here) B.pre w (List.mem_cons_of_mem _ h)
  have hown : s.vm.findClass RX1 = some m.cls := findClass_of_methodNamed B.named
  have hS : va_S (aP P 51) s.heap s.heap [] := va_S.rf
  have hl := lv_entry ([.ref (P 0)]) (n := 1) (Nat.le_of_ble_eq_true rfl)
  rw [lg_entry_eq]
  generalize (lg_sl ([.ref (P 0)]) ++ List.replicate (1 - (lg_sl ([.ref (P 0)])).length) Slot.unset).toArray = ls at hl ⊢
  have hl : lv_has ls 1 [(0, .ref (P 0))] := hl
  exact b_ChipMapModel_here_0 hx hb hml hr hlk hgt hown hK hO hAO M s.heap [] ls hl hP hD hS h
def q_ChipMapModel_wrong  (M : Mm) (a1 : Int32) (a2 : Int32) : Rs := lt' (stI M 0 (upd (M.1 0) 4 a1)) fun M1 => lt' (stI M1 0 (upd (M1.1 0) 5 a2)) fun M2 => some (M2, 0)
set_option maxHeartbeats 4000000 in
set_option maxRecDepth 20000 in
theorem b_ChipMapModel_wrong_0 {p : Program} {l : Launch} {e : Env} {s s0 : State} {m : MethodId} {args : Array Value} {below : List Frame} {meth : Method} {c : Code} {D : va_G} {cI cZ cC cJ cA : ClassId} {P : Nat → Nat} {M' : Mm} {r' : Int32}  (hx : p.tables.exec = Jvm.exec) (hb : c.code = cX1_wrong) (hml : c.maxLocals = 3) (hr : meth.sig.returnType = (some .boolean)) (hlk : meth.locks = false) (hgt : ∀ w ∈ GT, w.before args s = true) (hown : s.vm.findClass RX1 = some m.cls) (hK : va_K D vwCl [(cI, .int), (cZ, .boolean), (cC, .char), (cJ, .long), (cA, .array .int)] s) (hO : Old s0 s) (hAO : ∀ q, (aP P 51) q → s0.heap.size ≤ q)  : ∀ (M : Mm) (a1 : Int32) (a2 : Int32) (H : Heap) (locs : List Loc) (ls : Array Slot), lv_has ls 3 [(0, .ref (P 0)), (1, .int a1), (2, .int a2)] → va_P D vwCl ((wY cI cZ cC cJ cA P) M) H → va_D (aP P 51) ((wY cI cZ cC cJ cA P) M) → va_S (aP P 51) s.heap H locs → q_ChipMapModel_wrong M a1 a2 = some (M', r') → W p l e ({ frames := 0, cells := 0, slots := 0, locals := 0 }) s m args below meth c H locs 0 0 (MQ below (gQi D (aP P 51) ((wY cI cZ cC cJ cA P) M') r') args s 0 0 (aP P 51)) (F0 m 0 ls []) := by
  intro M a1 a2 H locs ls hl hP hD hS h
  unfold q_ChipMapModel_wrong at h
  refine lv_aload_n hx hb dX1_wrong_0 rfl (lv_at hl 0 rfl) ?_
  refine lv_iload_n hx hb dX1_wrong_1 rfl (lv_at hl 1 rfl) ?_
  refine pm_put (w := (wY cI cZ cC cJ cA P)) (D := D) (ci := 1) (x := a1) (ty := .int) (C := RX1) (T := TX1) (N := 76) hx hb hgt iwX1 tyX1 tyX1_ok nmX1 hown hK hP hD hS 0 gY_0 rfl 4 (Nat.le_of_ble_eq_true rfl) (hgt _ wd_4_205) (fun _ h9 => h9) rfl (by decide +kernel) rfl rfl (Nat.le_of_ble_eq_true rfl) (sY_0_4 _) dX1_wrong_2 (fun M1 eM1 H locs hP hD hS => ?_)
  have h := lt_o eM1 h
  refine lv_aload_n hx hb dX1_wrong_5 rfl (lv_at hl 0 rfl) ?_
  refine lv_iload_n hx hb dX1_wrong_6 rfl (lv_at hl 2 rfl) ?_
  refine pm_put (w := (wY cI cZ cC cJ cA P)) (D := D) (ci := 1) (x := a2) (ty := .int) (C := RX1) (T := TX1) (N := 76) hx hb hgt iwX1 tyX1 tyX1_ok nmX1 hown hK hP hD hS 0 gY_0 rfl 5 (Nat.le_of_ble_eq_true rfl) (hgt _ wd_4_206) (fun _ h9 => h9) rfl (by decide +kernel) rfl rfl (Nat.le_of_ble_eq_true rfl) (sY_0_5 _) dX1_wrong_7 (fun M2 eM2 H locs hP hD hS => ?_)
  have h := lt_o eM2 h
  refine lv_iconst (v := 0) hx hb dX1_wrong_10 (by decide) ?_
  exact rt_z (w := (wY cI cZ cC cJ cA P)) hx hb hr hlk rfl hP hD hS h dX1_wrong_11
set_option maxHeartbeats 4000000 in
set_option maxRecDepth 20000 in
theorem z_ChipMapModel_wrong (l : Launch) (D : va_G) (cI cZ cC cJ cA : ClassId) (P : Nat → Nat) (s0 : State) (hAO : ∀ q, (aP P 51) q → s0.heap.size ≤ q) (M : Mm) (a1 : Int32) (a2 : Int32) (M' : Mm) (r' : Int32) (h : q_ChipMapModel_wrong M a1 a2 = some (M', r')) : Met l yX1_wrong wsX1_wrong ({ frames := 0, cells := 0, slots := 0, locals := 0 }) (va_Pc [.ref (P 0), .int a1, .int a2] (gPre s0 D [(cI, .int), (cZ, .boolean), (cC, .char), (cJ, .long), (cA, .array .int)] (aP P 51) ((wY cI cZ cC cJ cA P) M))) (gQi D (aP P 51) ((wY cI cZ cC cJ cA P) M') r') 0 0 (aP P 51) := by
  refine Met.ofW (cc := cX1_wrong) (maxL := 3) (ret := (some .boolean)) (by decide) rfl ?_
  intro p e s m args below meth c s₁ B hml hv
  obtain ⟨rfl, hP, hK, hD, hO⟩ := hv
  have hx := B.exec
  have hb := B.bytes
  have hr := B.returns
  have hlk := B.notSynchronized
  have hgt := fun w (h : w ∈ GT) => atoms_spec (ws := wsX1_wrong) B.pre w (List.mem_cons_of_mem _ h)
  have hown : s.vm.findClass RX1 = some m.cls := findClass_of_methodNamed B.named
  have hS : va_S (aP P 51) s.heap s.heap [] := va_S.rf
  have hl := lv_entry ([.ref (P 0), .int a1, .int a2]) (n := 3) (Nat.le_of_ble_eq_true rfl)
  rw [lg_entry_eq]
  generalize (lg_sl ([.ref (P 0), .int a1, .int a2]) ++ List.replicate (3 - (lg_sl ([.ref (P 0), .int a1, .int a2])).length) Slot.unset).toArray = ls at hl ⊢
  have hl : lv_has ls 3 [(0, .ref (P 0)), (1, .int a1), (2, .int a2)] := hl
  exact b_ChipMapModel_wrong_0 hx hb hml hr hlk hgt hown hK hO hAO M a1 a2 s.heap [] ls hl hP hD hS h
def q_ChipMapModel_hex_19  (M : Mm) (v0 : Int32) : Rs := if v0 < 97 then (some (M, (-1))) else (if 102 < v0 then (some (M, (-1))) else (some (M, ((v0 - 97) + 10))))
def q_ChipMapModel_hex  (M : Mm) (a0 : Int32) : Rs := if a0 < 48 then (q_ChipMapModel_hex_19 M a0) else (if 57 < a0 then (q_ChipMapModel_hex_19 M a0) else (some (M, (a0 - 48))))
set_option maxHeartbeats 4000000 in
set_option maxRecDepth 20000 in
theorem b_ChipMapModel_hex_19 {p : Program} {l : Launch} {e : Env} {s s0 : State} {m : MethodId} {args : Array Value} {below : List Frame} {meth : Method} {c : Code} {D : va_G} {cI cZ cC cJ cA : ClassId} {P : Nat → Nat} {M' : Mm} {r' : Int32}  (hx : p.tables.exec = Jvm.exec) (hb : c.code = cX1_hex) (hml : c.maxLocals = 1) (hr : meth.sig.returnType = (some .int)) (hlk : meth.locks = false) (hgt : ∀ w ∈ GT, w.before args s = true) (hown : s.vm.findClass RX1 = some m.cls) (hK : va_K D vwCl [(cI, .int), (cZ, .boolean), (cC, .char), (cJ, .long), (cA, .array .int)] s) (hO : Old s0 s) (hAO : ∀ q, (aP P 51) q → s0.heap.size ≤ q)  : ∀ (M : Mm) (v0 : Int32) (H : Heap) (locs : List Loc) (ls : Array Slot), lv_has ls 1 [(0, .int v0)] → va_P D vwCl ((wY cI cZ cC cJ cA P) M) H → va_D (aP P 51) ((wY cI cZ cC cJ cA P) M) → va_S (aP P 51) s.heap H locs → q_ChipMapModel_hex_19 M v0 = some (M', r') → W p l e ({ frames := 0, cells := 0, slots := 0, locals := 0 }) s m args below meth c H locs 0 0 (MQ below (gQi D (aP P 51) ((wY cI cZ cC cJ cA P) M') r') args s 0 0 (aP P 51)) (F0 m 19 ls []) := by
  intro M v0 H locs ls hl hP hD hS h
  unfold q_ChipMapModel_hex_19 at h
  refine lv_iload_n hx hb dX1_hex_19 rfl (lv_at hl 0 rfl) ?_
  refine lv_bipush (v := 97) hx hb dX1_hex_20 (by decide) ?_
  refine lv_icmp_lt hx hb dX1_hex_22 (tgt := 41) rfl (fun hc => ?_) (fun hc => ?_)
  · have h := br_T hc h
    refine lv_iconst (v := (-1)) hx hb dX1_hex_41 (by decide) ?_
    exact rt_i (w := (wY cI cZ cC cJ cA P)) hx hb hr hlk hP hD hS h dX1_hex_42
  · have h := br_F hc h
    refine lv_iload_n hx hb dX1_hex_25 rfl (lv_at hl 0 rfl) ?_
    refine lv_bipush (v := 102) hx hb dX1_hex_26 (by decide) ?_
    refine lv_icmp_gt hx hb dX1_hex_28 (tgt := 41) rfl (fun hc => ?_) (fun hc => ?_)
    · have h := br_T hc h
      refine lv_iconst (v := (-1)) hx hb dX1_hex_41 (by decide) ?_
      exact rt_i (w := (wY cI cZ cC cJ cA P)) hx hb hr hlk hP hD hS h dX1_hex_42
    · have h := br_F hc h
      refine lv_iload_n hx hb dX1_hex_31 rfl (lv_at hl 0 rfl) ?_
      refine lv_bipush (v := 97) hx hb dX1_hex_32 (by decide) ?_
      refine lv_isub hx hb dX1_hex_34 ?_
      refine lv_bipush (v := 10) hx hb dX1_hex_35 (by decide) ?_
      refine lv_iadd hx hb dX1_hex_37 ?_
      refine lv_goto hx hb dX1_hex_38 (tgt := 42) rfl ?_
      exact rt_i (w := (wY cI cZ cC cJ cA P)) hx hb hr hlk hP hD hS h dX1_hex_42
set_option maxHeartbeats 4000000 in
set_option maxRecDepth 20000 in
theorem b_ChipMapModel_hex_0 {p : Program} {l : Launch} {e : Env} {s s0 : State} {m : MethodId} {args : Array Value} {below : List Frame} {meth : Method} {c : Code} {D : va_G} {cI cZ cC cJ cA : ClassId} {P : Nat → Nat} {M' : Mm} {r' : Int32}  (hx : p.tables.exec = Jvm.exec) (hb : c.code = cX1_hex) (hml : c.maxLocals = 1) (hr : meth.sig.returnType = (some .int)) (hlk : meth.locks = false) (hgt : ∀ w ∈ GT, w.before args s = true) (hown : s.vm.findClass RX1 = some m.cls) (hK : va_K D vwCl [(cI, .int), (cZ, .boolean), (cC, .char), (cJ, .long), (cA, .array .int)] s) (hO : Old s0 s) (hAO : ∀ q, (aP P 51) q → s0.heap.size ≤ q)  : ∀ (M : Mm) (a0 : Int32) (H : Heap) (locs : List Loc) (ls : Array Slot), lv_has ls 1 [(0, .int a0)] → va_P D vwCl ((wY cI cZ cC cJ cA P) M) H → va_D (aP P 51) ((wY cI cZ cC cJ cA P) M) → va_S (aP P 51) s.heap H locs → q_ChipMapModel_hex M a0 = some (M', r') → W p l e ({ frames := 0, cells := 0, slots := 0, locals := 0 }) s m args below meth c H locs 0 0 (MQ below (gQi D (aP P 51) ((wY cI cZ cC cJ cA P) M') r') args s 0 0 (aP P 51)) (F0 m 0 ls []) := by
  intro M a0 H locs ls hl hP hD hS h
  unfold q_ChipMapModel_hex at h
  refine lv_iload_n hx hb dX1_hex_0 rfl (lv_at hl 0 rfl) ?_
  refine lv_bipush (v := 48) hx hb dX1_hex_1 (by decide) ?_
  refine lv_icmp_lt hx hb dX1_hex_3 (tgt := 19) rfl (fun hc => ?_) (fun hc => ?_)
  · have h := br_T hc h
    have hl := lv_sub hl [0] (l' := [(0, .int a0)]) rfl
    exact b_ChipMapModel_hex_19 hx hb hml hr hlk hgt hown hK hO hAO M a0 H _ ls hl hP hD hS h
  · have h := br_F hc h
    refine lv_iload_n hx hb dX1_hex_6 rfl (lv_at hl 0 rfl) ?_
    refine lv_bipush (v := 57) hx hb dX1_hex_7 (by decide) ?_
    refine lv_icmp_gt hx hb dX1_hex_9 (tgt := 19) rfl (fun hc => ?_) (fun hc => ?_)
    · have h := br_T hc h
      have hl := lv_sub hl [0] (l' := [(0, .int a0)]) rfl
      exact b_ChipMapModel_hex_19 hx hb hml hr hlk hgt hown hK hO hAO M a0 H _ ls hl hP hD hS h
    · have h := br_F hc h
      refine lv_iload_n hx hb dX1_hex_12 rfl (lv_at hl 0 rfl) ?_
      refine lv_bipush (v := 48) hx hb dX1_hex_13 (by decide) ?_
      refine lv_isub hx hb dX1_hex_15 ?_
      refine lv_goto hx hb dX1_hex_16 (tgt := 42) rfl ?_
      exact rt_i (w := (wY cI cZ cC cJ cA P)) hx hb hr hlk hP hD hS h dX1_hex_42
set_option maxHeartbeats 4000000 in
set_option maxRecDepth 20000 in
theorem z_ChipMapModel_hex (l : Launch) (D : va_G) (cI cZ cC cJ cA : ClassId) (P : Nat → Nat) (s0 : State) (hAO : ∀ q, (aP P 51) q → s0.heap.size ≤ q) (M : Mm) (a0 : Int32) (M' : Mm) (r' : Int32) (h : q_ChipMapModel_hex M a0 = some (M', r')) : Met l yX1_hex wsX1_hex ({ frames := 0, cells := 0, slots := 0, locals := 0 }) (va_Pc [.int a0] (gPre s0 D [(cI, .int), (cZ, .boolean), (cC, .char), (cJ, .long), (cA, .array .int)] (aP P 51) ((wY cI cZ cC cJ cA P) M))) (gQi D (aP P 51) ((wY cI cZ cC cJ cA P) M') r') 0 0 (aP P 51) := by
  refine Met.ofW (cc := cX1_hex) (maxL := 1) (ret := (some .int)) (by decide) rfl ?_
  intro p e s m args below meth c s₁ B hml hv
  obtain ⟨rfl, hP, hK, hD, hO⟩ := hv
  have hx := B.exec
  have hb := B.bytes
  have hr := B.returns
  have hlk := B.notSynchronized
  have hgt := fun w (h : w ∈ GT) => atoms_spec (ws := wsX1_hex) B.pre w (List.mem_cons_of_mem _ h)
  have hown : s.vm.findClass RX1 = some m.cls := findClass_of_methodNamed B.named
  have hS : va_S (aP P 51) s.heap s.heap [] := va_S.rf
  have hl := lv_entry ([.int a0]) (n := 1) (Nat.le_of_ble_eq_true rfl)
  rw [lg_entry_eq]
  generalize (lg_sl ([.int a0]) ++ List.replicate (1 - (lg_sl ([.int a0])).length) Slot.unset).toArray = ls at hl ⊢
  have hl : lv_has ls 1 [(0, .int a0)] := hl
  exact b_ChipMapModel_hex_0 hx hb hml hr hlk hgt hown hK hO hAO M a0 s.heap [] ls hl hP hD hS h
def q_ChipMapModel_isName  (M : Mm) (a0 : Int32) : Rs := if a0 < 65 then (some (M, 0)) else (if 90 < a0 then (some (M, 0)) else (some (M, 1)))
set_option maxHeartbeats 4000000 in
set_option maxRecDepth 20000 in
theorem b_ChipMapModel_isName_0 {p : Program} {l : Launch} {e : Env} {s s0 : State} {m : MethodId} {args : Array Value} {below : List Frame} {meth : Method} {c : Code} {D : va_G} {cI cZ cC cJ cA : ClassId} {P : Nat → Nat} {M' : Mm} {r' : Int32}  (hx : p.tables.exec = Jvm.exec) (hb : c.code = cX1_isName) (hml : c.maxLocals = 1) (hr : meth.sig.returnType = (some .boolean)) (hlk : meth.locks = false) (hgt : ∀ w ∈ GT, w.before args s = true) (hown : s.vm.findClass RX1 = some m.cls) (hK : va_K D vwCl [(cI, .int), (cZ, .boolean), (cC, .char), (cJ, .long), (cA, .array .int)] s) (hO : Old s0 s) (hAO : ∀ q, (aP P 51) q → s0.heap.size ≤ q)  : ∀ (M : Mm) (a0 : Int32) (H : Heap) (locs : List Loc) (ls : Array Slot), lv_has ls 1 [(0, .int a0)] → va_P D vwCl ((wY cI cZ cC cJ cA P) M) H → va_D (aP P 51) ((wY cI cZ cC cJ cA P) M) → va_S (aP P 51) s.heap H locs → q_ChipMapModel_isName M a0 = some (M', r') → W p l e ({ frames := 0, cells := 0, slots := 0, locals := 0 }) s m args below meth c H locs 0 0 (MQ below (gQi D (aP P 51) ((wY cI cZ cC cJ cA P) M') r') args s 0 0 (aP P 51)) (F0 m 0 ls []) := by
  intro M a0 H locs ls hl hP hD hS h
  unfold q_ChipMapModel_isName at h
  refine lv_iload_n hx hb dX1_isName_0 rfl (lv_at hl 0 rfl) ?_
  refine lv_bipush (v := 65) hx hb dX1_isName_1 (by decide) ?_
  refine lv_icmp_lt hx hb dX1_isName_3 (tgt := 16) rfl (fun hc => ?_) (fun hc => ?_)
  · have h := br_T hc h
    refine lv_iconst (v := 0) hx hb dX1_isName_16 (by decide) ?_
    exact rt_z (w := (wY cI cZ cC cJ cA P)) hx hb hr hlk rfl hP hD hS h dX1_isName_17
  · have h := br_F hc h
    refine lv_iload_n hx hb dX1_isName_6 rfl (lv_at hl 0 rfl) ?_
    refine lv_bipush (v := 90) hx hb dX1_isName_7 (by decide) ?_
    refine lv_icmp_gt hx hb dX1_isName_9 (tgt := 16) rfl (fun hc => ?_) (fun hc => ?_)
    · have h := br_T hc h
      refine lv_iconst (v := 0) hx hb dX1_isName_16 (by decide) ?_
      exact rt_z (w := (wY cI cZ cC cJ cA P)) hx hb hr hlk rfl hP hD hS h dX1_isName_17
    · have h := br_F hc h
      refine lv_iconst (v := 1) hx hb dX1_isName_12 (by decide) ?_
      refine lv_goto hx hb dX1_isName_13 (tgt := 17) rfl ?_
      exact rt_z (w := (wY cI cZ cC cJ cA P)) hx hb hr hlk rfl hP hD hS h dX1_isName_17
set_option maxHeartbeats 4000000 in
set_option maxRecDepth 20000 in
theorem z_ChipMapModel_isName (l : Launch) (D : va_G) (cI cZ cC cJ cA : ClassId) (P : Nat → Nat) (s0 : State) (hAO : ∀ q, (aP P 51) q → s0.heap.size ≤ q) (M : Mm) (a0 : Int32) (M' : Mm) (r' : Int32) (h : q_ChipMapModel_isName M a0 = some (M', r')) : Met l yX1_isName wsX1_isName ({ frames := 0, cells := 0, slots := 0, locals := 0 }) (va_Pc [.int a0] (gPre s0 D [(cI, .int), (cZ, .boolean), (cC, .char), (cJ, .long), (cA, .array .int)] (aP P 51) ((wY cI cZ cC cJ cA P) M))) (gQi D (aP P 51) ((wY cI cZ cC cJ cA P) M') r') 0 0 (aP P 51) := by
  refine Met.ofW (cc := cX1_isName) (maxL := 1) (ret := (some .boolean)) (by decide) rfl ?_
  intro p e s m args below meth c s₁ B hml hv
  obtain ⟨rfl, hP, hK, hD, hO⟩ := hv
  have hx := B.exec
  have hb := B.bytes
  have hr := B.returns
  have hlk := B.notSynchronized
  have hgt := fun w (h : w ∈ GT) => atoms_spec (ws := wsX1_isName) B.pre w (List.mem_cons_of_mem _ h)
  have hown : s.vm.findClass RX1 = some m.cls := findClass_of_methodNamed B.named
  have hS : va_S (aP P 51) s.heap s.heap [] := va_S.rf
  have hl := lv_entry ([.int a0]) (n := 1) (Nat.le_of_ble_eq_true rfl)
  rw [lg_entry_eq]
  generalize (lg_sl ([.int a0]) ++ List.replicate (1 - (lg_sl ([.int a0])).length) Slot.unset).toArray = ls at hl ⊢
  have hl : lv_has ls 1 [(0, .int a0)] := hl
  exact b_ChipMapModel_isName_0 hx hb hml hr hlk hgt hown hK hO hAO M a0 s.heap [] ls hl hP hD hS h
def q_ChipMapModel_take  (M : Mm) (a1 : Int32) : Rs := cal (q_ChipMapModel_here M) fun M1 r2 => if r2 = a1 then (lt' (stI M1 0 (upd (M1.1 0) 3 ((M1.1 0 3) + 1))) fun M3 => some (M3, 1)) else (cal (q_ChipMapModel_wrong M1 1 (M1.1 0 3)) fun M3 r4 => bz r4 (some (M3, r4)))
set_option maxHeartbeats 4000000 in
set_option maxRecDepth 20000 in
theorem b_ChipMapModel_take_0 {p : Program} {l : Launch} {e : Env} {s s0 : State} {m : MethodId} {args : Array Value} {below : List Frame} {meth : Method} {c : Code} {D : va_G} {cI cZ cC cJ cA : ClassId} {P : Nat → Nat} {M' : Mm} {r' : Int32}  (hx : p.tables.exec = Jvm.exec) (hb : c.code = cX1_take) (hml : c.maxLocals = 2) (hr : meth.sig.returnType = (some .boolean)) (hlk : meth.locks = false) (hgt : ∀ w ∈ GT, w.before args s = true) (hown : s.vm.findClass RX1 = some m.cls) (hK : va_K D vwCl [(cI, .int), (cZ, .boolean), (cC, .char), (cJ, .long), (cA, .array .int)] s) (hO : Old s0 s) (hAO : ∀ q, (aP P 51) q → s0.heap.size ≤ q)  : ∀ (M : Mm) (a1 : Int32) (H : Heap) (locs : List Loc) (ls : Array Slot), lv_has ls 2 [(0, .ref (P 0)), (1, .int a1)] → va_P D vwCl ((wY cI cZ cC cJ cA P) M) H → va_D (aP P 51) ((wY cI cZ cC cJ cA P) M) → va_S (aP P 51) s.heap H locs → q_ChipMapModel_take M a1 = some (M', r') → W p l e ({ frames := 1, cells := 0, slots := 0, locals := 22 }) s m args below meth c H locs 0 0 (MQ below (gQi D (aP P 51) ((wY cI cZ cC cJ cA P) M') r') args s 0 0 (aP P 51)) (F0 m 0 ls []) := by
  intro M a1 H locs ls hl hP hD hS h
  unfold q_ChipMapModel_take at h
  refine lv_aload_n hx hb dX1_take_0 rfl (lv_at hl 0 rfl) ?_
  obtain ⟨M1, r2, hq, h⟩ := cal_o h
  refine cx_i (va_runV (As := []) (rest := []) ⟨hx, hb, hml, hown, hgt⟩ (z_ChipMapModel_here l D cI cZ cC cJ cA P s0 hAO M M1 r2 hq) (cwV 0 hgt (gV wd_5_216 wd_5_218 sl__ChipMapModel____ChipMapModel___here_____I_____ChipMapModel___here_____I__ wd_0_15 wd_5_219) rfl rfl rfl (by decide +kernel) ⟨Nat.le_of_ble_eq_true rfl, Nat.le_of_ble_eq_true rfl⟩) (prV hP hK hD hO hAO hS (va_recv hK hP (ci := 1) (q0 := 0) rfl gY_0)) rfl rfl hl.1 rfl (lv_room (Nat.le_of_ble_eq_true rfl)) dX1_take_1 ⟨Nat.le_of_ble_eq_true rfl, Nat.le_of_ble_eq_true rfl⟩) hS (fun H locs hP hD hS => ?_)
  refine lv_iload_n hx hb dX1_take_4 rfl (lv_at hl 1 rfl) ?_
  refine lv_icmp_eq hx hb dX1_take_5 (tgt := 18) rfl (fun hc => ?_) (fun hc => ?_)
  · have h := br_T hc h
    refine lv_aload_n hx hb dX1_take_18 rfl (lv_at hl 0 rfl) ?_
    refine lv_dup hx hb dX1_take_19 rfl ?_
    refine va_get (D := D) (ci := 1) (v := .int (M1.1 0 3)) (C := RX1) (T := TX1) (N := 76) hx hb hgt iwX1 hown hK hP 0 gY_0 rfl 3 (Nat.le_of_ble_eq_true rfl) (hgt _ wd_4_204) (fun _ h9 => h9) rfl dX1_take_20 ?_
    refine lv_iconst (v := 1) hx hb dX1_take_23 (by decide) ?_
    refine lv_iadd hx hb dX1_take_24 ?_
    refine pm_put (w := (wY cI cZ cC cJ cA P)) (D := D) (ci := 1) (x := ((M1.1 0 3) + 1)) (ty := .int) (C := RX1) (T := TX1) (N := 76) hx hb hgt iwX1 tyX1 tyX1_ok nmX1 hown hK hP hD hS 0 gY_0 rfl 3 (Nat.le_of_ble_eq_true rfl) (hgt _ wd_4_204) (fun _ h9 => h9) rfl (by decide +kernel) rfl rfl (Nat.le_of_ble_eq_true rfl) (sY_0_3 _) dX1_take_25 (fun M3 eM3 H locs hP hD hS => ?_)
    have h := lt_o eM3 h
    refine lv_iconst (v := 1) hx hb dX1_take_28 (by decide) ?_
    exact rt_z (w := (wY cI cZ cC cJ cA P)) hx hb hr hlk rfl hP hD hS h dX1_take_29
  · have h := br_F hc h
    refine lv_aload_n hx hb dX1_take_8 rfl (lv_at hl 0 rfl) ?_
    refine lv_iconst (v := 1) hx hb dX1_take_9 (by decide) ?_
    refine lv_aload_n hx hb dX1_take_10 rfl (lv_at hl 0 rfl) ?_
    refine va_get (D := D) (ci := 1) (v := .int (M1.1 0 3)) (C := RX1) (T := TX1) (N := 76) hx hb hgt iwX1 hown hK hP 0 gY_0 rfl 3 (Nat.le_of_ble_eq_true rfl) (hgt _ wd_4_204) (fun _ h9 => h9) rfl dX1_take_11 ?_
    obtain ⟨M3, r4, hq, h⟩ := cal_o h
    refine cx_i (va_runV (As := [.int 1, .int (M1.1 0 3)]) (rest := []) ⟨hx, hb, hml, hown, hgt⟩ (z_ChipMapModel_wrong l D cI cZ cC cJ cA P s0 hAO M1 1 (M1.1 0 3) M3 r4 hq) (cwV 2 hgt (gV wd_5_208 wd_5_210 sl__ChipMapModel____ChipMapModel___wrong____II_Z_____ChipMapModel___wrong____II_Z__ wd_0_15 wd_5_211) rfl rfl rfl (by decide +kernel) ⟨Nat.le_of_ble_eq_true rfl, Nat.le_of_ble_eq_true rfl⟩) (prV hP hK hD hO hAO hS (va_recv hK hP (ci := 1) (q0 := 0) rfl gY_0)) rfl rfl hl.1 rfl (lv_room (Nat.le_of_ble_eq_true rfl)) dX1_take_14 ⟨Nat.le_of_ble_eq_true rfl, Nat.le_of_ble_eq_true rfl⟩) hS (fun H locs hP hD hS => ?_)
    exact rt_z (w := (wY cI cZ cC cJ cA P)) hx hb hr hlk (bz_l h) hP hD hS (bz_r h) dX1_take_17
set_option maxHeartbeats 4000000 in
set_option maxRecDepth 20000 in
theorem z_ChipMapModel_take (l : Launch) (D : va_G) (cI cZ cC cJ cA : ClassId) (P : Nat → Nat) (s0 : State) (hAO : ∀ q, (aP P 51) q → s0.heap.size ≤ q) (M : Mm) (a1 : Int32) (M' : Mm) (r' : Int32) (h : q_ChipMapModel_take M a1 = some (M', r')) : Met l yX1_take wsX1_take ({ frames := 1, cells := 0, slots := 0, locals := 22 }) (va_Pc [.ref (P 0), .int a1] (gPre s0 D [(cI, .int), (cZ, .boolean), (cC, .char), (cJ, .long), (cA, .array .int)] (aP P 51) ((wY cI cZ cC cJ cA P) M))) (gQi D (aP P 51) ((wY cI cZ cC cJ cA P) M') r') 0 0 (aP P 51) := by
  refine Met.ofW (cc := cX1_take) (maxL := 2) (ret := (some .boolean)) (by decide) rfl ?_
  intro p e s m args below meth c s₁ B hml hv
  obtain ⟨rfl, hP, hK, hD, hO⟩ := hv
  have hx := B.exec
  have hb := B.bytes
  have hr := B.returns
  have hlk := B.notSynchronized
  have hgt := fun w (h : w ∈ GT) => atoms_spec (ws := wsX1_take) B.pre w (List.mem_cons_of_mem _ h)
  have hown : s.vm.findClass RX1 = some m.cls := findClass_of_methodNamed B.named
  have hS : va_S (aP P 51) s.heap s.heap [] := va_S.rf
  have hl := lv_entry ([.ref (P 0), .int a1]) (n := 2) (Nat.le_of_ble_eq_true rfl)
  rw [lg_entry_eq]
  generalize (lg_sl ([.ref (P 0), .int a1]) ++ List.replicate (2 - (lg_sl ([.ref (P 0), .int a1])).length) Slot.unset).toArray = ls at hl ⊢
  have hl : lv_has ls 2 [(0, .ref (P 0)), (1, .int a1)] := hl
  exact b_ChipMapModel_take_0 hx hb hml hr hlk hgt hown hK hO hAO M a1 s.heap [] ls hl hP hD hS h
def q_ChipMapModel_takeName  (M : Mm)  : Rs := cal (q_ChipMapModel_here M) fun M1 r2 => cal (q_ChipMapModel_isName M1 r2) fun M3 r4 => if r4 = 0 then (cal (q_ChipMapModel_wrong M3 1 (M3.1 0 3)) fun M5 r6 => bz r6 (some (M5, r6))) else (lt' (stI M3 0 (upd (M3.1 0) 3 ((M3.1 0 3) + 1))) fun M5 => some (M5, 1))
set_option maxHeartbeats 4000000 in
set_option maxRecDepth 20000 in
theorem b_ChipMapModel_takeName_0 {p : Program} {l : Launch} {e : Env} {s s0 : State} {m : MethodId} {args : Array Value} {below : List Frame} {meth : Method} {c : Code} {D : va_G} {cI cZ cC cJ cA : ClassId} {P : Nat → Nat} {M' : Mm} {r' : Int32}  (hx : p.tables.exec = Jvm.exec) (hb : c.code = cX1_takeName) (hml : c.maxLocals = 1) (hr : meth.sig.returnType = (some .boolean)) (hlk : meth.locks = false) (hgt : ∀ w ∈ GT, w.before args s = true) (hown : s.vm.findClass RX1 = some m.cls) (hK : va_K D vwCl [(cI, .int), (cZ, .boolean), (cC, .char), (cJ, .long), (cA, .array .int)] s) (hO : Old s0 s) (hAO : ∀ q, (aP P 51) q → s0.heap.size ≤ q)  : ∀ (M : Mm)  (H : Heap) (locs : List Loc) (ls : Array Slot), lv_has ls 1 [(0, .ref (P 0))] → va_P D vwCl ((wY cI cZ cC cJ cA P) M) H → va_D (aP P 51) ((wY cI cZ cC cJ cA P) M) → va_S (aP P 51) s.heap H locs → q_ChipMapModel_takeName M = some (M', r') → W p l e ({ frames := 1, cells := 0, slots := 0, locals := 22 }) s m args below meth c H locs 0 0 (MQ below (gQi D (aP P 51) ((wY cI cZ cC cJ cA P) M') r') args s 0 0 (aP P 51)) (F0 m 0 ls []) := by
  intro M H locs ls hl hP hD hS h
  unfold q_ChipMapModel_takeName at h
  refine lv_aload_n hx hb dX1_takeName_0 rfl (lv_at hl 0 rfl) ?_
  obtain ⟨M1, r2, hq, h⟩ := cal_o h
  refine cx_i (va_runV (As := []) (rest := []) ⟨hx, hb, hml, hown, hgt⟩ (z_ChipMapModel_here l D cI cZ cC cJ cA P s0 hAO M M1 r2 hq) (cwV 0 hgt (gV wd_5_216 wd_5_218 sl__ChipMapModel____ChipMapModel___here_____I_____ChipMapModel___here_____I__ wd_0_15 wd_5_219) rfl rfl rfl (by decide +kernel) ⟨Nat.le_of_ble_eq_true rfl, Nat.le_of_ble_eq_true rfl⟩) (prV hP hK hD hO hAO hS (va_recv hK hP (ci := 1) (q0 := 0) rfl gY_0)) rfl rfl hl.1 rfl (lv_room (Nat.le_of_ble_eq_true rfl)) dX1_takeName_1 ⟨Nat.le_of_ble_eq_true rfl, Nat.le_of_ble_eq_true rfl⟩) hS (fun H locs hP hD hS => ?_)
  obtain ⟨M3, r4, hq, h⟩ := cal_o h
  refine cx_i (va_runS (As := [.int r2]) (rest := []) ⟨hx, hb, hml, hown, hgt⟩ (z_ChipMapModel_isName l D cI cZ cC cJ cA P s0 hAO M1 r2 M3 r4 hq) (va_cwS 1 hgt (gS wd_5_231 wd_5_232 wd_0_15 wd_5_233) rfl rfl rfl (by decide +kernel) ⟨Nat.le_of_ble_eq_true rfl, Nat.le_of_ble_eq_true rfl⟩) (prS hP hK hD hO hAO hS) rfl rfl hl.1 rfl (lv_room (Nat.le_of_ble_eq_true rfl)) dX1_takeName_4 ⟨Nat.le_of_ble_eq_true rfl, Nat.le_of_ble_eq_true rfl⟩) hS (fun H locs hP hD hS => ?_)
  refine lv_if_ne hx hb dX1_takeName_7 (tgt := 20) rfl (fun hc => ?_) (fun hc => ?_)
  · have h := br_F hc h
    refine lv_aload_n hx hb dX1_takeName_20 rfl (lv_at hl 0 rfl) ?_
    refine lv_dup hx hb dX1_takeName_21 rfl ?_
    refine va_get (D := D) (ci := 1) (v := .int (M3.1 0 3)) (C := RX1) (T := TX1) (N := 76) hx hb hgt iwX1 hown hK hP 0 gY_0 rfl 3 (Nat.le_of_ble_eq_true rfl) (hgt _ wd_4_204) (fun _ h9 => h9) rfl dX1_takeName_22 ?_
    refine lv_iconst (v := 1) hx hb dX1_takeName_25 (by decide) ?_
    refine lv_iadd hx hb dX1_takeName_26 ?_
    refine pm_put (w := (wY cI cZ cC cJ cA P)) (D := D) (ci := 1) (x := ((M3.1 0 3) + 1)) (ty := .int) (C := RX1) (T := TX1) (N := 76) hx hb hgt iwX1 tyX1 tyX1_ok nmX1 hown hK hP hD hS 0 gY_0 rfl 3 (Nat.le_of_ble_eq_true rfl) (hgt _ wd_4_204) (fun _ h9 => h9) rfl (by decide +kernel) rfl rfl (Nat.le_of_ble_eq_true rfl) (sY_0_3 _) dX1_takeName_27 (fun M5 eM5 H locs hP hD hS => ?_)
    have h := lt_o eM5 h
    refine lv_iconst (v := 1) hx hb dX1_takeName_30 (by decide) ?_
    exact rt_z (w := (wY cI cZ cC cJ cA P)) hx hb hr hlk rfl hP hD hS h dX1_takeName_31
  · have h := br_T hc h
    refine lv_aload_n hx hb dX1_takeName_10 rfl (lv_at hl 0 rfl) ?_
    refine lv_iconst (v := 1) hx hb dX1_takeName_11 (by decide) ?_
    refine lv_aload_n hx hb dX1_takeName_12 rfl (lv_at hl 0 rfl) ?_
    refine va_get (D := D) (ci := 1) (v := .int (M3.1 0 3)) (C := RX1) (T := TX1) (N := 76) hx hb hgt iwX1 hown hK hP 0 gY_0 rfl 3 (Nat.le_of_ble_eq_true rfl) (hgt _ wd_4_204) (fun _ h9 => h9) rfl dX1_takeName_13 ?_
    obtain ⟨M5, r6, hq, h⟩ := cal_o h
    refine cx_i (va_runV (As := [.int 1, .int (M3.1 0 3)]) (rest := []) ⟨hx, hb, hml, hown, hgt⟩ (z_ChipMapModel_wrong l D cI cZ cC cJ cA P s0 hAO M3 1 (M3.1 0 3) M5 r6 hq) (cwV 2 hgt (gV wd_5_208 wd_5_210 sl__ChipMapModel____ChipMapModel___wrong____II_Z_____ChipMapModel___wrong____II_Z__ wd_0_15 wd_5_211) rfl rfl rfl (by decide +kernel) ⟨Nat.le_of_ble_eq_true rfl, Nat.le_of_ble_eq_true rfl⟩) (prV hP hK hD hO hAO hS (va_recv hK hP (ci := 1) (q0 := 0) rfl gY_0)) rfl rfl hl.1 rfl (lv_room (Nat.le_of_ble_eq_true rfl)) dX1_takeName_16 ⟨Nat.le_of_ble_eq_true rfl, Nat.le_of_ble_eq_true rfl⟩) hS (fun H locs hP hD hS => ?_)
    exact rt_z (w := (wY cI cZ cC cJ cA P)) hx hb hr hlk (bz_l h) hP hD hS (bz_r h) dX1_takeName_19
set_option maxHeartbeats 4000000 in
set_option maxRecDepth 20000 in
theorem z_ChipMapModel_takeName (l : Launch) (D : va_G) (cI cZ cC cJ cA : ClassId) (P : Nat → Nat) (s0 : State) (hAO : ∀ q, (aP P 51) q → s0.heap.size ≤ q) (M : Mm)  (M' : Mm) (r' : Int32) (h : q_ChipMapModel_takeName M = some (M', r')) : Met l yX1_takeName wsX1_takeName ({ frames := 1, cells := 0, slots := 0, locals := 22 }) (va_Pc [.ref (P 0)] (gPre s0 D [(cI, .int), (cZ, .boolean), (cC, .char), (cJ, .long), (cA, .array .int)] (aP P 51) ((wY cI cZ cC cJ cA P) M))) (gQi D (aP P 51) ((wY cI cZ cC cJ cA P) M') r') 0 0 (aP P 51) := by
  refine Met.ofW (cc := cX1_takeName) (maxL := 1) (ret := (some .boolean)) (by decide) rfl ?_
  intro p e s m args below meth c s₁ B hml hv
  obtain ⟨rfl, hP, hK, hD, hO⟩ := hv
  have hx := B.exec
  have hb := B.bytes
  have hr := B.returns
  have hlk := B.notSynchronized
  have hgt := fun w (h : w ∈ GT) => atoms_spec (ws := wsX1_takeName) B.pre w (List.mem_cons_of_mem _ h)
  have hown : s.vm.findClass RX1 = some m.cls := findClass_of_methodNamed B.named
  have hS : va_S (aP P 51) s.heap s.heap [] := va_S.rf
  have hl := lv_entry ([.ref (P 0)]) (n := 1) (Nat.le_of_ble_eq_true rfl)
  rw [lg_entry_eq]
  generalize (lg_sl ([.ref (P 0)]) ++ List.replicate (1 - (lg_sl ([.ref (P 0)])).length) Slot.unset).toArray = ls at hl ⊢
  have hl : lv_has ls 1 [(0, .ref (P 0))] := hl
  exact b_ChipMapModel_takeName_0 hx hb hml hr hlk hgt hown hK hO hAO M s.heap [] ls hl hP hD hS h
def q_ChipMapModel_takeHex_58  (M : Mm) (v1 : Int32) (v3 : Int32) : Rs := if v1 ≤ v3 then (some (M, 1)) else (cal (q_ChipMapModel_wrong M 1 (M.1 0 3)) fun M1 r2 => if r2 = 0 then (some (M1, 0)) else (some (M1, 1)))
def q_ChipMapModel_takeHex_7  : Nat → Mm → Int32 → Int32 → Int32 → Rs
  | 0, _, _, _, _ => none
  | n' + 1, M, v1, v2, v3 => if v2 ≤ v3 then (q_ChipMapModel_takeHex_58 M v1 v3) else (cal (q_ChipMapModel_here M) fun M1 r2 => cal (q_ChipMapModel_hex M1 r2) fun M3 r4 => if r4 = (-1) then (q_ChipMapModel_takeHex_58 M3 v1 v3) else (cal (q_ChipMapModel_here M3) fun M5 r6 => cal (q_ChipMapModel_hex M5 r6) fun M7 r8 => lt' (stI M7 0 (upd (M7.1 0) 70 ((16 * (M3.1 0 70)) + r8))) fun M9 => lt' (stI M9 0 (upd (M9.1 0) 3 ((M9.1 0 3) + 1))) fun M10 => q_ChipMapModel_takeHex_7 n' M10 v1 v2 (v3 + 1)))
def q_ChipMapModel_takeHex  (M : Mm) (a1 : Int32) (a2 : Int32) : Rs := lt' (stI M 0 (upd (M.1 0) 70 0)) fun M1 => q_ChipMapModel_takeHex_7 4000 M1 a1 a2 0
set_option maxHeartbeats 4000000 in
set_option maxRecDepth 20000 in
theorem b_ChipMapModel_takeHex_58 {p : Program} {l : Launch} {e : Env} {s s0 : State} {m : MethodId} {args : Array Value} {below : List Frame} {meth : Method} {c : Code} {D : va_G} {cI cZ cC cJ cA : ClassId} {P : Nat → Nat} {M' : Mm} {r' : Int32}  (hx : p.tables.exec = Jvm.exec) (hb : c.code = cX1_takeHex) (hml : c.maxLocals = 4) (hr : meth.sig.returnType = (some .boolean)) (hlk : meth.locks = false) (hgt : ∀ w ∈ GT, w.before args s = true) (hown : s.vm.findClass RX1 = some m.cls) (hK : va_K D vwCl [(cI, .int), (cZ, .boolean), (cC, .char), (cJ, .long), (cA, .array .int)] s) (hO : Old s0 s) (hAO : ∀ q, (aP P 51) q → s0.heap.size ≤ q)  : ∀ (M : Mm) (v1 : Int32) (v3 : Int32) (H : Heap) (locs : List Loc) (ls : Array Slot), lv_has ls 4 [(0, .ref (P 0)), (1, .int v1), (3, .int v3)] → va_P D vwCl ((wY cI cZ cC cJ cA P) M) H → va_D (aP P 51) ((wY cI cZ cC cJ cA P) M) → va_S (aP P 51) s.heap H locs → q_ChipMapModel_takeHex_58 M v1 v3 = some (M', r') → W p l e ({ frames := 1, cells := 0, slots := 0, locals := 22 }) s m args below meth c H locs 0 0 (MQ below (gQi D (aP P 51) ((wY cI cZ cC cJ cA P) M') r') args s 0 0 (aP P 51)) (F0 m 58 ls []) := by
  intro M v1 v3 H locs ls hl hP hD hS h
  unfold q_ChipMapModel_takeHex_58 at h
  refine lv_iload_n hx hb dX1_takeHex_58 rfl (lv_at hl 2 rfl) ?_
  refine lv_iload_n hx hb dX1_takeHex_59 rfl (lv_at hl 1 rfl) ?_
  refine lv_icmp_ge hx hb dX1_takeHex_60 (tgt := 75) rfl (fun hc => ?_) (fun hc => ?_)
  · have h := br_T hc h
    refine lv_iconst (v := 1) hx hb dX1_takeHex_75 (by decide) ?_
    refine lv_goto hx hb dX1_takeHex_76 (tgt := 80) rfl ?_
    exact rt_z (w := (wY cI cZ cC cJ cA P)) hx hb hr hlk rfl hP hD hS h dX1_takeHex_80
  · have h := br_F hc h
    refine lv_aload_n hx hb dX1_takeHex_63 rfl (lv_at hl 0 rfl) ?_
    refine lv_iconst (v := 1) hx hb dX1_takeHex_64 (by decide) ?_
    refine lv_aload_n hx hb dX1_takeHex_65 rfl (lv_at hl 0 rfl) ?_
    refine va_get (D := D) (ci := 1) (v := .int (M.1 0 3)) (C := RX1) (T := TX1) (N := 76) hx hb hgt iwX1 hown hK hP 0 gY_0 rfl 3 (Nat.le_of_ble_eq_true rfl) (hgt _ wd_4_204) (fun _ h9 => h9) rfl dX1_takeHex_66 ?_
    obtain ⟨M1, r2, hq, h⟩ := cal_o h
    refine cx_i (va_runV (As := [.int 1, .int (M.1 0 3)]) (rest := []) ⟨hx, hb, hml, hown, hgt⟩ (z_ChipMapModel_wrong l D cI cZ cC cJ cA P s0 hAO M 1 (M.1 0 3) M1 r2 hq) (cwV 2 hgt (gV wd_5_208 wd_5_210 sl__ChipMapModel____ChipMapModel___wrong____II_Z_____ChipMapModel___wrong____II_Z__ wd_0_15 wd_5_211) rfl rfl rfl (by decide +kernel) ⟨Nat.le_of_ble_eq_true rfl, Nat.le_of_ble_eq_true rfl⟩) (prV hP hK hD hO hAO hS (va_recv hK hP (ci := 1) (q0 := 0) rfl gY_0)) rfl rfl hl.1 rfl (lv_room (Nat.le_of_ble_eq_true rfl)) dX1_takeHex_69 ⟨Nat.le_of_ble_eq_true rfl, Nat.le_of_ble_eq_true rfl⟩) hS (fun H locs hP hD hS => ?_)
    refine lv_if_eq hx hb dX1_takeHex_72 (tgt := 79) rfl (fun hc => ?_) (fun hc => ?_)
    · have h := br_T hc h
      refine lv_iconst (v := 0) hx hb dX1_takeHex_79 (by decide) ?_
      exact rt_z (w := (wY cI cZ cC cJ cA P)) hx hb hr hlk rfl hP hD hS h dX1_takeHex_80
    · have h := br_F hc h
      refine lv_iconst (v := 1) hx hb dX1_takeHex_75 (by decide) ?_
      refine lv_goto hx hb dX1_takeHex_76 (tgt := 80) rfl ?_
      exact rt_z (w := (wY cI cZ cC cJ cA P)) hx hb hr hlk rfl hP hD hS h dX1_takeHex_80
set_option maxHeartbeats 4000000 in
set_option maxRecDepth 20000 in
theorem b_ChipMapModel_takeHex_7 {p : Program} {l : Launch} {e : Env} {s s0 : State} {m : MethodId} {args : Array Value} {below : List Frame} {meth : Method} {c : Code} {D : va_G} {cI cZ cC cJ cA : ClassId} {P : Nat → Nat} {M' : Mm} {r' : Int32}  (hx : p.tables.exec = Jvm.exec) (hb : c.code = cX1_takeHex) (hml : c.maxLocals = 4) (hr : meth.sig.returnType = (some .boolean)) (hlk : meth.locks = false) (hgt : ∀ w ∈ GT, w.before args s = true) (hown : s.vm.findClass RX1 = some m.cls) (hK : va_K D vwCl [(cI, .int), (cZ, .boolean), (cC, .char), (cJ, .long), (cA, .array .int)] s) (hO : Old s0 s) (hAO : ∀ q, (aP P 51) q → s0.heap.size ≤ q)  : ∀ (n' : Nat) (M : Mm) (v1 : Int32) (v2 : Int32) (v3 : Int32) (H : Heap) (locs : List Loc) (ls : Array Slot), lv_has ls 4 [(0, .ref (P 0)), (1, .int v1), (2, .int v2), (3, .int v3)] → va_P D vwCl ((wY cI cZ cC cJ cA P) M) H → va_D (aP P 51) ((wY cI cZ cC cJ cA P) M) → va_S (aP P 51) s.heap H locs → q_ChipMapModel_takeHex_7 n' M v1 v2 v3 = some (M', r') → W p l e ({ frames := 1, cells := 0, slots := 0, locals := 22 }) s m args below meth c H locs 0 0 (MQ below (gQi D (aP P 51) ((wY cI cZ cC cJ cA P) M') r') args s 0 0 (aP P 51)) (F0 m 7 ls []) := by
  intro n'
  induction n' with
  | zero => exact fun _ _ _ _ _ _ _ _ _ _ _ h => (rs_n h).elim
  | succ n' ih =>
    intro M v1 v2 v3 H locs ls hl hP hD hS h
    rw [q_ChipMapModel_takeHex_7] at h
    refine lv_iload_n hx hb dX1_takeHex_7 rfl (lv_at hl 3 rfl) ?_
    refine lv_iload_n hx hb dX1_takeHex_8 rfl (lv_at hl 2 rfl) ?_
    refine lv_icmp_ge hx hb dX1_takeHex_9 (tgt := 58) rfl (fun hc => ?_) (fun hc => ?_)
    · have h := br_T hc h
      have hl := lv_sub hl [0, 1, 3] (l' := [(0, .ref (P 0)), (1, .int v1), (3, .int v3)]) rfl
      exact b_ChipMapModel_takeHex_58 hx hb hml hr hlk hgt hown hK hO hAO M v1 v3 H _ ls hl hP hD hS h
    · have h := br_F hc h
      refine lv_aload_n hx hb dX1_takeHex_12 rfl (lv_at hl 0 rfl) ?_
      obtain ⟨M1, r2, hq, h⟩ := cal_o h
      refine cx_i (va_runV (As := []) (rest := []) ⟨hx, hb, hml, hown, hgt⟩ (z_ChipMapModel_here l D cI cZ cC cJ cA P s0 hAO M M1 r2 hq) (cwV 0 hgt (gV wd_5_216 wd_5_218 sl__ChipMapModel____ChipMapModel___here_____I_____ChipMapModel___here_____I__ wd_0_15 wd_5_219) rfl rfl rfl (by decide +kernel) ⟨Nat.le_of_ble_eq_true rfl, Nat.le_of_ble_eq_true rfl⟩) (prV hP hK hD hO hAO hS (va_recv hK hP (ci := 1) (q0 := 0) rfl gY_0)) rfl rfl hl.1 rfl (lv_room (Nat.le_of_ble_eq_true rfl)) dX1_takeHex_13 ⟨Nat.le_of_ble_eq_true rfl, Nat.le_of_ble_eq_true rfl⟩) hS (fun H locs hP hD hS => ?_)
      obtain ⟨M3, r4, hq, h⟩ := cal_o h
      refine cx_i (va_runS (As := [.int r2]) (rest := []) ⟨hx, hb, hml, hown, hgt⟩ (z_ChipMapModel_hex l D cI cZ cC cJ cA P s0 hAO M1 r2 M3 r4 hq) (va_cwS 1 hgt (gS wd_5_224 wd_5_225 wd_0_15 wd_5_226) rfl rfl rfl (by decide +kernel) ⟨Nat.le_of_ble_eq_true rfl, Nat.le_of_ble_eq_true rfl⟩) (prS hP hK hD hO hAO hS) rfl rfl hl.1 rfl (lv_room (Nat.le_of_ble_eq_true rfl)) dX1_takeHex_16 ⟨Nat.le_of_ble_eq_true rfl, Nat.le_of_ble_eq_true rfl⟩) hS (fun H locs hP hD hS => ?_)
      refine lv_iconst (v := (-1)) hx hb dX1_takeHex_19 (by decide) ?_
      refine lv_icmp_eq hx hb dX1_takeHex_20 (tgt := 58) rfl (fun hc => ?_) (fun hc => ?_)
      · have h := br_T hc h
        have hl := lv_sub hl [0, 1, 3] (l' := [(0, .ref (P 0)), (1, .int v1), (3, .int v3)]) rfl
        exact b_ChipMapModel_takeHex_58 hx hb hml hr hlk hgt hown hK hO hAO M3 v1 v3 H _ ls hl hP hD hS h
      · have h := br_F hc h
        refine lv_aload_n hx hb dX1_takeHex_23 rfl (lv_at hl 0 rfl) ?_
        refine lv_bipush (v := 16) hx hb dX1_takeHex_24 (by decide) ?_
        refine lv_aload_n hx hb dX1_takeHex_26 rfl (lv_at hl 0 rfl) ?_
        refine va_get (D := D) (ci := 1) (v := .int (M3.1 0 70)) (C := RX1) (T := TX1) (N := 76) hx hb hgt iwX1 hown hK hP 0 gY_0 rfl 70 (Nat.le_of_ble_eq_true rfl) (hgt _ wd_5_31) (fun _ h9 => h9) rfl dX1_takeHex_27 ?_
        refine lv_imul hx hb dX1_takeHex_30 ?_
        refine lv_aload_n hx hb dX1_takeHex_31 rfl (lv_at hl 0 rfl) ?_
        obtain ⟨M5, r6, hq, h⟩ := cal_o h
        refine cx_i (va_runV (As := []) (rest := [.int (16 * (M3.1 0 70)), .ref (P 0)]) ⟨hx, hb, hml, hown, hgt⟩ (z_ChipMapModel_here l D cI cZ cC cJ cA P s0 hAO M3 M5 r6 hq) (cwV 0 hgt (gV wd_5_216 wd_5_218 sl__ChipMapModel____ChipMapModel___here_____I_____ChipMapModel___here_____I__ wd_0_15 wd_5_219) rfl rfl rfl (by decide +kernel) ⟨Nat.le_of_ble_eq_true rfl, Nat.le_of_ble_eq_true rfl⟩) (prV hP hK hD hO hAO hS (va_recv hK hP (ci := 1) (q0 := 0) rfl gY_0)) rfl rfl hl.1 rfl (lv_room (Nat.le_of_ble_eq_true rfl)) dX1_takeHex_32 ⟨Nat.le_of_ble_eq_true rfl, Nat.le_of_ble_eq_true rfl⟩) hS (fun H locs hP hD hS => ?_)
        obtain ⟨M7, r8, hq, h⟩ := cal_o h
        refine cx_i (va_runS (As := [.int r6]) (rest := [.int (16 * (M3.1 0 70)), .ref (P 0)]) ⟨hx, hb, hml, hown, hgt⟩ (z_ChipMapModel_hex l D cI cZ cC cJ cA P s0 hAO M5 r6 M7 r8 hq) (va_cwS 1 hgt (gS wd_5_224 wd_5_225 wd_0_15 wd_5_226) rfl rfl rfl (by decide +kernel) ⟨Nat.le_of_ble_eq_true rfl, Nat.le_of_ble_eq_true rfl⟩) (prS hP hK hD hO hAO hS) rfl rfl hl.1 rfl (lv_room (Nat.le_of_ble_eq_true rfl)) dX1_takeHex_35 ⟨Nat.le_of_ble_eq_true rfl, Nat.le_of_ble_eq_true rfl⟩) hS (fun H locs hP hD hS => ?_)
        refine lv_iadd hx hb dX1_takeHex_38 ?_
        refine pm_put (w := (wY cI cZ cC cJ cA P)) (D := D) (ci := 1) (x := ((16 * (M3.1 0 70)) + r8)) (ty := .int) (C := RX1) (T := TX1) (N := 76) hx hb hgt iwX1 tyX1 tyX1_ok nmX1 hown hK hP hD hS 0 gY_0 rfl 70 (Nat.le_of_ble_eq_true rfl) (hgt _ wd_5_31) (fun _ h9 => h9) rfl (by decide +kernel) rfl rfl (Nat.le_of_ble_eq_true rfl) (sY_0_70 _) dX1_takeHex_39 (fun M9 eM9 H locs hP hD hS => ?_)
        have h := lt_o eM9 h
        refine lv_iinc (v := (v3 + 1)) hx hb dX1_takeHex_42 hl (k := 3) rfl rfl (Nat.le_of_ble_eq_true rfl) (lv' := [(3, .int (v3 + 1)), (0, .ref (P 0)), (1, .int v1), (2, .int v2)]) rfl (fun ls hl => ?_)
        refine lv_aload_n hx hb dX1_takeHex_45 rfl (lv_at hl 1 rfl) ?_
        refine lv_dup hx hb dX1_takeHex_46 rfl ?_
        refine va_get (D := D) (ci := 1) (v := .int (M9.1 0 3)) (C := RX1) (T := TX1) (N := 76) hx hb hgt iwX1 hown hK hP 0 gY_0 rfl 3 (Nat.le_of_ble_eq_true rfl) (hgt _ wd_4_204) (fun _ h9 => h9) rfl dX1_takeHex_47 ?_
        refine lv_iconst (v := 1) hx hb dX1_takeHex_50 (by decide) ?_
        refine lv_iadd hx hb dX1_takeHex_51 ?_
        refine pm_put (w := (wY cI cZ cC cJ cA P)) (D := D) (ci := 1) (x := ((M9.1 0 3) + 1)) (ty := .int) (C := RX1) (T := TX1) (N := 76) hx hb hgt iwX1 tyX1 tyX1_ok nmX1 hown hK hP hD hS 0 gY_0 rfl 3 (Nat.le_of_ble_eq_true rfl) (hgt _ wd_4_204) (fun _ h9 => h9) rfl (by decide +kernel) rfl rfl (Nat.le_of_ble_eq_true rfl) (sY_0_3 _) dX1_takeHex_52 (fun M10 eM10 H locs hP hD hS => ?_)
        have h := lt_o eM10 h
        refine lv_goto hx hb dX1_takeHex_55 (tgt := 7) rfl ?_
        have hl := lv_sub hl [1, 2, 3, 0] (l' := [(0, .ref (P 0)), (1, .int v1), (2, .int v2), (3, .int (v3 + 1))]) rfl
        exact ih M10 v1 v2 (v3 + 1) H locs ls hl hP hD hS h
set_option maxHeartbeats 4000000 in
set_option maxRecDepth 20000 in
theorem b_ChipMapModel_takeHex_0 {p : Program} {l : Launch} {e : Env} {s s0 : State} {m : MethodId} {args : Array Value} {below : List Frame} {meth : Method} {c : Code} {D : va_G} {cI cZ cC cJ cA : ClassId} {P : Nat → Nat} {M' : Mm} {r' : Int32}  (hx : p.tables.exec = Jvm.exec) (hb : c.code = cX1_takeHex) (hml : c.maxLocals = 4) (hr : meth.sig.returnType = (some .boolean)) (hlk : meth.locks = false) (hgt : ∀ w ∈ GT, w.before args s = true) (hown : s.vm.findClass RX1 = some m.cls) (hK : va_K D vwCl [(cI, .int), (cZ, .boolean), (cC, .char), (cJ, .long), (cA, .array .int)] s) (hO : Old s0 s) (hAO : ∀ q, (aP P 51) q → s0.heap.size ≤ q)  : ∀ (M : Mm) (a1 : Int32) (a2 : Int32) (H : Heap) (locs : List Loc) (ls : Array Slot), lv_has ls 4 [(0, .ref (P 0)), (1, .int a1), (2, .int a2)] → va_P D vwCl ((wY cI cZ cC cJ cA P) M) H → va_D (aP P 51) ((wY cI cZ cC cJ cA P) M) → va_S (aP P 51) s.heap H locs → q_ChipMapModel_takeHex M a1 a2 = some (M', r') → W p l e ({ frames := 1, cells := 0, slots := 0, locals := 22 }) s m args below meth c H locs 0 0 (MQ below (gQi D (aP P 51) ((wY cI cZ cC cJ cA P) M') r') args s 0 0 (aP P 51)) (F0 m 0 ls []) := by
  intro M a1 a2 H locs ls hl hP hD hS h
  unfold q_ChipMapModel_takeHex at h
  refine lv_iconst (v := 0) hx hb dX1_takeHex_0 (by decide) ?_
  refine lv_istore_n hx hb dX1_takeHex_1 rfl hl (Nat.le_of_ble_eq_true rfl) (lv' := [(3, .int 0), (0, .ref (P 0)), (1, .int a1), (2, .int a2)]) rfl (fun ls hl => ?_)
  refine lv_aload_n hx hb dX1_takeHex_2 rfl (lv_at hl 1 rfl) ?_
  refine lv_iconst (v := 0) hx hb dX1_takeHex_3 (by decide) ?_
  refine pm_put (w := (wY cI cZ cC cJ cA P)) (D := D) (ci := 1) (x := 0) (ty := .int) (C := RX1) (T := TX1) (N := 76) hx hb hgt iwX1 tyX1 tyX1_ok nmX1 hown hK hP hD hS 0 gY_0 rfl 70 (Nat.le_of_ble_eq_true rfl) (hgt _ wd_5_31) (fun _ h9 => h9) rfl (by decide +kernel) rfl rfl (Nat.le_of_ble_eq_true rfl) (sY_0_70 _) dX1_takeHex_4 (fun M1 eM1 H locs hP hD hS => ?_)
  have h := lt_o eM1 h
  have hl := lv_sub hl [1, 2, 3, 0] (l' := [(0, .ref (P 0)), (1, .int a1), (2, .int a2), (3, .int 0)]) rfl
  exact b_ChipMapModel_takeHex_7 hx hb hml hr hlk hgt hown hK hO hAO 4000 M1 a1 a2 0 H _ ls hl hP hD hS h
set_option maxHeartbeats 4000000 in
set_option maxRecDepth 20000 in
theorem z_ChipMapModel_takeHex (l : Launch) (D : va_G) (cI cZ cC cJ cA : ClassId) (P : Nat → Nat) (s0 : State) (hAO : ∀ q, (aP P 51) q → s0.heap.size ≤ q) (M : Mm) (a1 : Int32) (a2 : Int32) (M' : Mm) (r' : Int32) (h : q_ChipMapModel_takeHex M a1 a2 = some (M', r')) : Met l yX1_takeHex wsX1_takeHex ({ frames := 1, cells := 0, slots := 0, locals := 22 }) (va_Pc [.ref (P 0), .int a1, .int a2] (gPre s0 D [(cI, .int), (cZ, .boolean), (cC, .char), (cJ, .long), (cA, .array .int)] (aP P 51) ((wY cI cZ cC cJ cA P) M))) (gQi D (aP P 51) ((wY cI cZ cC cJ cA P) M') r') 0 0 (aP P 51) := by
  refine Met.ofW (cc := cX1_takeHex) (maxL := 4) (ret := (some .boolean)) (by decide) rfl ?_
  intro p e s m args below meth c s₁ B hml hv
  obtain ⟨rfl, hP, hK, hD, hO⟩ := hv
  have hx := B.exec
  have hb := B.bytes
  have hr := B.returns
  have hlk := B.notSynchronized
  have hgt := fun w (h : w ∈ GT) => atoms_spec (ws := wsX1_takeHex) B.pre w (List.mem_cons_of_mem _ h)
  have hown : s.vm.findClass RX1 = some m.cls := findClass_of_methodNamed B.named
  have hS : va_S (aP P 51) s.heap s.heap [] := va_S.rf
  have hl := lv_entry ([.ref (P 0), .int a1, .int a2]) (n := 4) (Nat.le_of_ble_eq_true rfl)
  rw [lg_entry_eq]
  generalize (lg_sl ([.ref (P 0), .int a1, .int a2]) ++ List.replicate (4 - (lg_sl ([.ref (P 0), .int a1, .int a2])).length) Slot.unset).toArray = ls at hl ⊢
  have hl : lv_has ls 4 [(0, .ref (P 0)), (1, .int a1), (2, .int a2)] := hl
  exact b_ChipMapModel_takeHex_0 hx hb hml hr hlk hgt hown hK hO hAO M a1 a2 s.heap [] ls hl hP hD hS h
end
section
def q_ChipMapModel_takeDecimal_65  (M : Mm) (v1 : Int32) : Rs := if 0 < v1 then (some (M, 1)) else (cal (q_ChipMapModel_wrong M 1 (M.1 0 3)) fun M1 r2 => if r2 = 0 then (some (M1, 0)) else (some (M1, 1)))
def q_ChipMapModel_takeDecimal_7  : Nat → Mm → Int32 → Rs
  | 0, _, _ => none
  | n' + 1, M, v1 => if 2 ≤ v1 then (q_ChipMapModel_takeDecimal_65 M v1) else (cal (q_ChipMapModel_here M) fun M1 r2 => if r2 < 48 then (q_ChipMapModel_takeDecimal_65 M1 v1) else (cal (q_ChipMapModel_here M1) fun M3 r4 => if 57 < r4 then (q_ChipMapModel_takeDecimal_65 M3 v1) else (cal (q_ChipMapModel_here M3) fun M5 r6 => lt' (stI M5 0 (upd (M5.1 0) 70 (((10 * (M3.1 0 70)) + r6) - 48))) fun M7 => lt' (stI M7 0 (upd (M7.1 0) 3 ((M7.1 0 3) + 1))) fun M8 => q_ChipMapModel_takeDecimal_7 n' M8 (v1 + 1))))
def q_ChipMapModel_takeDecimal  (M : Mm)  : Rs := lt' (stI M 0 (upd (M.1 0) 70 0)) fun M1 => q_ChipMapModel_takeDecimal_7 4000 M1 0
set_option maxHeartbeats 4000000 in
set_option maxRecDepth 20000 in
theorem b_ChipMapModel_takeDecimal_65 {p : Program} {l : Launch} {e : Env} {s s0 : State} {m : MethodId} {args : Array Value} {below : List Frame} {meth : Method} {c : Code} {D : va_G} {cI cZ cC cJ cA : ClassId} {P : Nat → Nat} {M' : Mm} {r' : Int32}  (hx : p.tables.exec = Jvm.exec) (hb : c.code = cX1_takeDecimal) (hml : c.maxLocals = 2) (hr : meth.sig.returnType = (some .boolean)) (hlk : meth.locks = false) (hgt : ∀ w ∈ GT, w.before args s = true) (hown : s.vm.findClass RX1 = some m.cls) (hK : va_K D vwCl [(cI, .int), (cZ, .boolean), (cC, .char), (cJ, .long), (cA, .array .int)] s) (hO : Old s0 s) (hAO : ∀ q, (aP P 51) q → s0.heap.size ≤ q)  : ∀ (M : Mm) (v1 : Int32) (H : Heap) (locs : List Loc) (ls : Array Slot), lv_has ls 2 [(0, .ref (P 0)), (1, .int v1)] → va_P D vwCl ((wY cI cZ cC cJ cA P) M) H → va_D (aP P 51) ((wY cI cZ cC cJ cA P) M) → va_S (aP P 51) s.heap H locs → q_ChipMapModel_takeDecimal_65 M v1 = some (M', r') → W p l e ({ frames := 1, cells := 0, slots := 0, locals := 22 }) s m args below meth c H locs 0 0 (MQ below (gQi D (aP P 51) ((wY cI cZ cC cJ cA P) M') r') args s 0 0 (aP P 51)) (F0 m 65 ls []) := by
  intro M v1 H locs ls hl hP hD hS h
  unfold q_ChipMapModel_takeDecimal_65 at h
  refine lv_iload_n hx hb dX1_takeDecimal_65 rfl (lv_at hl 1 rfl) ?_
  refine lv_if_gt hx hb dX1_takeDecimal_66 (tgt := 81) rfl (fun hc => ?_) (fun hc => ?_)
  · have h := br_T hc h
    refine lv_iconst (v := 1) hx hb dX1_takeDecimal_81 (by decide) ?_
    refine lv_goto hx hb dX1_takeDecimal_82 (tgt := 86) rfl ?_
    exact rt_z (w := (wY cI cZ cC cJ cA P)) hx hb hr hlk rfl hP hD hS h dX1_takeDecimal_86
  · have h := br_F hc h
    refine lv_aload_n hx hb dX1_takeDecimal_69 rfl (lv_at hl 0 rfl) ?_
    refine lv_iconst (v := 1) hx hb dX1_takeDecimal_70 (by decide) ?_
    refine lv_aload_n hx hb dX1_takeDecimal_71 rfl (lv_at hl 0 rfl) ?_
    refine va_get (D := D) (ci := 1) (v := .int (M.1 0 3)) (C := RX1) (T := TX1) (N := 76) hx hb hgt iwX1 hown hK hP 0 gY_0 rfl 3 (Nat.le_of_ble_eq_true rfl) (hgt _ wd_4_204) (fun _ h9 => h9) rfl dX1_takeDecimal_72 ?_
    obtain ⟨M1, r2, hq, h⟩ := cal_o h
    refine cx_i (va_runV (As := [.int 1, .int (M.1 0 3)]) (rest := []) ⟨hx, hb, hml, hown, hgt⟩ (z_ChipMapModel_wrong l D cI cZ cC cJ cA P s0 hAO M 1 (M.1 0 3) M1 r2 hq) (cwV 2 hgt (gV wd_5_208 wd_5_210 sl__ChipMapModel____ChipMapModel___wrong____II_Z_____ChipMapModel___wrong____II_Z__ wd_0_15 wd_5_211) rfl rfl rfl (by decide +kernel) ⟨Nat.le_of_ble_eq_true rfl, Nat.le_of_ble_eq_true rfl⟩) (prV hP hK hD hO hAO hS (va_recv hK hP (ci := 1) (q0 := 0) rfl gY_0)) rfl rfl hl.1 rfl (lv_room (Nat.le_of_ble_eq_true rfl)) dX1_takeDecimal_75 ⟨Nat.le_of_ble_eq_true rfl, Nat.le_of_ble_eq_true rfl⟩) hS (fun H locs hP hD hS => ?_)
    refine lv_if_eq hx hb dX1_takeDecimal_78 (tgt := 85) rfl (fun hc => ?_) (fun hc => ?_)
    · have h := br_T hc h
      refine lv_iconst (v := 0) hx hb dX1_takeDecimal_85 (by decide) ?_
      exact rt_z (w := (wY cI cZ cC cJ cA P)) hx hb hr hlk rfl hP hD hS h dX1_takeDecimal_86
    · have h := br_F hc h
      refine lv_iconst (v := 1) hx hb dX1_takeDecimal_81 (by decide) ?_
      refine lv_goto hx hb dX1_takeDecimal_82 (tgt := 86) rfl ?_
      exact rt_z (w := (wY cI cZ cC cJ cA P)) hx hb hr hlk rfl hP hD hS h dX1_takeDecimal_86
set_option maxHeartbeats 4000000 in
set_option maxRecDepth 20000 in
theorem b_ChipMapModel_takeDecimal_7 {p : Program} {l : Launch} {e : Env} {s s0 : State} {m : MethodId} {args : Array Value} {below : List Frame} {meth : Method} {c : Code} {D : va_G} {cI cZ cC cJ cA : ClassId} {P : Nat → Nat} {M' : Mm} {r' : Int32}  (hx : p.tables.exec = Jvm.exec) (hb : c.code = cX1_takeDecimal) (hml : c.maxLocals = 2) (hr : meth.sig.returnType = (some .boolean)) (hlk : meth.locks = false) (hgt : ∀ w ∈ GT, w.before args s = true) (hown : s.vm.findClass RX1 = some m.cls) (hK : va_K D vwCl [(cI, .int), (cZ, .boolean), (cC, .char), (cJ, .long), (cA, .array .int)] s) (hO : Old s0 s) (hAO : ∀ q, (aP P 51) q → s0.heap.size ≤ q)  : ∀ (n' : Nat) (M : Mm) (v1 : Int32) (H : Heap) (locs : List Loc) (ls : Array Slot), lv_has ls 2 [(0, .ref (P 0)), (1, .int v1)] → va_P D vwCl ((wY cI cZ cC cJ cA P) M) H → va_D (aP P 51) ((wY cI cZ cC cJ cA P) M) → va_S (aP P 51) s.heap H locs → q_ChipMapModel_takeDecimal_7 n' M v1 = some (M', r') → W p l e ({ frames := 1, cells := 0, slots := 0, locals := 22 }) s m args below meth c H locs 0 0 (MQ below (gQi D (aP P 51) ((wY cI cZ cC cJ cA P) M') r') args s 0 0 (aP P 51)) (F0 m 7 ls []) := by
  intro n'
  induction n' with
  | zero => exact fun _ _ _ _ _ _ _ _ _ h => (rs_n h).elim
  | succ n' ih =>
    intro M v1 H locs ls hl hP hD hS h
    rw [q_ChipMapModel_takeDecimal_7] at h
    refine lv_iload_n hx hb dX1_takeDecimal_7 rfl (lv_at hl 1 rfl) ?_
    refine lv_iconst (v := 2) hx hb dX1_takeDecimal_8 (by decide) ?_
    refine lv_icmp_ge hx hb dX1_takeDecimal_9 (tgt := 65) rfl (fun hc => ?_) (fun hc => ?_)
    · have h := br_T hc h
      have hl := lv_sub hl [0, 1] (l' := [(0, .ref (P 0)), (1, .int v1)]) rfl
      exact b_ChipMapModel_takeDecimal_65 hx hb hml hr hlk hgt hown hK hO hAO M v1 H _ ls hl hP hD hS h
    · have h := br_F hc h
      refine lv_aload_n hx hb dX1_takeDecimal_12 rfl (lv_at hl 0 rfl) ?_
      obtain ⟨M1, r2, hq, h⟩ := cal_o h
      refine cx_i (va_runV (As := []) (rest := []) ⟨hx, hb, hml, hown, hgt⟩ (z_ChipMapModel_here l D cI cZ cC cJ cA P s0 hAO M M1 r2 hq) (cwV 0 hgt (gV wd_5_216 wd_5_218 sl__ChipMapModel____ChipMapModel___here_____I_____ChipMapModel___here_____I__ wd_0_15 wd_5_219) rfl rfl rfl (by decide +kernel) ⟨Nat.le_of_ble_eq_true rfl, Nat.le_of_ble_eq_true rfl⟩) (prV hP hK hD hO hAO hS (va_recv hK hP (ci := 1) (q0 := 0) rfl gY_0)) rfl rfl hl.1 rfl (lv_room (Nat.le_of_ble_eq_true rfl)) dX1_takeDecimal_13 ⟨Nat.le_of_ble_eq_true rfl, Nat.le_of_ble_eq_true rfl⟩) hS (fun H locs hP hD hS => ?_)
      refine lv_bipush (v := 48) hx hb dX1_takeDecimal_16 (by decide) ?_
      refine lv_icmp_lt hx hb dX1_takeDecimal_18 (tgt := 65) rfl (fun hc => ?_) (fun hc => ?_)
      · have h := br_T hc h
        have hl := lv_sub hl [0, 1] (l' := [(0, .ref (P 0)), (1, .int v1)]) rfl
        exact b_ChipMapModel_takeDecimal_65 hx hb hml hr hlk hgt hown hK hO hAO M1 v1 H _ ls hl hP hD hS h
      · have h := br_F hc h
        refine lv_aload_n hx hb dX1_takeDecimal_21 rfl (lv_at hl 0 rfl) ?_
        obtain ⟨M3, r4, hq, h⟩ := cal_o h
        refine cx_i (va_runV (As := []) (rest := []) ⟨hx, hb, hml, hown, hgt⟩ (z_ChipMapModel_here l D cI cZ cC cJ cA P s0 hAO M1 M3 r4 hq) (cwV 0 hgt (gV wd_5_216 wd_5_218 sl__ChipMapModel____ChipMapModel___here_____I_____ChipMapModel___here_____I__ wd_0_15 wd_5_219) rfl rfl rfl (by decide +kernel) ⟨Nat.le_of_ble_eq_true rfl, Nat.le_of_ble_eq_true rfl⟩) (prV hP hK hD hO hAO hS (va_recv hK hP (ci := 1) (q0 := 0) rfl gY_0)) rfl rfl hl.1 rfl (lv_room (Nat.le_of_ble_eq_true rfl)) dX1_takeDecimal_22 ⟨Nat.le_of_ble_eq_true rfl, Nat.le_of_ble_eq_true rfl⟩) hS (fun H locs hP hD hS => ?_)
        refine lv_bipush (v := 57) hx hb dX1_takeDecimal_25 (by decide) ?_
        refine lv_icmp_gt hx hb dX1_takeDecimal_27 (tgt := 65) rfl (fun hc => ?_) (fun hc => ?_)
        · have h := br_T hc h
          have hl := lv_sub hl [0, 1] (l' := [(0, .ref (P 0)), (1, .int v1)]) rfl
          exact b_ChipMapModel_takeDecimal_65 hx hb hml hr hlk hgt hown hK hO hAO M3 v1 H _ ls hl hP hD hS h
        · have h := br_F hc h
          refine lv_aload_n hx hb dX1_takeDecimal_30 rfl (lv_at hl 0 rfl) ?_
          refine lv_bipush (v := 10) hx hb dX1_takeDecimal_31 (by decide) ?_
          refine lv_aload_n hx hb dX1_takeDecimal_33 rfl (lv_at hl 0 rfl) ?_
          refine va_get (D := D) (ci := 1) (v := .int (M3.1 0 70)) (C := RX1) (T := TX1) (N := 76) hx hb hgt iwX1 hown hK hP 0 gY_0 rfl 70 (Nat.le_of_ble_eq_true rfl) (hgt _ wd_5_31) (fun _ h9 => h9) rfl dX1_takeDecimal_34 ?_
          refine lv_imul hx hb dX1_takeDecimal_37 ?_
          refine lv_aload_n hx hb dX1_takeDecimal_38 rfl (lv_at hl 0 rfl) ?_
          obtain ⟨M5, r6, hq, h⟩ := cal_o h
          refine cx_i (va_runV (As := []) (rest := [.int (10 * (M3.1 0 70)), .ref (P 0)]) ⟨hx, hb, hml, hown, hgt⟩ (z_ChipMapModel_here l D cI cZ cC cJ cA P s0 hAO M3 M5 r6 hq) (cwV 0 hgt (gV wd_5_216 wd_5_218 sl__ChipMapModel____ChipMapModel___here_____I_____ChipMapModel___here_____I__ wd_0_15 wd_5_219) rfl rfl rfl (by decide +kernel) ⟨Nat.le_of_ble_eq_true rfl, Nat.le_of_ble_eq_true rfl⟩) (prV hP hK hD hO hAO hS (va_recv hK hP (ci := 1) (q0 := 0) rfl gY_0)) rfl rfl hl.1 rfl (lv_room (Nat.le_of_ble_eq_true rfl)) dX1_takeDecimal_39 ⟨Nat.le_of_ble_eq_true rfl, Nat.le_of_ble_eq_true rfl⟩) hS (fun H locs hP hD hS => ?_)
          refine lv_iadd hx hb dX1_takeDecimal_42 ?_
          refine lv_bipush (v := 48) hx hb dX1_takeDecimal_43 (by decide) ?_
          refine lv_isub hx hb dX1_takeDecimal_45 ?_
          refine pm_put (w := (wY cI cZ cC cJ cA P)) (D := D) (ci := 1) (x := (((10 * (M3.1 0 70)) + r6) - 48)) (ty := .int) (C := RX1) (T := TX1) (N := 76) hx hb hgt iwX1 tyX1 tyX1_ok nmX1 hown hK hP hD hS 0 gY_0 rfl 70 (Nat.le_of_ble_eq_true rfl) (hgt _ wd_5_31) (fun _ h9 => h9) rfl (by decide +kernel) rfl rfl (Nat.le_of_ble_eq_true rfl) (sY_0_70 _) dX1_takeDecimal_46 (fun M7 eM7 H locs hP hD hS => ?_)
          have h := lt_o eM7 h
          refine lv_iinc (v := (v1 + 1)) hx hb dX1_takeDecimal_49 hl (k := 1) rfl rfl (Nat.le_of_ble_eq_true rfl) (lv' := [(1, .int (v1 + 1)), (0, .ref (P 0))]) rfl (fun ls hl => ?_)
          refine lv_aload_n hx hb dX1_takeDecimal_52 rfl (lv_at hl 1 rfl) ?_
          refine lv_dup hx hb dX1_takeDecimal_53 rfl ?_
          refine va_get (D := D) (ci := 1) (v := .int (M7.1 0 3)) (C := RX1) (T := TX1) (N := 76) hx hb hgt iwX1 hown hK hP 0 gY_0 rfl 3 (Nat.le_of_ble_eq_true rfl) (hgt _ wd_4_204) (fun _ h9 => h9) rfl dX1_takeDecimal_54 ?_
          refine lv_iconst (v := 1) hx hb dX1_takeDecimal_57 (by decide) ?_
          refine lv_iadd hx hb dX1_takeDecimal_58 ?_
          refine pm_put (w := (wY cI cZ cC cJ cA P)) (D := D) (ci := 1) (x := ((M7.1 0 3) + 1)) (ty := .int) (C := RX1) (T := TX1) (N := 76) hx hb hgt iwX1 tyX1 tyX1_ok nmX1 hown hK hP hD hS 0 gY_0 rfl 3 (Nat.le_of_ble_eq_true rfl) (hgt _ wd_4_204) (fun _ h9 => h9) rfl (by decide +kernel) rfl rfl (Nat.le_of_ble_eq_true rfl) (sY_0_3 _) dX1_takeDecimal_59 (fun M8 eM8 H locs hP hD hS => ?_)
          have h := lt_o eM8 h
          refine lv_goto hx hb dX1_takeDecimal_62 (tgt := 7) rfl ?_
          have hl := lv_sub hl [1, 0] (l' := [(0, .ref (P 0)), (1, .int (v1 + 1))]) rfl
          exact ih M8 (v1 + 1) H locs ls hl hP hD hS h
set_option maxHeartbeats 4000000 in
set_option maxRecDepth 20000 in
theorem b_ChipMapModel_takeDecimal_0 {p : Program} {l : Launch} {e : Env} {s s0 : State} {m : MethodId} {args : Array Value} {below : List Frame} {meth : Method} {c : Code} {D : va_G} {cI cZ cC cJ cA : ClassId} {P : Nat → Nat} {M' : Mm} {r' : Int32}  (hx : p.tables.exec = Jvm.exec) (hb : c.code = cX1_takeDecimal) (hml : c.maxLocals = 2) (hr : meth.sig.returnType = (some .boolean)) (hlk : meth.locks = false) (hgt : ∀ w ∈ GT, w.before args s = true) (hown : s.vm.findClass RX1 = some m.cls) (hK : va_K D vwCl [(cI, .int), (cZ, .boolean), (cC, .char), (cJ, .long), (cA, .array .int)] s) (hO : Old s0 s) (hAO : ∀ q, (aP P 51) q → s0.heap.size ≤ q)  : ∀ (M : Mm)  (H : Heap) (locs : List Loc) (ls : Array Slot), lv_has ls 2 [(0, .ref (P 0))] → va_P D vwCl ((wY cI cZ cC cJ cA P) M) H → va_D (aP P 51) ((wY cI cZ cC cJ cA P) M) → va_S (aP P 51) s.heap H locs → q_ChipMapModel_takeDecimal M = some (M', r') → W p l e ({ frames := 1, cells := 0, slots := 0, locals := 22 }) s m args below meth c H locs 0 0 (MQ below (gQi D (aP P 51) ((wY cI cZ cC cJ cA P) M') r') args s 0 0 (aP P 51)) (F0 m 0 ls []) := by
  intro M H locs ls hl hP hD hS h
  unfold q_ChipMapModel_takeDecimal at h
  refine lv_iconst (v := 0) hx hb dX1_takeDecimal_0 (by decide) ?_
  refine lv_istore_n hx hb dX1_takeDecimal_1 rfl hl (Nat.le_of_ble_eq_true rfl) (lv' := [(1, .int 0), (0, .ref (P 0))]) rfl (fun ls hl => ?_)
  refine lv_aload_n hx hb dX1_takeDecimal_2 rfl (lv_at hl 1 rfl) ?_
  refine lv_iconst (v := 0) hx hb dX1_takeDecimal_3 (by decide) ?_
  refine pm_put (w := (wY cI cZ cC cJ cA P)) (D := D) (ci := 1) (x := 0) (ty := .int) (C := RX1) (T := TX1) (N := 76) hx hb hgt iwX1 tyX1 tyX1_ok nmX1 hown hK hP hD hS 0 gY_0 rfl 70 (Nat.le_of_ble_eq_true rfl) (hgt _ wd_5_31) (fun _ h9 => h9) rfl (by decide +kernel) rfl rfl (Nat.le_of_ble_eq_true rfl) (sY_0_70 _) dX1_takeDecimal_4 (fun M1 eM1 H locs hP hD hS => ?_)
  have h := lt_o eM1 h
  have hl := lv_sub hl [1, 0] (l' := [(0, .ref (P 0)), (1, .int 0)]) rfl
  exact b_ChipMapModel_takeDecimal_7 hx hb hml hr hlk hgt hown hK hO hAO 4000 M1 0 H _ ls hl hP hD hS h
set_option maxHeartbeats 4000000 in
set_option maxRecDepth 20000 in
theorem z_ChipMapModel_takeDecimal (l : Launch) (D : va_G) (cI cZ cC cJ cA : ClassId) (P : Nat → Nat) (s0 : State) (hAO : ∀ q, (aP P 51) q → s0.heap.size ≤ q) (M : Mm)  (M' : Mm) (r' : Int32) (h : q_ChipMapModel_takeDecimal M = some (M', r')) : Met l yX1_takeDecimal wsX1_takeDecimal ({ frames := 1, cells := 0, slots := 0, locals := 22 }) (va_Pc [.ref (P 0)] (gPre s0 D [(cI, .int), (cZ, .boolean), (cC, .char), (cJ, .long), (cA, .array .int)] (aP P 51) ((wY cI cZ cC cJ cA P) M))) (gQi D (aP P 51) ((wY cI cZ cC cJ cA P) M') r') 0 0 (aP P 51) := by
  refine Met.ofW (cc := cX1_takeDecimal) (maxL := 2) (ret := (some .boolean)) (by decide) rfl ?_
  intro p e s m args below meth c s₁ B hml hv
  obtain ⟨rfl, hP, hK, hD, hO⟩ := hv
  have hx := B.exec
  have hb := B.bytes
  have hr := B.returns
  have hlk := B.notSynchronized
  have hgt := fun w (h : w ∈ GT) => atoms_spec (ws := wsX1_takeDecimal) B.pre w (List.mem_cons_of_mem _ h)
  have hown : s.vm.findClass RX1 = some m.cls := findClass_of_methodNamed B.named
  have hS : va_S (aP P 51) s.heap s.heap [] := va_S.rf
  have hl := lv_entry ([.ref (P 0)]) (n := 2) (Nat.le_of_ble_eq_true rfl)
  rw [lg_entry_eq]
  generalize (lg_sl ([.ref (P 0)]) ++ List.replicate (2 - (lg_sl ([.ref (P 0)])).length) Slot.unset).toArray = ls at hl ⊢
  have hl : lv_has ls 2 [(0, .ref (P 0))] := hl
  exact b_ChipMapModel_takeDecimal_0 hx hb hml hr hlk hgt hown hK hO hAO M s.heap [] ls hl hP hD hS h
def q_ChipMapModel_isAccess  (M : Mm) (a0 : Int32) : Rs := if a0 = 119 then (some (M, 1)) else (if a0 = 114 then (some (M, 1)) else (if a0 = 111 then (some (M, 1)) else (if a0 = 99 then (some (M, 1)) else (if a0 = 116 then (some (M, 1)) else (if a0 = 115 then (some (M, 1)) else (if a0 = 112 then (some (M, 1)) else (some (M, 0))))))))
set_option maxHeartbeats 4000000 in
set_option maxRecDepth 20000 in
theorem b_ChipMapModel_isAccess_0 {p : Program} {l : Launch} {e : Env} {s s0 : State} {m : MethodId} {args : Array Value} {below : List Frame} {meth : Method} {c : Code} {D : va_G} {cI cZ cC cJ cA : ClassId} {P : Nat → Nat} {M' : Mm} {r' : Int32}  (hx : p.tables.exec = Jvm.exec) (hb : c.code = cX1_isAccess) (hml : c.maxLocals = 1) (hr : meth.sig.returnType = (some .boolean)) (hlk : meth.locks = false) (hgt : ∀ w ∈ GT, w.before args s = true) (hown : s.vm.findClass RX1 = some m.cls) (hK : va_K D vwCl [(cI, .int), (cZ, .boolean), (cC, .char), (cJ, .long), (cA, .array .int)] s) (hO : Old s0 s) (hAO : ∀ q, (aP P 51) q → s0.heap.size ≤ q)  : ∀ (M : Mm) (a0 : Int32) (H : Heap) (locs : List Loc) (ls : Array Slot), lv_has ls 1 [(0, .int a0)] → va_P D vwCl ((wY cI cZ cC cJ cA P) M) H → va_D (aP P 51) ((wY cI cZ cC cJ cA P) M) → va_S (aP P 51) s.heap H locs → q_ChipMapModel_isAccess M a0 = some (M', r') → W p l e ({ frames := 0, cells := 0, slots := 0, locals := 0 }) s m args below meth c H locs 0 0 (MQ below (gQi D (aP P 51) ((wY cI cZ cC cJ cA P) M') r') args s 0 0 (aP P 51)) (F0 m 0 ls []) := by
  intro M a0 H locs ls hl hP hD hS h
  unfold q_ChipMapModel_isAccess at h
  refine lv_iload_n hx hb dX1_isAccess_0 rfl (lv_at hl 0 rfl) ?_
  refine lv_bipush (v := 119) hx hb dX1_isAccess_1 (by decide) ?_
  refine lv_icmp_eq hx hb dX1_isAccess_3 (tgt := 42) rfl (fun hc => ?_) (fun hc => ?_)
  · have h := br_T hc h
    refine lv_iconst (v := 1) hx hb dX1_isAccess_42 (by decide) ?_
    refine lv_goto hx hb dX1_isAccess_43 (tgt := 47) rfl ?_
    exact rt_z (w := (wY cI cZ cC cJ cA P)) hx hb hr hlk rfl hP hD hS h dX1_isAccess_47
  · have h := br_F hc h
    refine lv_iload_n hx hb dX1_isAccess_6 rfl (lv_at hl 0 rfl) ?_
    refine lv_bipush (v := 114) hx hb dX1_isAccess_7 (by decide) ?_
    refine lv_icmp_eq hx hb dX1_isAccess_9 (tgt := 42) rfl (fun hc => ?_) (fun hc => ?_)
    · have h := br_T hc h
      refine lv_iconst (v := 1) hx hb dX1_isAccess_42 (by decide) ?_
      refine lv_goto hx hb dX1_isAccess_43 (tgt := 47) rfl ?_
      exact rt_z (w := (wY cI cZ cC cJ cA P)) hx hb hr hlk rfl hP hD hS h dX1_isAccess_47
    · have h := br_F hc h
      refine lv_iload_n hx hb dX1_isAccess_12 rfl (lv_at hl 0 rfl) ?_
      refine lv_bipush (v := 111) hx hb dX1_isAccess_13 (by decide) ?_
      refine lv_icmp_eq hx hb dX1_isAccess_15 (tgt := 42) rfl (fun hc => ?_) (fun hc => ?_)
      · have h := br_T hc h
        refine lv_iconst (v := 1) hx hb dX1_isAccess_42 (by decide) ?_
        refine lv_goto hx hb dX1_isAccess_43 (tgt := 47) rfl ?_
        exact rt_z (w := (wY cI cZ cC cJ cA P)) hx hb hr hlk rfl hP hD hS h dX1_isAccess_47
      · have h := br_F hc h
        refine lv_iload_n hx hb dX1_isAccess_18 rfl (lv_at hl 0 rfl) ?_
        refine lv_bipush (v := 99) hx hb dX1_isAccess_19 (by decide) ?_
        refine lv_icmp_eq hx hb dX1_isAccess_21 (tgt := 42) rfl (fun hc => ?_) (fun hc => ?_)
        · have h := br_T hc h
          refine lv_iconst (v := 1) hx hb dX1_isAccess_42 (by decide) ?_
          refine lv_goto hx hb dX1_isAccess_43 (tgt := 47) rfl ?_
          exact rt_z (w := (wY cI cZ cC cJ cA P)) hx hb hr hlk rfl hP hD hS h dX1_isAccess_47
        · have h := br_F hc h
          refine lv_iload_n hx hb dX1_isAccess_24 rfl (lv_at hl 0 rfl) ?_
          refine lv_bipush (v := 116) hx hb dX1_isAccess_25 (by decide) ?_
          refine lv_icmp_eq hx hb dX1_isAccess_27 (tgt := 42) rfl (fun hc => ?_) (fun hc => ?_)
          · have h := br_T hc h
            refine lv_iconst (v := 1) hx hb dX1_isAccess_42 (by decide) ?_
            refine lv_goto hx hb dX1_isAccess_43 (tgt := 47) rfl ?_
            exact rt_z (w := (wY cI cZ cC cJ cA P)) hx hb hr hlk rfl hP hD hS h dX1_isAccess_47
          · have h := br_F hc h
            refine lv_iload_n hx hb dX1_isAccess_30 rfl (lv_at hl 0 rfl) ?_
            refine lv_bipush (v := 115) hx hb dX1_isAccess_31 (by decide) ?_
            refine lv_icmp_eq hx hb dX1_isAccess_33 (tgt := 42) rfl (fun hc => ?_) (fun hc => ?_)
            · have h := br_T hc h
              refine lv_iconst (v := 1) hx hb dX1_isAccess_42 (by decide) ?_
              refine lv_goto hx hb dX1_isAccess_43 (tgt := 47) rfl ?_
              exact rt_z (w := (wY cI cZ cC cJ cA P)) hx hb hr hlk rfl hP hD hS h dX1_isAccess_47
            · have h := br_F hc h
              refine lv_iload_n hx hb dX1_isAccess_36 rfl (lv_at hl 0 rfl) ?_
              refine lv_bipush (v := 112) hx hb dX1_isAccess_37 (by decide) ?_
              refine lv_icmp_ne hx hb dX1_isAccess_39 (tgt := 46) rfl (fun hc => ?_) (fun hc => ?_)
              · have h := br_F hc h
                refine lv_iconst (v := 0) hx hb dX1_isAccess_46 (by decide) ?_
                exact rt_z (w := (wY cI cZ cC cJ cA P)) hx hb hr hlk rfl hP hD hS h dX1_isAccess_47
              · have h := br_T hc h
                refine lv_iconst (v := 1) hx hb dX1_isAccess_42 (by decide) ?_
                refine lv_goto hx hb dX1_isAccess_43 (tgt := 47) rfl ?_
                exact rt_z (w := (wY cI cZ cC cJ cA P)) hx hb hr hlk rfl hP hD hS h dX1_isAccess_47
set_option maxHeartbeats 4000000 in
set_option maxRecDepth 20000 in
theorem z_ChipMapModel_isAccess (l : Launch) (D : va_G) (cI cZ cC cJ cA : ClassId) (P : Nat → Nat) (s0 : State) (hAO : ∀ q, (aP P 51) q → s0.heap.size ≤ q) (M : Mm) (a0 : Int32) (M' : Mm) (r' : Int32) (h : q_ChipMapModel_isAccess M a0 = some (M', r')) : Met l yX1_isAccess wsX1_isAccess ({ frames := 0, cells := 0, slots := 0, locals := 0 }) (va_Pc [.int a0] (gPre s0 D [(cI, .int), (cZ, .boolean), (cC, .char), (cJ, .long), (cA, .array .int)] (aP P 51) ((wY cI cZ cC cJ cA P) M))) (gQi D (aP P 51) ((wY cI cZ cC cJ cA P) M') r') 0 0 (aP P 51) := by
  refine Met.ofW (cc := cX1_isAccess) (maxL := 1) (ret := (some .boolean)) (by decide) rfl ?_
  intro p e s m args below meth c s₁ B hml hv
  obtain ⟨rfl, hP, hK, hD, hO⟩ := hv
  have hx := B.exec
  have hb := B.bytes
  have hr := B.returns
  have hlk := B.notSynchronized
  have hgt := fun w (h : w ∈ GT) => atoms_spec (ws := wsX1_isAccess) B.pre w (List.mem_cons_of_mem _ h)
  have hown : s.vm.findClass RX1 = some m.cls := findClass_of_methodNamed B.named
  have hS : va_S (aP P 51) s.heap s.heap [] := va_S.rf
  have hl := lv_entry ([.int a0]) (n := 1) (Nat.le_of_ble_eq_true rfl)
  rw [lg_entry_eq]
  generalize (lg_sl ([.int a0]) ++ List.replicate (1 - (lg_sl ([.int a0])).length) Slot.unset).toArray = ls at hl ⊢
  have hl : lv_has ls 1 [(0, .int a0)] := hl
  exact b_ChipMapModel_isAccess_0 hx hb hml hr hlk hgt hown hK hO hAO M a0 s.heap [] ls hl hP hD hS h
def q_ChipMapModel_readField_181  (M : Mm)  : Rs := lt' (stI M 0 (upd (M.1 0) 12 ((M.1 0 12) + 1))) fun M1 => cal (q_ChipMapModel_take M1 59) fun M2 r3 => bz r3 (some (M2, r3))
def q_ChipMapModel_readField  (M : Mm)  : Rs := lt' (M.1 0 12) fun x1 => ix x1 140 <| lt' (stI M 13 (upd (M.1 13) (x1 : Int32).toNatClampNeg (M.1 0 3))) fun M2 => cal (q_ChipMapModel_here M2) fun M3 r4 => ix x1 140 <| lt' (stI M3 7 (upd (M3.1 7) (x1 : Int32).toNatClampNeg (r4 - 65))) fun M5 => ix x1 140 <| lt' (stI M5 12 (upd (M5.1 12) (x1 : Int32).toNatClampNeg (M5.1 0 6))) fun M6 => cal (q_ChipMapModel_takeName M6) fun M7 r8 => if r8 = 0 then (some (M7, 0)) else (cal (q_ChipMapModel_here M7) fun M9 r10 => ix x1 140 <| lt' (stI M9 8 (upd (M9.1 8) (x1 : Int32).toNatClampNeg r10)) fun M11 => cal (q_ChipMapModel_here M11) fun M12 r13 => cal (q_ChipMapModel_isAccess M12 r13) fun M14 r15 => if r15 = 0 then (cal (q_ChipMapModel_wrong M14 1 (M14.1 0 3)) fun M16 r17 => bz r17 (some (M16, r17))) else (lt' (stI M14 0 (upd (M14.1 0) 3 ((M14.1 0 3) + 1))) fun M16 => cal (q_ChipMapModel_takeDecimal M16) fun M17 r18 => if r18 = 0 then (some (M17, 0)) else (ix x1 140 <| lt' (stI M17 9 (upd (M17.1 9) (x1 : Int32).toNatClampNeg (M17.1 0 70))) fun M19 => cal (q_ChipMapModel_take M19 58) fun M20 r21 => if r21 = 0 then (some (M20, 0)) else (cal (q_ChipMapModel_takeDecimal M20) fun M22 r23 => if r23 = 0 then (some (M22, 0)) else (ix x1 140 <| lt' (stI M22 10 (upd (M22.1 10) (x1 : Int32).toNatClampNeg (M22.1 0 70))) fun M24 => ix x1 140 <| lt' (stI M24 11 (upd (M24.1 11) (x1 : Int32).toNatClampNeg 0)) fun M25 => cal (q_ChipMapModel_here M25) fun M26 r27 => if r27 = 61 then (lt' (stI M26 0 (upd (M26.1 0) 3 ((M26.1 0 3) + 1))) fun M28 => cal (q_ChipMapModel_takeHex M28 1 4) fun M29 r30 => if r30 = 0 then (some (M29, 0)) else (ix x1 140 <| lt' (stI M29 11 (upd (M29.1 11) (x1 : Int32).toNatClampNeg (M29.1 0 70))) fun M31 => q_ChipMapModel_readField_181 M31)) else (q_ChipMapModel_readField_181 M26))))))
set_option maxHeartbeats 4000000 in
set_option maxRecDepth 20000 in
theorem b_ChipMapModel_readField_181 {p : Program} {l : Launch} {e : Env} {s s0 : State} {m : MethodId} {args : Array Value} {below : List Frame} {meth : Method} {c : Code} {D : va_G} {cI cZ cC cJ cA : ClassId} {P : Nat → Nat} {M' : Mm} {r' : Int32}  (hx : p.tables.exec = Jvm.exec) (hb : c.code = cX1_readField) (hml : c.maxLocals = 2) (hr : meth.sig.returnType = (some .boolean)) (hlk : meth.locks = false) (hgt : ∀ w ∈ GT, w.before args s = true) (hown : s.vm.findClass RX1 = some m.cls) (hK : va_K D vwCl [(cI, .int), (cZ, .boolean), (cC, .char), (cJ, .long), (cA, .array .int)] s) (hO : Old s0 s) (hAO : ∀ q, (aP P 51) q → s0.heap.size ≤ q)  : ∀ (M : Mm)  (H : Heap) (locs : List Loc) (ls : Array Slot), lv_has ls 2 [(0, .ref (P 0))] → va_P D vwCl ((wY cI cZ cC cJ cA P) M) H → va_D (aP P 51) ((wY cI cZ cC cJ cA P) M) → va_S (aP P 51) s.heap H locs → q_ChipMapModel_readField_181 M = some (M', r') → W p l e ({ frames := 2, cells := 0, slots := 0, locals := 45 }) s m args below meth c H locs 0 0 (MQ below (gQi D (aP P 51) ((wY cI cZ cC cJ cA P) M') r') args s 0 0 (aP P 51)) (F0 m 181 ls []) := by
  intro M H locs ls hl hP hD hS h
  unfold q_ChipMapModel_readField_181 at h
  refine lv_aload_n hx hb dX1_readField_181 rfl (lv_at hl 0 rfl) ?_
  refine lv_dup hx hb dX1_readField_182 rfl ?_
  refine va_get (D := D) (ci := 1) (v := .int (M.1 0 12)) (C := RX1) (T := TX1) (N := 76) hx hb hgt iwX1 hown hK hP 0 gY_0 rfl 12 (Nat.le_of_ble_eq_true rfl) (hgt _ wd_4_213) (fun _ h9 => h9) rfl dX1_readField_183 ?_
  refine lv_iconst (v := 1) hx hb dX1_readField_186 (by decide) ?_
  refine lv_iadd hx hb dX1_readField_187 ?_
  refine pm_put (w := (wY cI cZ cC cJ cA P)) (D := D) (ci := 1) (x := ((M.1 0 12) + 1)) (ty := .int) (C := RX1) (T := TX1) (N := 76) hx hb hgt iwX1 tyX1 tyX1_ok nmX1 hown hK hP hD hS 0 gY_0 rfl 12 (Nat.le_of_ble_eq_true rfl) (hgt _ wd_4_213) (fun _ h9 => h9) rfl (by decide +kernel) rfl rfl (Nat.le_of_ble_eq_true rfl) (sY_0_12 _) dX1_readField_188 (fun M1 eM1 H locs hP hD hS => ?_)
  have h := lt_o eM1 h
  refine lv_aload_n hx hb dX1_readField_191 rfl (lv_at hl 0 rfl) ?_
  refine lv_bipush (v := 59) hx hb dX1_readField_192 (by decide) ?_
  obtain ⟨M2, r3, hq, h⟩ := cal_o h
  refine cx_i (va_runV (As := [.int 59]) (rest := []) ⟨hx, hb, hml, hown, hgt⟩ (z_ChipMapModel_take l D cI cZ cC cJ cA P s0 hAO M1 59 M2 r3 hq) (cwV 1 hgt (gV wd_5_212 wd_5_214 sl__ChipMapModel____ChipMapModel___take____I_Z_____ChipMapModel___take____I_Z__ wd_0_15 wd_5_215) rfl rfl rfl (by decide +kernel) ⟨Nat.le_of_ble_eq_true rfl, Nat.le_of_ble_eq_true rfl⟩) (prV hP hK hD hO hAO hS (va_recv hK hP (ci := 1) (q0 := 0) rfl gY_0)) rfl rfl hl.1 rfl (lv_room (Nat.le_of_ble_eq_true rfl)) dX1_readField_194 ⟨Nat.le_of_ble_eq_true rfl, Nat.le_of_ble_eq_true rfl⟩) hS (fun H locs hP hD hS => ?_)
  exact rt_z (w := (wY cI cZ cC cJ cA P)) hx hb hr hlk (bz_l h) hP hD hS (bz_r h) dX1_readField_197
set_option maxHeartbeats 4000000 in
set_option maxRecDepth 20000 in
theorem b_ChipMapModel_readField_0 {p : Program} {l : Launch} {e : Env} {s s0 : State} {m : MethodId} {args : Array Value} {below : List Frame} {meth : Method} {c : Code} {D : va_G} {cI cZ cC cJ cA : ClassId} {P : Nat → Nat} {M' : Mm} {r' : Int32}  (hx : p.tables.exec = Jvm.exec) (hb : c.code = cX1_readField) (hml : c.maxLocals = 2) (hr : meth.sig.returnType = (some .boolean)) (hlk : meth.locks = false) (hgt : ∀ w ∈ GT, w.before args s = true) (hown : s.vm.findClass RX1 = some m.cls) (hK : va_K D vwCl [(cI, .int), (cZ, .boolean), (cC, .char), (cJ, .long), (cA, .array .int)] s) (hO : Old s0 s) (hAO : ∀ q, (aP P 51) q → s0.heap.size ≤ q)  : ∀ (M : Mm)  (H : Heap) (locs : List Loc) (ls : Array Slot), lv_has ls 2 [(0, .ref (P 0))] → va_P D vwCl ((wY cI cZ cC cJ cA P) M) H → va_D (aP P 51) ((wY cI cZ cC cJ cA P) M) → va_S (aP P 51) s.heap H locs → q_ChipMapModel_readField M = some (M', r') → W p l e ({ frames := 2, cells := 0, slots := 0, locals := 45 }) s m args below meth c H locs 0 0 (MQ below (gQi D (aP P 51) ((wY cI cZ cC cJ cA P) M') r') args s 0 0 (aP P 51)) (F0 m 0 ls []) := by
  intro M H locs ls hl hP hD hS h
  unfold q_ChipMapModel_readField at h
  refine lv_aload_n hx hb dX1_readField_0 rfl (lv_at hl 0 rfl) ?_
  refine va_get (D := D) (ci := 1) (v := .int (M.1 0 12)) (C := RX1) (T := TX1) (N := 76) hx hb hgt iwX1 hown hK hP 0 gY_0 rfl 12 (Nat.le_of_ble_eq_true rfl) (hgt _ wd_4_213) (fun _ h9 => h9) rfl dX1_readField_1 ?_
  refine lv_topi (fun x1 ex1 => ?_)
  have h := lt_o ex1 h
  refine lv_istore_n hx hb dX1_readField_4 rfl hl (Nat.le_of_ble_eq_true rfl) (lv' := [(1, .int x1), (0, .ref (P 0))]) rfl (fun ls hl => ?_)
  refine lv_aload_n hx hb dX1_readField_5 rfl (lv_at hl 1 rfl) ?_
  refine va_get (D := D) (ci := 1) (v := .ref (P 13)) (C := RX1) (T := TX1) (N := 76) hx hb hgt iwX1 hown hK hP 0 gY_0 rfl 19 (Nat.le_of_ble_eq_true rfl) (hgt _ wd_4_220) (fun _ h9 => h9) rfl dX1_readField_6 ?_
  refine lv_iload_n hx hb dX1_readField_9 rfl (lv_at hl 0 rfl) ?_
  refine lv_aload_n hx hb dX1_readField_10 rfl (lv_at hl 1 rfl) ?_
  refine va_get (D := D) (ci := 1) (v := .int (M.1 0 3)) (C := RX1) (T := TX1) (N := 76) hx hb hgt iwX1 hown hK hP 0 gY_0 rfl 3 (Nat.le_of_ble_eq_true rfl) (hgt _ wd_4_204) (fun _ h9 => h9) rfl dX1_readField_11 ?_
  refine pm_iast (w := (wY cI cZ cC cJ cA P)) hx hb hK hP hD hS 13 0 gY_13 rfl sY_13 (ix_l h) dX1_readField_14 (fun M2 eM2 H locs hP hD hS => ?_)
  have h := ix_r h
  have h := lt_o eM2 h
  refine lv_aload_n hx hb dX1_readField_15 rfl (lv_at hl 1 rfl) ?_
  refine va_get (D := D) (ci := 1) (v := .ref (P 7)) (C := RX1) (T := TX1) (N := 76) hx hb hgt iwX1 hown hK hP 0 gY_0 rfl 13 (Nat.le_of_ble_eq_true rfl) (hgt _ wd_4_214) (fun _ h9 => h9) rfl dX1_readField_16 ?_
  refine lv_iload_n hx hb dX1_readField_19 rfl (lv_at hl 0 rfl) ?_
  refine lv_aload_n hx hb dX1_readField_20 rfl (lv_at hl 1 rfl) ?_
  obtain ⟨M3, r4, hq, h⟩ := cal_o h
  refine cx_i (va_runV (As := []) (rest := [.int x1, .ref (P 7)]) ⟨hx, hb, hml, hown, hgt⟩ (z_ChipMapModel_here l D cI cZ cC cJ cA P s0 hAO M2 M3 r4 hq) (cwV 0 hgt (gV wd_5_216 wd_5_218 sl__ChipMapModel____ChipMapModel___here_____I_____ChipMapModel___here_____I__ wd_0_15 wd_5_219) rfl rfl rfl (by decide +kernel) ⟨Nat.le_of_ble_eq_true rfl, Nat.le_of_ble_eq_true rfl⟩) (prV hP hK hD hO hAO hS (va_recv hK hP (ci := 1) (q0 := 0) rfl gY_0)) rfl rfl hl.1 rfl (lv_room (Nat.le_of_ble_eq_true rfl)) dX1_readField_21 ⟨Nat.le_of_ble_eq_true rfl, Nat.le_of_ble_eq_true rfl⟩) hS (fun H locs hP hD hS => ?_)
  refine lv_bipush (v := 65) hx hb dX1_readField_24 (by decide) ?_
  refine lv_isub hx hb dX1_readField_26 ?_
  refine pm_iast (w := (wY cI cZ cC cJ cA P)) hx hb hK hP hD hS 7 0 gY_7 rfl sY_7 (ix_l h) dX1_readField_27 (fun M5 eM5 H locs hP hD hS => ?_)
  have h := ix_r h
  have h := lt_o eM5 h
  refine lv_aload_n hx hb dX1_readField_28 rfl (lv_at hl 1 rfl) ?_
  refine va_get (D := D) (ci := 1) (v := .ref (P 12)) (C := RX1) (T := TX1) (N := 76) hx hb hgt iwX1 hown hK hP 0 gY_0 rfl 18 (Nat.le_of_ble_eq_true rfl) (hgt _ wd_4_219) (fun _ h9 => h9) rfl dX1_readField_29 ?_
  refine lv_iload_n hx hb dX1_readField_32 rfl (lv_at hl 0 rfl) ?_
  refine lv_aload_n hx hb dX1_readField_33 rfl (lv_at hl 1 rfl) ?_
  refine va_get (D := D) (ci := 1) (v := .int (M5.1 0 6)) (C := RX1) (T := TX1) (N := 76) hx hb hgt iwX1 hown hK hP 0 gY_0 rfl 6 (Nat.le_of_ble_eq_true rfl) (hgt _ wd_4_207) (fun _ h9 => h9) rfl dX1_readField_34 ?_
  refine pm_iast (w := (wY cI cZ cC cJ cA P)) hx hb hK hP hD hS 12 0 gY_12 rfl sY_12 (ix_l h) dX1_readField_37 (fun M6 eM6 H locs hP hD hS => ?_)
  have h := ix_r h
  have h := lt_o eM6 h
  refine lv_aload_n hx hb dX1_readField_38 rfl (lv_at hl 1 rfl) ?_
  obtain ⟨M7, r8, hq, h⟩ := cal_o h
  refine cx_i (va_runV (As := []) (rest := []) ⟨hx, hb, hml, hown, hgt⟩ (z_ChipMapModel_takeName l D cI cZ cC cJ cA P s0 hAO M6 M7 r8 hq) (cwV 0 hgt (gV wd_5_227 wd_5_229 sl__ChipMapModel____ChipMapModel___takeName_____Z_____ChipMapModel___takeName_____Z__ wd_0_15 wd_5_230) rfl rfl rfl (by decide +kernel) ⟨Nat.le_of_ble_eq_true rfl, Nat.le_of_ble_eq_true rfl⟩) (prV hP hK hD hO hAO hS (va_recv hK hP (ci := 1) (q0 := 0) rfl gY_0)) rfl rfl hl.1 rfl (lv_room (Nat.le_of_ble_eq_true rfl)) dX1_readField_39 ⟨Nat.le_of_ble_eq_true rfl, Nat.le_of_ble_eq_true rfl⟩) hS (fun H locs hP hD hS => ?_)
  refine lv_if_ne hx hb dX1_readField_42 (tgt := 47) rfl (fun hc => ?_) (fun hc => ?_)
  · have h := br_F hc h
    refine lv_aload_n hx hb dX1_readField_47 rfl (lv_at hl 1 rfl) ?_
    refine va_get (D := D) (ci := 1) (v := .ref (P 8)) (C := RX1) (T := TX1) (N := 76) hx hb hgt iwX1 hown hK hP 0 gY_0 rfl 14 (Nat.le_of_ble_eq_true rfl) (hgt _ wd_4_215) (fun _ h9 => h9) rfl dX1_readField_48 ?_
    refine lv_iload_n hx hb dX1_readField_51 rfl (lv_at hl 0 rfl) ?_
    refine lv_aload_n hx hb dX1_readField_52 rfl (lv_at hl 1 rfl) ?_
    obtain ⟨M9, r10, hq, h⟩ := cal_o h
    refine cx_i (va_runV (As := []) (rest := [.int x1, .ref (P 8)]) ⟨hx, hb, hml, hown, hgt⟩ (z_ChipMapModel_here l D cI cZ cC cJ cA P s0 hAO M7 M9 r10 hq) (cwV 0 hgt (gV wd_5_216 wd_5_218 sl__ChipMapModel____ChipMapModel___here_____I_____ChipMapModel___here_____I__ wd_0_15 wd_5_219) rfl rfl rfl (by decide +kernel) ⟨Nat.le_of_ble_eq_true rfl, Nat.le_of_ble_eq_true rfl⟩) (prV hP hK hD hO hAO hS (va_recv hK hP (ci := 1) (q0 := 0) rfl gY_0)) rfl rfl hl.1 rfl (lv_room (Nat.le_of_ble_eq_true rfl)) dX1_readField_53 ⟨Nat.le_of_ble_eq_true rfl, Nat.le_of_ble_eq_true rfl⟩) hS (fun H locs hP hD hS => ?_)
    refine pm_iast (w := (wY cI cZ cC cJ cA P)) hx hb hK hP hD hS 8 0 gY_8 rfl sY_8 (ix_l h) dX1_readField_56 (fun M11 eM11 H locs hP hD hS => ?_)
    have h := ix_r h
    have h := lt_o eM11 h
    refine lv_aload_n hx hb dX1_readField_57 rfl (lv_at hl 1 rfl) ?_
    obtain ⟨M12, r13, hq, h⟩ := cal_o h
    refine cx_i (va_runV (As := []) (rest := []) ⟨hx, hb, hml, hown, hgt⟩ (z_ChipMapModel_here l D cI cZ cC cJ cA P s0 hAO M11 M12 r13 hq) (cwV 0 hgt (gV wd_5_216 wd_5_218 sl__ChipMapModel____ChipMapModel___here_____I_____ChipMapModel___here_____I__ wd_0_15 wd_5_219) rfl rfl rfl (by decide +kernel) ⟨Nat.le_of_ble_eq_true rfl, Nat.le_of_ble_eq_true rfl⟩) (prV hP hK hD hO hAO hS (va_recv hK hP (ci := 1) (q0 := 0) rfl gY_0)) rfl rfl hl.1 rfl (lv_room (Nat.le_of_ble_eq_true rfl)) dX1_readField_58 ⟨Nat.le_of_ble_eq_true rfl, Nat.le_of_ble_eq_true rfl⟩) hS (fun H locs hP hD hS => ?_)
    obtain ⟨M14, r15, hq, h⟩ := cal_o h
    refine cx_i (va_runS (As := [.int r13]) (rest := []) ⟨hx, hb, hml, hown, hgt⟩ (z_ChipMapModel_isAccess l D cI cZ cC cJ cA P s0 hAO M12 r13 M14 r15 hq) (va_cwS 1 hgt (gS wd_5_238 wd_5_239 wd_0_15 wd_6_0) rfl rfl rfl (by decide +kernel) ⟨Nat.le_of_ble_eq_true rfl, Nat.le_of_ble_eq_true rfl⟩) (prS hP hK hD hO hAO hS) rfl rfl hl.1 rfl (lv_room (Nat.le_of_ble_eq_true rfl)) dX1_readField_61 ⟨Nat.le_of_ble_eq_true rfl, Nat.le_of_ble_eq_true rfl⟩) hS (fun H locs hP hD hS => ?_)
    refine lv_if_ne hx hb dX1_readField_64 (tgt := 77) rfl (fun hc => ?_) (fun hc => ?_)
    · have h := br_F hc h
      refine lv_aload_n hx hb dX1_readField_77 rfl (lv_at hl 1 rfl) ?_
      refine lv_dup hx hb dX1_readField_78 rfl ?_
      refine va_get (D := D) (ci := 1) (v := .int (M14.1 0 3)) (C := RX1) (T := TX1) (N := 76) hx hb hgt iwX1 hown hK hP 0 gY_0 rfl 3 (Nat.le_of_ble_eq_true rfl) (hgt _ wd_4_204) (fun _ h9 => h9) rfl dX1_readField_79 ?_
      refine lv_iconst (v := 1) hx hb dX1_readField_82 (by decide) ?_
      refine lv_iadd hx hb dX1_readField_83 ?_
      refine pm_put (w := (wY cI cZ cC cJ cA P)) (D := D) (ci := 1) (x := ((M14.1 0 3) + 1)) (ty := .int) (C := RX1) (T := TX1) (N := 76) hx hb hgt iwX1 tyX1 tyX1_ok nmX1 hown hK hP hD hS 0 gY_0 rfl 3 (Nat.le_of_ble_eq_true rfl) (hgt _ wd_4_204) (fun _ h9 => h9) rfl (by decide +kernel) rfl rfl (Nat.le_of_ble_eq_true rfl) (sY_0_3 _) dX1_readField_84 (fun M16 eM16 H locs hP hD hS => ?_)
      have h := lt_o eM16 h
      refine lv_aload_n hx hb dX1_readField_87 rfl (lv_at hl 1 rfl) ?_
      obtain ⟨M17, r18, hq, h⟩ := cal_o h
      refine cx_i (va_runV (As := []) (rest := []) ⟨hx, hb, hml, hown, hgt⟩ (z_ChipMapModel_takeDecimal l D cI cZ cC cJ cA P s0 hAO M16 M17 r18 hq) (cwV 0 hgt (gV wd_6_1 wd_6_3 sl__ChipMapModel____ChipMapModel___takeDecimal_____Z_____ChipMapModel___takeDecimal_____Z__ wd_0_15 wd_6_4) rfl rfl rfl (by decide +kernel) ⟨Nat.le_of_ble_eq_true rfl, Nat.le_of_ble_eq_true rfl⟩) (prV hP hK hD hO hAO hS (va_recv hK hP (ci := 1) (q0 := 0) rfl gY_0)) rfl rfl hl.1 rfl (lv_room (Nat.le_of_ble_eq_true rfl)) dX1_readField_88 ⟨Nat.le_of_ble_eq_true rfl, Nat.le_of_ble_eq_true rfl⟩) hS (fun H locs hP hD hS => ?_)
      refine lv_if_ne hx hb dX1_readField_91 (tgt := 96) rfl (fun hc => ?_) (fun hc => ?_)
      · have h := br_F hc h
        refine lv_aload_n hx hb dX1_readField_96 rfl (lv_at hl 1 rfl) ?_
        refine va_get (D := D) (ci := 1) (v := .ref (P 9)) (C := RX1) (T := TX1) (N := 76) hx hb hgt iwX1 hown hK hP 0 gY_0 rfl 15 (Nat.le_of_ble_eq_true rfl) (hgt _ wd_4_216) (fun _ h9 => h9) rfl dX1_readField_97 ?_
        refine lv_iload_n hx hb dX1_readField_100 rfl (lv_at hl 0 rfl) ?_
        refine lv_aload_n hx hb dX1_readField_101 rfl (lv_at hl 1 rfl) ?_
        refine va_get (D := D) (ci := 1) (v := .int (M17.1 0 70)) (C := RX1) (T := TX1) (N := 76) hx hb hgt iwX1 hown hK hP 0 gY_0 rfl 70 (Nat.le_of_ble_eq_true rfl) (hgt _ wd_5_31) (fun _ h9 => h9) rfl dX1_readField_102 ?_
        refine pm_iast (w := (wY cI cZ cC cJ cA P)) hx hb hK hP hD hS 9 0 gY_9 rfl sY_9 (ix_l h) dX1_readField_105 (fun M19 eM19 H locs hP hD hS => ?_)
        have h := ix_r h
        have h := lt_o eM19 h
        refine lv_aload_n hx hb dX1_readField_106 rfl (lv_at hl 1 rfl) ?_
        refine lv_bipush (v := 58) hx hb dX1_readField_107 (by decide) ?_
        obtain ⟨M20, r21, hq, h⟩ := cal_o h
        refine cx_i (va_runV (As := [.int 58]) (rest := []) ⟨hx, hb, hml, hown, hgt⟩ (z_ChipMapModel_take l D cI cZ cC cJ cA P s0 hAO M19 58 M20 r21 hq) (cwV 1 hgt (gV wd_5_212 wd_5_214 sl__ChipMapModel____ChipMapModel___take____I_Z_____ChipMapModel___take____I_Z__ wd_0_15 wd_5_215) rfl rfl rfl (by decide +kernel) ⟨Nat.le_of_ble_eq_true rfl, Nat.le_of_ble_eq_true rfl⟩) (prV hP hK hD hO hAO hS (va_recv hK hP (ci := 1) (q0 := 0) rfl gY_0)) rfl rfl hl.1 rfl (lv_room (Nat.le_of_ble_eq_true rfl)) dX1_readField_109 ⟨Nat.le_of_ble_eq_true rfl, Nat.le_of_ble_eq_true rfl⟩) hS (fun H locs hP hD hS => ?_)
        refine lv_if_eq hx hb dX1_readField_112 (tgt := 122) rfl (fun hc => ?_) (fun hc => ?_)
        · have h := br_T hc h
          refine lv_iconst (v := 0) hx hb dX1_readField_122 (by decide) ?_
          exact rt_z (w := (wY cI cZ cC cJ cA P)) hx hb hr hlk rfl hP hD hS h dX1_readField_123
        · have h := br_F hc h
          refine lv_aload_n hx hb dX1_readField_115 rfl (lv_at hl 1 rfl) ?_
          obtain ⟨M22, r23, hq, h⟩ := cal_o h
          refine cx_i (va_runV (As := []) (rest := []) ⟨hx, hb, hml, hown, hgt⟩ (z_ChipMapModel_takeDecimal l D cI cZ cC cJ cA P s0 hAO M20 M22 r23 hq) (cwV 0 hgt (gV wd_6_1 wd_6_3 sl__ChipMapModel____ChipMapModel___takeDecimal_____Z_____ChipMapModel___takeDecimal_____Z__ wd_0_15 wd_6_4) rfl rfl rfl (by decide +kernel) ⟨Nat.le_of_ble_eq_true rfl, Nat.le_of_ble_eq_true rfl⟩) (prV hP hK hD hO hAO hS (va_recv hK hP (ci := 1) (q0 := 0) rfl gY_0)) rfl rfl hl.1 rfl (lv_room (Nat.le_of_ble_eq_true rfl)) dX1_readField_116 ⟨Nat.le_of_ble_eq_true rfl, Nat.le_of_ble_eq_true rfl⟩) hS (fun H locs hP hD hS => ?_)
          refine lv_if_ne hx hb dX1_readField_119 (tgt := 124) rfl (fun hc => ?_) (fun hc => ?_)
          · have h := br_F hc h
            refine lv_aload_n hx hb dX1_readField_124 rfl (lv_at hl 1 rfl) ?_
            refine va_get (D := D) (ci := 1) (v := .ref (P 10)) (C := RX1) (T := TX1) (N := 76) hx hb hgt iwX1 hown hK hP 0 gY_0 rfl 16 (Nat.le_of_ble_eq_true rfl) (hgt _ wd_4_217) (fun _ h9 => h9) rfl dX1_readField_125 ?_
            refine lv_iload_n hx hb dX1_readField_128 rfl (lv_at hl 0 rfl) ?_
            refine lv_aload_n hx hb dX1_readField_129 rfl (lv_at hl 1 rfl) ?_
            refine va_get (D := D) (ci := 1) (v := .int (M22.1 0 70)) (C := RX1) (T := TX1) (N := 76) hx hb hgt iwX1 hown hK hP 0 gY_0 rfl 70 (Nat.le_of_ble_eq_true rfl) (hgt _ wd_5_31) (fun _ h9 => h9) rfl dX1_readField_130 ?_
            refine pm_iast (w := (wY cI cZ cC cJ cA P)) hx hb hK hP hD hS 10 0 gY_10 rfl sY_10 (ix_l h) dX1_readField_133 (fun M24 eM24 H locs hP hD hS => ?_)
            have h := ix_r h
            have h := lt_o eM24 h
            refine lv_aload_n hx hb dX1_readField_134 rfl (lv_at hl 1 rfl) ?_
            refine va_get (D := D) (ci := 1) (v := .ref (P 11)) (C := RX1) (T := TX1) (N := 76) hx hb hgt iwX1 hown hK hP 0 gY_0 rfl 17 (Nat.le_of_ble_eq_true rfl) (hgt _ wd_4_218) (fun _ h9 => h9) rfl dX1_readField_135 ?_
            refine lv_iload_n hx hb dX1_readField_138 rfl (lv_at hl 0 rfl) ?_
            refine lv_iconst (v := 0) hx hb dX1_readField_139 (by decide) ?_
            refine pm_iast (w := (wY cI cZ cC cJ cA P)) hx hb hK hP hD hS 11 0 gY_11 rfl sY_11 (ix_l h) dX1_readField_140 (fun M25 eM25 H locs hP hD hS => ?_)
            have h := ix_r h
            have h := lt_o eM25 h
            refine lv_aload_n hx hb dX1_readField_141 rfl (lv_at hl 1 rfl) ?_
            obtain ⟨M26, r27, hq, h⟩ := cal_o h
            refine cx_i (va_runV (As := []) (rest := []) ⟨hx, hb, hml, hown, hgt⟩ (z_ChipMapModel_here l D cI cZ cC cJ cA P s0 hAO M25 M26 r27 hq) (cwV 0 hgt (gV wd_5_216 wd_5_218 sl__ChipMapModel____ChipMapModel___here_____I_____ChipMapModel___here_____I__ wd_0_15 wd_5_219) rfl rfl rfl (by decide +kernel) ⟨Nat.le_of_ble_eq_true rfl, Nat.le_of_ble_eq_true rfl⟩) (prV hP hK hD hO hAO hS (va_recv hK hP (ci := 1) (q0 := 0) rfl gY_0)) rfl rfl hl.1 rfl (lv_room (Nat.le_of_ble_eq_true rfl)) dX1_readField_142 ⟨Nat.le_of_ble_eq_true rfl, Nat.le_of_ble_eq_true rfl⟩) hS (fun H locs hP hD hS => ?_)
            refine lv_bipush (v := 61) hx hb dX1_readField_145 (by decide) ?_
            refine lv_icmp_ne hx hb dX1_readField_147 (tgt := 181) rfl (fun hc => ?_) (fun hc => ?_)
            · have h := br_F hc h
              have hl := lv_sub hl [1] (l' := [(0, .ref (P 0))]) rfl
              exact b_ChipMapModel_readField_181 hx hb hml hr hlk hgt hown hK hO hAO M26 H _ ls hl hP hD hS h
            · have h := br_T hc h
              refine lv_aload_n hx hb dX1_readField_150 rfl (lv_at hl 1 rfl) ?_
              refine lv_dup hx hb dX1_readField_151 rfl ?_
              refine va_get (D := D) (ci := 1) (v := .int (M26.1 0 3)) (C := RX1) (T := TX1) (N := 76) hx hb hgt iwX1 hown hK hP 0 gY_0 rfl 3 (Nat.le_of_ble_eq_true rfl) (hgt _ wd_4_204) (fun _ h9 => h9) rfl dX1_readField_152 ?_
              refine lv_iconst (v := 1) hx hb dX1_readField_155 (by decide) ?_
              refine lv_iadd hx hb dX1_readField_156 ?_
              refine pm_put (w := (wY cI cZ cC cJ cA P)) (D := D) (ci := 1) (x := ((M26.1 0 3) + 1)) (ty := .int) (C := RX1) (T := TX1) (N := 76) hx hb hgt iwX1 tyX1 tyX1_ok nmX1 hown hK hP hD hS 0 gY_0 rfl 3 (Nat.le_of_ble_eq_true rfl) (hgt _ wd_4_204) (fun _ h9 => h9) rfl (by decide +kernel) rfl rfl (Nat.le_of_ble_eq_true rfl) (sY_0_3 _) dX1_readField_157 (fun M28 eM28 H locs hP hD hS => ?_)
              have h := lt_o eM28 h
              refine lv_aload_n hx hb dX1_readField_160 rfl (lv_at hl 1 rfl) ?_
              refine lv_iconst (v := 1) hx hb dX1_readField_161 (by decide) ?_
              refine lv_iconst (v := 4) hx hb dX1_readField_162 (by decide) ?_
              obtain ⟨M29, r30, hq, h⟩ := cal_o h
              refine cx_i (va_runV (As := [.int 1, .int 4]) (rest := []) ⟨hx, hb, hml, hown, hgt⟩ (z_ChipMapModel_takeHex l D cI cZ cC cJ cA P s0 hAO M28 1 4 M29 r30 hq) (cwV 2 hgt (gV wd_5_220 wd_5_222 sl__ChipMapModel____ChipMapModel___takeHex____II_Z_____ChipMapModel___takeHex____II_Z__ wd_0_15 wd_5_223) rfl rfl rfl (by decide +kernel) ⟨Nat.le_of_ble_eq_true rfl, Nat.le_of_ble_eq_true rfl⟩) (prV hP hK hD hO hAO hS (va_recv hK hP (ci := 1) (q0 := 0) rfl gY_0)) rfl rfl hl.1 rfl (lv_room (Nat.le_of_ble_eq_true rfl)) dX1_readField_163 ⟨Nat.le_of_ble_eq_true rfl, Nat.le_of_ble_eq_true rfl⟩) hS (fun H locs hP hD hS => ?_)
              refine lv_if_ne hx hb dX1_readField_166 (tgt := 171) rfl (fun hc => ?_) (fun hc => ?_)
              · have h := br_F hc h
                refine lv_aload_n hx hb dX1_readField_171 rfl (lv_at hl 1 rfl) ?_
                refine va_get (D := D) (ci := 1) (v := .ref (P 11)) (C := RX1) (T := TX1) (N := 76) hx hb hgt iwX1 hown hK hP 0 gY_0 rfl 17 (Nat.le_of_ble_eq_true rfl) (hgt _ wd_4_218) (fun _ h9 => h9) rfl dX1_readField_172 ?_
                refine lv_iload_n hx hb dX1_readField_175 rfl (lv_at hl 0 rfl) ?_
                refine lv_aload_n hx hb dX1_readField_176 rfl (lv_at hl 1 rfl) ?_
                refine va_get (D := D) (ci := 1) (v := .int (M29.1 0 70)) (C := RX1) (T := TX1) (N := 76) hx hb hgt iwX1 hown hK hP 0 gY_0 rfl 70 (Nat.le_of_ble_eq_true rfl) (hgt _ wd_5_31) (fun _ h9 => h9) rfl dX1_readField_177 ?_
                refine pm_iast (w := (wY cI cZ cC cJ cA P)) hx hb hK hP hD hS 11 0 gY_11 rfl sY_11 (ix_l h) dX1_readField_180 (fun M31 eM31 H locs hP hD hS => ?_)
                have h := ix_r h
                have h := lt_o eM31 h
                have hl := lv_sub hl [1] (l' := [(0, .ref (P 0))]) rfl
                exact b_ChipMapModel_readField_181 hx hb hml hr hlk hgt hown hK hO hAO M31 H _ ls hl hP hD hS h
              · have h := br_T hc h
                refine lv_iconst (v := 0) hx hb dX1_readField_169 (by decide) ?_
                exact rt_z (w := (wY cI cZ cC cJ cA P)) hx hb hr hlk rfl hP hD hS h dX1_readField_170
          · have h := br_T hc h
            refine lv_iconst (v := 0) hx hb dX1_readField_122 (by decide) ?_
            exact rt_z (w := (wY cI cZ cC cJ cA P)) hx hb hr hlk rfl hP hD hS h dX1_readField_123
      · have h := br_T hc h
        refine lv_iconst (v := 0) hx hb dX1_readField_94 (by decide) ?_
        exact rt_z (w := (wY cI cZ cC cJ cA P)) hx hb hr hlk rfl hP hD hS h dX1_readField_95
    · have h := br_T hc h
      refine lv_aload_n hx hb dX1_readField_67 rfl (lv_at hl 1 rfl) ?_
      refine lv_iconst (v := 1) hx hb dX1_readField_68 (by decide) ?_
      refine lv_aload_n hx hb dX1_readField_69 rfl (lv_at hl 1 rfl) ?_
      refine va_get (D := D) (ci := 1) (v := .int (M14.1 0 3)) (C := RX1) (T := TX1) (N := 76) hx hb hgt iwX1 hown hK hP 0 gY_0 rfl 3 (Nat.le_of_ble_eq_true rfl) (hgt _ wd_4_204) (fun _ h9 => h9) rfl dX1_readField_70 ?_
      obtain ⟨M16, r17, hq, h⟩ := cal_o h
      refine cx_i (va_runV (As := [.int 1, .int (M14.1 0 3)]) (rest := []) ⟨hx, hb, hml, hown, hgt⟩ (z_ChipMapModel_wrong l D cI cZ cC cJ cA P s0 hAO M14 1 (M14.1 0 3) M16 r17 hq) (cwV 2 hgt (gV wd_5_208 wd_5_210 sl__ChipMapModel____ChipMapModel___wrong____II_Z_____ChipMapModel___wrong____II_Z__ wd_0_15 wd_5_211) rfl rfl rfl (by decide +kernel) ⟨Nat.le_of_ble_eq_true rfl, Nat.le_of_ble_eq_true rfl⟩) (prV hP hK hD hO hAO hS (va_recv hK hP (ci := 1) (q0 := 0) rfl gY_0)) rfl rfl hl.1 rfl (lv_room (Nat.le_of_ble_eq_true rfl)) dX1_readField_73 ⟨Nat.le_of_ble_eq_true rfl, Nat.le_of_ble_eq_true rfl⟩) hS (fun H locs hP hD hS => ?_)
      exact rt_z (w := (wY cI cZ cC cJ cA P)) hx hb hr hlk (bz_l h) hP hD hS (bz_r h) dX1_readField_76
  · have h := br_T hc h
    refine lv_iconst (v := 0) hx hb dX1_readField_45 (by decide) ?_
    exact rt_z (w := (wY cI cZ cC cJ cA P)) hx hb hr hlk rfl hP hD hS h dX1_readField_46
set_option maxHeartbeats 4000000 in
set_option maxRecDepth 20000 in
theorem z_ChipMapModel_readField (l : Launch) (D : va_G) (cI cZ cC cJ cA : ClassId) (P : Nat → Nat) (s0 : State) (hAO : ∀ q, (aP P 51) q → s0.heap.size ≤ q) (M : Mm)  (M' : Mm) (r' : Int32) (h : q_ChipMapModel_readField M = some (M', r')) : Met l yX1_readField wsX1_readField ({ frames := 2, cells := 0, slots := 0, locals := 45 }) (va_Pc [.ref (P 0)] (gPre s0 D [(cI, .int), (cZ, .boolean), (cC, .char), (cJ, .long), (cA, .array .int)] (aP P 51) ((wY cI cZ cC cJ cA P) M))) (gQi D (aP P 51) ((wY cI cZ cC cJ cA P) M') r') 0 0 (aP P 51) := by
  refine Met.ofW (cc := cX1_readField) (maxL := 2) (ret := (some .boolean)) (by decide) rfl ?_
  intro p e s m args below meth c s₁ B hml hv
  obtain ⟨rfl, hP, hK, hD, hO⟩ := hv
  have hx := B.exec
  have hb := B.bytes
  have hr := B.returns
  have hlk := B.notSynchronized
  have hgt := fun w (h : w ∈ GT) => atoms_spec (ws := wsX1_readField) B.pre w (List.mem_cons_of_mem _ h)
  have hown : s.vm.findClass RX1 = some m.cls := findClass_of_methodNamed B.named
  have hS : va_S (aP P 51) s.heap s.heap [] := va_S.rf
  have hl := lv_entry ([.ref (P 0)]) (n := 2) (Nat.le_of_ble_eq_true rfl)
  rw [lg_entry_eq]
  generalize (lg_sl ([.ref (P 0)]) ++ List.replicate (2 - (lg_sl ([.ref (P 0)])).length) Slot.unset).toArray = ls at hl ⊢
  have hl : lv_has ls 2 [(0, .ref (P 0))] := hl
  exact b_ChipMapModel_readField_0 hx hb hml hr hlk hgt hown hK hO hAO M s.heap [] ls hl hP hD hS h
def q_ChipMapModel_readRegister_203 (kf165 : Mm → Int32 → Int32 → Rs) (M : Mm) (v2 : Int32) (t0 : Int32) : Rs := kf165 M v2 t0
def q_ChipMapModel_readRegister_202 (kf165 : Mm → Int32 → Int32 → Rs) (M : Mm) (v2 : Int32) : Rs := q_ChipMapModel_readRegister_203 kf165 M v2 0
def q_ChipMapModel_readRegister_165  : Nat → Mm → Int32 → Int32 → Rs
  | 0, _, _, _ => none
  | n' + 1, M, v2, v3 => if v3 = 0 then (lt' (stI M 0 (upd (M.1 0) 6 ((M.1 0 6) + 1))) fun M1 => cal (q_ChipMapModel_take M1 125) fun M2 r3 => bz r3 (some (M2, r3))) else (cal (q_ChipMapModel_readField M) fun M1 r2 => if r2 = 0 then (some (M1, 0)) else (cal (q_ChipMapModel_here M1) fun M3 r4 => if r4 = 125 then (q_ChipMapModel_readRegister_202 (q_ChipMapModel_readRegister_165 n') M3 v2) else (if 8 ≤ ((M3.1 0 12) - v2) then (q_ChipMapModel_readRegister_202 (q_ChipMapModel_readRegister_165 n') M3 v2) else (q_ChipMapModel_readRegister_203 (q_ChipMapModel_readRegister_165 n') M3 v2 1))))
def q_ChipMapModel_readRegister_147  (M : Mm)  : Rs := cal (q_ChipMapModel_take M 123) fun M1 r2 => if r2 = 0 then (some (M1, 0)) else (lt' (M1.1 0 12) fun x3 => q_ChipMapModel_readRegister_165 4000 M1 x3 1)
def q_ChipMapModel_readRegister  (M : Mm)  : Rs := lt' (M.1 0 6) fun x1 => ix x1 17 <| lt' (stI M 5 (upd (M.1 5) (x1 : Int32).toNatClampNeg (M.1 0 3))) fun M2 => if x1 = 16 then (cal (q_ChipMapModel_wrong M2 1 (M2.1 0 3)) fun M3 r4 => bz r4 (some (M3, r4))) else (cal (q_ChipMapModel_take M2 64) fun M3 r4 => if r4 = 0 then (some (M3, 0)) else (cal (q_ChipMapModel_takeHex M3 2 2) fun M5 r6 => if r6 = 0 then (some (M5, 0)) else (ix x1 17 <| lt' (stI M5 2 (upd (M5.1 2) (x1 : Int32).toNatClampNeg (M5.1 0 70))) fun M7 => ix x1 17 <| lt' (stI M7 3 (upd (M7.1 3) (x1 : Int32).toNatClampNeg (-1))) fun M8 => cal (q_ChipMapModel_here M8) fun M9 r10 => if r10 = 63 then (lt' (stI M9 0 (upd (M9.1 0) 3 ((M9.1 0 3) + 1))) fun M11 => ix x1 17 <| lt' (stI M11 6 (upd (M11.1 6) (x1 : Int32).toNatClampNeg (M11.1 0 3))) fun M12 => cal (q_ChipMapModel_here M12) fun M13 r14 => ix x1 17 <| lt' (stI M13 3 (upd (M13.1 3) (x1 : Int32).toNatClampNeg (r14 - 65))) fun M15 => cal (q_ChipMapModel_takeName M15) fun M16 r17 => if r17 = 0 then (some (M16, 0)) else (cal (q_ChipMapModel_take M16 61) fun M18 r19 => if r19 = 0 then (some (M18, 0)) else (cal (q_ChipMapModel_takeHex M18 1 1) fun M20 r21 => if r21 = 0 then (some (M20, 0)) else (ix x1 17 <| lt' (stI M20 4 (upd (M20.1 4) (x1 : Int32).toNatClampNeg (M20.1 0 70))) fun M22 => q_ChipMapModel_readRegister_147 M22)))) else (q_ChipMapModel_readRegister_147 M9))))
set_option maxHeartbeats 4000000 in
set_option maxRecDepth 20000 in
theorem b_ChipMapModel_readRegister_203 {p : Program} {l : Launch} {e : Env} {s s0 : State} {m : MethodId} {args : Array Value} {below : List Frame} {meth : Method} {c : Code} {D : va_G} {cI cZ cC cJ cA : ClassId} {P : Nat → Nat} {M' : Mm} {r' : Int32} {kf165 : Mm → Int32 → Int32 → Rs} (hx : p.tables.exec = Jvm.exec) (hb : c.code = cX1_readRegister) (hml : c.maxLocals = 4) (hr : meth.sig.returnType = (some .boolean)) (hlk : meth.locks = false) (hgt : ∀ w ∈ GT, w.before args s = true) (hown : s.vm.findClass RX1 = some m.cls) (hK : va_K D vwCl [(cI, .int), (cZ, .boolean), (cC, .char), (cJ, .long), (cA, .array .int)] s) (hO : Old s0 s) (hAO : ∀ q, (aP P 51) q → s0.heap.size ≤ q) (kk165 : ∀ (M : Mm) (v2 : Int32) (v3 : Int32) (H : Heap) (locs : List Loc) (ls : Array Slot), lv_has ls 4 [(0, .ref (P 0)), (2, .int v2), (3, .int v3)] → va_P D vwCl ((wY cI cZ cC cJ cA P) M) H → va_D (aP P 51) ((wY cI cZ cC cJ cA P) M) → va_S (aP P 51) s.heap H locs → kf165 M v2 v3 = some (M', r') → W p l e ({ frames := 3, cells := 0, slots := 0, locals := 66 }) s m args below meth c H locs 0 0 (MQ below (gQi D (aP P 51) ((wY cI cZ cC cJ cA P) M') r') args s 0 0 (aP P 51)) (F0 m 165 ls [])) : ∀ (M : Mm) (v2 : Int32) (t0 : Int32) (H : Heap) (locs : List Loc) (ls : Array Slot), lv_has ls 4 [(0, .ref (P 0)), (2, .int v2)] → va_P D vwCl ((wY cI cZ cC cJ cA P) M) H → va_D (aP P 51) ((wY cI cZ cC cJ cA P) M) → va_S (aP P 51) s.heap H locs → q_ChipMapModel_readRegister_203 kf165 M v2 t0 = some (M', r') → W p l e ({ frames := 3, cells := 0, slots := 0, locals := 66 }) s m args below meth c H locs 0 0 (MQ below (gQi D (aP P 51) ((wY cI cZ cC cJ cA P) M') r') args s 0 0 (aP P 51)) (F0 m 203 ls [.int t0]) := by
  intro M v2 t0 H locs ls hl hP hD hS h
  unfold q_ChipMapModel_readRegister_203 at h
  refine lv_istore_n hx hb dX1_readRegister_203 rfl hl (Nat.le_of_ble_eq_true rfl) (lv' := [(3, .int t0), (0, .ref (P 0)), (2, .int v2)]) rfl (fun ls hl => ?_)
  refine lv_goto hx hb dX1_readRegister_204 (tgt := 165) rfl ?_
  have hl := lv_sub hl [1, 2, 0] (l' := [(0, .ref (P 0)), (2, .int v2), (3, .int t0)]) rfl
  exact kk165 M v2 t0 H locs ls hl hP hD hS h
set_option maxHeartbeats 4000000 in
set_option maxRecDepth 20000 in
theorem b_ChipMapModel_readRegister_202 {p : Program} {l : Launch} {e : Env} {s s0 : State} {m : MethodId} {args : Array Value} {below : List Frame} {meth : Method} {c : Code} {D : va_G} {cI cZ cC cJ cA : ClassId} {P : Nat → Nat} {M' : Mm} {r' : Int32} {kf165 : Mm → Int32 → Int32 → Rs} (hx : p.tables.exec = Jvm.exec) (hb : c.code = cX1_readRegister) (hml : c.maxLocals = 4) (hr : meth.sig.returnType = (some .boolean)) (hlk : meth.locks = false) (hgt : ∀ w ∈ GT, w.before args s = true) (hown : s.vm.findClass RX1 = some m.cls) (hK : va_K D vwCl [(cI, .int), (cZ, .boolean), (cC, .char), (cJ, .long), (cA, .array .int)] s) (hO : Old s0 s) (hAO : ∀ q, (aP P 51) q → s0.heap.size ≤ q) (kk165 : ∀ (M : Mm) (v2 : Int32) (v3 : Int32) (H : Heap) (locs : List Loc) (ls : Array Slot), lv_has ls 4 [(0, .ref (P 0)), (2, .int v2), (3, .int v3)] → va_P D vwCl ((wY cI cZ cC cJ cA P) M) H → va_D (aP P 51) ((wY cI cZ cC cJ cA P) M) → va_S (aP P 51) s.heap H locs → kf165 M v2 v3 = some (M', r') → W p l e ({ frames := 3, cells := 0, slots := 0, locals := 66 }) s m args below meth c H locs 0 0 (MQ below (gQi D (aP P 51) ((wY cI cZ cC cJ cA P) M') r') args s 0 0 (aP P 51)) (F0 m 165 ls [])) : ∀ (M : Mm) (v2 : Int32) (H : Heap) (locs : List Loc) (ls : Array Slot), lv_has ls 4 [(0, .ref (P 0)), (2, .int v2)] → va_P D vwCl ((wY cI cZ cC cJ cA P) M) H → va_D (aP P 51) ((wY cI cZ cC cJ cA P) M) → va_S (aP P 51) s.heap H locs → q_ChipMapModel_readRegister_202 kf165 M v2 = some (M', r') → W p l e ({ frames := 3, cells := 0, slots := 0, locals := 66 }) s m args below meth c H locs 0 0 (MQ below (gQi D (aP P 51) ((wY cI cZ cC cJ cA P) M') r') args s 0 0 (aP P 51)) (F0 m 202 ls []) := by
  intro M v2 H locs ls hl hP hD hS h
  unfold q_ChipMapModel_readRegister_202 at h
  refine lv_iconst (v := 0) hx hb dX1_readRegister_202 (by decide) ?_
  have hl := lv_sub hl [0, 1] (l' := [(0, .ref (P 0)), (2, .int v2)]) rfl
  exact b_ChipMapModel_readRegister_203 hx hb hml hr hlk hgt hown hK hO hAO kk165 M v2 0 H _ ls hl hP hD hS h
set_option maxHeartbeats 4000000 in
set_option maxRecDepth 20000 in
theorem b_ChipMapModel_readRegister_165 {p : Program} {l : Launch} {e : Env} {s s0 : State} {m : MethodId} {args : Array Value} {below : List Frame} {meth : Method} {c : Code} {D : va_G} {cI cZ cC cJ cA : ClassId} {P : Nat → Nat} {M' : Mm} {r' : Int32}  (hx : p.tables.exec = Jvm.exec) (hb : c.code = cX1_readRegister) (hml : c.maxLocals = 4) (hr : meth.sig.returnType = (some .boolean)) (hlk : meth.locks = false) (hgt : ∀ w ∈ GT, w.before args s = true) (hown : s.vm.findClass RX1 = some m.cls) (hK : va_K D vwCl [(cI, .int), (cZ, .boolean), (cC, .char), (cJ, .long), (cA, .array .int)] s) (hO : Old s0 s) (hAO : ∀ q, (aP P 51) q → s0.heap.size ≤ q)  : ∀ (n' : Nat) (M : Mm) (v2 : Int32) (v3 : Int32) (H : Heap) (locs : List Loc) (ls : Array Slot), lv_has ls 4 [(0, .ref (P 0)), (2, .int v2), (3, .int v3)] → va_P D vwCl ((wY cI cZ cC cJ cA P) M) H → va_D (aP P 51) ((wY cI cZ cC cJ cA P) M) → va_S (aP P 51) s.heap H locs → q_ChipMapModel_readRegister_165 n' M v2 v3 = some (M', r') → W p l e ({ frames := 3, cells := 0, slots := 0, locals := 66 }) s m args below meth c H locs 0 0 (MQ below (gQi D (aP P 51) ((wY cI cZ cC cJ cA P) M') r') args s 0 0 (aP P 51)) (F0 m 165 ls []) := by
  intro n'
  induction n' with
  | zero => exact fun _ _ _ _ _ _ _ _ _ _ h => (rs_n h).elim
  | succ n' ih =>
    intro M v2 v3 H locs ls hl hP hD hS h
    rw [q_ChipMapModel_readRegister_165] at h
    refine lv_iload_n hx hb dX1_readRegister_165 rfl (lv_at hl 2 rfl) ?_
    refine lv_if_eq hx hb dX1_readRegister_166 (tgt := 207) rfl (fun hc => ?_) (fun hc => ?_)
    · have h := br_T hc h
      refine lv_aload_n hx hb dX1_readRegister_207 rfl (lv_at hl 0 rfl) ?_
      refine lv_dup hx hb dX1_readRegister_208 rfl ?_
      refine va_get (D := D) (ci := 1) (v := .int (M.1 0 6)) (C := RX1) (T := TX1) (N := 76) hx hb hgt iwX1 hown hK hP 0 gY_0 rfl 6 (Nat.le_of_ble_eq_true rfl) (hgt _ wd_4_207) (fun _ h9 => h9) rfl dX1_readRegister_209 ?_
      refine lv_iconst (v := 1) hx hb dX1_readRegister_212 (by decide) ?_
      refine lv_iadd hx hb dX1_readRegister_213 ?_
      refine pm_put (w := (wY cI cZ cC cJ cA P)) (D := D) (ci := 1) (x := ((M.1 0 6) + 1)) (ty := .int) (C := RX1) (T := TX1) (N := 76) hx hb hgt iwX1 tyX1 tyX1_ok nmX1 hown hK hP hD hS 0 gY_0 rfl 6 (Nat.le_of_ble_eq_true rfl) (hgt _ wd_4_207) (fun _ h9 => h9) rfl (by decide +kernel) rfl rfl (Nat.le_of_ble_eq_true rfl) (sY_0_6 _) dX1_readRegister_214 (fun M1 eM1 H locs hP hD hS => ?_)
      have h := lt_o eM1 h
      refine lv_aload_n hx hb dX1_readRegister_217 rfl (lv_at hl 0 rfl) ?_
      refine lv_bipush (v := 125) hx hb dX1_readRegister_218 (by decide) ?_
      obtain ⟨M2, r3, hq, h⟩ := cal_o h
      refine cx_i (va_runV (As := [.int 125]) (rest := []) ⟨hx, hb, hml, hown, hgt⟩ (z_ChipMapModel_take l D cI cZ cC cJ cA P s0 hAO M1 125 M2 r3 hq) (cwV 1 hgt (gV wd_5_212 wd_5_214 sl__ChipMapModel____ChipMapModel___take____I_Z_____ChipMapModel___take____I_Z__ wd_0_15 wd_5_215) rfl rfl rfl (by decide +kernel) ⟨Nat.le_of_ble_eq_true rfl, Nat.le_of_ble_eq_true rfl⟩) (prV hP hK hD hO hAO hS (va_recv hK hP (ci := 1) (q0 := 0) rfl gY_0)) rfl rfl hl.1 rfl (lv_room (Nat.le_of_ble_eq_true rfl)) dX1_readRegister_220 ⟨Nat.le_of_ble_eq_true rfl, Nat.le_of_ble_eq_true rfl⟩) hS (fun H locs hP hD hS => ?_)
      exact rt_z (w := (wY cI cZ cC cJ cA P)) hx hb hr hlk (bz_l h) hP hD hS (bz_r h) dX1_readRegister_223
    · have h := br_F hc h
      refine lv_aload_n hx hb dX1_readRegister_169 rfl (lv_at hl 0 rfl) ?_
      obtain ⟨M1, r2, hq, h⟩ := cal_o h
      refine cx_i (va_runV (As := []) (rest := []) ⟨hx, hb, hml, hown, hgt⟩ (z_ChipMapModel_readField l D cI cZ cC cJ cA P s0 hAO M M1 r2 hq) (cwV 0 hgt (gV wd_5_234 wd_5_236 sl__ChipMapModel____ChipMapModel___readField_____Z_____ChipMapModel___readField_____Z__ wd_0_15 wd_5_237) rfl rfl rfl (by decide +kernel) ⟨Nat.le_of_ble_eq_true rfl, Nat.le_of_ble_eq_true rfl⟩) (prV hP hK hD hO hAO hS (va_recv hK hP (ci := 1) (q0 := 0) rfl gY_0)) rfl rfl hl.1 rfl (lv_room (Nat.le_of_ble_eq_true rfl)) dX1_readRegister_170 ⟨Nat.le_of_ble_eq_true rfl, Nat.le_of_ble_eq_true rfl⟩) hS (fun H locs hP hD hS => ?_)
      refine lv_if_ne hx hb dX1_readRegister_173 (tgt := 178) rfl (fun hc => ?_) (fun hc => ?_)
      · have h := br_F hc h
        refine lv_aload_n hx hb dX1_readRegister_178 rfl (lv_at hl 0 rfl) ?_
        obtain ⟨M3, r4, hq, h⟩ := cal_o h
        refine cx_i (va_runV (As := []) (rest := []) ⟨hx, hb, hml, hown, hgt⟩ (z_ChipMapModel_here l D cI cZ cC cJ cA P s0 hAO M1 M3 r4 hq) (cwV 0 hgt (gV wd_5_216 wd_5_218 sl__ChipMapModel____ChipMapModel___here_____I_____ChipMapModel___here_____I__ wd_0_15 wd_5_219) rfl rfl rfl (by decide +kernel) ⟨Nat.le_of_ble_eq_true rfl, Nat.le_of_ble_eq_true rfl⟩) (prV hP hK hD hO hAO hS (va_recv hK hP (ci := 1) (q0 := 0) rfl gY_0)) rfl rfl hl.1 rfl (lv_room (Nat.le_of_ble_eq_true rfl)) dX1_readRegister_179 ⟨Nat.le_of_ble_eq_true rfl, Nat.le_of_ble_eq_true rfl⟩) hS (fun H locs hP hD hS => ?_)
        refine lv_bipush (v := 125) hx hb dX1_readRegister_182 (by decide) ?_
        refine lv_icmp_eq hx hb dX1_readRegister_184 (tgt := 202) rfl (fun hc => ?_) (fun hc => ?_)
        · have h := br_T hc h
          have hl := lv_sub hl [0, 1] (l' := [(0, .ref (P 0)), (2, .int v2)]) rfl
          exact b_ChipMapModel_readRegister_202 hx hb hml hr hlk hgt hown hK hO hAO ih M3 v2 H _ ls hl hP hD hS h
        · have h := br_F hc h
          refine lv_aload_n hx hb dX1_readRegister_187 rfl (lv_at hl 0 rfl) ?_
          refine va_get (D := D) (ci := 1) (v := .int (M3.1 0 12)) (C := RX1) (T := TX1) (N := 76) hx hb hgt iwX1 hown hK hP 0 gY_0 rfl 12 (Nat.le_of_ble_eq_true rfl) (hgt _ wd_4_213) (fun _ h9 => h9) rfl dX1_readRegister_188 ?_
          refine lv_iload_n hx hb dX1_readRegister_191 rfl (lv_at hl 1 rfl) ?_
          refine lv_isub hx hb dX1_readRegister_192 ?_
          refine lv_bipush (v := 8) hx hb dX1_readRegister_193 (by decide) ?_
          refine lv_icmp_ge hx hb dX1_readRegister_195 (tgt := 202) rfl (fun hc => ?_) (fun hc => ?_)
          · have h := br_T hc h
            have hl := lv_sub hl [0, 1] (l' := [(0, .ref (P 0)), (2, .int v2)]) rfl
            exact b_ChipMapModel_readRegister_202 hx hb hml hr hlk hgt hown hK hO hAO ih M3 v2 H _ ls hl hP hD hS h
          · have h := br_F hc h
            refine lv_iconst (v := 1) hx hb dX1_readRegister_198 (by decide) ?_
            refine lv_goto hx hb dX1_readRegister_199 (tgt := 203) rfl ?_
            have hl := lv_sub hl [0, 1] (l' := [(0, .ref (P 0)), (2, .int v2)]) rfl
            exact b_ChipMapModel_readRegister_203 hx hb hml hr hlk hgt hown hK hO hAO ih M3 v2 1 H _ ls hl hP hD hS h
      · have h := br_T hc h
        refine lv_iconst (v := 0) hx hb dX1_readRegister_176 (by decide) ?_
        exact rt_z (w := (wY cI cZ cC cJ cA P)) hx hb hr hlk rfl hP hD hS h dX1_readRegister_177
set_option maxHeartbeats 4000000 in
set_option maxRecDepth 20000 in
theorem b_ChipMapModel_readRegister_147 {p : Program} {l : Launch} {e : Env} {s s0 : State} {m : MethodId} {args : Array Value} {below : List Frame} {meth : Method} {c : Code} {D : va_G} {cI cZ cC cJ cA : ClassId} {P : Nat → Nat} {M' : Mm} {r' : Int32}  (hx : p.tables.exec = Jvm.exec) (hb : c.code = cX1_readRegister) (hml : c.maxLocals = 4) (hr : meth.sig.returnType = (some .boolean)) (hlk : meth.locks = false) (hgt : ∀ w ∈ GT, w.before args s = true) (hown : s.vm.findClass RX1 = some m.cls) (hK : va_K D vwCl [(cI, .int), (cZ, .boolean), (cC, .char), (cJ, .long), (cA, .array .int)] s) (hO : Old s0 s) (hAO : ∀ q, (aP P 51) q → s0.heap.size ≤ q)  : ∀ (M : Mm)  (H : Heap) (locs : List Loc) (ls : Array Slot), lv_has ls 4 [(0, .ref (P 0))] → va_P D vwCl ((wY cI cZ cC cJ cA P) M) H → va_D (aP P 51) ((wY cI cZ cC cJ cA P) M) → va_S (aP P 51) s.heap H locs → q_ChipMapModel_readRegister_147 M = some (M', r') → W p l e ({ frames := 3, cells := 0, slots := 0, locals := 66 }) s m args below meth c H locs 0 0 (MQ below (gQi D (aP P 51) ((wY cI cZ cC cJ cA P) M') r') args s 0 0 (aP P 51)) (F0 m 147 ls []) := by
  intro M H locs ls hl hP hD hS h
  unfold q_ChipMapModel_readRegister_147 at h
  refine lv_aload_n hx hb dX1_readRegister_147 rfl (lv_at hl 0 rfl) ?_
  refine lv_bipush (v := 123) hx hb dX1_readRegister_148 (by decide) ?_
  obtain ⟨M1, r2, hq, h⟩ := cal_o h
  refine cx_i (va_runV (As := [.int 123]) (rest := []) ⟨hx, hb, hml, hown, hgt⟩ (z_ChipMapModel_take l D cI cZ cC cJ cA P s0 hAO M 123 M1 r2 hq) (cwV 1 hgt (gV wd_5_212 wd_5_214 sl__ChipMapModel____ChipMapModel___take____I_Z_____ChipMapModel___take____I_Z__ wd_0_15 wd_5_215) rfl rfl rfl (by decide +kernel) ⟨Nat.le_of_ble_eq_true rfl, Nat.le_of_ble_eq_true rfl⟩) (prV hP hK hD hO hAO hS (va_recv hK hP (ci := 1) (q0 := 0) rfl gY_0)) rfl rfl hl.1 rfl (lv_room (Nat.le_of_ble_eq_true rfl)) dX1_readRegister_150 ⟨Nat.le_of_ble_eq_true rfl, Nat.le_of_ble_eq_true rfl⟩) hS (fun H locs hP hD hS => ?_)
  refine lv_if_ne hx hb dX1_readRegister_153 (tgt := 158) rfl (fun hc => ?_) (fun hc => ?_)
  · have h := br_F hc h
    refine lv_aload_n hx hb dX1_readRegister_158 rfl (lv_at hl 0 rfl) ?_
    refine va_get (D := D) (ci := 1) (v := .int (M1.1 0 12)) (C := RX1) (T := TX1) (N := 76) hx hb hgt iwX1 hown hK hP 0 gY_0 rfl 12 (Nat.le_of_ble_eq_true rfl) (hgt _ wd_4_213) (fun _ h9 => h9) rfl dX1_readRegister_159 ?_
    refine lv_topi (fun x3 ex3 => ?_)
    have h := lt_o ex3 h
    refine lv_istore_n hx hb dX1_readRegister_162 rfl hl (Nat.le_of_ble_eq_true rfl) (lv' := [(2, .int x3), (0, .ref (P 0))]) rfl (fun ls hl => ?_)
    refine lv_iconst (v := 1) hx hb dX1_readRegister_163 (by decide) ?_
    refine lv_istore_n hx hb dX1_readRegister_164 rfl hl (Nat.le_of_ble_eq_true rfl) (lv' := [(3, .int 1), (2, .int x3), (0, .ref (P 0))]) rfl (fun ls hl => ?_)
    have hl := lv_sub hl [2, 1, 0] (l' := [(0, .ref (P 0)), (2, .int x3), (3, .int 1)]) rfl
    exact b_ChipMapModel_readRegister_165 hx hb hml hr hlk hgt hown hK hO hAO 4000 M1 x3 1 H _ ls hl hP hD hS h
  · have h := br_T hc h
    refine lv_iconst (v := 0) hx hb dX1_readRegister_156 (by decide) ?_
    exact rt_z (w := (wY cI cZ cC cJ cA P)) hx hb hr hlk rfl hP hD hS h dX1_readRegister_157
set_option maxHeartbeats 4000000 in
set_option maxRecDepth 20000 in
theorem b_ChipMapModel_readRegister_0 {p : Program} {l : Launch} {e : Env} {s s0 : State} {m : MethodId} {args : Array Value} {below : List Frame} {meth : Method} {c : Code} {D : va_G} {cI cZ cC cJ cA : ClassId} {P : Nat → Nat} {M' : Mm} {r' : Int32}  (hx : p.tables.exec = Jvm.exec) (hb : c.code = cX1_readRegister) (hml : c.maxLocals = 4) (hr : meth.sig.returnType = (some .boolean)) (hlk : meth.locks = false) (hgt : ∀ w ∈ GT, w.before args s = true) (hown : s.vm.findClass RX1 = some m.cls) (hK : va_K D vwCl [(cI, .int), (cZ, .boolean), (cC, .char), (cJ, .long), (cA, .array .int)] s) (hO : Old s0 s) (hAO : ∀ q, (aP P 51) q → s0.heap.size ≤ q)  : ∀ (M : Mm)  (H : Heap) (locs : List Loc) (ls : Array Slot), lv_has ls 4 [(0, .ref (P 0))] → va_P D vwCl ((wY cI cZ cC cJ cA P) M) H → va_D (aP P 51) ((wY cI cZ cC cJ cA P) M) → va_S (aP P 51) s.heap H locs → q_ChipMapModel_readRegister M = some (M', r') → W p l e ({ frames := 3, cells := 0, slots := 0, locals := 66 }) s m args below meth c H locs 0 0 (MQ below (gQi D (aP P 51) ((wY cI cZ cC cJ cA P) M') r') args s 0 0 (aP P 51)) (F0 m 0 ls []) := by
  intro M H locs ls hl hP hD hS h
  unfold q_ChipMapModel_readRegister at h
  refine lv_aload_n hx hb dX1_readRegister_0 rfl (lv_at hl 0 rfl) ?_
  refine va_get (D := D) (ci := 1) (v := .int (M.1 0 6)) (C := RX1) (T := TX1) (N := 76) hx hb hgt iwX1 hown hK hP 0 gY_0 rfl 6 (Nat.le_of_ble_eq_true rfl) (hgt _ wd_4_207) (fun _ h9 => h9) rfl dX1_readRegister_1 ?_
  refine lv_topi (fun x1 ex1 => ?_)
  have h := lt_o ex1 h
  refine lv_istore_n hx hb dX1_readRegister_4 rfl hl (Nat.le_of_ble_eq_true rfl) (lv' := [(1, .int x1), (0, .ref (P 0))]) rfl (fun ls hl => ?_)
  refine lv_aload_n hx hb dX1_readRegister_5 rfl (lv_at hl 1 rfl) ?_
  refine va_get (D := D) (ci := 1) (v := .ref (P 5)) (C := RX1) (T := TX1) (N := 76) hx hb hgt iwX1 hown hK hP 0 gY_0 rfl 10 (Nat.le_of_ble_eq_true rfl) (hgt _ wd_4_211) (fun _ h9 => h9) rfl dX1_readRegister_6 ?_
  refine lv_iload_n hx hb dX1_readRegister_9 rfl (lv_at hl 0 rfl) ?_
  refine lv_aload_n hx hb dX1_readRegister_10 rfl (lv_at hl 1 rfl) ?_
  refine va_get (D := D) (ci := 1) (v := .int (M.1 0 3)) (C := RX1) (T := TX1) (N := 76) hx hb hgt iwX1 hown hK hP 0 gY_0 rfl 3 (Nat.le_of_ble_eq_true rfl) (hgt _ wd_4_204) (fun _ h9 => h9) rfl dX1_readRegister_11 ?_
  refine pm_iast (w := (wY cI cZ cC cJ cA P)) hx hb hK hP hD hS 5 0 gY_5 rfl sY_5 (ix_l h) dX1_readRegister_14 (fun M2 eM2 H locs hP hD hS => ?_)
  have h := ix_r h
  have h := lt_o eM2 h
  refine lv_iload_n hx hb dX1_readRegister_15 rfl (lv_at hl 0 rfl) ?_
  refine lv_bipush (v := 16) hx hb dX1_readRegister_16 (by decide) ?_
  refine lv_icmp_ne hx hb dX1_readRegister_18 (tgt := 31) rfl (fun hc => ?_) (fun hc => ?_)
  · have h := br_F hc h
    refine lv_aload_n hx hb dX1_readRegister_31 rfl (lv_at hl 1 rfl) ?_
    refine lv_bipush (v := 64) hx hb dX1_readRegister_32 (by decide) ?_
    obtain ⟨M3, r4, hq, h⟩ := cal_o h
    refine cx_i (va_runV (As := [.int 64]) (rest := []) ⟨hx, hb, hml, hown, hgt⟩ (z_ChipMapModel_take l D cI cZ cC cJ cA P s0 hAO M2 64 M3 r4 hq) (cwV 1 hgt (gV wd_5_212 wd_5_214 sl__ChipMapModel____ChipMapModel___take____I_Z_____ChipMapModel___take____I_Z__ wd_0_15 wd_5_215) rfl rfl rfl (by decide +kernel) ⟨Nat.le_of_ble_eq_true rfl, Nat.le_of_ble_eq_true rfl⟩) (prV hP hK hD hO hAO hS (va_recv hK hP (ci := 1) (q0 := 0) rfl gY_0)) rfl rfl hl.1 rfl (lv_room (Nat.le_of_ble_eq_true rfl)) dX1_readRegister_34 ⟨Nat.le_of_ble_eq_true rfl, Nat.le_of_ble_eq_true rfl⟩) hS (fun H locs hP hD hS => ?_)
    refine lv_if_eq hx hb dX1_readRegister_37 (tgt := 49) rfl (fun hc => ?_) (fun hc => ?_)
    · have h := br_T hc h
      refine lv_iconst (v := 0) hx hb dX1_readRegister_49 (by decide) ?_
      exact rt_z (w := (wY cI cZ cC cJ cA P)) hx hb hr hlk rfl hP hD hS h dX1_readRegister_50
    · have h := br_F hc h
      refine lv_aload_n hx hb dX1_readRegister_40 rfl (lv_at hl 1 rfl) ?_
      refine lv_iconst (v := 2) hx hb dX1_readRegister_41 (by decide) ?_
      refine lv_iconst (v := 2) hx hb dX1_readRegister_42 (by decide) ?_
      obtain ⟨M5, r6, hq, h⟩ := cal_o h
      refine cx_i (va_runV (As := [.int 2, .int 2]) (rest := []) ⟨hx, hb, hml, hown, hgt⟩ (z_ChipMapModel_takeHex l D cI cZ cC cJ cA P s0 hAO M3 2 2 M5 r6 hq) (cwV 2 hgt (gV wd_5_220 wd_5_222 sl__ChipMapModel____ChipMapModel___takeHex____II_Z_____ChipMapModel___takeHex____II_Z__ wd_0_15 wd_5_223) rfl rfl rfl (by decide +kernel) ⟨Nat.le_of_ble_eq_true rfl, Nat.le_of_ble_eq_true rfl⟩) (prV hP hK hD hO hAO hS (va_recv hK hP (ci := 1) (q0 := 0) rfl gY_0)) rfl rfl hl.1 rfl (lv_room (Nat.le_of_ble_eq_true rfl)) dX1_readRegister_43 ⟨Nat.le_of_ble_eq_true rfl, Nat.le_of_ble_eq_true rfl⟩) hS (fun H locs hP hD hS => ?_)
      refine lv_if_ne hx hb dX1_readRegister_46 (tgt := 51) rfl (fun hc => ?_) (fun hc => ?_)
      · have h := br_F hc h
        refine lv_aload_n hx hb dX1_readRegister_51 rfl (lv_at hl 1 rfl) ?_
        refine va_get (D := D) (ci := 1) (v := .ref (P 2)) (C := RX1) (T := TX1) (N := 76) hx hb hgt iwX1 hown hK hP 0 gY_0 rfl 7 (Nat.le_of_ble_eq_true rfl) (hgt _ wd_4_208) (fun _ h9 => h9) rfl dX1_readRegister_52 ?_
        refine lv_iload_n hx hb dX1_readRegister_55 rfl (lv_at hl 0 rfl) ?_
        refine lv_aload_n hx hb dX1_readRegister_56 rfl (lv_at hl 1 rfl) ?_
        refine va_get (D := D) (ci := 1) (v := .int (M5.1 0 70)) (C := RX1) (T := TX1) (N := 76) hx hb hgt iwX1 hown hK hP 0 gY_0 rfl 70 (Nat.le_of_ble_eq_true rfl) (hgt _ wd_5_31) (fun _ h9 => h9) rfl dX1_readRegister_57 ?_
        refine pm_iast (w := (wY cI cZ cC cJ cA P)) hx hb hK hP hD hS 2 0 gY_2 rfl sY_2 (ix_l h) dX1_readRegister_60 (fun M7 eM7 H locs hP hD hS => ?_)
        have h := ix_r h
        have h := lt_o eM7 h
        refine lv_aload_n hx hb dX1_readRegister_61 rfl (lv_at hl 1 rfl) ?_
        refine va_get (D := D) (ci := 1) (v := .ref (P 3)) (C := RX1) (T := TX1) (N := 76) hx hb hgt iwX1 hown hK hP 0 gY_0 rfl 8 (Nat.le_of_ble_eq_true rfl) (hgt _ wd_4_209) (fun _ h9 => h9) rfl dX1_readRegister_62 ?_
        refine lv_iload_n hx hb dX1_readRegister_65 rfl (lv_at hl 0 rfl) ?_
        refine lv_iconst (v := (-1)) hx hb dX1_readRegister_66 (by decide) ?_
        refine pm_iast (w := (wY cI cZ cC cJ cA P)) hx hb hK hP hD hS 3 0 gY_3 rfl sY_3 (ix_l h) dX1_readRegister_67 (fun M8 eM8 H locs hP hD hS => ?_)
        have h := ix_r h
        have h := lt_o eM8 h
        refine lv_aload_n hx hb dX1_readRegister_68 rfl (lv_at hl 1 rfl) ?_
        obtain ⟨M9, r10, hq, h⟩ := cal_o h
        refine cx_i (va_runV (As := []) (rest := []) ⟨hx, hb, hml, hown, hgt⟩ (z_ChipMapModel_here l D cI cZ cC cJ cA P s0 hAO M8 M9 r10 hq) (cwV 0 hgt (gV wd_5_216 wd_5_218 sl__ChipMapModel____ChipMapModel___here_____I_____ChipMapModel___here_____I__ wd_0_15 wd_5_219) rfl rfl rfl (by decide +kernel) ⟨Nat.le_of_ble_eq_true rfl, Nat.le_of_ble_eq_true rfl⟩) (prV hP hK hD hO hAO hS (va_recv hK hP (ci := 1) (q0 := 0) rfl gY_0)) rfl rfl hl.1 rfl (lv_room (Nat.le_of_ble_eq_true rfl)) dX1_readRegister_69 ⟨Nat.le_of_ble_eq_true rfl, Nat.le_of_ble_eq_true rfl⟩) hS (fun H locs hP hD hS => ?_)
        refine lv_bipush (v := 63) hx hb dX1_readRegister_72 (by decide) ?_
        refine lv_icmp_ne hx hb dX1_readRegister_74 (tgt := 147) rfl (fun hc => ?_) (fun hc => ?_)
        · have h := br_F hc h
          have hl := lv_sub hl [1] (l' := [(0, .ref (P 0))]) rfl
          exact b_ChipMapModel_readRegister_147 hx hb hml hr hlk hgt hown hK hO hAO M9 H _ ls hl hP hD hS h
        · have h := br_T hc h
          refine lv_aload_n hx hb dX1_readRegister_77 rfl (lv_at hl 1 rfl) ?_
          refine lv_dup hx hb dX1_readRegister_78 rfl ?_
          refine va_get (D := D) (ci := 1) (v := .int (M9.1 0 3)) (C := RX1) (T := TX1) (N := 76) hx hb hgt iwX1 hown hK hP 0 gY_0 rfl 3 (Nat.le_of_ble_eq_true rfl) (hgt _ wd_4_204) (fun _ h9 => h9) rfl dX1_readRegister_79 ?_
          refine lv_iconst (v := 1) hx hb dX1_readRegister_82 (by decide) ?_
          refine lv_iadd hx hb dX1_readRegister_83 ?_
          refine pm_put (w := (wY cI cZ cC cJ cA P)) (D := D) (ci := 1) (x := ((M9.1 0 3) + 1)) (ty := .int) (C := RX1) (T := TX1) (N := 76) hx hb hgt iwX1 tyX1 tyX1_ok nmX1 hown hK hP hD hS 0 gY_0 rfl 3 (Nat.le_of_ble_eq_true rfl) (hgt _ wd_4_204) (fun _ h9 => h9) rfl (by decide +kernel) rfl rfl (Nat.le_of_ble_eq_true rfl) (sY_0_3 _) dX1_readRegister_84 (fun M11 eM11 H locs hP hD hS => ?_)
          have h := lt_o eM11 h
          refine lv_aload_n hx hb dX1_readRegister_87 rfl (lv_at hl 1 rfl) ?_
          refine va_get (D := D) (ci := 1) (v := .ref (P 6)) (C := RX1) (T := TX1) (N := 76) hx hb hgt iwX1 hown hK hP 0 gY_0 rfl 11 (Nat.le_of_ble_eq_true rfl) (hgt _ wd_4_212) (fun _ h9 => h9) rfl dX1_readRegister_88 ?_
          refine lv_iload_n hx hb dX1_readRegister_91 rfl (lv_at hl 0 rfl) ?_
          refine lv_aload_n hx hb dX1_readRegister_92 rfl (lv_at hl 1 rfl) ?_
          refine va_get (D := D) (ci := 1) (v := .int (M11.1 0 3)) (C := RX1) (T := TX1) (N := 76) hx hb hgt iwX1 hown hK hP 0 gY_0 rfl 3 (Nat.le_of_ble_eq_true rfl) (hgt _ wd_4_204) (fun _ h9 => h9) rfl dX1_readRegister_93 ?_
          refine pm_iast (w := (wY cI cZ cC cJ cA P)) hx hb hK hP hD hS 6 0 gY_6 rfl sY_6 (ix_l h) dX1_readRegister_96 (fun M12 eM12 H locs hP hD hS => ?_)
          have h := ix_r h
          have h := lt_o eM12 h
          refine lv_aload_n hx hb dX1_readRegister_97 rfl (lv_at hl 1 rfl) ?_
          refine va_get (D := D) (ci := 1) (v := .ref (P 3)) (C := RX1) (T := TX1) (N := 76) hx hb hgt iwX1 hown hK hP 0 gY_0 rfl 8 (Nat.le_of_ble_eq_true rfl) (hgt _ wd_4_209) (fun _ h9 => h9) rfl dX1_readRegister_98 ?_
          refine lv_iload_n hx hb dX1_readRegister_101 rfl (lv_at hl 0 rfl) ?_
          refine lv_aload_n hx hb dX1_readRegister_102 rfl (lv_at hl 1 rfl) ?_
          obtain ⟨M13, r14, hq, h⟩ := cal_o h
          refine cx_i (va_runV (As := []) (rest := [.int x1, .ref (P 3)]) ⟨hx, hb, hml, hown, hgt⟩ (z_ChipMapModel_here l D cI cZ cC cJ cA P s0 hAO M12 M13 r14 hq) (cwV 0 hgt (gV wd_5_216 wd_5_218 sl__ChipMapModel____ChipMapModel___here_____I_____ChipMapModel___here_____I__ wd_0_15 wd_5_219) rfl rfl rfl (by decide +kernel) ⟨Nat.le_of_ble_eq_true rfl, Nat.le_of_ble_eq_true rfl⟩) (prV hP hK hD hO hAO hS (va_recv hK hP (ci := 1) (q0 := 0) rfl gY_0)) rfl rfl hl.1 rfl (lv_room (Nat.le_of_ble_eq_true rfl)) dX1_readRegister_103 ⟨Nat.le_of_ble_eq_true rfl, Nat.le_of_ble_eq_true rfl⟩) hS (fun H locs hP hD hS => ?_)
          refine lv_bipush (v := 65) hx hb dX1_readRegister_106 (by decide) ?_
          refine lv_isub hx hb dX1_readRegister_108 ?_
          refine pm_iast (w := (wY cI cZ cC cJ cA P)) hx hb hK hP hD hS 3 0 gY_3 rfl sY_3 (ix_l h) dX1_readRegister_109 (fun M15 eM15 H locs hP hD hS => ?_)
          have h := ix_r h
          have h := lt_o eM15 h
          refine lv_aload_n hx hb dX1_readRegister_110 rfl (lv_at hl 1 rfl) ?_
          obtain ⟨M16, r17, hq, h⟩ := cal_o h
          refine cx_i (va_runV (As := []) (rest := []) ⟨hx, hb, hml, hown, hgt⟩ (z_ChipMapModel_takeName l D cI cZ cC cJ cA P s0 hAO M15 M16 r17 hq) (cwV 0 hgt (gV wd_5_227 wd_5_229 sl__ChipMapModel____ChipMapModel___takeName_____Z_____ChipMapModel___takeName_____Z__ wd_0_15 wd_5_230) rfl rfl rfl (by decide +kernel) ⟨Nat.le_of_ble_eq_true rfl, Nat.le_of_ble_eq_true rfl⟩) (prV hP hK hD hO hAO hS (va_recv hK hP (ci := 1) (q0 := 0) rfl gY_0)) rfl rfl hl.1 rfl (lv_room (Nat.le_of_ble_eq_true rfl)) dX1_readRegister_111 ⟨Nat.le_of_ble_eq_true rfl, Nat.le_of_ble_eq_true rfl⟩) hS (fun H locs hP hD hS => ?_)
          refine lv_if_eq hx hb dX1_readRegister_114 (tgt := 135) rfl (fun hc => ?_) (fun hc => ?_)
          · have h := br_T hc h
            refine lv_iconst (v := 0) hx hb dX1_readRegister_135 (by decide) ?_
            exact rt_z (w := (wY cI cZ cC cJ cA P)) hx hb hr hlk rfl hP hD hS h dX1_readRegister_136
          · have h := br_F hc h
            refine lv_aload_n hx hb dX1_readRegister_117 rfl (lv_at hl 1 rfl) ?_
            refine lv_bipush (v := 61) hx hb dX1_readRegister_118 (by decide) ?_
            obtain ⟨M18, r19, hq, h⟩ := cal_o h
            refine cx_i (va_runV (As := [.int 61]) (rest := []) ⟨hx, hb, hml, hown, hgt⟩ (z_ChipMapModel_take l D cI cZ cC cJ cA P s0 hAO M16 61 M18 r19 hq) (cwV 1 hgt (gV wd_5_212 wd_5_214 sl__ChipMapModel____ChipMapModel___take____I_Z_____ChipMapModel___take____I_Z__ wd_0_15 wd_5_215) rfl rfl rfl (by decide +kernel) ⟨Nat.le_of_ble_eq_true rfl, Nat.le_of_ble_eq_true rfl⟩) (prV hP hK hD hO hAO hS (va_recv hK hP (ci := 1) (q0 := 0) rfl gY_0)) rfl rfl hl.1 rfl (lv_room (Nat.le_of_ble_eq_true rfl)) dX1_readRegister_120 ⟨Nat.le_of_ble_eq_true rfl, Nat.le_of_ble_eq_true rfl⟩) hS (fun H locs hP hD hS => ?_)
            refine lv_if_eq hx hb dX1_readRegister_123 (tgt := 135) rfl (fun hc => ?_) (fun hc => ?_)
            · have h := br_T hc h
              refine lv_iconst (v := 0) hx hb dX1_readRegister_135 (by decide) ?_
              exact rt_z (w := (wY cI cZ cC cJ cA P)) hx hb hr hlk rfl hP hD hS h dX1_readRegister_136
            · have h := br_F hc h
              refine lv_aload_n hx hb dX1_readRegister_126 rfl (lv_at hl 1 rfl) ?_
              refine lv_iconst (v := 1) hx hb dX1_readRegister_127 (by decide) ?_
              refine lv_iconst (v := 1) hx hb dX1_readRegister_128 (by decide) ?_
              obtain ⟨M20, r21, hq, h⟩ := cal_o h
              refine cx_i (va_runV (As := [.int 1, .int 1]) (rest := []) ⟨hx, hb, hml, hown, hgt⟩ (z_ChipMapModel_takeHex l D cI cZ cC cJ cA P s0 hAO M18 1 1 M20 r21 hq) (cwV 2 hgt (gV wd_5_220 wd_5_222 sl__ChipMapModel____ChipMapModel___takeHex____II_Z_____ChipMapModel___takeHex____II_Z__ wd_0_15 wd_5_223) rfl rfl rfl (by decide +kernel) ⟨Nat.le_of_ble_eq_true rfl, Nat.le_of_ble_eq_true rfl⟩) (prV hP hK hD hO hAO hS (va_recv hK hP (ci := 1) (q0 := 0) rfl gY_0)) rfl rfl hl.1 rfl (lv_room (Nat.le_of_ble_eq_true rfl)) dX1_readRegister_129 ⟨Nat.le_of_ble_eq_true rfl, Nat.le_of_ble_eq_true rfl⟩) hS (fun H locs hP hD hS => ?_)
              refine lv_if_ne hx hb dX1_readRegister_132 (tgt := 137) rfl (fun hc => ?_) (fun hc => ?_)
              · have h := br_F hc h
                refine lv_aload_n hx hb dX1_readRegister_137 rfl (lv_at hl 1 rfl) ?_
                refine va_get (D := D) (ci := 1) (v := .ref (P 4)) (C := RX1) (T := TX1) (N := 76) hx hb hgt iwX1 hown hK hP 0 gY_0 rfl 9 (Nat.le_of_ble_eq_true rfl) (hgt _ wd_4_210) (fun _ h9 => h9) rfl dX1_readRegister_138 ?_
                refine lv_iload_n hx hb dX1_readRegister_141 rfl (lv_at hl 0 rfl) ?_
                refine lv_aload_n hx hb dX1_readRegister_142 rfl (lv_at hl 1 rfl) ?_
                refine va_get (D := D) (ci := 1) (v := .int (M20.1 0 70)) (C := RX1) (T := TX1) (N := 76) hx hb hgt iwX1 hown hK hP 0 gY_0 rfl 70 (Nat.le_of_ble_eq_true rfl) (hgt _ wd_5_31) (fun _ h9 => h9) rfl dX1_readRegister_143 ?_
                refine pm_iast (w := (wY cI cZ cC cJ cA P)) hx hb hK hP hD hS 4 0 gY_4 rfl sY_4 (ix_l h) dX1_readRegister_146 (fun M22 eM22 H locs hP hD hS => ?_)
                have h := ix_r h
                have h := lt_o eM22 h
                have hl := lv_sub hl [1] (l' := [(0, .ref (P 0))]) rfl
                exact b_ChipMapModel_readRegister_147 hx hb hml hr hlk hgt hown hK hO hAO M22 H _ ls hl hP hD hS h
              · have h := br_T hc h
                refine lv_iconst (v := 0) hx hb dX1_readRegister_135 (by decide) ?_
                exact rt_z (w := (wY cI cZ cC cJ cA P)) hx hb hr hlk rfl hP hD hS h dX1_readRegister_136
      · have h := br_T hc h
        refine lv_iconst (v := 0) hx hb dX1_readRegister_49 (by decide) ?_
        exact rt_z (w := (wY cI cZ cC cJ cA P)) hx hb hr hlk rfl hP hD hS h dX1_readRegister_50
  · have h := br_T hc h
    refine lv_aload_n hx hb dX1_readRegister_21 rfl (lv_at hl 1 rfl) ?_
    refine lv_iconst (v := 1) hx hb dX1_readRegister_22 (by decide) ?_
    refine lv_aload_n hx hb dX1_readRegister_23 rfl (lv_at hl 1 rfl) ?_
    refine va_get (D := D) (ci := 1) (v := .int (M2.1 0 3)) (C := RX1) (T := TX1) (N := 76) hx hb hgt iwX1 hown hK hP 0 gY_0 rfl 3 (Nat.le_of_ble_eq_true rfl) (hgt _ wd_4_204) (fun _ h9 => h9) rfl dX1_readRegister_24 ?_
    obtain ⟨M3, r4, hq, h⟩ := cal_o h
    refine cx_i (va_runV (As := [.int 1, .int (M2.1 0 3)]) (rest := []) ⟨hx, hb, hml, hown, hgt⟩ (z_ChipMapModel_wrong l D cI cZ cC cJ cA P s0 hAO M2 1 (M2.1 0 3) M3 r4 hq) (cwV 2 hgt (gV wd_5_208 wd_5_210 sl__ChipMapModel____ChipMapModel___wrong____II_Z_____ChipMapModel___wrong____II_Z__ wd_0_15 wd_5_211) rfl rfl rfl (by decide +kernel) ⟨Nat.le_of_ble_eq_true rfl, Nat.le_of_ble_eq_true rfl⟩) (prV hP hK hD hO hAO hS (va_recv hK hP (ci := 1) (q0 := 0) rfl gY_0)) rfl rfl hl.1 rfl (lv_room (Nat.le_of_ble_eq_true rfl)) dX1_readRegister_27 ⟨Nat.le_of_ble_eq_true rfl, Nat.le_of_ble_eq_true rfl⟩) hS (fun H locs hP hD hS => ?_)
    exact rt_z (w := (wY cI cZ cC cJ cA P)) hx hb hr hlk (bz_l h) hP hD hS (bz_r h) dX1_readRegister_30
set_option maxHeartbeats 4000000 in
set_option maxRecDepth 20000 in
theorem z_ChipMapModel_readRegister (l : Launch) (D : va_G) (cI cZ cC cJ cA : ClassId) (P : Nat → Nat) (s0 : State) (hAO : ∀ q, (aP P 51) q → s0.heap.size ≤ q) (M : Mm)  (M' : Mm) (r' : Int32) (h : q_ChipMapModel_readRegister M = some (M', r')) : Met l yX1_readRegister wsX1_readRegister ({ frames := 3, cells := 0, slots := 0, locals := 66 }) (va_Pc [.ref (P 0)] (gPre s0 D [(cI, .int), (cZ, .boolean), (cC, .char), (cJ, .long), (cA, .array .int)] (aP P 51) ((wY cI cZ cC cJ cA P) M))) (gQi D (aP P 51) ((wY cI cZ cC cJ cA P) M') r') 0 0 (aP P 51) := by
  refine Met.ofW (cc := cX1_readRegister) (maxL := 4) (ret := (some .boolean)) (by decide) rfl ?_
  intro p e s m args below meth c s₁ B hml hv
  obtain ⟨rfl, hP, hK, hD, hO⟩ := hv
  have hx := B.exec
  have hb := B.bytes
  have hr := B.returns
  have hlk := B.notSynchronized
  have hgt := fun w (h : w ∈ GT) => atoms_spec (ws := wsX1_readRegister) B.pre w (List.mem_cons_of_mem _ h)
  have hown : s.vm.findClass RX1 = some m.cls := findClass_of_methodNamed B.named
  have hS : va_S (aP P 51) s.heap s.heap [] := va_S.rf
  have hl := lv_entry ([.ref (P 0)]) (n := 4) (Nat.le_of_ble_eq_true rfl)
  rw [lg_entry_eq]
  generalize (lg_sl ([.ref (P 0)]) ++ List.replicate (4 - (lg_sl ([.ref (P 0)])).length) Slot.unset).toArray = ls at hl ⊢
  have hl : lv_has ls 4 [(0, .ref (P 0))] := hl
  exact b_ChipMapModel_readRegister_0 hx hb hml hr hlk hgt hown hK hO hAO M s.heap [] ls hl hP hD hS h
end
