def q_ChipMap_join  (M : Mm) (a1 : Int32) (a2 : Int32) : Rs := cal (q_Layout_canPut M a1 a2) fun M1 r2 => if r2 = 0 then (some (M1, (-1))) else (cal (q_Steps_isFull M1) fun M3 r4 => if r4 = 0 then (cal (q_Steps_append M3 0 a1 a2) fun M5 r6 => some (M5, (M5.1 65 0))) else (some (M3, (-1))))
set_option maxHeartbeats 4000000 in
set_option maxRecDepth 20000 in
theorem b_ChipMap_join_0 {p : Program} {l : Launch} {e : Env} {s s0 : State} {m : MethodId} {args : Array Value} {below : List Frame} {meth : Method} {c : Code} {D : va_G} {cI cZ cC cJ cA : ClassId} {P : Nat → Nat} {M' : Mm} {r' : Int32}  (hx : p.tables.exec = Jvm.exec) (hb : c.code = cX0_join) (hml : c.maxLocals = 3) (hr : meth.sig.returnType = (some .int)) (hlk : meth.locks = false) (hgt : ∀ w ∈ GT, w.before args s = true) (hown : s.vm.findClass RX0 = some m.cls) (hK : va_K D vwCl [(cI, .int), (cZ, .boolean), (cC, .char), (cJ, .long), (cA, .array .int)] s) (hO : Old s0 s) (hAO : ∀ q, (aP P 77) q → s0.heap.size ≤ q)  : ∀ (M : Mm) (a1 : Int32) (a2 : Int32) (H : Heap) (locs : List Loc) (ls : Array Slot), lv_has ls 3 [(0, .ref (P 0)), (1, .int a1), (2, .int a2)] → va_P D vwCl ((wX cI cZ cC cJ cA P) M) H → va_D (aP P 77) ((wX cI cZ cC cJ cA P) M) → va_S (aP P 77) s.heap H locs → q_ChipMap_join M a1 a2 = some (M', r') → W p l e ({ frames := 2, cells := 0, slots := 0, locals := 44 }) s m args below meth c H locs 0 0 (MQ below (gQi D (aP P 77) ((wX cI cZ cC cJ cA P) M') r') args s 0 0 (aP P 77)) (F0 m 0 ls []) := by
  intro M a1 a2 H locs ls hl hP hD hS h
  unfold q_ChipMap_join at h
  refine lv_aload_n hx hb dX0_join_0 rfl (lv_at hl 0 rfl) ?_
  refine va_get (D := D) (ci := 0) (v := .ref (P 24)) (C := RX0) (T := TX0) (N := 9) hx hb hgt iwX0 hown hK hP 0 gX_0 rfl 3 (Nat.le_of_ble_eq_true rfl) (hgt _ wd_2_20) (fun _ h9 => h9) rfl dX0_join_1 ?_
  refine lv_iload_n hx hb dX0_join_4 rfl (lv_at hl 1 rfl) ?_
  refine lv_iload_n hx hb dX0_join_5 rfl (lv_at hl 2 rfl) ?_
  obtain ⟨M1, r2, hq, h⟩ := cal_o h
  refine cx_i (va_runV (As := [.int a1, .int a2]) (rest := []) ⟨hx, hb, hml, hown, hgt⟩ (z_Layout_canPut l D cI cZ cC cJ cA P s0 hAO M a1 a2 M1 r2 hq) (cwV 2 hgt (gV wd_2_178 wd_2_179 wd_2_180 wd_0_6 wd_2_181) rfl rfl rfl (by decide +kernel) ⟨Nat.le_of_ble_eq_true rfl, Nat.le_of_ble_eq_true rfl⟩) (prV hP hK hD hO hAO hS (va_recv hK hP (ci := 6) (q0 := 24) rfl gX_24)) rfl rfl hl.1 rfl (lv_room (Nat.le_of_ble_eq_true rfl)) dX0_join_6 ⟨Nat.le_of_ble_eq_true rfl, Nat.le_of_ble_eq_true rfl⟩) hS (fun H locs hP hD hS => ?_)
  refine lv_if_eq hx hb dX0_join_9 (tgt := 22) rfl (fun hc => ?_) (fun hc => ?_)
  · have h := br_T hc h
    refine lv_iconst (v := (-1)) hx hb dX0_join_22 (by decide) ?_
    exact rt_i (w := (wX cI cZ cC cJ cA P)) hx hb hr hlk hP hD hS h dX0_join_23
  · have h := br_F hc h
    refine lv_aload_n hx hb dX0_join_12 rfl (lv_at hl 0 rfl) ?_
    refine va_get (D := D) (ci := 0) (v := .ref (P 65)) (C := RX0) (T := TX0) (N := 9) hx hb hgt iwX0 hown hK hP 0 gX_0 rfl 6 (Nat.le_of_ble_eq_true rfl) (hgt _ wd_2_23) (fun _ h9 => h9) rfl dX0_join_13 ?_
    obtain ⟨M3, r4, hq, h⟩ := cal_o h
    refine cx_i (va_runV (As := []) (rest := []) ⟨hx, hb, hml, hown, hgt⟩ (z_Steps_isFull l D cI cZ cC cJ cA P s0 hAO M1 M3 r4 hq) (cwV 0 hgt (gV wd_2_228 wd_2_229 wd_2_230 wd_0_13 wd_2_231) rfl rfl rfl (by decide +kernel) ⟨Nat.le_of_ble_eq_true rfl, Nat.le_of_ble_eq_true rfl⟩) (prV hP hK hD hO hAO hS (va_recv hK hP (ci := 12) (q0 := 65) rfl gX_65)) rfl rfl hl.1 rfl (lv_room (Nat.le_of_ble_eq_true rfl)) dX0_join_16 ⟨Nat.le_of_ble_eq_true rfl, Nat.le_of_ble_eq_true rfl⟩) hS (fun H locs hP hD hS => ?_)
    refine lv_if_eq hx hb dX0_join_19 (tgt := 24) rfl (fun hc => ?_) (fun hc => ?_)
    · have h := br_T hc h
      refine lv_aload_n hx hb dX0_join_24 rfl (lv_at hl 0 rfl) ?_
      refine va_get (D := D) (ci := 0) (v := .ref (P 65)) (C := RX0) (T := TX0) (N := 9) hx hb hgt iwX0 hown hK hP 0 gX_0 rfl 6 (Nat.le_of_ble_eq_true rfl) (hgt _ wd_2_23) (fun _ h9 => h9) rfl dX0_join_25 ?_
      refine lv_iconst (v := 0) hx hb dX0_join_28 (by decide) ?_
      refine lv_iload_n hx hb dX0_join_29 rfl (lv_at hl 1 rfl) ?_
      refine lv_iload_n hx hb dX0_join_30 rfl (lv_at hl 2 rfl) ?_
      obtain ⟨M5, r6, hq, h⟩ := cal_o h
      refine cx_v (va_runV (As := [.int 0, .int a1, .int a2]) (rest := []) ⟨hx, hb, hml, hown, hgt⟩ (z_Steps_append l D cI cZ cC cJ cA P s0 hAO M3 0 a1 a2 M5 r6 hq) (cwV 3 hgt (gV wd_2_232 wd_2_233 wd_2_234 wd_0_13 wd_2_235) rfl rfl rfl (by decide +kernel) ⟨Nat.le_of_ble_eq_true rfl, Nat.le_of_ble_eq_true rfl⟩) (prV hP hK hD hO hAO hS (va_recv hK hP (ci := 12) (q0 := 65) rfl gX_65)) rfl rfl hl.1 rfl (lv_room (Nat.le_of_ble_eq_true rfl)) dX0_join_31 ⟨Nat.le_of_ble_eq_true rfl, Nat.le_of_ble_eq_true rfl⟩) hS (fun H locs hP hD hS => ?_)
      refine lv_aload_n hx hb dX0_join_34 rfl (lv_at hl 0 rfl) ?_
      refine va_get (D := D) (ci := 0) (v := .ref (P 65)) (C := RX0) (T := TX0) (N := 9) hx hb hgt iwX0 hown hK hP 0 gX_0 rfl 6 (Nat.le_of_ble_eq_true rfl) (hgt _ wd_2_23) (fun _ h9 => h9) rfl dX0_join_35 ?_
      refine va_get (D := D) (ci := 12) (v := .int (M5.1 65 0)) (C := RX12) (T := TX12) (N := 4) hx hb hgt iwX12 hown hK hP 65 gX_65 rfl 0 (Nat.le_of_ble_eq_true rfl) (hgt _ wd_1_193) (fun _ h9 => h9) rfl dX0_join_38 ?_
      exact rt_i (w := (wX cI cZ cC cJ cA P)) hx hb hr hlk hP hD hS h dX0_join_41
    · have h := br_F hc h
      refine lv_iconst (v := (-1)) hx hb dX0_join_22 (by decide) ?_
      exact rt_i (w := (wX cI cZ cC cJ cA P)) hx hb hr hlk hP hD hS h dX0_join_23
set_option maxHeartbeats 4000000 in
set_option maxRecDepth 20000 in
theorem z_ChipMap_join (l : Launch) (D : va_G) (cI cZ cC cJ cA : ClassId) (P : Nat → Nat) (s0 : State) (hAO : ∀ q, (aP P 77) q → s0.heap.size ≤ q) (M : Mm) (a1 : Int32) (a2 : Int32) (M' : Mm) (r' : Int32) (h : q_ChipMap_join M a1 a2 = some (M', r')) : Met l yX0_join wsX0_join ({ frames := 2, cells := 0, slots := 0, locals := 44 }) (va_Pc [.ref (P 0), .int a1, .int a2] (gPre s0 D [(cI, .int), (cZ, .boolean), (cC, .char), (cJ, .long), (cA, .array .int)] (aP P 77) ((wX cI cZ cC cJ cA P) M))) (gQi D (aP P 77) ((wX cI cZ cC cJ cA P) M') r') 0 0 (aP P 77) := by
  refine Met.ofW (cc := cX0_join) (maxL := 3) (ret := (some .int)) (by decide) rfl ?_
  intro p e s m args below meth c s₁ B hml hv
  obtain ⟨rfl, hP, hK, hD, hO⟩ := hv
  have hx := B.exec
  have hb := B.bytes
  have hr := B.returns
  have hlk := B.notSynchronized
  have hgt := fun w (h : w ∈ GT) => atoms_spec (ws := wsX0_join) B.pre w (List.mem_cons_of_mem _ h)
  have hown : s.vm.findClass RX0 = some m.cls := findClass_of_methodNamed B.named
  have hS : va_S (aP P 77) s.heap s.heap [] := va_S.rf
  have hl := lv_entry ([.ref (P 0), .int a1, .int a2]) (n := 3) (Nat.le_of_ble_eq_true rfl)
  rw [lg_entry_eq]
  generalize (lg_sl ([.ref (P 0), .int a1, .int a2]) ++ List.replicate (3 - (lg_sl ([.ref (P 0), .int a1, .int a2])).length) Slot.unset).toArray = ls at hl ⊢
  have hl : lv_has ls 3 [(0, .ref (P 0)), (1, .int a1), (2, .int a2)] := hl
  exact b_ChipMap_join_0 hx hb hml hr hlk hgt hown hK hO hAO M a1 a2 s.heap [] ls hl hP hD hS h
def q_Plan_isFirstOfRegister_18  : Nat → Mm → Int32 → Int32 → Int32 → Rs
  | 0, _, _, _, _ => none
  | n' + 1, M, v2, v3, v4 => if v2 ≤ v4 then (some (M, 1)) else (ix v4 8 <| ix (M.1 67 (v4 : Int32).toNatClampNeg) 26 <| if (M.1 38 ((M.1 67 (v4 : Int32).toNatClampNeg) : Int32).toNatClampNeg) = v3 then (some (M, 0)) else (q_Plan_isFirstOfRegister_18 n' M v2 v3 (v4 + 1)))
def q_Plan_isFirstOfRegister  (M : Mm) (a2 : Int32) : Rs := ix a2 8 <| ix (M.1 67 (a2 : Int32).toNatClampNeg) 26 <| lt' (M.1 38 ((M.1 67 (a2 : Int32).toNatClampNeg) : Int32).toNatClampNeg) fun x1 => q_Plan_isFirstOfRegister_18 4000 M a2 x1 0
set_option maxHeartbeats 4000000 in
set_option maxRecDepth 20000 in
theorem b_Plan_isFirstOfRegister_18 {p : Program} {l : Launch} {e : Env} {s s0 : State} {m : MethodId} {args : Array Value} {below : List Frame} {meth : Method} {c : Code} {D : va_G} {cI cZ cC cJ cA : ClassId} {P : Nat → Nat} {M' : Mm} {r' : Int32}  (hx : p.tables.exec = Jvm.exec) (hb : c.code = cX9_isFirstOfRegister) (hml : c.maxLocals = 5) (hr : meth.sig.returnType = (some .boolean)) (hlk : meth.locks = false) (hgt : ∀ w ∈ GT, w.before args s = true) (hown : s.vm.findClass RX9 = some m.cls) (hK : va_K D vwCl [(cI, .int), (cZ, .boolean), (cC, .char), (cJ, .long), (cA, .array .int)] s) (hO : Old s0 s) (hAO : ∀ q, (aP P 77) q → s0.heap.size ≤ q)  : ∀ (n' : Nat) (M : Mm) (v2 : Int32) (v3 : Int32) (v4 : Int32) (H : Heap) (locs : List Loc) (ls : Array Slot), lv_has ls 5 [(0, .ref (P 60)), (1, .ref (P 65)), (2, .int v2), (3, .int v3), (4, .int v4)] → va_P D vwCl ((wX cI cZ cC cJ cA P) M) H → va_D (aP P 77) ((wX cI cZ cC cJ cA P) M) → va_S (aP P 77) s.heap H locs → q_Plan_isFirstOfRegister_18 n' M v2 v3 v4 = some (M', r') → W p l e ({ frames := 0, cells := 0, slots := 0, locals := 0 }) s m args below meth c H locs 0 0 (MQ below (gQi D (aP P 77) ((wX cI cZ cC cJ cA P) M') r') args s 0 0 (aP P 77)) (F0 m 18 ls []) := by
  intro n'
  induction n' with
  | zero => exact fun _ _ _ _ _ _ _ _ _ _ _ h => (rs_n h).elim
  | succ n' ih =>
    intro M v2 v3 v4 H locs ls hl hP hD hS h
    rw [q_Plan_isFirstOfRegister_18] at h
    refine lv_iload hx hb dX9_isFirstOfRegister_18 (lv_at hl 4 rfl) ?_
    refine lv_iload_n hx hb dX9_isFirstOfRegister_20 rfl (lv_at hl 2 rfl) ?_
    refine lv_icmp_ge hx hb dX9_isFirstOfRegister_21 (tgt := 51) rfl (fun hc => ?_) (fun hc => ?_)
    · have h := br_T hc h
      refine lv_iconst (v := 1) hx hb dX9_isFirstOfRegister_51 (by decide) ?_
      exact rt_z (w := (wX cI cZ cC cJ cA P)) hx hb hr hlk rfl hP hD hS h dX9_isFirstOfRegister_52
    · have h := br_F hc h
      refine lv_aload_n hx hb dX9_isFirstOfRegister_24 rfl (lv_at hl 0 rfl) ?_
      refine va_get (D := D) (ci := 9) (v := .ref (P 24)) (C := RX9) (T := TX9) (N := 6) hx hb hgt iwX9 hown hK hP 60 gX_60 rfl 0 (Nat.le_of_ble_eq_true rfl) (hgt _ wd_1_160) (fun _ h9 => h9) rfl dX9_isFirstOfRegister_25 ?_
      refine va_get (D := D) (ci := 6) (v := .ref (P 38)) (C := RX6) (T := TX6) (N := 13) hx hb hgt iwX6 hown hK hP 24 gX_24 rfl 7 (Nat.le_of_ble_eq_true rfl) (hgt _ wd_1_27) (fun _ h9 => h9) rfl dX9_isFirstOfRegister_28 ?_
      refine lv_aload_n hx hb dX9_isFirstOfRegister_31 rfl (lv_at hl 1 rfl) ?_
      refine va_get (D := D) (ci := 12) (v := .ref (P 67)) (C := RX12) (T := TX12) (N := 4) hx hb hgt iwX12 hown hK hP 65 gX_65 rfl 2 (Nat.le_of_ble_eq_true rfl) (hgt _ wd_1_200) (fun _ h9 => h9) rfl dX9_isFirstOfRegister_32 ?_
      refine lv_iload hx hb dX9_isFirstOfRegister_35 (lv_at hl 4 rfl) ?_
      refine va_iald hx hb hK hP 67 0 gX_67 rfl (ix_l h) dX9_isFirstOfRegister_37 ?_
      have h := ix_r h
      refine va_iald hx hb hK hP 38 0 gX_38 rfl (ix_l h) dX9_isFirstOfRegister_38 ?_
      have h := ix_r h
      refine lv_iload_n hx hb dX9_isFirstOfRegister_39 rfl (lv_at hl 3 rfl) ?_
      refine lv_icmp_ne hx hb dX9_isFirstOfRegister_40 (tgt := 45) rfl (fun hc => ?_) (fun hc => ?_)
      · have h := br_F hc h
        refine lv_iinc (v := (v4 + 1)) hx hb dX9_isFirstOfRegister_45 hl (k := 4) rfl rfl (Nat.le_of_ble_eq_true rfl) (lv' := [(4, .int (v4 + 1)), (0, .ref (P 60)), (1, .ref (P 65)), (2, .int v2), (3, .int v3)]) rfl (fun ls hl => ?_)
        refine lv_goto hx hb dX9_isFirstOfRegister_48 (tgt := 18) rfl ?_
        have hl := lv_sub hl [1, 2, 3, 4, 0] (l' := [(0, .ref (P 60)), (1, .ref (P 65)), (2, .int v2), (3, .int v3), (4, .int (v4 + 1))]) rfl
        exact ih M v2 v3 (v4 + 1) H locs ls hl hP hD hS h
      · have h := br_T hc h
        refine lv_iconst (v := 0) hx hb dX9_isFirstOfRegister_43 (by decide) ?_
        exact rt_z (w := (wX cI cZ cC cJ cA P)) hx hb hr hlk rfl hP hD hS h dX9_isFirstOfRegister_44
set_option maxHeartbeats 4000000 in
set_option maxRecDepth 20000 in
theorem b_Plan_isFirstOfRegister_0 {p : Program} {l : Launch} {e : Env} {s s0 : State} {m : MethodId} {args : Array Value} {below : List Frame} {meth : Method} {c : Code} {D : va_G} {cI cZ cC cJ cA : ClassId} {P : Nat → Nat} {M' : Mm} {r' : Int32}  (hx : p.tables.exec = Jvm.exec) (hb : c.code = cX9_isFirstOfRegister) (hml : c.maxLocals = 5) (hr : meth.sig.returnType = (some .boolean)) (hlk : meth.locks = false) (hgt : ∀ w ∈ GT, w.before args s = true) (hown : s.vm.findClass RX9 = some m.cls) (hK : va_K D vwCl [(cI, .int), (cZ, .boolean), (cC, .char), (cJ, .long), (cA, .array .int)] s) (hO : Old s0 s) (hAO : ∀ q, (aP P 77) q → s0.heap.size ≤ q)  : ∀ (M : Mm) (a2 : Int32) (H : Heap) (locs : List Loc) (ls : Array Slot), lv_has ls 5 [(0, .ref (P 60)), (1, .ref (P 65)), (2, .int a2)] → va_P D vwCl ((wX cI cZ cC cJ cA P) M) H → va_D (aP P 77) ((wX cI cZ cC cJ cA P) M) → va_S (aP P 77) s.heap H locs → q_Plan_isFirstOfRegister M a2 = some (M', r') → W p l e ({ frames := 0, cells := 0, slots := 0, locals := 0 }) s m args below meth c H locs 0 0 (MQ below (gQi D (aP P 77) ((wX cI cZ cC cJ cA P) M') r') args s 0 0 (aP P 77)) (F0 m 0 ls []) := by
  intro M a2 H locs ls hl hP hD hS h
  unfold q_Plan_isFirstOfRegister at h
  refine lv_aload_n hx hb dX9_isFirstOfRegister_0 rfl (lv_at hl 0 rfl) ?_
  refine va_get (D := D) (ci := 9) (v := .ref (P 24)) (C := RX9) (T := TX9) (N := 6) hx hb hgt iwX9 hown hK hP 60 gX_60 rfl 0 (Nat.le_of_ble_eq_true rfl) (hgt _ wd_1_160) (fun _ h9 => h9) rfl dX9_isFirstOfRegister_1 ?_
  refine va_get (D := D) (ci := 6) (v := .ref (P 38)) (C := RX6) (T := TX6) (N := 13) hx hb hgt iwX6 hown hK hP 24 gX_24 rfl 7 (Nat.le_of_ble_eq_true rfl) (hgt _ wd_1_27) (fun _ h9 => h9) rfl dX9_isFirstOfRegister_4 ?_
  refine lv_aload_n hx hb dX9_isFirstOfRegister_7 rfl (lv_at hl 1 rfl) ?_
  refine va_get (D := D) (ci := 12) (v := .ref (P 67)) (C := RX12) (T := TX12) (N := 4) hx hb hgt iwX12 hown hK hP 65 gX_65 rfl 2 (Nat.le_of_ble_eq_true rfl) (hgt _ wd_1_200) (fun _ h9 => h9) rfl dX9_isFirstOfRegister_8 ?_
  refine lv_iload_n hx hb dX9_isFirstOfRegister_11 rfl (lv_at hl 2 rfl) ?_
  refine va_iald hx hb hK hP 67 0 gX_67 rfl (ix_l h) dX9_isFirstOfRegister_12 ?_
  have h := ix_r h
  refine va_iald hx hb hK hP 38 0 gX_38 rfl (ix_l h) dX9_isFirstOfRegister_13 ?_
  have h := ix_r h
  refine lv_topi (fun x1 ex1 => ?_)
  have h := lt_o ex1 h
  refine lv_istore_n hx hb dX9_isFirstOfRegister_14 rfl hl (Nat.le_of_ble_eq_true rfl) (lv' := [(3, .int x1), (0, .ref (P 60)), (1, .ref (P 65)), (2, .int a2)]) rfl (fun ls hl => ?_)
  refine lv_iconst (v := 0) hx hb dX9_isFirstOfRegister_15 (by decide) ?_
  refine lv_istore hx hb dX9_isFirstOfRegister_16 hl (Nat.le_of_ble_eq_true rfl) (lv' := [(4, .int 0), (3, .int x1), (0, .ref (P 60)), (1, .ref (P 65)), (2, .int a2)]) rfl (fun ls hl => ?_)
  have hl := lv_sub hl [2, 3, 4, 1, 0] (l' := [(0, .ref (P 60)), (1, .ref (P 65)), (2, .int a2), (3, .int x1), (4, .int 0)]) rfl
  exact b_Plan_isFirstOfRegister_18 hx hb hml hr hlk hgt hown hK hO hAO 4000 M a2 x1 0 H _ ls hl hP hD hS h
set_option maxHeartbeats 4000000 in
set_option maxRecDepth 20000 in
theorem z_Plan_isFirstOfRegister (l : Launch) (D : va_G) (cI cZ cC cJ cA : ClassId) (P : Nat → Nat) (s0 : State) (hAO : ∀ q, (aP P 77) q → s0.heap.size ≤ q) (M : Mm) (a2 : Int32) (M' : Mm) (r' : Int32) (h : q_Plan_isFirstOfRegister M a2 = some (M', r')) : Met l yX9_isFirstOfRegister wsX9_isFirstOfRegister ({ frames := 0, cells := 0, slots := 0, locals := 0 }) (va_Pc [.ref (P 60), .ref (P 65), .int a2] (gPre s0 D [(cI, .int), (cZ, .boolean), (cC, .char), (cJ, .long), (cA, .array .int)] (aP P 77) ((wX cI cZ cC cJ cA P) M))) (gQi D (aP P 77) ((wX cI cZ cC cJ cA P) M') r') 0 0 (aP P 77) := by
  refine Met.ofW (cc := cX9_isFirstOfRegister) (maxL := 5) (ret := (some .boolean)) (by decide) rfl ?_
  intro p e s m args below meth c s₁ B hml hv
  obtain ⟨rfl, hP, hK, hD, hO⟩ := hv
  have hx := B.exec
  have hb := B.bytes
  have hr := B.returns
  have hlk := B.notSynchronized
  have hgt := fun w (h : w ∈ GT) => atoms_spec (ws := wsX9_isFirstOfRegister) B.pre w (List.mem_cons_of_mem _ h)
  have hown : s.vm.findClass RX9 = some m.cls := findClass_of_methodNamed B.named
  have hS : va_S (aP P 77) s.heap s.heap [] := va_S.rf
  have hl := lv_entry ([.ref (P 60), .ref (P 65), .int a2]) (n := 5) (Nat.le_of_ble_eq_true rfl)
  rw [lg_entry_eq]
  generalize (lg_sl ([.ref (P 60), .ref (P 65), .int a2]) ++ List.replicate (5 - (lg_sl ([.ref (P 60), .ref (P 65), .int a2])).length) Slot.unset).toArray = ls at hl ⊢
  have hl : lv_has ls 5 [(0, .ref (P 60)), (1, .ref (P 65)), (2, .int a2)] := hl
  exact b_Plan_isFirstOfRegister_0 hx hb hml hr hlk hgt hown hK hO hAO M a2 s.heap [] ls hl hP hD hS h
def q_Plan_addRegister_155  (M : Mm) (v2 : Int32) (v3 : Int32) (v4 : Int32) : Rs := cal (q_Plan_addReach M v2) fun M1 r2 => cal (q_Plan_addTold M1 v2 v3 v4) fun M3 r4 => some (M3, 0)
def q_Plan_addRegister_131  (M : Mm) (v2 : Int32) (v3 : Int32) (v4 : Int32) (t0 : Int32) : Rs := if t0 = 0 then (q_Plan_addRegister_155 M v2 v3 v4) else (ix v2 16 <| if ((M.1 62 (v2 : Int32).toNatClampNeg) &&& v3) = v4 then (some (M, 0)) else (q_Plan_addRegister_155 M v2 v3 v4))
def q_Plan_addRegister_104 (kf8 : Mm → Int32 → Int32 → Int32 → Int32 → Rs) (M : Mm) (v2 : Int32) (v3 : Int32) (v4 : Int32) (v5 : Int32) : Rs := kf8 M v2 v3 v4 (v5 + 1)
def q_Plan_addRegister_76 (kf8 : Mm → Int32 → Int32 → Int32 → Int32 → Rs) (M : Mm) (v2 : Int32) (v3 : Int32) (v4 : Int32) (v5 : Int32) (v6 : Int32) (v7 : Int32) : Rs := lt' (v3 ||| v7) fun x1 => ix v5 8 <| ix v6 26 <| lt' (v4 ||| (((M.1 68 (v5 : Int32).toNatClampNeg) : Int32) <<< ((M.1 40 (v6 : Int32).toNatClampNeg) &&& 31))) fun x2 => q_Plan_addRegister_104 kf8 M v2 x1 x2 v5
def q_Plan_addRegister_8  : Nat → Mm → Int32 → Int32 → Int32 → Int32 → Rs
  | 0, _, _, _, _, _ => none
  | n' + 1, M, v2, v3, v4, v5 => if (M.1 65 0) ≤ v5 then (ix v2 16 <| if (v3 &&& ((M.1 29 (v2 : Int32).toNatClampNeg) ^^^ (-1))) = 0 then (q_Plan_addRegister_131 M v2 v3 v4 1) else (q_Plan_addRegister_131 M v2 v3 v4 0)) else (ix v5 8 <| lt' (M.1 67 (v5 : Int32).toNatClampNeg) fun x1 => ix x1 26 <| if (M.1 38 (x1 : Int32).toNatClampNeg) = v2 then (ix x1 26 <| lt' (M.1 42 (x1 : Int32).toNatClampNeg) fun x2 => cal (q_Layout_isKnown M x1) fun M3 r4 => if r4 = 0 then (q_Plan_addRegister_76 (q_Plan_addRegister_8 n') M3 v2 v3 v4 v5 x1 x2) else (lt' (v4 &&& (x2 ^^^ (-1))) fun x5 => q_Plan_addRegister_76 (q_Plan_addRegister_8 n') M3 v2 v3 x5 v5 x1 x2)) else (q_Plan_addRegister_104 (q_Plan_addRegister_8 n') M v2 v3 v4 v5))
def q_Plan_addRegister  (M : Mm) (a2 : Int32) : Rs := q_Plan_addRegister_8 4000 M a2 0 0 0
set_option maxHeartbeats 4000000 in
set_option maxRecDepth 20000 in
theorem b_Plan_addRegister_155 {p : Program} {l : Launch} {e : Env} {s s0 : State} {m : MethodId} {args : Array Value} {below : List Frame} {meth : Method} {c : Code} {D : va_G} {cI cZ cC cJ cA : ClassId} {P : Nat → Nat} {M' : Mm} {r' : Int32}  (hx : p.tables.exec = Jvm.exec) (hb : c.code = cX9_addRegister) (hml : c.maxLocals = 8) (hr : meth.sig.returnType = none) (hlk : meth.locks = false) (hgt : ∀ w ∈ GT, w.before args s = true) (hown : s.vm.findClass RX9 = some m.cls) (hK : va_K D vwCl [(cI, .int), (cZ, .boolean), (cC, .char), (cJ, .long), (cA, .array .int)] s) (hO : Old s0 s) (hAO : ∀ q, (aP P 77) q → s0.heap.size ≤ q)  : ∀ (M : Mm) (v2 : Int32) (v3 : Int32) (v4 : Int32) (H : Heap) (locs : List Loc) (ls : Array Slot), lv_has ls 8 [(0, .ref (P 60)), (2, .int v2), (3, .int v3), (4, .int v4)] → va_P D vwCl ((wX cI cZ cC cJ cA P) M) H → va_D (aP P 77) ((wX cI cZ cC cJ cA P) M) → va_S (aP P 77) s.heap H locs → q_Plan_addRegister_155 M v2 v3 v4 = some (M', r') → W p l e ({ frames := 4, cells := 0, slots := 0, locals := 97 }) s m args below meth c H locs 0 0 (MQ below (gQv D (aP P 77) ((wX cI cZ cC cJ cA P) M')) args s 0 0 (aP P 77)) (F0 m 155 ls []) := by
  intro M v2 v3 v4 H locs ls hl hP hD hS h
  unfold q_Plan_addRegister_155 at h
  refine lv_aload_n hx hb dX9_addRegister_155 rfl (lv_at hl 0 rfl) ?_
  refine lv_iload_n hx hb dX9_addRegister_156 rfl (lv_at hl 1 rfl) ?_
  obtain ⟨M1, r2, hq, h⟩ := cal_o h
  refine cx_v (va_runV (As := [.int v2]) (rest := []) ⟨hx, hb, hml, hown, hgt⟩ (z_Plan_addReach l D cI cZ cC cJ cA P s0 hAO M v2 M1 r2 hq) (cwV 1 hgt (gV wd_2_208 wd_2_210 sl__ChipMap_Plan____ChipMap_Plan___addReach____I_V_____ChipMap_Plan___addReach____I_V__ wd_0_12 wd_2_211) rfl rfl rfl (by decide +kernel) ⟨Nat.le_of_ble_eq_true rfl, Nat.le_of_ble_eq_true rfl⟩) (prV hP hK hD hO hAO hS (va_recv hK hP (ci := 9) (q0 := 60) rfl gX_60)) rfl rfl hl.1 rfl (lv_room (Nat.le_of_ble_eq_true rfl)) dX9_addRegister_157 ⟨Nat.le_of_ble_eq_true rfl, Nat.le_of_ble_eq_true rfl⟩) hS (fun H locs hP hD hS => ?_)
  refine lv_aload_n hx hb dX9_addRegister_160 rfl (lv_at hl 0 rfl) ?_
  refine lv_iload_n hx hb dX9_addRegister_161 rfl (lv_at hl 1 rfl) ?_
  refine lv_iload_n hx hb dX9_addRegister_162 rfl (lv_at hl 2 rfl) ?_
  refine lv_iload hx hb dX9_addRegister_163 (lv_at hl 3 rfl) ?_
  obtain ⟨M3, r4, hq, h⟩ := cal_o h
  refine cx_v (va_runV (As := [.int v2, .int v3, .int v4]) (rest := []) ⟨hx, hb, hml, hown, hgt⟩ (z_Plan_addTold l D cI cZ cC cJ cA P s0 hAO M1 v2 v3 v4 M3 r4 hq) (cwV 3 hgt (gV wd_2_213 wd_2_215 sl__ChipMap_Plan____ChipMap_Plan___addTold____III_V_____ChipMap_Plan___addTold____III_V__ wd_0_12 wd_2_216) rfl rfl rfl (by decide +kernel) ⟨Nat.le_of_ble_eq_true rfl, Nat.le_of_ble_eq_true rfl⟩) (prV hP hK hD hO hAO hS (va_recv hK hP (ci := 9) (q0 := 60) rfl gX_60)) rfl rfl hl.1 rfl (lv_room (Nat.le_of_ble_eq_true rfl)) dX9_addRegister_165 ⟨Nat.le_of_ble_eq_true rfl, Nat.le_of_ble_eq_true rfl⟩) hS (fun H locs hP hD hS => ?_)
  exact rt_v (w := (wX cI cZ cC cJ cA P)) (r := r') hx hb hr hlk hP hD hS h dX9_addRegister_168
set_option maxHeartbeats 4000000 in
set_option maxRecDepth 20000 in
theorem b_Plan_addRegister_131 {p : Program} {l : Launch} {e : Env} {s s0 : State} {m : MethodId} {args : Array Value} {below : List Frame} {meth : Method} {c : Code} {D : va_G} {cI cZ cC cJ cA : ClassId} {P : Nat → Nat} {M' : Mm} {r' : Int32}  (hx : p.tables.exec = Jvm.exec) (hb : c.code = cX9_addRegister) (hml : c.maxLocals = 8) (hr : meth.sig.returnType = none) (hlk : meth.locks = false) (hgt : ∀ w ∈ GT, w.before args s = true) (hown : s.vm.findClass RX9 = some m.cls) (hK : va_K D vwCl [(cI, .int), (cZ, .boolean), (cC, .char), (cJ, .long), (cA, .array .int)] s) (hO : Old s0 s) (hAO : ∀ q, (aP P 77) q → s0.heap.size ≤ q)  : ∀ (M : Mm) (v2 : Int32) (v3 : Int32) (v4 : Int32) (t0 : Int32) (H : Heap) (locs : List Loc) (ls : Array Slot), lv_has ls 8 [(0, .ref (P 60)), (2, .int v2), (3, .int v3), (4, .int v4)] → va_P D vwCl ((wX cI cZ cC cJ cA P) M) H → va_D (aP P 77) ((wX cI cZ cC cJ cA P) M) → va_S (aP P 77) s.heap H locs → q_Plan_addRegister_131 M v2 v3 v4 t0 = some (M', r') → W p l e ({ frames := 4, cells := 0, slots := 0, locals := 97 }) s m args below meth c H locs 0 0 (MQ below (gQv D (aP P 77) ((wX cI cZ cC cJ cA P) M')) args s 0 0 (aP P 77)) (F0 m 131 ls [.int t0]) := by
  intro M v2 v3 v4 t0 H locs ls hl hP hD hS h
  unfold q_Plan_addRegister_131 at h
  refine lv_istore hx hb dX9_addRegister_131 hl (Nat.le_of_ble_eq_true rfl) (lv' := [(5, .int t0), (0, .ref (P 60)), (2, .int v2), (3, .int v3), (4, .int v4)]) rfl (fun ls hl => ?_)
  refine lv_iload hx hb dX9_addRegister_133 (lv_at hl 0 rfl) ?_
  refine lv_if_eq hx hb dX9_addRegister_135 (tgt := 155) rfl (fun hc => ?_) (fun hc => ?_)
  · have h := br_T hc h
    have hl := lv_sub hl [1, 2, 3, 4] (l' := [(0, .ref (P 60)), (2, .int v2), (3, .int v3), (4, .int v4)]) rfl
    exact b_Plan_addRegister_155 hx hb hml hr hlk hgt hown hK hO hAO M v2 v3 v4 H _ ls hl hP hD hS h
  · have h := br_F hc h
    refine lv_aload_n hx hb dX9_addRegister_138 rfl (lv_at hl 1 rfl) ?_
    refine va_get (D := D) (ci := 9) (v := .ref (P 61)) (C := RX9) (T := TX9) (N := 6) hx hb hgt iwX9 hown hK hP 60 gX_60 rfl 1 (Nat.le_of_ble_eq_true rfl) (hgt _ wd_1_161) (fun _ h9 => h9) rfl dX9_addRegister_139 ?_
    refine va_get (D := D) (ci := 8) (v := .ref (P 62)) (C := RX8) (T := TX8) (N := 3) hx hb hgt iwX8 hown hK hP 61 gX_61 rfl 1 (Nat.le_of_ble_eq_true rfl) (hgt _ wd_1_116) (fun _ h9 => h9) rfl dX9_addRegister_142 ?_
    refine lv_iload_n hx hb dX9_addRegister_145 rfl (lv_at hl 2 rfl) ?_
    refine va_iald hx hb hK hP 62 0 gX_62 rfl (ix_l h) dX9_addRegister_146 ?_
    have h := ix_r h
    refine lv_iload_n hx hb dX9_addRegister_147 rfl (lv_at hl 3 rfl) ?_
    refine lv_iand hx hb dX9_addRegister_148 ?_
    refine lv_iload hx hb dX9_addRegister_149 (lv_at hl 4 rfl) ?_
    refine lv_icmp_ne hx hb dX9_addRegister_151 (tgt := 155) rfl (fun hc => ?_) (fun hc => ?_)
    · have h := br_F hc h
      have hl := lv_sub hl [1, 2, 3, 4] (l' := [(0, .ref (P 60)), (2, .int v2), (3, .int v3), (4, .int v4)]) rfl
      exact b_Plan_addRegister_155 hx hb hml hr hlk hgt hown hK hO hAO M v2 v3 v4 H _ ls hl hP hD hS h
    · have h := br_T hc h
      exact rt_v (w := (wX cI cZ cC cJ cA P)) (r := r') hx hb hr hlk hP hD hS h dX9_addRegister_154
set_option maxHeartbeats 4000000 in
set_option maxRecDepth 20000 in
theorem b_Plan_addRegister_104 {p : Program} {l : Launch} {e : Env} {s s0 : State} {m : MethodId} {args : Array Value} {below : List Frame} {meth : Method} {c : Code} {D : va_G} {cI cZ cC cJ cA : ClassId} {P : Nat → Nat} {M' : Mm} {r' : Int32} {kf8 : Mm → Int32 → Int32 → Int32 → Int32 → Rs} (hx : p.tables.exec = Jvm.exec) (hb : c.code = cX9_addRegister) (hml : c.maxLocals = 8) (hr : meth.sig.returnType = none) (hlk : meth.locks = false) (hgt : ∀ w ∈ GT, w.before args s = true) (hown : s.vm.findClass RX9 = some m.cls) (hK : va_K D vwCl [(cI, .int), (cZ, .boolean), (cC, .char), (cJ, .long), (cA, .array .int)] s) (hO : Old s0 s) (hAO : ∀ q, (aP P 77) q → s0.heap.size ≤ q) (kk8 : ∀ (M : Mm) (v2 : Int32) (v3 : Int32) (v4 : Int32) (v5 : Int32) (H : Heap) (locs : List Loc) (ls : Array Slot), lv_has ls 8 [(0, .ref (P 60)), (1, .ref (P 65)), (2, .int v2), (3, .int v3), (4, .int v4), (5, .int v5)] → va_P D vwCl ((wX cI cZ cC cJ cA P) M) H → va_D (aP P 77) ((wX cI cZ cC cJ cA P) M) → va_S (aP P 77) s.heap H locs → kf8 M v2 v3 v4 v5 = some (M', r') → W p l e ({ frames := 4, cells := 0, slots := 0, locals := 97 }) s m args below meth c H locs 0 0 (MQ below (gQv D (aP P 77) ((wX cI cZ cC cJ cA P) M')) args s 0 0 (aP P 77)) (F0 m 8 ls [])) : ∀ (M : Mm) (v2 : Int32) (v3 : Int32) (v4 : Int32) (v5 : Int32) (H : Heap) (locs : List Loc) (ls : Array Slot), lv_has ls 8 [(0, .ref (P 60)), (1, .ref (P 65)), (2, .int v2), (3, .int v3), (4, .int v4), (5, .int v5)] → va_P D vwCl ((wX cI cZ cC cJ cA P) M) H → va_D (aP P 77) ((wX cI cZ cC cJ cA P) M) → va_S (aP P 77) s.heap H locs → q_Plan_addRegister_104 kf8 M v2 v3 v4 v5 = some (M', r') → W p l e ({ frames := 4, cells := 0, slots := 0, locals := 97 }) s m args below meth c H locs 0 0 (MQ below (gQv D (aP P 77) ((wX cI cZ cC cJ cA P) M')) args s 0 0 (aP P 77)) (F0 m 104 ls []) := by
  intro M v2 v3 v4 v5 H locs ls hl hP hD hS h
  unfold q_Plan_addRegister_104 at h
  refine lv_iinc (v := (v5 + 1)) hx hb dX9_addRegister_104 hl (k := 5) rfl rfl (Nat.le_of_ble_eq_true rfl) (lv' := [(5, .int (v5 + 1)), (0, .ref (P 60)), (1, .ref (P 65)), (2, .int v2), (3, .int v3), (4, .int v4)]) rfl (fun ls hl => ?_)
  refine lv_goto hx hb dX9_addRegister_107 (tgt := 8) rfl ?_
  have hl := lv_sub hl [1, 2, 3, 4, 5, 0] (l' := [(0, .ref (P 60)), (1, .ref (P 65)), (2, .int v2), (3, .int v3), (4, .int v4), (5, .int (v5 + 1))]) rfl
  exact kk8 M v2 v3 v4 (v5 + 1) H locs ls hl hP hD hS h
set_option maxHeartbeats 4000000 in
set_option maxRecDepth 20000 in
theorem b_Plan_addRegister_76 {p : Program} {l : Launch} {e : Env} {s s0 : State} {m : MethodId} {args : Array Value} {below : List Frame} {meth : Method} {c : Code} {D : va_G} {cI cZ cC cJ cA : ClassId} {P : Nat → Nat} {M' : Mm} {r' : Int32} {kf8 : Mm → Int32 → Int32 → Int32 → Int32 → Rs} (hx : p.tables.exec = Jvm.exec) (hb : c.code = cX9_addRegister) (hml : c.maxLocals = 8) (hr : meth.sig.returnType = none) (hlk : meth.locks = false) (hgt : ∀ w ∈ GT, w.before args s = true) (hown : s.vm.findClass RX9 = some m.cls) (hK : va_K D vwCl [(cI, .int), (cZ, .boolean), (cC, .char), (cJ, .long), (cA, .array .int)] s) (hO : Old s0 s) (hAO : ∀ q, (aP P 77) q → s0.heap.size ≤ q) (kk8 : ∀ (M : Mm) (v2 : Int32) (v3 : Int32) (v4 : Int32) (v5 : Int32) (H : Heap) (locs : List Loc) (ls : Array Slot), lv_has ls 8 [(0, .ref (P 60)), (1, .ref (P 65)), (2, .int v2), (3, .int v3), (4, .int v4), (5, .int v5)] → va_P D vwCl ((wX cI cZ cC cJ cA P) M) H → va_D (aP P 77) ((wX cI cZ cC cJ cA P) M) → va_S (aP P 77) s.heap H locs → kf8 M v2 v3 v4 v5 = some (M', r') → W p l e ({ frames := 4, cells := 0, slots := 0, locals := 97 }) s m args below meth c H locs 0 0 (MQ below (gQv D (aP P 77) ((wX cI cZ cC cJ cA P) M')) args s 0 0 (aP P 77)) (F0 m 8 ls [])) : ∀ (M : Mm) (v2 : Int32) (v3 : Int32) (v4 : Int32) (v5 : Int32) (v6 : Int32) (v7 : Int32) (H : Heap) (locs : List Loc) (ls : Array Slot), lv_has ls 8 [(0, .ref (P 60)), (1, .ref (P 65)), (2, .int v2), (3, .int v3), (4, .int v4), (5, .int v5), (6, .int v6), (7, .int v7)] → va_P D vwCl ((wX cI cZ cC cJ cA P) M) H → va_D (aP P 77) ((wX cI cZ cC cJ cA P) M) → va_S (aP P 77) s.heap H locs → q_Plan_addRegister_76 kf8 M v2 v3 v4 v5 v6 v7 = some (M', r') → W p l e ({ frames := 4, cells := 0, slots := 0, locals := 97 }) s m args below meth c H locs 0 0 (MQ below (gQv D (aP P 77) ((wX cI cZ cC cJ cA P) M')) args s 0 0 (aP P 77)) (F0 m 76 ls []) := by
  intro M v2 v3 v4 v5 v6 v7 H locs ls hl hP hD hS h
  unfold q_Plan_addRegister_76 at h
  refine lv_iload_n hx hb dX9_addRegister_76 rfl (lv_at hl 3 rfl) ?_
  refine lv_iload hx hb dX9_addRegister_77 (lv_at hl 7 rfl) ?_
  refine lv_ior hx hb dX9_addRegister_79 ?_
  refine lv_topi (fun x1 ex1 => ?_)
  have h := lt_o ex1 h
  refine lv_istore_n hx hb dX9_addRegister_80 rfl hl (Nat.le_of_ble_eq_true rfl) (lv' := [(3, .int x1), (0, .ref (P 60)), (1, .ref (P 65)), (2, .int v2), (4, .int v4), (5, .int v5), (6, .int v6), (7, .int v7)]) rfl (fun ls hl => ?_)
  refine lv_iload hx hb dX9_addRegister_81 (lv_at hl 4 rfl) ?_
  refine lv_aload_n hx hb dX9_addRegister_83 rfl (lv_at hl 2 rfl) ?_
  refine va_get (D := D) (ci := 12) (v := .ref (P 68)) (C := RX12) (T := TX12) (N := 4) hx hb hgt iwX12 hown hK hP 65 gX_65 rfl 3 (Nat.le_of_ble_eq_true rfl) (hgt _ wd_1_204) (fun _ h9 => h9) rfl dX9_addRegister_84 ?_
  refine lv_iload hx hb dX9_addRegister_87 (lv_at hl 5 rfl) ?_
  refine va_iald hx hb hK hP 68 0 gX_68 rfl (ix_l h) dX9_addRegister_89 ?_
  have h := ix_r h
  refine lv_aload_n hx hb dX9_addRegister_90 rfl (lv_at hl 1 rfl) ?_
  refine va_get (D := D) (ci := 9) (v := .ref (P 24)) (C := RX9) (T := TX9) (N := 6) hx hb hgt iwX9 hown hK hP 60 gX_60 rfl 0 (Nat.le_of_ble_eq_true rfl) (hgt _ wd_1_160) (fun _ h9 => h9) rfl dX9_addRegister_91 ?_
  refine va_get (D := D) (ci := 6) (v := .ref (P 40)) (C := RX6) (T := TX6) (N := 13) hx hb hgt iwX6 hown hK hP 24 gX_24 rfl 9 (Nat.le_of_ble_eq_true rfl) (hgt _ wd_1_35) (fun _ h9 => h9) rfl dX9_addRegister_94 ?_
  refine lv_iload hx hb dX9_addRegister_97 (lv_at hl 6 rfl) ?_
  refine va_iald hx hb hK hP 40 0 gX_40 rfl (ix_l h) dX9_addRegister_99 ?_
  have h := ix_r h
  refine lv_ishl hx hb dX9_addRegister_100 ?_
  refine lv_ior hx hb dX9_addRegister_101 ?_
  refine lv_topi (fun x2 ex2 => ?_)
  have h := lt_o ex2 h
  refine lv_istore hx hb dX9_addRegister_102 hl (Nat.le_of_ble_eq_true rfl) (lv' := [(4, .int x2), (3, .int x1), (0, .ref (P 60)), (1, .ref (P 65)), (2, .int v2), (5, .int v5), (6, .int v6), (7, .int v7)]) rfl (fun ls hl => ?_)
  have hl := lv_sub hl [2, 3, 4, 1, 0, 5] (l' := [(0, .ref (P 60)), (1, .ref (P 65)), (2, .int v2), (3, .int x1), (4, .int x2), (5, .int v5)]) rfl
  exact b_Plan_addRegister_104 hx hb hml hr hlk hgt hown hK hO hAO kk8 M v2 x1 x2 v5 H _ ls hl hP hD hS h
set_option maxHeartbeats 4000000 in
set_option maxRecDepth 20000 in
theorem b_Plan_addRegister_8 {p : Program} {l : Launch} {e : Env} {s s0 : State} {m : MethodId} {args : Array Value} {below : List Frame} {meth : Method} {c : Code} {D : va_G} {cI cZ cC cJ cA : ClassId} {P : Nat → Nat} {M' : Mm} {r' : Int32}  (hx : p.tables.exec = Jvm.exec) (hb : c.code = cX9_addRegister) (hml : c.maxLocals = 8) (hr : meth.sig.returnType = none) (hlk : meth.locks = false) (hgt : ∀ w ∈ GT, w.before args s = true) (hown : s.vm.findClass RX9 = some m.cls) (hK : va_K D vwCl [(cI, .int), (cZ, .boolean), (cC, .char), (cJ, .long), (cA, .array .int)] s) (hO : Old s0 s) (hAO : ∀ q, (aP P 77) q → s0.heap.size ≤ q)  : ∀ (n' : Nat) (M : Mm) (v2 : Int32) (v3 : Int32) (v4 : Int32) (v5 : Int32) (H : Heap) (locs : List Loc) (ls : Array Slot), lv_has ls 8 [(0, .ref (P 60)), (1, .ref (P 65)), (2, .int v2), (3, .int v3), (4, .int v4), (5, .int v5)] → va_P D vwCl ((wX cI cZ cC cJ cA P) M) H → va_D (aP P 77) ((wX cI cZ cC cJ cA P) M) → va_S (aP P 77) s.heap H locs → q_Plan_addRegister_8 n' M v2 v3 v4 v5 = some (M', r') → W p l e ({ frames := 4, cells := 0, slots := 0, locals := 97 }) s m args below meth c H locs 0 0 (MQ below (gQv D (aP P 77) ((wX cI cZ cC cJ cA P) M')) args s 0 0 (aP P 77)) (F0 m 8 ls []) := by
  intro n'
  induction n' with
  | zero => exact fun _ _ _ _ _ _ _ _ _ _ _ _ h => (rs_n h).elim
  | succ n' ih =>
    intro M v2 v3 v4 v5 H locs ls hl hP hD hS h
    rw [q_Plan_addRegister_8] at h
    refine lv_iload hx hb dX9_addRegister_8 (lv_at hl 5 rfl) ?_
    refine lv_aload_n hx hb dX9_addRegister_10 rfl (lv_at hl 1 rfl) ?_
    refine va_get (D := D) (ci := 12) (v := .int (M.1 65 0)) (C := RX12) (T := TX12) (N := 4) hx hb hgt iwX12 hown hK hP 65 gX_65 rfl 0 (Nat.le_of_ble_eq_true rfl) (hgt _ wd_1_194) (fun _ h9 => h9) rfl dX9_addRegister_11 ?_
    refine lv_icmp_ge hx hb dX9_addRegister_14 (tgt := 110) rfl (fun hc => ?_) (fun hc => ?_)
    · have h := br_T hc h
      refine lv_iload_n hx hb dX9_addRegister_110 rfl (lv_at hl 3 rfl) ?_
      refine lv_aload_n hx hb dX9_addRegister_111 rfl (lv_at hl 0 rfl) ?_
      refine va_get (D := D) (ci := 9) (v := .ref (P 24)) (C := RX9) (T := TX9) (N := 6) hx hb hgt iwX9 hown hK hP 60 gX_60 rfl 0 (Nat.le_of_ble_eq_true rfl) (hgt _ wd_1_160) (fun _ h9 => h9) rfl dX9_addRegister_112 ?_
      refine va_get (D := D) (ci := 6) (v := .ref (P 29)) (C := RX6) (T := TX6) (N := 13) hx hb hgt iwX6 hown hK hP 24 gX_24 rfl 5 (Nat.le_of_ble_eq_true rfl) (hgt _ wd_1_22) (fun _ h9 => h9) rfl dX9_addRegister_115 ?_
      refine lv_iload_n hx hb dX9_addRegister_118 rfl (lv_at hl 2 rfl) ?_
      refine va_iald hx hb hK hP 29 0 gX_29 rfl (ix_l h) dX9_addRegister_119 ?_
      have h := ix_r h
      refine lv_iconst (v := (-1)) hx hb dX9_addRegister_120 (by decide) ?_
      refine lv_ixor hx hb dX9_addRegister_121 ?_
      refine lv_iand hx hb dX9_addRegister_122 ?_
      refine lv_if_ne hx hb dX9_addRegister_123 (tgt := 130) rfl (fun hc => ?_) (fun hc => ?_)
      · have h := br_F hc h
        refine lv_iconst (v := 0) hx hb dX9_addRegister_130 (by decide) ?_
        have hl := lv_sub hl [0, 2, 3, 4] (l' := [(0, .ref (P 60)), (2, .int v2), (3, .int v3), (4, .int v4)]) rfl
        exact b_Plan_addRegister_131 hx hb hml hr hlk hgt hown hK hO hAO M v2 v3 v4 0 H _ ls hl hP hD hS h
      · have h := br_T hc h
        refine lv_iconst (v := 1) hx hb dX9_addRegister_126 (by decide) ?_
        refine lv_goto hx hb dX9_addRegister_127 (tgt := 131) rfl ?_
        have hl := lv_sub hl [0, 2, 3, 4] (l' := [(0, .ref (P 60)), (2, .int v2), (3, .int v3), (4, .int v4)]) rfl
        exact b_Plan_addRegister_131 hx hb hml hr hlk hgt hown hK hO hAO M v2 v3 v4 1 H _ ls hl hP hD hS h
    · have h := br_F hc h
      refine lv_aload_n hx hb dX9_addRegister_17 rfl (lv_at hl 1 rfl) ?_
      refine va_get (D := D) (ci := 12) (v := .ref (P 67)) (C := RX12) (T := TX12) (N := 4) hx hb hgt iwX12 hown hK hP 65 gX_65 rfl 2 (Nat.le_of_ble_eq_true rfl) (hgt _ wd_1_200) (fun _ h9 => h9) rfl dX9_addRegister_18 ?_
      refine lv_iload hx hb dX9_addRegister_21 (lv_at hl 5 rfl) ?_
      refine va_iald hx hb hK hP 67 0 gX_67 rfl (ix_l h) dX9_addRegister_23 ?_
      have h := ix_r h
      refine lv_topi (fun x1 ex1 => ?_)
      have h := lt_o ex1 h
      refine lv_istore hx hb dX9_addRegister_24 hl (Nat.le_of_ble_eq_true rfl) (lv' := [(6, .int x1), (0, .ref (P 60)), (1, .ref (P 65)), (2, .int v2), (3, .int v3), (4, .int v4), (5, .int v5)]) rfl (fun ls hl => ?_)
      refine lv_aload_n hx hb dX9_addRegister_26 rfl (lv_at hl 1 rfl) ?_
      refine va_get (D := D) (ci := 9) (v := .ref (P 24)) (C := RX9) (T := TX9) (N := 6) hx hb hgt iwX9 hown hK hP 60 gX_60 rfl 0 (Nat.le_of_ble_eq_true rfl) (hgt _ wd_1_160) (fun _ h9 => h9) rfl dX9_addRegister_27 ?_
      refine va_get (D := D) (ci := 6) (v := .ref (P 38)) (C := RX6) (T := TX6) (N := 13) hx hb hgt iwX6 hown hK hP 24 gX_24 rfl 7 (Nat.le_of_ble_eq_true rfl) (hgt _ wd_1_27) (fun _ h9 => h9) rfl dX9_addRegister_30 ?_
      refine lv_iload hx hb dX9_addRegister_33 (lv_at hl 0 rfl) ?_
      refine va_iald hx hb hK hP 38 0 gX_38 rfl (ix_l h) dX9_addRegister_35 ?_
      have h := ix_r h
      refine lv_iload_n hx hb dX9_addRegister_36 rfl (lv_at hl 3 rfl) ?_
      refine lv_icmp_eq hx hb dX9_addRegister_37 (tgt := 43) rfl (fun hc => ?_) (fun hc => ?_)
      · have h := br_T hc h
        refine lv_aload_n hx hb dX9_addRegister_43 rfl (lv_at hl 1 rfl) ?_
        refine va_get (D := D) (ci := 9) (v := .ref (P 24)) (C := RX9) (T := TX9) (N := 6) hx hb hgt iwX9 hown hK hP 60 gX_60 rfl 0 (Nat.le_of_ble_eq_true rfl) (hgt _ wd_1_160) (fun _ h9 => h9) rfl dX9_addRegister_44 ?_
        refine va_get (D := D) (ci := 6) (v := .ref (P 42)) (C := RX6) (T := TX6) (N := 13) hx hb hgt iwX6 hown hK hP 24 gX_24 rfl 11 (Nat.le_of_ble_eq_true rfl) (hgt _ wd_1_42) (fun _ h9 => h9) rfl dX9_addRegister_47 ?_
        refine lv_iload hx hb dX9_addRegister_50 (lv_at hl 0 rfl) ?_
        refine va_iald hx hb hK hP 42 0 gX_42 rfl (ix_l h) dX9_addRegister_52 ?_
        have h := ix_r h
        refine lv_topi (fun x2 ex2 => ?_)
        have h := lt_o ex2 h
        refine lv_istore hx hb dX9_addRegister_53 hl (Nat.le_of_ble_eq_true rfl) (lv' := [(7, .int x2), (6, .int x1), (0, .ref (P 60)), (1, .ref (P 65)), (2, .int v2), (3, .int v3), (4, .int v4), (5, .int v5)]) rfl (fun ls hl => ?_)
        refine lv_aload_n hx hb dX9_addRegister_55 rfl (lv_at hl 2 rfl) ?_
        refine va_get (D := D) (ci := 9) (v := .ref (P 24)) (C := RX9) (T := TX9) (N := 6) hx hb hgt iwX9 hown hK hP 60 gX_60 rfl 0 (Nat.le_of_ble_eq_true rfl) (hgt _ wd_1_160) (fun _ h9 => h9) rfl dX9_addRegister_56 ?_
        refine lv_iload hx hb dX9_addRegister_59 (lv_at hl 1 rfl) ?_
        obtain ⟨M3, r4, hq, h⟩ := cal_o h
        refine cx_i (va_runV (As := [.int x1]) (rest := []) ⟨hx, hb, hml, hown, hgt⟩ (z_Layout_isKnown l D cI cZ cC cJ cA P s0 hAO M x1 M3 r4 hq) (cwV 1 hgt (gV wd_2_203 wd_2_204 wd_2_205 wd_0_6 wd_2_206) rfl rfl rfl (by decide +kernel) ⟨Nat.le_of_ble_eq_true rfl, Nat.le_of_ble_eq_true rfl⟩) (prV hP hK hD hO hAO hS (va_recv hK hP (ci := 6) (q0 := 24) rfl gX_24)) rfl rfl hl.1 rfl (lv_room (Nat.le_of_ble_eq_true rfl)) dX9_addRegister_61 ⟨Nat.le_of_ble_eq_true rfl, Nat.le_of_ble_eq_true rfl⟩) hS (fun H locs hP hD hS => ?_)
        refine lv_if_eq hx hb dX9_addRegister_64 (tgt := 76) rfl (fun hc => ?_) (fun hc => ?_)
        · have h := br_T hc h
          have hl := lv_sub hl [2, 3, 4, 5, 6, 7, 1, 0] (l' := [(0, .ref (P 60)), (1, .ref (P 65)), (2, .int v2), (3, .int v3), (4, .int v4), (5, .int v5), (6, .int x1), (7, .int x2)]) rfl
          exact b_Plan_addRegister_76 hx hb hml hr hlk hgt hown hK hO hAO ih M3 v2 v3 v4 v5 x1 x2 H _ ls hl hP hD hS h
        · have h := br_F hc h
          refine lv_iload hx hb dX9_addRegister_67 (lv_at hl 6 rfl) ?_
          refine lv_iload hx hb dX9_addRegister_69 (lv_at hl 0 rfl) ?_
          refine lv_iconst (v := (-1)) hx hb dX9_addRegister_71 (by decide) ?_
          refine lv_ixor hx hb dX9_addRegister_72 ?_
          refine lv_iand hx hb dX9_addRegister_73 ?_
          refine lv_topi (fun x5 ex5 => ?_)
          have h := lt_o ex5 h
          refine lv_istore hx hb dX9_addRegister_74 hl (Nat.le_of_ble_eq_true rfl) (lv' := [(4, .int x5), (7, .int x2), (6, .int x1), (0, .ref (P 60)), (1, .ref (P 65)), (2, .int v2), (3, .int v3), (5, .int v5)]) rfl (fun ls hl => ?_)
          have hl := lv_sub hl [3, 4, 5, 6, 0, 7, 2, 1] (l' := [(0, .ref (P 60)), (1, .ref (P 65)), (2, .int v2), (3, .int v3), (4, .int x5), (5, .int v5), (6, .int x1), (7, .int x2)]) rfl
          exact b_Plan_addRegister_76 hx hb hml hr hlk hgt hown hK hO hAO ih M3 v2 v3 x5 v5 x1 x2 H _ ls hl hP hD hS h
      · have h := br_F hc h
        refine lv_goto hx hb dX9_addRegister_40 (tgt := 104) rfl ?_
        have hl := lv_sub hl [1, 2, 3, 4, 5, 6] (l' := [(0, .ref (P 60)), (1, .ref (P 65)), (2, .int v2), (3, .int v3), (4, .int v4), (5, .int v5)]) rfl
        exact b_Plan_addRegister_104 hx hb hml hr hlk hgt hown hK hO hAO ih M v2 v3 v4 v5 H _ ls hl hP hD hS h
set_option maxHeartbeats 4000000 in
set_option maxRecDepth 20000 in
theorem b_Plan_addRegister_0 {p : Program} {l : Launch} {e : Env} {s s0 : State} {m : MethodId} {args : Array Value} {below : List Frame} {meth : Method} {c : Code} {D : va_G} {cI cZ cC cJ cA : ClassId} {P : Nat → Nat} {M' : Mm} {r' : Int32}  (hx : p.tables.exec = Jvm.exec) (hb : c.code = cX9_addRegister) (hml : c.maxLocals = 8) (hr : meth.sig.returnType = none) (hlk : meth.locks = false) (hgt : ∀ w ∈ GT, w.before args s = true) (hown : s.vm.findClass RX9 = some m.cls) (hK : va_K D vwCl [(cI, .int), (cZ, .boolean), (cC, .char), (cJ, .long), (cA, .array .int)] s) (hO : Old s0 s) (hAO : ∀ q, (aP P 77) q → s0.heap.size ≤ q)  : ∀ (M : Mm) (a2 : Int32) (H : Heap) (locs : List Loc) (ls : Array Slot), lv_has ls 8 [(0, .ref (P 60)), (1, .ref (P 65)), (2, .int a2)] → va_P D vwCl ((wX cI cZ cC cJ cA P) M) H → va_D (aP P 77) ((wX cI cZ cC cJ cA P) M) → va_S (aP P 77) s.heap H locs → q_Plan_addRegister M a2 = some (M', r') → W p l e ({ frames := 4, cells := 0, slots := 0, locals := 97 }) s m args below meth c H locs 0 0 (MQ below (gQv D (aP P 77) ((wX cI cZ cC cJ cA P) M')) args s 0 0 (aP P 77)) (F0 m 0 ls []) := by
  intro M a2 H locs ls hl hP hD hS h
  unfold q_Plan_addRegister at h
  refine lv_iconst (v := 0) hx hb dX9_addRegister_0 (by decide) ?_
  refine lv_istore_n hx hb dX9_addRegister_1 rfl hl (Nat.le_of_ble_eq_true rfl) (lv' := [(3, .int 0), (0, .ref (P 60)), (1, .ref (P 65)), (2, .int a2)]) rfl (fun ls hl => ?_)
  refine lv_iconst (v := 0) hx hb dX9_addRegister_2 (by decide) ?_
  refine lv_istore hx hb dX9_addRegister_3 hl (Nat.le_of_ble_eq_true rfl) (lv' := [(4, .int 0), (3, .int 0), (0, .ref (P 60)), (1, .ref (P 65)), (2, .int a2)]) rfl (fun ls hl => ?_)
  refine lv_iconst (v := 0) hx hb dX9_addRegister_5 (by decide) ?_
  refine lv_istore hx hb dX9_addRegister_6 hl (Nat.le_of_ble_eq_true rfl) (lv' := [(5, .int 0), (4, .int 0), (3, .int 0), (0, .ref (P 60)), (1, .ref (P 65)), (2, .int a2)]) rfl (fun ls hl => ?_)
  have hl := lv_sub hl [3, 4, 5, 2, 1, 0] (l' := [(0, .ref (P 60)), (1, .ref (P 65)), (2, .int a2), (3, .int 0), (4, .int 0), (5, .int 0)]) rfl
  exact b_Plan_addRegister_8 hx hb hml hr hlk hgt hown hK hO hAO 4000 M a2 0 0 0 H _ ls hl hP hD hS h
set_option maxHeartbeats 4000000 in
set_option maxRecDepth 20000 in
theorem z_Plan_addRegister (l : Launch) (D : va_G) (cI cZ cC cJ cA : ClassId) (P : Nat → Nat) (s0 : State) (hAO : ∀ q, (aP P 77) q → s0.heap.size ≤ q) (M : Mm) (a2 : Int32) (M' : Mm) (r' : Int32) (h : q_Plan_addRegister M a2 = some (M', r')) : Met l yX9_addRegister wsX9_addRegister ({ frames := 4, cells := 0, slots := 0, locals := 97 }) (va_Pc [.ref (P 60), .ref (P 65), .int a2] (gPre s0 D [(cI, .int), (cZ, .boolean), (cC, .char), (cJ, .long), (cA, .array .int)] (aP P 77) ((wX cI cZ cC cJ cA P) M))) (gQv D (aP P 77) ((wX cI cZ cC cJ cA P) M')) 0 0 (aP P 77) := by
  refine Met.ofW (cc := cX9_addRegister) (maxL := 8) (ret := none) (by decide) rfl ?_
  intro p e s m args below meth c s₁ B hml hv
  obtain ⟨rfl, hP, hK, hD, hO⟩ := hv
  have hx := B.exec
  have hb := B.bytes
  have hr := B.returns
  have hlk := B.notSynchronized
  have hgt := fun w (h : w ∈ GT) => atoms_spec (ws := wsX9_addRegister) B.pre w (List.mem_cons_of_mem _ h)
  have hown : s.vm.findClass RX9 = some m.cls := findClass_of_methodNamed B.named
  have hS : va_S (aP P 77) s.heap s.heap [] := va_S.rf
  have hl := lv_entry ([.ref (P 60), .ref (P 65), .int a2]) (n := 8) (Nat.le_of_ble_eq_true rfl)
  rw [lg_entry_eq]
  generalize (lg_sl ([.ref (P 60), .ref (P 65), .int a2]) ++ List.replicate (8 - (lg_sl ([.ref (P 60), .ref (P 65), .int a2])).length) Slot.unset).toArray = ls at hl ⊢
  have hl : lv_has ls 8 [(0, .ref (P 60)), (1, .ref (P 65)), (2, .int a2)] := hl
  exact b_Plan_addRegister_0 hx hb hml hr hlk hgt hown hK hO hAO M a2 s.heap [] ls hl hP hD hS h
def q_Plan_addJoined_38 (kf2 : Mm → Int32 → Rs) (M : Mm) (v2 : Int32) : Rs := kf2 M (v2 + 1)
def q_Plan_addJoined_2  : Nat → Mm → Int32 → Rs
  | 0, _, _ => none
  | n' + 1, M, v2 => if (M.1 65 0) ≤ v2 then (some (M, 0)) else (cal (q_Plan_isFirstOfRegister M v2) fun M1 r2 => if r2 = 0 then (q_Plan_addJoined_38 (q_Plan_addJoined_2 n') M1 v2) else (ix v2 8 <| ix (M1.1 67 (v2 : Int32).toNatClampNeg) 26 <| cal (q_Plan_addRegister M1 (M1.1 38 ((M1.1 67 (v2 : Int32).toNatClampNeg) : Int32).toNatClampNeg)) fun M3 r4 => q_Plan_addJoined_38 (q_Plan_addJoined_2 n') M3 v2))
def q_Plan_addJoined  (M : Mm)  : Rs := q_Plan_addJoined_2 4000 M 0
set_option maxHeartbeats 4000000 in
set_option maxRecDepth 20000 in
theorem b_Plan_addJoined_38 {p : Program} {l : Launch} {e : Env} {s s0 : State} {m : MethodId} {args : Array Value} {below : List Frame} {meth : Method} {c : Code} {D : va_G} {cI cZ cC cJ cA : ClassId} {P : Nat → Nat} {M' : Mm} {r' : Int32} {kf2 : Mm → Int32 → Rs} (hx : p.tables.exec = Jvm.exec) (hb : c.code = cX9_addJoined) (hml : c.maxLocals = 3) (hr : meth.sig.returnType = none) (hlk : meth.locks = false) (hgt : ∀ w ∈ GT, w.before args s = true) (hown : s.vm.findClass RX9 = some m.cls) (hK : va_K D vwCl [(cI, .int), (cZ, .boolean), (cC, .char), (cJ, .long), (cA, .array .int)] s) (hO : Old s0 s) (hAO : ∀ q, (aP P 77) q → s0.heap.size ≤ q) (kk2 : ∀ (M : Mm) (v2 : Int32) (H : Heap) (locs : List Loc) (ls : Array Slot), lv_has ls 3 [(0, .ref (P 60)), (1, .ref (P 65)), (2, .int v2)] → va_P D vwCl ((wX cI cZ cC cJ cA P) M) H → va_D (aP P 77) ((wX cI cZ cC cJ cA P) M) → va_S (aP P 77) s.heap H locs → kf2 M v2 = some (M', r') → W p l e ({ frames := 5, cells := 0, slots := 0, locals := 124 }) s m args below meth c H locs 0 0 (MQ below (gQv D (aP P 77) ((wX cI cZ cC cJ cA P) M')) args s 0 0 (aP P 77)) (F0 m 2 ls [])) : ∀ (M : Mm) (v2 : Int32) (H : Heap) (locs : List Loc) (ls : Array Slot), lv_has ls 3 [(0, .ref (P 60)), (1, .ref (P 65)), (2, .int v2)] → va_P D vwCl ((wX cI cZ cC cJ cA P) M) H → va_D (aP P 77) ((wX cI cZ cC cJ cA P) M) → va_S (aP P 77) s.heap H locs → q_Plan_addJoined_38 kf2 M v2 = some (M', r') → W p l e ({ frames := 5, cells := 0, slots := 0, locals := 124 }) s m args below meth c H locs 0 0 (MQ below (gQv D (aP P 77) ((wX cI cZ cC cJ cA P) M')) args s 0 0 (aP P 77)) (F0 m 38 ls []) := by
  intro M v2 H locs ls hl hP hD hS h
  unfold q_Plan_addJoined_38 at h
  refine lv_iinc (v := (v2 + 1)) hx hb dX9_addJoined_38 hl (k := 2) rfl rfl (Nat.le_of_ble_eq_true rfl) (lv' := [(2, .int (v2 + 1)), (0, .ref (P 60)), (1, .ref (P 65))]) rfl (fun ls hl => ?_)
  refine lv_goto hx hb dX9_addJoined_41 (tgt := 2) rfl ?_
  have hl := lv_sub hl [1, 2, 0] (l' := [(0, .ref (P 60)), (1, .ref (P 65)), (2, .int (v2 + 1))]) rfl
  exact kk2 M (v2 + 1) H locs ls hl hP hD hS h
set_option maxHeartbeats 4000000 in
set_option maxRecDepth 20000 in
theorem b_Plan_addJoined_2 {p : Program} {l : Launch} {e : Env} {s s0 : State} {m : MethodId} {args : Array Value} {below : List Frame} {meth : Method} {c : Code} {D : va_G} {cI cZ cC cJ cA : ClassId} {P : Nat → Nat} {M' : Mm} {r' : Int32}  (hx : p.tables.exec = Jvm.exec) (hb : c.code = cX9_addJoined) (hml : c.maxLocals = 3) (hr : meth.sig.returnType = none) (hlk : meth.locks = false) (hgt : ∀ w ∈ GT, w.before args s = true) (hown : s.vm.findClass RX9 = some m.cls) (hK : va_K D vwCl [(cI, .int), (cZ, .boolean), (cC, .char), (cJ, .long), (cA, .array .int)] s) (hO : Old s0 s) (hAO : ∀ q, (aP P 77) q → s0.heap.size ≤ q)  : ∀ (n' : Nat) (M : Mm) (v2 : Int32) (H : Heap) (locs : List Loc) (ls : Array Slot), lv_has ls 3 [(0, .ref (P 60)), (1, .ref (P 65)), (2, .int v2)] → va_P D vwCl ((wX cI cZ cC cJ cA P) M) H → va_D (aP P 77) ((wX cI cZ cC cJ cA P) M) → va_S (aP P 77) s.heap H locs → q_Plan_addJoined_2 n' M v2 = some (M', r') → W p l e ({ frames := 5, cells := 0, slots := 0, locals := 124 }) s m args below meth c H locs 0 0 (MQ below (gQv D (aP P 77) ((wX cI cZ cC cJ cA P) M')) args s 0 0 (aP P 77)) (F0 m 2 ls []) := by
  intro n'
  induction n' with
  | zero => exact fun _ _ _ _ _ _ _ _ _ h => (rs_n h).elim
  | succ n' ih =>
    intro M v2 H locs ls hl hP hD hS h
    rw [q_Plan_addJoined_2] at h
    refine lv_iload_n hx hb dX9_addJoined_2 rfl (lv_at hl 2 rfl) ?_
    refine lv_aload_n hx hb dX9_addJoined_3 rfl (lv_at hl 1 rfl) ?_
    refine va_get (D := D) (ci := 12) (v := .int (M.1 65 0)) (C := RX12) (T := TX12) (N := 4) hx hb hgt iwX12 hown hK hP 65 gX_65 rfl 0 (Nat.le_of_ble_eq_true rfl) (hgt _ wd_1_194) (fun _ h9 => h9) rfl dX9_addJoined_4 ?_
    refine lv_icmp_ge hx hb dX9_addJoined_7 (tgt := 44) rfl (fun hc => ?_) (fun hc => ?_)
    · have h := br_T hc h
      exact rt_v (w := (wX cI cZ cC cJ cA P)) (r := r') hx hb hr hlk hP hD hS h dX9_addJoined_44
    · have h := br_F hc h
      refine lv_aload_n hx hb dX9_addJoined_10 rfl (lv_at hl 0 rfl) ?_
      refine lv_aload_n hx hb dX9_addJoined_11 rfl (lv_at hl 1 rfl) ?_
      refine lv_iload_n hx hb dX9_addJoined_12 rfl (lv_at hl 2 rfl) ?_
      obtain ⟨M1, r2, hq, h⟩ := cal_o h
      refine cx_i (va_runV (As := [.ref (P 65), .int v2]) (rest := []) ⟨hx, hb, hml, hown, hgt⟩ (z_Plan_isFirstOfRegister l D cI cZ cC cJ cA P s0 hAO M v2 M1 r2 hq) (cwV 2 hgt (gV wd_3_4 wd_3_6 sl__ChipMap_Plan____ChipMap_Plan___isFirstOfRegister____LChipMap_Steps_I_Z_____ChipMap_Plan___isFirstOfRegister____LChipMap_Steps_I_Z__ wd_0_12 wd_3_7) rfl rfl rfl (by decide +kernel) ⟨Nat.le_of_ble_eq_true rfl, Nat.le_of_ble_eq_true rfl⟩) (prV hP hK hD hO hAO hS (va_recv hK hP (ci := 9) (q0 := 60) rfl gX_60)) rfl rfl hl.1 rfl (lv_room (Nat.le_of_ble_eq_true rfl)) dX9_addJoined_13 ⟨Nat.le_of_ble_eq_true rfl, Nat.le_of_ble_eq_true rfl⟩) hS (fun H locs hP hD hS => ?_)
      refine lv_if_eq hx hb dX9_addJoined_16 (tgt := 38) rfl (fun hc => ?_) (fun hc => ?_)
      · have h := br_T hc h
        have hl := lv_sub hl [0, 1, 2] (l' := [(0, .ref (P 60)), (1, .ref (P 65)), (2, .int v2)]) rfl
        exact b_Plan_addJoined_38 hx hb hml hr hlk hgt hown hK hO hAO ih M1 v2 H _ ls hl hP hD hS h
      · have h := br_F hc h
        refine lv_aload_n hx hb dX9_addJoined_19 rfl (lv_at hl 0 rfl) ?_
        refine lv_aload_n hx hb dX9_addJoined_20 rfl (lv_at hl 1 rfl) ?_
        refine lv_aload_n hx hb dX9_addJoined_21 rfl (lv_at hl 0 rfl) ?_
        refine va_get (D := D) (ci := 9) (v := .ref (P 24)) (C := RX9) (T := TX9) (N := 6) hx hb hgt iwX9 hown hK hP 60 gX_60 rfl 0 (Nat.le_of_ble_eq_true rfl) (hgt _ wd_1_160) (fun _ h9 => h9) rfl dX9_addJoined_22 ?_
        refine va_get (D := D) (ci := 6) (v := .ref (P 38)) (C := RX6) (T := TX6) (N := 13) hx hb hgt iwX6 hown hK hP 24 gX_24 rfl 7 (Nat.le_of_ble_eq_true rfl) (hgt _ wd_1_27) (fun _ h9 => h9) rfl dX9_addJoined_25 ?_
        refine lv_aload_n hx hb dX9_addJoined_28 rfl (lv_at hl 1 rfl) ?_
        refine va_get (D := D) (ci := 12) (v := .ref (P 67)) (C := RX12) (T := TX12) (N := 4) hx hb hgt iwX12 hown hK hP 65 gX_65 rfl 2 (Nat.le_of_ble_eq_true rfl) (hgt _ wd_1_200) (fun _ h9 => h9) rfl dX9_addJoined_29 ?_
        refine lv_iload_n hx hb dX9_addJoined_32 rfl (lv_at hl 2 rfl) ?_
        refine va_iald hx hb hK hP 67 0 gX_67 rfl (ix_l h) dX9_addJoined_33 ?_
        have h := ix_r h
        refine va_iald hx hb hK hP 38 0 gX_38 rfl (ix_l h) dX9_addJoined_34 ?_
        have h := ix_r h
        obtain ⟨M3, r4, hq, h⟩ := cal_o h
        refine cx_v (va_runV (As := [.ref (P 65), .int (M1.1 38 ((M1.1 67 (v2 : Int32).toNatClampNeg) : Int32).toNatClampNeg)]) (rest := []) ⟨hx, hb, hml, hown, hgt⟩ (z_Plan_addRegister l D cI cZ cC cJ cA P s0 hAO M1 (M1.1 38 ((M1.1 67 (v2 : Int32).toNatClampNeg) : Int32).toNatClampNeg) M3 r4 hq) (cwV 2 hgt (gV wd_3_8 wd_3_10 sl__ChipMap_Plan____ChipMap_Plan___addRegister____LChipMap_Steps_I_V_____ChipMap_Plan___addRegister____LChipMap_Steps_I_V__ wd_0_12 wd_3_11) rfl rfl rfl (by decide +kernel) ⟨Nat.le_of_ble_eq_true rfl, Nat.le_of_ble_eq_true rfl⟩) (prV hP hK hD hO hAO hS (va_recv hK hP (ci := 9) (q0 := 60) rfl gX_60)) rfl rfl hl.1 rfl (lv_room (Nat.le_of_ble_eq_true rfl)) dX9_addJoined_35 ⟨Nat.le_of_ble_eq_true rfl, Nat.le_of_ble_eq_true rfl⟩) hS (fun H locs hP hD hS => ?_)
        have hl := lv_sub hl [0, 1, 2] (l' := [(0, .ref (P 60)), (1, .ref (P 65)), (2, .int v2)]) rfl
        exact b_Plan_addJoined_38 hx hb hml hr hlk hgt hown hK hO hAO ih M3 v2 H _ ls hl hP hD hS h
set_option maxHeartbeats 4000000 in
set_option maxRecDepth 20000 in
theorem b_Plan_addJoined_0 {p : Program} {l : Launch} {e : Env} {s s0 : State} {m : MethodId} {args : Array Value} {below : List Frame} {meth : Method} {c : Code} {D : va_G} {cI cZ cC cJ cA : ClassId} {P : Nat → Nat} {M' : Mm} {r' : Int32}  (hx : p.tables.exec = Jvm.exec) (hb : c.code = cX9_addJoined) (hml : c.maxLocals = 3) (hr : meth.sig.returnType = none) (hlk : meth.locks = false) (hgt : ∀ w ∈ GT, w.before args s = true) (hown : s.vm.findClass RX9 = some m.cls) (hK : va_K D vwCl [(cI, .int), (cZ, .boolean), (cC, .char), (cJ, .long), (cA, .array .int)] s) (hO : Old s0 s) (hAO : ∀ q, (aP P 77) q → s0.heap.size ≤ q)  : ∀ (M : Mm)  (H : Heap) (locs : List Loc) (ls : Array Slot), lv_has ls 3 [(0, .ref (P 60)), (1, .ref (P 65))] → va_P D vwCl ((wX cI cZ cC cJ cA P) M) H → va_D (aP P 77) ((wX cI cZ cC cJ cA P) M) → va_S (aP P 77) s.heap H locs → q_Plan_addJoined M = some (M', r') → W p l e ({ frames := 5, cells := 0, slots := 0, locals := 124 }) s m args below meth c H locs 0 0 (MQ below (gQv D (aP P 77) ((wX cI cZ cC cJ cA P) M')) args s 0 0 (aP P 77)) (F0 m 0 ls []) := by
  intro M H locs ls hl hP hD hS h
  unfold q_Plan_addJoined at h
  refine lv_iconst (v := 0) hx hb dX9_addJoined_0 (by decide) ?_
  refine lv_istore_n hx hb dX9_addJoined_1 rfl hl (Nat.le_of_ble_eq_true rfl) (lv' := [(2, .int 0), (0, .ref (P 60)), (1, .ref (P 65))]) rfl (fun ls hl => ?_)
  have hl := lv_sub hl [1, 2, 0] (l' := [(0, .ref (P 60)), (1, .ref (P 65)), (2, .int 0)]) rfl
  exact b_Plan_addJoined_2 hx hb hml hr hlk hgt hown hK hO hAO 4000 M 0 H _ ls hl hP hD hS h
set_option maxHeartbeats 4000000 in
set_option maxRecDepth 20000 in
theorem z_Plan_addJoined (l : Launch) (D : va_G) (cI cZ cC cJ cA : ClassId) (P : Nat → Nat) (s0 : State) (hAO : ∀ q, (aP P 77) q → s0.heap.size ≤ q) (M : Mm)  (M' : Mm) (r' : Int32) (h : q_Plan_addJoined M = some (M', r')) : Met l yX9_addJoined wsX9_addJoined ({ frames := 5, cells := 0, slots := 0, locals := 124 }) (va_Pc [.ref (P 60), .ref (P 65)] (gPre s0 D [(cI, .int), (cZ, .boolean), (cC, .char), (cJ, .long), (cA, .array .int)] (aP P 77) ((wX cI cZ cC cJ cA P) M))) (gQv D (aP P 77) ((wX cI cZ cC cJ cA P) M')) 0 0 (aP P 77) := by
  refine Met.ofW (cc := cX9_addJoined) (maxL := 3) (ret := none) (by decide) rfl ?_
  intro p e s m args below meth c s₁ B hml hv
  obtain ⟨rfl, hP, hK, hD, hO⟩ := hv
  have hx := B.exec
  have hb := B.bytes
  have hr := B.returns
  have hlk := B.notSynchronized
  have hgt := fun w (h : w ∈ GT) => atoms_spec (ws := wsX9_addJoined) B.pre w (List.mem_cons_of_mem _ h)
  have hown : s.vm.findClass RX9 = some m.cls := findClass_of_methodNamed B.named
  have hS : va_S (aP P 77) s.heap s.heap [] := va_S.rf
  have hl := lv_entry ([.ref (P 60), .ref (P 65)]) (n := 3) (Nat.le_of_ble_eq_true rfl)
  rw [lg_entry_eq]
  generalize (lg_sl ([.ref (P 60), .ref (P 65)]) ++ List.replicate (3 - (lg_sl ([.ref (P 60), .ref (P 65)])).length) Slot.unset).toArray = ls at hl ⊢
  have hl : lv_has ls 3 [(0, .ref (P 60)), (1, .ref (P 65))] := hl
  exact b_Plan_addJoined_0 hx hb hml hr hlk hgt hown hK hO hAO M s.heap [] ls hl hP hD hS h
def q_ChipMap_flush  (M : Mm)  : Rs := cal (q_Plan_begin M) fun M1 r2 => cal (q_Plan_addJoined M1) fun M3 r4 => cal (q_ChipMap_doWrites M3) fun M5 r6 => if r6 = (-2) then (some (M5, r6)) else (lt' (stI M5 65 (upd (M5.1 65) 0 0)) fun M7 => some (M7, r6))
set_option maxHeartbeats 4000000 in
set_option maxRecDepth 20000 in
theorem b_ChipMap_flush_0 {p : Program} {l : Launch} {e : Env} {s s0 : State} {m : MethodId} {args : Array Value} {below : List Frame} {meth : Method} {c : Code} {D : va_G} {cI cZ cC cJ cA : ClassId} {P : Nat → Nat} {M' : Mm} {r' : Int32}  (hx : p.tables.exec = Jvm.exec) (hb : c.code = cX0_flush) (hml : c.maxLocals = 2) (hr : meth.sig.returnType = (some .int)) (hlk : meth.locks = false) (hgt : ∀ w ∈ GT, w.before args s = true) (hown : s.vm.findClass RX0 = some m.cls) (hK : va_K D vwCl [(cI, .int), (cZ, .boolean), (cC, .char), (cJ, .long), (cA, .array .int)] s) (hO : Old s0 s) (hAO : ∀ q, (aP P 77) q → s0.heap.size ≤ q)  : ∀ (M : Mm)  (H : Heap) (locs : List Loc) (ls : Array Slot), lv_has ls 2 [(0, .ref (P 0))] → va_P D vwCl ((wX cI cZ cC cJ cA P) M) H → va_D (aP P 77) ((wX cI cZ cC cJ cA P) M) → va_S (aP P 77) s.heap H locs → q_ChipMap_flush M = some (M', r') → W p l e ({ frames := 6, cells := 0, slots := 0, locals := 146 }) s m args below meth c H locs 0 0 (MQ below (gQi D (aP P 77) ((wX cI cZ cC cJ cA P) M') r') args s 0 0 (aP P 77)) (F0 m 0 ls []) := by
  intro M H locs ls hl hP hD hS h
  unfold q_ChipMap_flush at h
  refine lv_aload_n hx hb dX0_flush_0 rfl (lv_at hl 0 rfl) ?_
  refine va_get (D := D) (ci := 0) (v := .ref (P 60)) (C := RX0) (T := TX0) (N := 9) hx hb hgt iwX0 hown hK hP 0 gX_0 rfl 5 (Nat.le_of_ble_eq_true rfl) (hgt _ wd_2_22) (fun _ h9 => h9) rfl dX0_flush_1 ?_
  refine lv_aload_n hx hb dX0_flush_4 rfl (lv_at hl 0 rfl) ?_
  refine va_get (D := D) (ci := 0) (v := .ref (P 50)) (C := RX0) (T := TX0) (N := 9) hx hb hgt iwX0 hown hK hP 0 gX_0 rfl 4 (Nat.le_of_ble_eq_true rfl) (hgt _ wd_2_21) (fun _ h9 => h9) rfl dX0_flush_5 ?_
  refine va_get (D := D) (ci := 3) (v := .ref (P 51)) (C := RX3) (T := TX3) (N := 7) hx hb hgt iwX3 hown hK hP 50 gX_50 rfl 1 (Nat.le_of_ble_eq_true rfl) (hgt _ wd_1_128) (fun _ h9 => h9) rfl dX0_flush_8 ?_
  obtain ⟨M1, r2, hq, h⟩ := cal_o h
  refine cx_v (va_runV (As := [.ref (P 51)]) (rest := []) ⟨hx, hb, hml, hown, hgt⟩ (z_Plan_begin l D cI cZ cC cJ cA P s0 hAO M M1 r2 hq) (cwV 1 hgt (gV wd_2_184 wd_2_185 wd_2_186 wd_0_12 wd_2_187) rfl rfl rfl (by decide +kernel) ⟨Nat.le_of_ble_eq_true rfl, Nat.le_of_ble_eq_true rfl⟩) (prV hP hK hD hO hAO hS (va_recv hK hP (ci := 9) (q0 := 60) rfl gX_60)) rfl rfl hl.1 rfl (lv_room (Nat.le_of_ble_eq_true rfl)) dX0_flush_11 ⟨Nat.le_of_ble_eq_true rfl, Nat.le_of_ble_eq_true rfl⟩) hS (fun H locs hP hD hS => ?_)
  refine lv_aload_n hx hb dX0_flush_14 rfl (lv_at hl 0 rfl) ?_
  refine va_get (D := D) (ci := 0) (v := .ref (P 60)) (C := RX0) (T := TX0) (N := 9) hx hb hgt iwX0 hown hK hP 0 gX_0 rfl 5 (Nat.le_of_ble_eq_true rfl) (hgt _ wd_2_22) (fun _ h9 => h9) rfl dX0_flush_15 ?_
  refine lv_aload_n hx hb dX0_flush_18 rfl (lv_at hl 0 rfl) ?_
  refine va_get (D := D) (ci := 0) (v := .ref (P 65)) (C := RX0) (T := TX0) (N := 9) hx hb hgt iwX0 hown hK hP 0 gX_0 rfl 6 (Nat.le_of_ble_eq_true rfl) (hgt _ wd_2_23) (fun _ h9 => h9) rfl dX0_flush_19 ?_
  obtain ⟨M3, r4, hq, h⟩ := cal_o h
  refine cx_v (va_runV (As := [.ref (P 65)]) (rest := []) ⟨hx, hb, hml, hown, hgt⟩ (z_Plan_addJoined l D cI cZ cC cJ cA P s0 hAO M1 M3 r4 hq) (cwV 1 hgt (gV wd_3_0 wd_3_1 wd_3_2 wd_0_12 wd_3_3) rfl rfl rfl (by decide +kernel) ⟨Nat.le_of_ble_eq_true rfl, Nat.le_of_ble_eq_true rfl⟩) (prV hP hK hD hO hAO hS (va_recv hK hP (ci := 9) (q0 := 60) rfl gX_60)) rfl rfl hl.1 rfl (lv_room (Nat.le_of_ble_eq_true rfl)) dX0_flush_22 ⟨Nat.le_of_ble_eq_true rfl, Nat.le_of_ble_eq_true rfl⟩) hS (fun H locs hP hD hS => ?_)
  refine lv_aload_n hx hb dX0_flush_25 rfl (lv_at hl 0 rfl) ?_
  obtain ⟨M5, r6, hq, h⟩ := cal_o h
  refine cx_i (va_runV (As := []) (rest := []) ⟨hx, hb, hml, hown, hgt⟩ (z_ChipMap_doWrites l D cI cZ cC cJ cA P s0 hAO M3 M5 r6 hq) (cwV 0 hgt (gV wd_2_220 wd_2_222 sl__ChipMap____ChipMap___doWrites_____I_____ChipMap___doWrites_____I__ wd_0_1 wd_2_223) rfl rfl rfl (by decide +kernel) ⟨Nat.le_of_ble_eq_true rfl, Nat.le_of_ble_eq_true rfl⟩) (prV hP hK hD hO hAO hS (va_recv hK hP (ci := 0) (q0 := 0) rfl gX_0)) rfl rfl hl.1 rfl (lv_room (Nat.le_of_ble_eq_true rfl)) dX0_flush_26 ⟨Nat.le_of_ble_eq_true rfl, Nat.le_of_ble_eq_true rfl⟩) hS (fun H locs hP hD hS => ?_)
  refine lv_istore_n hx hb dX0_flush_29 rfl hl (Nat.le_of_ble_eq_true rfl) (lv' := [(1, .int r6), (0, .ref (P 0))]) rfl (fun ls hl => ?_)
  refine lv_iload_n hx hb dX0_flush_30 rfl (lv_at hl 0 rfl) ?_
  refine lv_bipush (v := (-2)) hx hb dX0_flush_31 (by decide) ?_
  refine lv_icmp_eq hx hb dX0_flush_33 (tgt := 44) rfl (fun hc => ?_) (fun hc => ?_)
  · have h := br_T hc h
    refine lv_iload_n hx hb dX0_flush_44 rfl (lv_at hl 0 rfl) ?_
    exact rt_i (w := (wX cI cZ cC cJ cA P)) hx hb hr hlk hP hD hS h dX0_flush_45
  · have h := br_F hc h
    refine lv_aload_n hx hb dX0_flush_36 rfl (lv_at hl 1 rfl) ?_
    refine va_get (D := D) (ci := 0) (v := .ref (P 65)) (C := RX0) (T := TX0) (N := 9) hx hb hgt iwX0 hown hK hP 0 gX_0 rfl 6 (Nat.le_of_ble_eq_true rfl) (hgt _ wd_2_23) (fun _ h9 => h9) rfl dX0_flush_37 ?_
    refine lv_iconst (v := 0) hx hb dX0_flush_40 (by decide) ?_
    refine pm_put (w := (wX cI cZ cC cJ cA P)) (D := D) (ci := 12) (x := 0) (ty := .int) (C := RX12) (T := TX12) (N := 4) hx hb hgt iwX12 tyX12 tyX12_ok nmX12 hown hK hP hD hS 65 gX_65 rfl 0 (Nat.le_of_ble_eq_true rfl) (hgt _ wd_1_193) (fun _ h9 => h9) rfl (by decide +kernel) rfl rfl (Nat.le_of_ble_eq_true rfl) (sX_65_0 _) dX0_flush_41 (fun M7 eM7 H locs hP hD hS => ?_)
    have h := lt_o eM7 h
    refine lv_iload_n hx hb dX0_flush_44 rfl (lv_at hl 0 rfl) ?_
    exact rt_i (w := (wX cI cZ cC cJ cA P)) hx hb hr hlk hP hD hS h dX0_flush_45
set_option maxHeartbeats 4000000 in
set_option maxRecDepth 20000 in
theorem z_ChipMap_flush (l : Launch) (D : va_G) (cI cZ cC cJ cA : ClassId) (P : Nat → Nat) (s0 : State) (hAO : ∀ q, (aP P 77) q → s0.heap.size ≤ q) (M : Mm)  (M' : Mm) (r' : Int32) (h : q_ChipMap_flush M = some (M', r')) : Met l yX0_flush wsX0_flush ({ frames := 6, cells := 0, slots := 0, locals := 146 }) (va_Pc [.ref (P 0)] (gPre s0 D [(cI, .int), (cZ, .boolean), (cC, .char), (cJ, .long), (cA, .array .int)] (aP P 77) ((wX cI cZ cC cJ cA P) M))) (gQi D (aP P 77) ((wX cI cZ cC cJ cA P) M') r') 0 0 (aP P 77) := by
  refine Met.ofW (cc := cX0_flush) (maxL := 2) (ret := (some .int)) (by decide) rfl ?_
  intro p e s m args below meth c s₁ B hml hv
  obtain ⟨rfl, hP, hK, hD, hO⟩ := hv
  have hx := B.exec
  have hb := B.bytes
  have hr := B.returns
  have hlk := B.notSynchronized
  have hgt := fun w (h : w ∈ GT) => atoms_spec (ws := wsX0_flush) B.pre w (List.mem_cons_of_mem _ h)
  have hown : s.vm.findClass RX0 = some m.cls := findClass_of_methodNamed B.named
  have hS : va_S (aP P 77) s.heap s.heap [] := va_S.rf
  have hl := lv_entry ([.ref (P 0)]) (n := 2) (Nat.le_of_ble_eq_true rfl)
  rw [lg_entry_eq]
  generalize (lg_sl ([.ref (P 0)]) ++ List.replicate (2 - (lg_sl ([.ref (P 0)])).length) Slot.unset).toArray = ls at hl ⊢
  have hl : lv_has ls 2 [(0, .ref (P 0))] := hl
  exact b_ChipMap_flush_0 hx hb hml hr hlk hgt hown hK hO hAO M s.heap [] ls hl hP hD hS h
