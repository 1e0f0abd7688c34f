section
def q_ChipMap_join  (M : Mm) (a1 : Int32) (a2 : Int32) : Rs := cal (q_Layout_canPut M a1 a2) fun M1 r2 => if r2 = 0 then (some (M1, (-1))) else (cal (q_Steps_isFull M1) fun M3 r4 => if r4 = 0 then (cal (q_Steps_append M3 0 a1 a2) fun M5 r6 => some (M5, (M5.1 65 0))) else (some (M3, (-1))))
set_option maxHeartbeats 4000000 in
set_option maxRecDepth 20000 in
theorem b_ChipMap_join_0 {p : Program} {l : Launch} {e : Env} {s s0 : State} {m : MethodId} {args : Array Value} {below : List Frame} {meth : Method} {c : Code} {D : va_G} {cI cZ cC cJ cA : ClassId} {P : Nat → Nat} {M' : Mm} {r' : Int32}  (hx : p.tables.exec = Jvm.exec) (hb : c.code = cX0_join) (hml : c.maxLocals = 3) (hr : meth.sig.returnType = (some .int)) (hlk : meth.locks = false) (hgt : ∀ w ∈ GT, w.before args s = true) (hown : s.vm.findClass RX0 = some m.cls) (hK : va_K D vwCl [(cI, .int), (cZ, .boolean), (cC, .char), (cJ, .long), (cA, .array .int)] s) (hO : Old s0 s) (hAO : ∀ q, (aP P 77) q → s0.heap.size ≤ q)  : ∀ (M : Mm) (a1 : Int32) (a2 : Int32) (H : Heap) (locs : List Loc) (ls : Array Slot), lv_has ls 3 [(0, .ref (P 0)), (1, .int a1), (2, .int a2)] → va_P D vwCl ((wX cI cZ cC cJ cA P) M) H → va_D (aP P 77) ((wX cI cZ cC cJ cA P) M) → va_S (aP P 77) s.heap H locs → q_ChipMap_join M a1 a2 = some (M', r') → W p l e ({ frames := 2, cells := 0, slots := 0, locals := 44 }) s m args below meth c H locs 0 0 (MQ below (gQi D (aP P 77) ((wX cI cZ cC cJ cA P) M') r') args s 0 0 (aP P 77)) (F0 m 0 ls []) := by
  intro M a1 a2 H locs ls hl hP hD hS h
  unfold q_ChipMap_join at h
  refine lv_aload_n hx hb dX0_join_0 rfl (lv_at hl 0 rfl) ?_
  refine va_get (D := D) (ci := 0) (v := .ref (P 24)) (C := RX0) (T := TX0) (N := 9) hx hb hgt iwX0 hown hK hP 0 gX_0 rfl 3 (Nat.le_of_ble_eq_true rfl) (hgt _ wd_2_20) (fun _ h9 => h9) rfl dX0_join_1 ?_
  refine lv_iload_n hx hb dX0_join_4 rfl (lv_at hl 1 rfl) ?_
  refine lv_iload_n hx hb dX0_join_5 rfl (lv_at hl 2 rfl) ?_
  obtain ⟨M1, r2, hq, h⟩ := cal_o h
  refine cx_i (va_runV (As := [.int a1, .int a2]) (rest := []) ⟨hx, hb, hml, hown, hgt⟩ (z_Layout_canPut l D cI cZ cC cJ cA P s0 hAO M a1 a2 M1 r2 hq) (cwV 2 hgt (gV wd_2_178 wd_2_179 wd_2_180 wd_0_6 wd_2_181) rfl rfl rfl (by decide +kernel) ⟨Nat.le_of_ble_eq_true rfl, Nat.le_of_ble_eq_true rfl⟩) (prV hP hK hD hO hAO hS (va_recv hK hP (ci := 6) (q0 := 24) rfl gX_24)) rfl rfl hl.1 rfl (lv_room (Nat.le_of_ble_eq_true rfl)) dX0_join_6 ⟨Nat.le_of_ble_eq_true rfl, Nat.le_of_ble_eq_true rfl⟩) hS (fun H locs hP hD hS => ?_)
  refine lv_if_eq hx hb dX0_join_9 (tgt := 22) rfl (fun hc => ?_) (fun hc => ?_)
  · have h := br_T hc h
    refine lv_iconst (v := (-1)) hx hb dX0_join_22 (by decide) ?_
    exact rt_i (w := (wX cI cZ cC cJ cA P)) hx hb hr hlk hP hD hS h dX0_join_23
  · have h := br_F hc h
    refine lv_aload_n hx hb dX0_join_12 rfl (lv_at hl 0 rfl) ?_
    refine va_get (D := D) (ci := 0) (v := .ref (P 65)) (C := RX0) (T := TX0) (N := 9) hx hb hgt iwX0 hown hK hP 0 gX_0 rfl 6 (Nat.le_of_ble_eq_true rfl) (hgt _ wd_2_23) (fun _ h9 => h9) rfl dX0_join_13 ?_
    obtain ⟨M3, r4, hq, h⟩ := cal_o h
    refine cx_i (va_runV (As := []) (rest := []) ⟨hx, hb, hml, hown, hgt⟩ (z_Steps_isFull l D cI cZ cC cJ cA P s0 hAO M1 M3 r4 hq) (cwV 0 hgt (gV wd_2_228 wd_2_229 wd_2_230 wd_0_13 wd_2_231) rfl rfl rfl (by decide +kernel) ⟨Nat.le_of_ble_eq_true rfl, Nat.le_of_ble_eq_true rfl⟩) (prV hP hK hD hO hAO hS (va_recv hK hP (ci := 12) (q0 := 65) rfl gX_65)) rfl rfl hl.1 rfl (lv_room (Nat.le_of_ble_eq_true rfl)) dX0_join_16 ⟨Nat.le_of_ble_eq_true rfl, Nat.le_of_ble_eq_true rfl⟩) hS (fun H locs hP hD hS => ?_)
    refine lv_if_eq hx hb dX0_join_19 (tgt := 24) rfl (fun hc => ?_) (fun hc => ?_)
    · have h := br_T hc h
      refine lv_aload_n hx hb dX0_join_24 rfl (lv_at hl 0 rfl) ?_
      refine va_get (D := D) (ci := 0) (v := .ref (P 65)) (C := RX0) (T := TX0) (N := 9) hx hb hgt iwX0 hown hK hP 0 gX_0 rfl 6 (Nat.le_of_ble_eq_true rfl) (hgt _ wd_2_23) (fun _ h9 => h9) rfl dX0_join_25 ?_
      refine lv_iconst (v := 0) hx hb dX0_join_28 (by decide) ?_
      refine lv_iload_n hx hb dX0_join_29 rfl (lv_at hl 1 rfl) ?_
      refine lv_iload_n hx hb dX0_join_30 rfl (lv_at hl 2 rfl) ?_
      obtain ⟨M5, r6, hq, h⟩ := cal_o h
      refine cx_v (va_runV (As := [.int 0, .int a1, .int a2]) (rest := []) ⟨hx, hb, hml, hown, hgt⟩ (z_Steps_append l D cI cZ cC cJ cA P s0 hAO M3 0 a1 a2 M5 r6 hq) (cwV 3 hgt (gV wd_2_232 wd_2_233 wd_2_234 wd_0_13 wd_2_235) rfl rfl rfl (by decide +kernel) ⟨Nat.le_of_ble_eq_true rfl, Nat.le_of_ble_eq_true rfl⟩) (prV hP hK hD hO hAO hS (va_recv hK hP (ci := 12) (q0 := 65) rfl gX_65)) rfl rfl hl.1 rfl (lv_room (Nat.le_of_ble_eq_true rfl)) dX0_join_31 ⟨Nat.le_of_ble_eq_true rfl, Nat.le_of_ble_eq_true rfl⟩) hS (fun H locs hP hD hS => ?_)
      refine lv_aload_n hx hb dX0_join_34 rfl (lv_at hl 0 rfl) ?_
      refine va_get (D := D) (ci := 0) (v := .ref (P 65)) (C := RX0) (T := TX0) (N := 9) hx hb hgt iwX0 hown hK hP 0 gX_0 rfl 6 (Nat.le_of_ble_eq_true rfl) (hgt _ wd_2_23) (fun _ h9 => h9) rfl dX0_join_35 ?_
      refine va_get (D := D) (ci := 12) (v := .int (M5.1 65 0)) (C := RX12) (T := TX12) (N := 4) hx hb hgt iwX12 hown hK hP 65 gX_65 rfl 0 (Nat.le_of_ble_eq_true rfl) (hgt _ wd_1_193) (fun _ h9 => h9) rfl dX0_join_38 ?_
      exact rt_i (w := (wX cI cZ cC cJ cA P)) hx hb hr hlk hP hD hS h dX0_join_41
    · have h := br_F hc h
      refine lv_iconst (v := (-1)) hx hb dX0_join_22 (by decide) ?_
      exact rt_i (w := (wX cI cZ cC cJ cA P)) hx hb hr hlk hP hD hS h dX0_join_23
set_option maxHeartbeats 4000000 in
set_option maxRecDepth 20000 in
theorem z_ChipMap_join (l : Launch) (D : va_G) (cI cZ cC cJ cA : ClassId) (P : Nat → Nat) (s0 : State) (hAO : ∀ q, (aP P 77) q → s0.heap.size ≤ q) (M : Mm) (a1 : Int32) (a2 : Int32) (M' : Mm) (r' : Int32) (h : q_ChipMap_join M a1 a2 = some (M', r')) : Met l yX0_join wsX0_join ({ frames := 2, cells := 0, slots := 0, locals := 44 }) (va_Pc [.ref (P 0), .int a1, .int a2] (gPre s0 D [(cI, .int), (cZ, .boolean), (cC, .char), (cJ, .long), (cA, .array .int)] (aP P 77) ((wX cI cZ cC cJ cA P) M))) (gQi D (aP P 77) ((wX cI cZ cC cJ cA P) M') r') 0 0 (aP P 77) := by
  refine Met.ofW (cc := cX0_join) (maxL := 3) (ret := (some .int)) (by decide) rfl ?_
  intro p e s m args below meth c s₁ B hml hv
  obtain ⟨rfl, hP, hK, hD, hO⟩ := hv
  have hx := B.exec
  have hb := B.bytes
  have hr := B.returns
  have hlk := B.notSynchronized
  have hgt := fun w (h : w ∈ GT) => atoms_spec (ws := wsX0_join) B.pre w (List.mem_cons_of_mem _ h)
  have hown : s.vm.findClass RX0 = some m.cls := findClass_of_methodNamed B.named
  have hS : va_S (aP P 77) s.heap s.heap [] := va_S.rf
  have hl := lv_entry ([.ref (P 0), .int a1, .int a2]) (n := 3) (Nat.le_of_ble_eq_true rfl)
  rw [lg_entry_eq]
  generalize (lg_sl ([.ref (P 0), .int a1, .int a2]) ++ List.replicate (3 - (lg_sl ([.ref (P 0), .int a1, .int a2])).length) Slot.unset).toArray = ls at hl ⊢
  have hl : lv_has ls 3 [(0, .ref (P 0)), (1, .int a1), (2, .int a2)] := hl
  exact b_ChipMap_join_0 hx hb hml hr hlk hgt hown hK hO hAO M a1 a2 s.heap [] ls hl hP hD hS h
def q_Plan_isFirstOfRegister_18  : Nat → Mm → Int32 → Int32 → Int32 → Rs
  | 0, _, _, _, _ => none
  | n' + 1, M, v2, v3, v4 => if v2 ≤ v4 then (some (M, 1)) else (ix v4 8 <| ix (M.1 67 (v4 : Int32).toNatClampNeg) 26 <| if (M.1 38 ((M.1 67 (v4 : Int32).toNatClampNeg) : Int32).toNatClampNeg) = v3 then (some (M, 0)) else (q_Plan_isFirstOfRegister_18 n' M v2 v3 (v4 + 1)))
def q_Plan_isFirstOfRegister  (M : Mm) (a2 : Int32) : Rs := ix a2 8 <| ix (M.1 67 (a2 : Int32).toNatClampNeg) 26 <| lt' (M.1 38 ((M.1 67 (a2 : Int32).toNatClampNeg) : Int32).toNatClampNeg) fun x1 => q_Plan_isFirstOfRegister_18 4000 M a2 x1 0
set_option maxHeartbeats 4000000 in
set_option maxRecDepth 20000 in
theorem b_Plan_isFirstOfRegister_18 {p : Program} {l : Launch} {e : Env} {s s0 : State} {m : MethodId} {args : Array Value} {below : List Frame} {meth : Method} {c : Code} {D : va_G} {cI cZ cC cJ cA : ClassId} {P : Nat → Nat} {M' : Mm} {r' : Int32}  (hx : p.tables.exec = Jvm.exec) (hb : c.code = cX9_isFirstOfRegister) (hml : c.maxLocals = 5) (hr : meth.sig.returnType = (some .boolean)) (hlk : meth.locks = false) (hgt : ∀ w ∈ GT, w.before args s = true) (hown : s.vm.findClass RX9 = some m.cls) (hK : va_K D vwCl [(cI, .int), (cZ, .boolean), (cC, .char), (cJ, .long), (cA, .array .int)] s) (hO : Old s0 s) (hAO : ∀ q, (aP P 77) q → s0.heap.size ≤ q)  : ∀ (n' : Nat) (M : Mm) (v2 : Int32) (v3 : Int32) (v4 : Int32) (H : Heap) (locs : List Loc) (ls : Array Slot), lv_has ls 5 [(0, .ref (P 60)), (1, .ref (P 65)), (2, .int v2), (3, .int v3), (4, .int v4)] → va_P D vwCl ((wX cI cZ cC cJ cA P) M) H → va_D (aP P 77) ((wX cI cZ cC cJ cA P) M) → va_S (aP P 77) s.heap H locs → q_Plan_isFirstOfRegister_18 n' M v2 v3 v4 = some (M', r') → W p l e ({ frames := 0, cells := 0, slots := 0, locals := 0 }) s m args below meth c H locs 0 0 (MQ below (gQi D (aP P 77) ((wX cI cZ cC cJ cA P) M') r') args s 0 0 (aP P 77)) (F0 m 18 ls []) := by
  intro n'
  induction n' with
  | zero => exact fun _ _ _ _ _ _ _ _ _ _ _ h => (rs_n h).elim
  | succ n' ih =>
    intro M v2 v3 v4 H locs ls hl hP hD hS h
    rw [q_Plan_isFirstOfRegister_18] at h
    refine lv_iload hx hb dX9_isFirstOfRegister_18 (lv_at hl 4 rfl) ?_
    refine lv_iload_n hx hb dX9_isFirstOfRegister_20 rfl (lv_at hl 2 rfl) ?_
    refine lv_icmp_ge hx hb dX9_isFirstOfRegister_21 (tgt := 51) rfl (fun hc => ?_) (fun hc => ?_)
    · have h := br_T hc h
      refine lv_iconst (v := 1) hx hb dX9_isFirstOfRegister_51 (by decide) ?_
      exact rt_z (w := (wX cI cZ cC cJ cA P)) hx hb hr hlk rfl hP hD hS h dX9_isFirstOfRegister_52
    · have h := br_F hc h
      refine lv_aload_n hx hb dX9_isFirstOfRegister_24 rfl (lv_at hl 0 rfl) ?_
      refine va_get (D := D) (ci := 9) (v := .ref (P 24)) (C := RX9) (T := TX9) (N := 6) hx hb hgt iwX9 hown hK hP 60 gX_60 rfl 0 (Nat.le_of_ble_eq_true rfl) (hgt _ wd_1_160) (fun _ h9 => h9) rfl dX9_isFirstOfRegister_25 ?_
      refine va_get (D := D) (ci := 6) (v := .ref (P 38)) (C := RX6) (T := TX6) (N := 13) hx hb hgt iwX6 hown hK hP 24 gX_24 rfl 7 (Nat.le_of_ble_eq_true rfl) (hgt _ wd_1_27) (fun _ h9 => h9) rfl dX9_isFirstOfRegister_28 ?_
      refine lv_aload_n hx hb dX9_isFirstOfRegister_31 rfl (lv_at hl 1 rfl) ?_
      refine va_get (D := D) (ci := 12) (v := .ref (P 67)) (C := RX12) (T := TX12) (N := 4) hx hb hgt iwX12 hown hK hP 65 gX_65 rfl 2 (Nat.le_of_ble_eq_true rfl) (hgt _ wd_1_200) (fun _ h9 => h9) rfl dX9_isFirstOfRegister_32 ?_
      refine lv_iload hx hb dX9_isFirstOfRegister_35 (lv_at hl 4 rfl) ?_
      refine va_iald hx hb hK hP 67 0 gX_67 rfl (ix_l h) dX9_isFirstOfRegister_37 ?_
      have h := ix_r h
      refine va_iald hx hb hK hP 38 0 gX_38 rfl (ix_l h) dX9_isFirstOfRegister_38 ?_
      have h := ix_r h
      refine lv_iload_n hx hb dX9_isFirstOfRegister_39 rfl (lv_at hl 3 rfl) ?_
      refine lv_icmp_ne hx hb dX9_isFirstOfRegister_40 (tgt := 45) rfl (fun hc => ?_) (fun hc => ?_)
      · have h := br_F hc h
        refine lv_iinc (v := (v4 + 1)) hx hb dX9_isFirstOfRegister_45 hl (k := 4) rfl rfl (Nat.le_of_ble_eq_true rfl) (lv' := [(4, .int (v4 + 1)), (0, .ref (P 60)), (1, .ref (P 65)), (2, .int v2), (3, .int v3)]) rfl (fun ls hl => ?_)
        refine lv_goto hx hb dX9_isFirstOfRegister_48 (tgt := 18) rfl ?_
        have hl := lv_sub hl [1, 2, 3, 4, 0] (l' := [(0, .ref (P 60)), (1, .ref (P 65)), (2, .int v2), (3, .int v3), (4, .int (v4 + 1))]) rfl
        exact ih M v2 v3 (v4 + 1) H locs ls hl hP hD hS h
      · have h := br_T hc h
        refine lv_iconst (v := 0) hx hb dX9_isFirstOfRegister_43 (by decide) ?_
        exact rt_z (w := (wX cI cZ cC cJ cA P)) hx hb hr hlk rfl hP hD hS h dX9_isFirstOfRegister_44
set_option maxHeartbeats 4000000 in
set_option maxRecDepth 20000 in
theorem b_Plan_isFirstOfRegister_0 {p : Program} {l : Launch} {e : Env} {s s0 : State} {m : MethodId} {args : Array Value} {below : List Frame} {meth : Method} {c : Code} {D : va_G} {cI cZ cC cJ cA : ClassId} {P : Nat → Nat} {M' : Mm} {r' : Int32}  (hx : p.tables.exec = Jvm.exec) (hb : c.code = cX9_isFirstOfRegister) (hml : c.maxLocals = 5) (hr : meth.sig.returnType = (some .boolean)) (hlk : meth.locks = false) (hgt : ∀ w ∈ GT, w.before args s = true) (hown : s.vm.findClass RX9 = some m.cls) (hK : va_K D vwCl [(cI, .int), (cZ, .boolean), (cC, .char), (cJ, .long), (cA, .array .int)] s) (hO : Old s0 s) (hAO : ∀ q, (aP P 77) q → s0.heap.size ≤ q)  : ∀ (M : Mm) (a2 : Int32) (H : Heap) (locs : List Loc) (ls : Array Slot), lv_has ls 5 [(0, .ref (P 60)), (1, .ref (P 65)), (2, .int a2)] → va_P D vwCl ((wX cI cZ cC cJ cA P) M) H → va_D (aP P 77) ((wX cI cZ cC cJ cA P) M) → va_S (aP P 77) s.heap H locs → q_Plan_isFirstOfRegister M a2 = some (M', r') → W p l e ({ frames := 0, cells := 0, slots := 0, locals := 0 }) s m args below meth c H locs 0 0 (MQ below (gQi D (aP P 77) ((wX cI cZ cC cJ cA P) M') r') args s 0 0 (aP P 77)) (F0 m 0 ls []) := by
  intro M a2 H locs ls hl hP hD hS h
  unfold q_Plan_isFirstOfRegister at h
  refine lv_aload_n hx hb dX9_isFirstOfRegister_0 rfl (lv_at hl 0 rfl) ?_
  refine va_get (D := D) (ci := 9) (v := .ref (P 24)) (C := RX9) (T := TX9) (N := 6) hx hb hgt iwX9 hown hK hP 60 gX_60 rfl 0 (Nat.le_of_ble_eq_true rfl) (hgt _ wd_1_160) (fun _ h9 => h9) rfl dX9_isFirstOfRegister_1 ?_
  refine va_get (D := D) (ci := 6) (v := .ref (P 38)) (C := RX6) (T := TX6) (N := 13) hx hb hgt iwX6 hown hK hP 24 gX_24 rfl 7 (Nat.le_of_ble_eq_true rfl) (hgt _ wd_1_27) (fun _ h9 => h9) rfl dX9_isFirstOfRegister_4 ?_
  refine lv_aload_n hx hb dX9_isFirstOfRegister_7 rfl (lv_at hl 1 rfl) ?_
  refine va_get (D := D) (ci := 12) (v := .ref (P 67)) (C := RX12) (T := TX12) (N := 4) hx hb hgt iwX12 hown hK hP 65 gX_65 rfl 2 (Nat.le_of_ble_eq_true rfl) (hgt _ wd_1_200) (fun _ h9 => h9) rfl dX9_isFirstOfRegister_8 ?_
  refine lv_iload_n hx hb dX9_isFirstOfRegister_11 rfl (lv_at hl 2 rfl) ?_
  refine va_iald hx hb hK hP 67 0 gX_67 rfl (ix_l h) dX9_isFirstOfRegister_12 ?_
  have h := ix_r h
  refine va_iald hx hb hK hP 38 0 gX_38 rfl (ix_l h) dX9_isFirstOfRegister_13 ?_
  have h := ix_r h
  refine lv_topi (fun x1 ex1 => ?_)
  have h := lt_o ex1 h
  refine lv_istore_n hx hb dX9_isFirstOfRegister_14 rfl hl (Nat.le_of_ble_eq_true rfl) (lv' := [(3, .int x1), (0, .ref (P 60)), (1, .ref (P 65)), (2, .int a2)]) rfl (fun ls hl => ?_)
  refine lv_iconst (v := 0) hx hb dX9_isFirstOfRegister_15 (by decide) ?_
  refine lv_istore hx hb dX9_isFirstOfRegister_16 hl (Nat.le_of_ble_eq_true rfl) (lv' := [(4, .int 0), (3, .int x1), (0, .ref (P 60)), (1, .ref (P 65)), (2, .int a2)]) rfl (fun ls hl => ?_)
  have hl := lv_sub hl [2, 3, 4, 1, 0] (l' := [(0, .ref (P 60)), (1, .ref (P 65)), (2, .int a2), (3, .int x1), (4, .int 0)]) rfl
  exact b_Plan_isFirstOfRegister_18 hx hb hml hr hlk hgt hown hK hO hAO 4000 M a2 x1 0 H _ ls hl hP hD hS h
set_option maxHeartbeats 4000000 in
set_option maxRecDepth 20000 in
theorem z_Plan_isFirstOfRegister (l : Launch) (D : va_G) (cI cZ cC cJ cA : ClassId) (P : Nat → Nat) (s0 : State) (hAO : ∀ q, (aP P 77) q → s0.heap.size ≤ q) (M : Mm) (a2 : Int32) (M' : Mm) (r' : Int32) (h : q_Plan_isFirstOfRegister M a2 = some (M', r')) : Met l yX9_isFirstOfRegister wsX9_isFirstOfRegister ({ frames := 0, cells := 0, slots := 0, locals := 0 }) (va_Pc [.ref (P 60), .ref (P 65), .int a2] (gPre s0 D [(cI, .int), (cZ, .boolean), (cC, .char), (cJ, .long), (cA, .array .int)] (aP P 77) ((wX cI cZ cC cJ cA P) M))) (gQi D (aP P 77) ((wX cI cZ cC cJ cA P) M') r') 0 0 (aP P 77) := by
  refine Met.ofW (cc := cX9_isFirstOfRegister) (maxL := 5) (ret := (some .boolean)) (by decide) rfl ?_
  intro p e s m args below meth c s₁ B hml hv
  obtain ⟨rfl, hP, hK, hD, hO⟩ := hv
  have hx := B.exec
  have hb := B.bytes
  have hr := B.returns
  have hlk := B.notSynchronized
  have hgt := fun w (h : w ∈ GT) => atoms_spec (ws := wsX9_isFirstOfRegister) B.pre w (List.mem_cons_of_mem _ h)
  have hown : s.vm.findClass RX9 = some m.cls := findClass_of_methodNamed B.named
  have hS : va_S (aP P 77) s.heap s.heap [] := va_S.rf
  have hl := lv_entry ([.ref (P 60), .ref (P 65), .int a2]) (n := 5) (Nat.le_of_ble_eq_true rfl)
  rw [lg_entry_eq]
  generalize (lg_sl ([.ref (P 60), .ref (P 65), .int a2]) ++ List.replicate (5 - (lg_sl ([.ref (P 60), .ref (P 65), .int a2])).length) Slot.unset).toArray = ls at hl ⊢
  have hl : lv_has ls 5 [(0, .ref (P 60)), (1, .ref (P 65)), (2, .int a2)] := hl
  exact b_Plan_isFirstOfRegister_0 hx hb hml hr hlk hgt hown hK hO hAO M a2 s.heap [] ls hl hP hD hS h
def q_Plan_addRegister_155  (M : Mm) (v2 : Int32) (v3 : Int32) (v4 : Int32) : Rs := cal (q_Plan_addReach M v2) fun M1 r2 => cal (q_Plan_addTold M1 v2 v3 v4) fun M3 r4 => some (M3, 0)
def q_Plan_addRegister_131  (M : Mm) (v2 : Int32) (v3 : Int32) (v4 : Int32) (t0 : Int32) : Rs := if t0 = 0 then (q_Plan_addRegister_155 M v2 v3 v4) else (ix v2 16 <| if ((M.1 62 (v2 : Int32).toNatClampNeg) &&& v3) = v4 then (some (M, 0)) else (q_Plan_addRegister_155 M v2 v3 v4))
def q_Plan_addRegister_104 (kf8 : Mm → Int32 → Int32 → Int32 → Int32 → Rs) (M : Mm) (v2 : Int32) (v3 : Int32) (v4 : Int32) (v5 : Int32) : Rs := kf8 M v2 v3 v4 (v5 + 1)
def q_Plan_addRegister_76 (kf8 : Mm → Int32 → Int32 → Int32 → Int32 → Rs) (M : Mm) (v2 : Int32) (v3 : Int32) (v4 : Int32) (v5 : Int32) (v6 : Int32) (v7 : Int32) : Rs := lt' (v3 ||| v7) fun x1 => ix v5 8 <| ix v6 26 <| lt' (v4 ||| (((M.1 68 (v5 : Int32).toNatClampNeg) : Int32) <<< ((M.1 40 (v6 : Int32).toNatClampNeg) &&& 31))) fun x2 => q_Plan_addRegister_104 kf8 M v2 x1 x2 v5
def q_Plan_addRegister_8  : Nat → Mm → Int32 → Int32 → Int32 → Int32 → Rs
  | 0, _, _, _, _, _ => none
  | n' + 1, M, v2, v3, v4, v5 => if (M.1 65 0) ≤ v5 then (ix v2 16 <| if (v3 &&& ((M.1 29 (v2 : Int32).toNatClampNeg) ^^^ (-1))) = 0 then (q_Plan_addRegister_131 M v2 v3 v4 1) else (q_Plan_addRegister_131 M v2 v3 v4 0)) else (ix v5 8 <| lt' (M.1 67 (v5 : Int32).toNatClampNeg) fun x1 => ix x1 26 <| if (M.1 38 (x1 : Int32).toNatClampNeg) = v2 then (ix x1 26 <| lt' (M.1 42 (x1 : Int32).toNatClampNeg) fun x2 => cal (q_Layout_isKnown M x1) fun M3 r4 => if r4 = 0 then (q_Plan_addRegister_76 (q_Plan_addRegister_8 n') M3 v2 v3 v4 v5 x1 x2) else (lt' (v4 &&& (x2 ^^^ (-1))) fun x5 => q_Plan_addRegister_76 (q_Plan_addRegister_8 n') M3 v2 v3 x5 v5 x1 x2)) else (q_Plan_addRegister_104 (q_Plan_addRegister_8 n') M v2 v3 v4 v5))
def q_Plan_addRegister  (M : Mm) (a2 : Int32) : Rs := q_Plan_addRegister_8 4000 M a2 0 0 0
set_option maxHeartbeats 4000000 in
set_option maxRecDepth 20000 in
theorem b_Plan_addRegister_155 {p : Program} {l : Launch} {e : Env} {s s0 : State} {m : MethodId} {args : Array Value} {below : List Frame} {meth : Method} {c : Code} {D : va_G} {cI cZ cC cJ cA : ClassId} {P : Nat → Nat} {M' : Mm} {r' : Int32}  (hx : p.tables.exec = Jvm.exec) (hb : c.code = cX9_addRegister) (hml : c.maxLocals = 8) (hr : meth.sig.returnType = none) (hlk : meth.locks = false) (hgt : ∀ w ∈ GT, w.before args s = true) (hown : s.vm.findClass RX9 = some m.cls) (hK : va_K D vwCl [(cI, .int), (cZ, .boolean), (cC, .char), (cJ, .long), (cA, .array .int)] s) (hO : Old s0 s) (hAO : ∀ q, (aP P 77) q → s0.heap.size ≤ q)  : ∀ (M : Mm) (v2 : Int32) (v3 : Int32) (v4 : Int32) (H : Heap) (locs : List Loc) (ls : Array Slot), lv_has ls 8 [(0, .ref (P 60)), (2, .int v2), (3, .int v3), (4, .int v4)] → va_P D vwCl ((wX cI cZ cC cJ cA P) M) H → va_D (aP P 77) ((wX cI cZ cC cJ cA P) M) → va_S (aP P 77) s.heap H locs → q_Plan_addRegister_155 M v2 v3 v4 = some (M', r') → W p l e ({ frames := 4, cells := 0, slots := 0, locals := 97 }) s m args below meth c H locs 0 0 (MQ below (gQv D (aP P 77) ((wX cI cZ cC cJ cA P) M')) args s 0 0 (aP P 77)) (F0 m 155 ls []) := by
  intro M v2 v3 v4 H locs ls hl hP hD hS h
  unfold q_Plan_addRegister_155 at h
  refine lv_aload_n hx hb dX9_addRegister_155 rfl (lv_at hl 0 rfl) ?_
  refine lv_iload_n hx hb dX9_addRegister_156 rfl (lv_at hl 1 rfl) ?_
  obtain ⟨M1, r2, hq, h⟩ := cal_o h
  refine cx_v (va_runV (As := [.int v2]) (rest := []) ⟨hx, hb, hml, hown, hgt⟩ (z_Plan_addReach l D cI cZ cC cJ cA P s0 hAO M v2 M1 r2 hq) (cwV 1 hgt (gV wd_2_208 wd_2_210 sl__ChipMap_Plan____ChipMap_Plan___addReach____I_V_____ChipMap_Plan___addReach____I_V__ wd_0_12 wd_2_211) rfl rfl rfl (by decide +kernel) ⟨Nat.le_of_ble_eq_true rfl, Nat.le_of_ble_eq_true rfl⟩) (prV hP hK hD hO hAO hS (va_recv hK hP (ci := 9) (q0 := 60) rfl gX_60)) rfl rfl hl.1 rfl (lv_room (Nat.le_of_ble_eq_true rfl)) dX9_addRegister_157 ⟨Nat.le_of_ble_eq_true rfl, Nat.le_of_ble_eq_true rfl⟩) hS (fun H locs hP hD hS => ?_)
  refine lv_aload_n hx hb dX9_addRegister_160 rfl (lv_at hl 0 rfl) ?_
  refine lv_iload_n hx hb dX9_addRegister_161 rfl (lv_at hl 1 rfl) ?_
  refine lv_iload_n hx hb dX9_addRegister_162 rfl (lv_at hl 2 rfl) ?_
  refine lv_iload hx hb dX9_addRegister_163 (lv_at hl 3 rfl) ?_
  obtain ⟨M3, r4, hq, h⟩ := cal_o h
  refine cx_v (va_runV (As := [.int v2, .int v3, .int v4]) (rest := []) ⟨hx, hb, hml, hown, hgt⟩ (z_Plan_addTold l D cI cZ cC cJ cA P s0 hAO M1 v2 v3 v4 M3 r4 hq) (cwV 3 hgt (gV wd_2_213 wd_2_215 sl__ChipMap_Plan____ChipMap_Plan___addTold____III_V_____ChipMap_Plan___addTold____III_V__ wd_0_12 wd_2_216) rfl rfl rfl (by decide +kernel) ⟨Nat.le_of_ble_eq_true rfl, Nat.le_of_ble_eq_true rfl⟩) (prV hP hK hD hO hAO hS (va_recv hK hP (ci := 9) (q0 := 60) rfl gX_60)) rfl rfl hl.1 rfl (lv_room (Nat.le_of_ble_eq_true rfl)) dX9_addRegister_165 ⟨Nat.le_of_ble_eq_true rfl, Nat.le_of_ble_eq_true rfl⟩) hS (fun H locs hP hD hS => ?_)
  exact rt_v (w := (wX cI cZ cC cJ cA P)) (r := r') hx hb hr hlk hP hD hS h dX9_addRegister_168
set_option maxHeartbeats 4000000 in
set_option maxRecDepth 20000 in
theorem b_Plan_addRegister_131 {p : Program} {l : Launch} {e : Env} {s s0 : State} {m : MethodId} {args : Array Value} {below : List Frame} {meth : Method} {c : Code} {D : va_G} {cI cZ cC cJ cA : ClassId} {P : Nat → Nat} {M' : Mm} {r' : Int32}  (hx : p.tables.exec = Jvm.exec) (hb : c.code = cX9_addRegister) (hml : c.maxLocals = 8) (hr : meth.sig.returnType = none) (hlk : meth.locks = false) (hgt : ∀ w ∈ GT, w.before args s = true) (hown : s.vm.findClass RX9 = some m.cls) (hK : va_K D vwCl [(cI, .int), (cZ, .boolean), (cC, .char), (cJ, .long), (cA, .array .int)] s) (hO : Old s0 s) (hAO : ∀ q, (aP P 77) q → s0.heap.size ≤ q)  : ∀ (M : Mm) (v2 : Int32) (v3 : Int32) (v4 : Int32) (t0 : Int32) (H : Heap) (locs : List Loc) (ls : Array Slot), lv_has ls 8 [(0, .ref (P 60)), (2, .int v2), (3, .int v3), (4, .int v4)] → va_P D vwCl ((wX cI cZ cC cJ cA P) M) H → va_D (aP P 77) ((wX cI cZ cC cJ cA P) M) → va_S (aP P 77) s.heap H locs → q_Plan_addRegister_131 M v2 v3 v4 t0 = some (M', r') → W p l e ({ frames := 4, cells := 0, slots := 0, locals := 97 }) s m args below meth c H locs 0 0 (MQ below (gQv D (aP P 77) ((wX cI cZ cC cJ cA P) M')) args s 0 0 (aP P 77)) (F0 m 131 ls [.int t0]) := by
  intro M v2 v3 v4 t0 H locs ls hl hP hD hS h
  unfold q_Plan_addRegister_131 at h
  refine lv_istore hx hb dX9_addRegister_131 hl (Nat.le_of_ble_eq_true rfl) (lv' := [(5, .int t0), (0, .ref (P 60)), (2, .int v2), (3, .int v3), (4, .int v4)]) rfl (fun ls hl => ?_)
  refine lv_iload hx hb dX9_addRegister_133 (lv_at hl 0 rfl) ?_
  refine lv_if_eq hx hb dX9_addRegister_135 (tgt := 155) rfl (fun hc => ?_) (fun hc => ?_)
  · have h := br_T hc h
    have hl := lv_sub hl [1, 2, 3, 4] (l' := [(0, .ref (P 60)), (2, .int v2), (3, .int v3), (4, .int v4)]) rfl
    exact b_Plan_addRegister_155 hx hb hml hr hlk hgt hown hK hO hAO M v2 v3 v4 H _ ls hl hP hD hS h
  · have h := br_F hc h
    refine lv_aload_n hx hb dX9_addRegister_138 rfl (lv_at hl 1 rfl) ?_
    refine va_get (D := D) (ci := 9) (v := .ref (P 61)) (C := RX9) (T := TX9) (N := 6) hx hb hgt iwX9 hown hK hP 60 gX_60 rfl 1 (Nat.le_of_ble_eq_true rfl) (hgt _ wd_1_161) (fun _ h9 => h9) rfl dX9_addRegister_139 ?_
    refine va_get (D := D) (ci := 8) (v := .ref (P 62)) (C := RX8) (T := TX8) (N := 3) hx hb hgt iwX8 hown hK hP 61 gX_61 rfl 1 (Nat.le_of_ble_eq_true rfl) (hgt _ wd_1_116) (fun _ h9 => h9) rfl dX9_addRegister_142 ?_
    refine lv_iload_n hx hb dX9_addRegister_145 rfl (lv_at hl 2 rfl) ?_
    refine va_iald hx hb hK hP 62 0 gX_62 rfl (ix_l h) dX9_addRegister_146 ?_
    have h := ix_r h
    refine lv_iload_n hx hb dX9_addRegister_147 rfl (lv_at hl 3 rfl) ?_
    refine lv_iand hx hb dX9_addRegister_148 ?_
    refine lv_iload hx hb dX9_addRegister_149 (lv_at hl 4 rfl) ?_
    refine lv_icmp_ne hx hb dX9_addRegister_151 (tgt := 155) rfl (fun hc => ?_) (fun hc => ?_)
    · have h := br_F hc h
      have hl := lv_sub hl [1, 2, 3, 4] (l' := [(0, .ref (P 60)), (2, .int v2), (3, .int v3), (4, .int v4)]) rfl
      exact b_Plan_addRegister_155 hx hb hml hr hlk hgt hown hK hO hAO M v2 v3 v4 H _ ls hl hP hD hS h
    · have h := br_T hc h
      exact rt_v (w := (wX cI cZ cC cJ cA P)) (r := r') hx hb hr hlk hP hD hS h dX9_addRegister_154
set_option maxHeartbeats 4000000 in
set_option maxRecDepth 20000 in
theorem b_Plan_addRegister_104 {p : Program} {l : Launch} {e : Env} {s s0 : State} {m : MethodId} {args : Array Value} {below : List Frame} {meth : Method} {c : Code} {D : va_G} {cI cZ cC cJ cA : ClassId} {P : Nat → Nat} {M' : Mm} {r' : Int32} {kf8 : Mm → Int32 → Int32 → Int32 → Int32 → Rs} (hx : p.tables.exec = Jvm.exec) (hb : c.code = cX9_addRegister) (hml : c.maxLocals = 8) (hr : meth.sig.returnType = none) (hlk : meth.locks = false) (hgt : ∀ w ∈ GT, w.before args s = true) (hown : s.vm.findClass RX9 = some m.cls) (hK : va_K D vwCl [(cI, .int), (cZ, .boolean), (cC, .char), (cJ, .long), (cA, .array .int)] s) (hO : Old s0 s) (hAO : ∀ q, (aP P 77) q → s0.heap.size ≤ q) (kk8 : ∀ (M : Mm) (v2 : Int32) (v3 : Int32) (v4 : Int32) (v5 : Int32) (H : Heap) (locs : List Loc) (ls : Array Slot), lv_has ls 8 [(0, .ref (P 60)), (1, .ref (P 65)), (2, .int v2), (3, .int v3), (4, .int v4), (5, .int v5)] → va_P D vwCl ((wX cI cZ cC cJ cA P) M) H → va_D (aP P 77) ((wX cI cZ cC cJ cA P) M) → va_S (aP P 77) s.heap H locs → kf8 M v2 v3 v4 v5 = some (M', r') → W p l e ({ frames := 4, cells := 0, slots := 0, locals := 97 }) s m args below meth c H locs 0 0 (MQ below (gQv D (aP P 77) ((wX cI cZ cC cJ cA P) M')) args s 0 0 (aP P 77)) (F0 m 8 ls [])) : ∀ (M : Mm) (v2 : Int32) (v3 : Int32) (v4 : Int32) (v5 : Int32) (H : Heap) (locs : List Loc) (ls : Array Slot), lv_has ls 8 [(0, .ref (P 60)), (1, .ref (P 65)), (2, .int v2), (3, .int v3), (4, .int v4), (5, .int v5)] → va_P D vwCl ((wX cI cZ cC cJ cA P) M) H → va_D (aP P 77) ((wX cI cZ cC cJ cA P) M) → va_S (aP P 77) s.heap H locs → q_Plan_addRegister_104 kf8 M v2 v3 v4 v5 = some (M', r') → W p l e ({ frames := 4, cells := 0, slots := 0, locals := 97 }) s m args below meth c H locs 0 0 (MQ below (gQv D (aP P 77) ((wX cI cZ cC cJ cA P) M')) args s 0 0 (aP P 77)) (F0 m 104 ls []) := by
  intro M v2 v3 v4 v5 H locs ls hl hP hD hS h
  unfold q_Plan_addRegister_104 at h
  refine lv_iinc (v := (v5 + 1)) hx hb dX9_addRegister_104 hl (k := 5) rfl rfl (Nat.le_of_ble_eq_true rfl) (lv' := [(5, .int (v5 + 1)), (0, .ref (P 60)), (1, .ref (P 65)), (2, .int v2), (3, .int v3), (4, .int v4)]) rfl (fun ls hl => ?_)
  refine lv_goto hx hb dX9_addRegister_107 (tgt := 8) rfl ?_
  have hl := lv_sub hl [1, 2, 3, 4, 5, 0] (l' := [(0, .ref (P 60)), (1, .ref (P 65)), (2, .int v2), (3, .int v3), (4, .int v4), (5, .int (v5 + 1))]) rfl
  exact kk8 M v2 v3 v4 (v5 + 1) H locs ls hl hP hD hS h
set_option maxHeartbeats 4000000 in
set_option maxRecDepth 20000 in
theorem b_Plan_addRegister_76 {p : Program} {l : Launch} {e : Env} {s s0 : State} {m : MethodId} {args : Array Value} {below : List Frame} {meth : Method} {c : Code} {D : va_G} {cI cZ cC cJ cA : ClassId} {P : Nat → Nat} {M' : Mm} {r' : Int32} {kf8 : Mm → Int32 → Int32 → Int32 → Int32 → Rs} (hx : p.tables.exec = Jvm.exec) (hb : c.code = cX9_addRegister) (hml : c.maxLocals = 8) (hr : meth.sig.returnType = none) (hlk : meth.locks = false) (hgt : ∀ w ∈ GT, w.before args s = true) (hown : s.vm.findClass RX9 = some m.cls) (hK : va_K D vwCl [(cI, .int), (cZ, .boolean), (cC, .char), (cJ, .long), (cA, .array .int)] s) (hO : Old s0 s) (hAO : ∀ q, (aP P 77) q → s0.heap.size ≤ q) (kk8 : ∀ (M : Mm) (v2 : Int32) (v3 : Int32) (v4 : Int32) (v5 : Int32) (H : Heap) (locs : List Loc) (ls : Array Slot), lv_has ls 8 [(0, .ref (P 60)), (1, .ref (P 65)), (2, .int v2), (3, .int v3), (4, .int v4), (5, .int v5)] → va_P D vwCl ((wX cI cZ cC cJ cA P) M) H → va_D (aP P 77) ((wX cI cZ cC cJ cA P) M) → va_S (aP P 77) s.heap H locs → kf8 M v2 v3 v4 v5 = some (M', r') → W p l e ({ frames := 4, cells := 0, slots := 0, locals := 97 }) s m args below meth c H locs 0 0 (MQ below (gQv D (aP P 77) ((wX cI cZ cC cJ cA P) M')) args s 0 0 (aP P 77)) (F0 m 8 ls [])) : ∀ (M : Mm) (v2 : Int32) (v3 : Int32) (v4 : Int32) (v5 : Int32) (v6 : Int32) (v7 : Int32) (H : Heap) (locs : List Loc) (ls : Array Slot), lv_has ls 8 [(0, .ref (P 60)), (1, .ref (P 65)), (2, .int v2), (3, .int v3), (4, .int v4), (5, .int v5), (6, .int v6), (7, .int v7)] → va_P D vwCl ((wX cI cZ cC cJ cA P) M) H → va_D (aP P 77) ((wX cI cZ cC cJ cA P) M) → va_S (aP P 77) s.heap H locs → q_Plan_addRegister_76 kf8 M v2 v3 v4 v5 v6 v7 = some (M', r') → W p l e ({ frames := 4, cells := 0, slots := 0, locals := 97 }) s m args below meth c H locs 0 0 (MQ below (gQv D (aP P 77) ((wX cI cZ cC cJ cA P) M')) args s 0 0 (aP P 77)) (F0 m 76 ls []) := by
  intro M v2 v3 v4 v5 v6 v7 H locs ls hl hP hD hS h
  unfold q_Plan_addRegister_76 at h
  refine lv_iload_n hx hb dX9_addRegister_76 rfl (lv_at hl 3 rfl) ?_
  refine lv_iload hx hb dX9_addRegister_77 (lv_at hl 7 rfl) ?_
  refine lv_ior hx hb dX9_addRegister_79 ?_
  refine lv_topi (fun x1 ex1 => ?_)
  have h := lt_o ex1 h
  refine lv_istore_n hx hb dX9_addRegister_80 rfl hl (Nat.le_of_ble_eq_true rfl) (lv' := [(3, .int x1), (0, .ref (P 60)), (1, .ref (P 65)), (2, .int v2), (4, .int v4), (5, .int v5), (6, .int v6), (7, .int v7)]) rfl (fun ls hl => ?_)
  refine lv_iload hx hb dX9_addRegister_81 (lv_at hl 4 rfl) ?_
  refine lv_aload_n hx hb dX9_addRegister_83 rfl (lv_at hl 2 rfl) ?_
  refine va_get (D := D) (ci := 12) (v := .ref (P 68)) (C := RX12) (T := TX12) (N := 4) hx hb hgt iwX12 hown hK hP 65 gX_65 rfl 3 (Nat.le_of_ble_eq_true rfl) (hgt _ wd_1_204) (fun _ h9 => h9) rfl dX9_addRegister_84 ?_
  refine lv_iload hx hb dX9_addRegister_87 (lv_at hl 5 rfl) ?_
  refine va_iald hx hb hK hP 68 0 gX_68 rfl (ix_l h) dX9_addRegister_89 ?_
  have h := ix_r h
  refine lv_aload_n hx hb dX9_addRegister_90 rfl (lv_at hl 1 rfl) ?_
  refine va_get (D := D) (ci := 9) (v := .ref (P 24)) (C := RX9) (T := TX9) (N := 6) hx hb hgt iwX9 hown hK hP 60 gX_60 rfl 0 (Nat.le_of_ble_eq_true rfl) (hgt _ wd_1_160) (fun _ h9 => h9) rfl dX9_addRegister_91 ?_
  refine va_get (D := D) (ci := 6) (v := .ref (P 40)) (C := RX6) (T := TX6) (N := 13) hx hb hgt iwX6 hown hK hP 24 gX_24 rfl 9 (Nat.le_of_ble_eq_true rfl) (hgt _ wd_1_35) (fun _ h9 => h9) rfl dX9_addRegister_94 ?_
  refine lv_iload hx hb dX9_addRegister_97 (lv_at hl 6 rfl) ?_
  refine va_iald hx hb hK hP 40 0 gX_40 rfl (ix_l h) dX9_addRegister_99 ?_
  have h := ix_r h
  refine lv_ishl hx hb dX9_addRegister_100 ?_
  refine lv_ior hx hb dX9_addRegister_101 ?_
  refine lv_topi (fun x2 ex2 => ?_)
  have h := lt_o ex2 h
  refine lv_istore hx hb dX9_addRegister_102 hl (Nat.le_of_ble_eq_true rfl) (lv' := [(4, .int x2), (3, .int x1), (0, .ref (P 60)), (1, .ref (P 65)), (2, .int v2), (5, .int v5), (6, .int v6), (7, .int v7)]) rfl (fun ls hl => ?_)
  have hl := lv_sub hl [2, 3, 4, 1, 0, 5] (l' := [(0, .ref (P 60)), (1, .ref (P 65)), (2, .int v2), (3, .int x1), (4, .int x2), (5, .int v5)]) rfl
  exact b_Plan_addRegister_104 hx hb hml hr hlk hgt hown hK hO hAO kk8 M v2 x1 x2 v5 H _ ls hl hP hD hS h
set_option maxHeartbeats 4000000 in
set_option maxRecDepth 20000 in
theorem b_Plan_addRegister_8 {p : Program} {l : Launch} {e : Env} {s s0 : State} {m : MethodId} {args : Array Value} {below : List Frame} {meth : Method} {c : Code} {D : va_G} {cI cZ cC cJ cA : ClassId} {P : Nat → Nat} {M' : Mm} {r' : Int32}  (hx : p.tables.exec = Jvm.exec) (hb : c.code = cX9_addRegister) (hml : c.maxLocals = 8) (hr : meth.sig.returnType = none) (hlk : meth.locks = false) (hgt : ∀ w ∈ GT, w.before args s = true) (hown : s.vm.findClass RX9 = some m.cls) (hK : va_K D vwCl [(cI, .int), (cZ, .boolean), (cC, .char), (cJ, .long), (cA, .array .int)] s) (hO : Old s0 s) (hAO : ∀ q, (aP P 77) q → s0.heap.size ≤ q)  : ∀ (n' : Nat) (M : Mm) (v2 : Int32) (v3 : Int32) (v4 : Int32) (v5 : Int32) (H : Heap) (locs : List Loc) (ls : Array Slot), lv_has ls 8 [(0, .ref (P 60)), (1, .ref (P 65)), (2, .int v2), (3, .int v3), (4, .int v4), (5, .int v5)] → va_P D vwCl ((wX cI cZ cC cJ cA P) M) H → va_D (aP P 77) ((wX cI cZ cC cJ cA P) M) → va_S (aP P 77) s.heap H locs → q_Plan_addRegister_8 n' M v2 v3 v4 v5 = some (M', r') → W p l e ({ frames := 4, cells := 0, slots := 0, locals := 97 }) s m args below meth c H locs 0 0 (MQ below (gQv D (aP P 77) ((wX cI cZ cC cJ cA P) M')) args s 0 0 (aP P 77)) (F0 m 8 ls []) := by
  intro n'
  induction n' with
  | zero => exact fun _ _ _ _ _ _ _ _ _ _ _ _ h => (rs_n h).elim
  | succ n' ih =>
    intro M v2 v3 v4 v5 H locs ls hl hP hD hS h
    rw [q_Plan_addRegister_8] at h
    refine lv_iload hx hb dX9_addRegister_8 (lv_at hl 5 rfl) ?_
    refine lv_aload_n hx hb dX9_addRegister_10 rfl (lv_at hl 1 rfl) ?_
    refine va_get (D := D) (ci := 12) (v := .int (M.1 65 0)) (C := RX12) (T := TX12) (N := 4) hx hb hgt iwX12 hown hK hP 65 gX_65 rfl 0 (Nat.le_of_ble_eq_true rfl) (hgt _ wd_1_194) (fun _ h9 => h9) rfl dX9_addRegister_11 ?_
    refine lv_icmp_ge hx hb dX9_addRegister_14 (tgt := 110) rfl (fun hc => ?_) (fun hc => ?_)
    · have h := br_T hc h
      refine lv_iload_n hx hb dX9_addRegister_110 rfl (lv_at hl 3 rfl) ?_
      refine lv_aload_n hx hb dX9_addRegister_111 rfl (lv_at hl 0 rfl) ?_
      refine va_get (D := D) (ci := 9) (v := .ref (P 24)) (C := RX9) (T := TX9) (N := 6) hx hb hgt iwX9 hown hK hP 60 gX_60 rfl 0 (Nat.le_of_ble_eq_true rfl) (hgt _ wd_1_160) (fun _ h9 => h9) rfl dX9_addRegister_112 ?_
      refine va_get (D := D) (ci := 6) (v := .ref (P 29)) (C := RX6) (T := TX6) (N := 13) hx hb hgt iwX6 hown hK hP 24 gX_24 rfl 5 (Nat.le_of_ble_eq_true rfl) (hgt _ wd_1_22) (fun _ h9 => h9) rfl dX9_addRegister_115 ?_
      refine lv_iload_n hx hb dX9_addRegister_118 rfl (lv_at hl 2 rfl) ?_
      refine va_iald hx hb hK hP 29 0 gX_29 rfl (ix_l h) dX9_addRegister_119 ?_
      have h := ix_r h
      refine lv_iconst (v := (-1)) hx hb dX9_addRegister_120 (by decide) ?_
      refine lv_ixor hx hb dX9_addRegister_121 ?_
      refine lv_iand hx hb dX9_addRegister_122 ?_
      refine lv_if_ne hx hb dX9_addRegister_123 (tgt := 130) rfl (fun hc => ?_) (fun hc => ?_)
      · have h := br_F hc h
        refine lv_iconst (v := 0) hx hb dX9_addRegister_130 (by decide) ?_
        have hl := lv_sub hl [0, 2, 3, 4] (l' := [(0, .ref (P 60)), (2, .int v2), (3, .int v3), (4, .int v4)]) rfl
        exact b_Plan_addRegister_131 hx hb hml hr hlk hgt hown hK hO hAO M v2 v3 v4 0 H _ ls hl hP hD hS h
      · have h := br_T hc h
        refine lv_iconst (v := 1) hx hb dX9_addRegister_126 (by decide) ?_
        refine lv_goto hx hb dX9_addRegister_127 (tgt := 131) rfl ?_
        have hl := lv_sub hl [0, 2, 3, 4] (l' := [(0, .ref (P 60)), (2, .int v2), (3, .int v3), (4, .int v4)]) rfl
        exact b_Plan_addRegister_131 hx hb hml hr hlk hgt hown hK hO hAO M v2 v3 v4 1 H _ ls hl hP hD hS h
    · have h := br_F hc h
      refine lv_aload_n hx hb dX9_addRegister_17 rfl (lv_at hl 1 rfl) ?_
      refine va_get (D := D) (ci := 12) (v := .ref (P 67)) (C := RX12) (T := TX12) (N := 4) hx hb hgt iwX12 hown hK hP 65 gX_65 rfl 2 (Nat.le_of_ble_eq_true rfl) (hgt _ wd_1_200) (fun _ h9 => h9) rfl dX9_addRegister_18 ?_
      refine lv_iload hx hb dX9_addRegister_21 (lv_at hl 5 rfl) ?_
      refine va_iald hx hb hK hP 67 0 gX_67 rfl (ix_l h) dX9_addRegister_23 ?_
      have h := ix_r h
      refine lv_topi (fun x1 ex1 => ?_)
      have h := lt_o ex1 h
      refine lv_istore hx hb dX9_addRegister_24 hl (Nat.le_of_ble_eq_true rfl) (lv' := [(6, .int x1), (0, .ref (P 60)), (1, .ref (P 65)), (2, .int v2), (3, .int v3), (4, .int v4), (5, .int v5)]) rfl (fun ls hl => ?_)
      refine lv_aload_n hx hb dX9_addRegister_26 rfl (lv_at hl 1 rfl) ?_
      refine va_get (D := D) (ci := 9) (v := .ref (P 24)) (C := RX9) (T := TX9) (N := 6) hx hb hgt iwX9 hown hK hP 60 gX_60 rfl 0 (Nat.le_of_ble_eq_true rfl) (hgt _ wd_1_160) (fun _ h9 => h9) rfl dX9_addRegister_27 ?_
      refine va_get (D := D) (ci := 6) (v := .ref (P 38)) (C := RX6) (T := TX6) (N := 13) hx hb hgt iwX6 hown hK hP 24 gX_24 rfl 7 (Nat.le_of_ble_eq_true rfl) (hgt _ wd_1_27) (fun _ h9 => h9) rfl dX9_addRegister_30 ?_
      refine lv_iload hx hb dX9_addRegister_33 (lv_at hl 0 rfl) ?_
      refine va_iald hx hb hK hP 38 0 gX_38 rfl (ix_l h) dX9_addRegister_35 ?_
      have h := ix_r h
      refine lv_iload_n hx hb dX9_addRegister_36 rfl (lv_at hl 3 rfl) ?_
      refine lv_icmp_eq hx hb dX9_addRegister_37 (tgt := 43) rfl (fun hc => ?_) (fun hc => ?_)
      · have h := br_T hc h
        refine lv_aload_n hx hb dX9_addRegister_43 rfl (lv_at hl 1 rfl) ?_
        refine va_get (D := D) (ci := 9) (v := .ref (P 24)) (C := RX9) (T := TX9) (N := 6) hx hb hgt iwX9 hown hK hP 60 gX_60 rfl 0 (Nat.le_of_ble_eq_true rfl) (hgt _ wd_1_160) (fun _ h9 => h9) rfl dX9_addRegister_44 ?_
        refine va_get (D := D) (ci := 6) (v := .ref (P 42)) (C := RX6) (T := TX6) (N := 13) hx hb hgt iwX6 hown hK hP 24 gX_24 rfl 11 (Nat.le_of_ble_eq_true rfl) (hgt _ wd_1_42) (fun _ h9 => h9) rfl dX9_addRegister_47 ?_
        refine lv_iload hx hb dX9_addRegister_50 (lv_at hl 0 rfl) ?_
        refine va_iald hx hb hK hP 42 0 gX_42 rfl (ix_l h) dX9_addRegister_52 ?_
        have h := ix_r h
        refine lv_topi (fun x2 ex2 => ?_)
        have h := lt_o ex2 h
        refine lv_istore hx hb dX9_addRegister_53 hl (Nat.le_of_ble_eq_true rfl) (lv' := [(7, .int x2), (6, .int x1), (0, .ref (P 60)), (1, .ref (P 65)), (2, .int v2), (3, .int v3), (4, .int v4), (5, .int v5)]) rfl (fun ls hl => ?_)
        refine lv_aload_n hx hb dX9_addRegister_55 rfl (lv_at hl 2 rfl) ?_
        refine va_get (D := D) (ci := 9) (v := .ref (P 24)) (C := RX9) (T := TX9) (N := 6) hx hb hgt iwX9 hown hK hP 60 gX_60 rfl 0 (Nat.le_of_ble_eq_true rfl) (hgt _ wd_1_160) (fun _ h9 => h9) rfl dX9_addRegister_56 ?_
        refine lv_iload hx hb dX9_addRegister_59 (lv_at hl 1 rfl) ?_
        obtain ⟨M3, r4, hq, h⟩ := cal_o h
        refine cx_i (va_runV (As := [.int x1]) (rest := []) ⟨hx, hb, hml, hown, hgt⟩ (z_Layout_isKnown l D cI cZ cC cJ cA P s0 hAO M x1 M3 r4 hq) (cwV 1 hgt (gV wd_2_203 wd_2_204 wd_2_205 wd_0_6 wd_2_206) rfl rfl rfl (by decide +kernel) ⟨Nat.le_of_ble_eq_true rfl, Nat.le_of_ble_eq_true rfl⟩) (prV hP hK hD hO hAO hS (va_recv hK hP (ci := 6) (q0 := 24) rfl gX_24)) rfl rfl hl.1 rfl (lv_room (Nat.le_of_ble_eq_true rfl)) dX9_addRegister_61 ⟨Nat.le_of_ble_eq_true rfl, Nat.le_of_ble_eq_true rfl⟩) hS (fun H locs hP hD hS => ?_)
        refine lv_if_eq hx hb dX9_addRegister_64 (tgt := 76) rfl (fun hc => ?_) (fun hc => ?_)
        · have h := br_T hc h
          have hl := lv_sub hl [2, 3, 4, 5, 6, 7, 1, 0] (l' := [(0, .ref (P 60)), (1, .ref (P 65)), (2, .int v2), (3, .int v3), (4, .int v4), (5, .int v5), (6, .int x1), (7, .int x2)]) rfl
          exact b_Plan_addRegister_76 hx hb hml hr hlk hgt hown hK hO hAO ih M3 v2 v3 v4 v5 x1 x2 H _ ls hl hP hD hS h
        · have h := br_F hc h
          refine lv_iload hx hb dX9_addRegister_67 (lv_at hl 6 rfl) ?_
          refine lv_iload hx hb dX9_addRegister_69 (lv_at hl 0 rfl) ?_
          refine lv_iconst (v := (-1)) hx hb dX9_addRegister_71 (by decide) ?_
          refine lv_ixor hx hb dX9_addRegister_72 ?_
          refine lv_iand hx hb dX9_addRegister_73 ?_
          refine lv_topi (fun x5 ex5 => ?_)
          have h := lt_o ex5 h
          refine lv_istore hx hb dX9_addRegister_74 hl (Nat.le_of_ble_eq_true rfl) (lv' := [(4, .int x5), (7, .int x2), (6, .int x1), (0, .ref (P 60)), (1, .ref (P 65)), (2, .int v2), (3, .int v3), (5, .int v5)]) rfl (fun ls hl => ?_)
          have hl := lv_sub hl [3, 4, 5, 6, 0, 7, 2, 1] (l' := [(0, .ref (P 60)), (1, .ref (P 65)), (2, .int v2), (3, .int v3), (4, .int x5), (5, .int v5), (6, .int x1), (7, .int x2)]) rfl
          exact b_Plan_addRegister_76 hx hb hml hr hlk hgt hown hK hO hAO ih M3 v2 v3 x5 v5 x1 x2 H _ ls hl hP hD hS h
      · have h := br_F hc h
        refine lv_goto hx hb dX9_addRegister_40 (tgt := 104) rfl ?_
        have hl := lv_sub hl [1, 2, 3, 4, 5, 6] (l' := [(0, .ref (P 60)), (1, .ref (P 65)), (2, .int v2), (3, .int v3), (4, .int v4), (5, .int v5)]) rfl
        exact b_Plan_addRegister_104 hx hb hml hr hlk hgt hown hK hO hAO ih M v2 v3 v4 v5 H _ ls hl hP hD hS h
set_option maxHeartbeats 4000000 in
set_option maxRecDepth 20000 in
theorem b_Plan_addRegister_0 {p : Program} {l : Launch} {e : Env} {s s0 : State} {m : MethodId} {args : Array Value} {below : List Frame} {meth : Method} {c : Code} {D : va_G} {cI cZ cC cJ cA : ClassId} {P : Nat → Nat} {M' : Mm} {r' : Int32}  (hx : p.tables.exec = Jvm.exec) (hb : c.code = cX9_addRegister) (hml : c.maxLocals = 8) (hr : meth.sig.returnType = none) (hlk : meth.locks = false) (hgt : ∀ w ∈ GT, w.before args s = true) (hown : s.vm.findClass RX9 = some m.cls) (hK : va_K D vwCl [(cI, .int), (cZ, .boolean), (cC, .char), (cJ, .long), (cA, .array .int)] s) (hO : Old s0 s) (hAO : ∀ q, (aP P 77) q → s0.heap.size ≤ q)  : ∀ (M : Mm) (a2 : Int32) (H : Heap) (locs : List Loc) (ls : Array Slot), lv_has ls 8 [(0, .ref (P 60)), (1, .ref (P 65)), (2, .int a2)] → va_P D vwCl ((wX cI cZ cC cJ cA P) M) H → va_D (aP P 77) ((wX cI cZ cC cJ cA P) M) → va_S (aP P 77) s.heap H locs → q_Plan_addRegister M a2 = some (M', r') → W p l e ({ frames := 4, cells := 0, slots := 0, locals := 97 }) s m args below meth c H locs 0 0 (MQ below (gQv D (aP P 77) ((wX cI cZ cC cJ cA P) M')) args s 0 0 (aP P 77)) (F0 m 0 ls []) := by
  intro M a2 H locs ls hl hP hD hS h
  unfold q_Plan_addRegister at h
  refine lv_iconst (v := 0) hx hb dX9_addRegister_0 (by decide) ?_
  refine lv_istore_n hx hb dX9_addRegister_1 rfl hl (Nat.le_of_ble_eq_true rfl) (lv' := [(3, .int 0), (0, .ref (P 60)), (1, .ref (P 65)), (2, .int a2)]) rfl (fun ls hl => ?_)
  refine lv_iconst (v := 0) hx hb dX9_addRegister_2 (by decide) ?_
  refine lv_istore hx hb dX9_addRegister_3 hl (Nat.le_of_ble_eq_true rfl) (lv' := [(4, .int 0), (3, .int 0), (0, .ref (P 60)), (1, .ref (P 65)), (2, .int a2)]) rfl (fun ls hl => ?_)
  refine lv_iconst (v := 0) hx hb dX9_addRegister_5 (by decide) ?_
  refine lv_istore hx hb dX9_addRegister_6 hl (Nat.le_of_ble_eq_true rfl) (lv' := [(5, .int 0), (4, .int 0), (3, .int 0), (0, .ref (P 60)), (1, .ref (P 65)), (2, .int a2)]) rfl (fun ls hl => ?_)
  have hl := lv_sub hl [3, 4, 5, 2, 1, 0] (l' := [(0, .ref (P 60)), (1, .ref (P 65)), (2, .int a2), (3, .int 0), (4, .int 0), (5, .int 0)]) rfl
  exact b_Plan_addRegister_8 hx hb hml hr hlk hgt hown hK hO hAO 4000 M a2 0 0 0 H _ ls hl hP hD hS h
set_option maxHeartbeats 4000000 in
set_option maxRecDepth 20000 in
theorem z_Plan_addRegister (l : Launch) (D : va_G) (cI cZ cC cJ cA : ClassId) (P : Nat → Nat) (s0 : State) (hAO : ∀ q, (aP P 77) q → s0.heap.size ≤ q) (M : Mm) (a2 : Int32) (M' : Mm) (r' : Int32) (h : q_Plan_addRegister M a2 = some (M', r')) : Met l yX9_addRegister wsX9_addRegister ({ frames := 4, cells := 0, slots := 0, locals := 97 }) (va_Pc [.ref (P 60), .ref (P 65), .int a2] (gPre s0 D [(cI, .int), (cZ, .boolean), (cC, .char), (cJ, .long), (cA, .array .int)] (aP P 77) ((wX cI cZ cC cJ cA P) M))) (gQv D (aP P 77) ((wX cI cZ cC cJ cA P) M')) 0 0 (aP P 77) := by
  refine Met.ofW (cc := cX9_addRegister) (maxL := 8) (ret := none) (by decide) rfl ?_
  intro p e s m args below meth c s₁ B hml hv
  obtain ⟨rfl, hP, hK, hD, hO⟩ := hv
  have hx := B.exec
  have hb := B.bytes
  have hr := B.returns
  have hlk := B.notSynchronized
  have hgt := fun w (h : w ∈ GT) => atoms_spec (ws := wsX9_addRegister) B.pre w (List.mem_cons_of_mem _ h)
  have hown : s.vm.findClass RX9 = some m.cls := findClass_of_methodNamed B.named
  have hS : va_S (aP P 77) s.heap s.heap [] := va_S.rf
  have hl := lv_entry ([.ref (P 60), .ref (P 65), .int a2]) (n := 8) (Nat.le_of_ble_eq_true rfl)
  rw [lg_entry_eq]
  generalize (lg_sl ([.ref (P 60), .ref (P 65), .int a2]) ++ List.replicate (8 - (lg_sl ([.ref (P 60), .ref (P 65), .int a2])).length) Slot.unset).toArray = ls at hl ⊢
  have hl : lv_has ls 8 [(0, .ref (P 60)), (1, .ref (P 65)), (2, .int a2)] := hl
  exact b_Plan_addRegister_0 hx hb hml hr hlk hgt hown hK hO hAO M a2 s.heap [] ls hl hP hD hS h
def q_Plan_addJoined_38 (kf2 : Mm → Int32 → Rs) (M : Mm) (v2 : Int32) : Rs := kf2 M (v2 + 1)
def q_Plan_addJoined_2  : Nat → Mm → Int32 → Rs
  | 0, _, _ => none
  | n' + 1, M, v2 => if (M.1 65 0) ≤ v2 then (some (M, 0)) else (cal (q_Plan_isFirstOfRegister M v2) fun M1 r2 => if r2 = 0 then (q_Plan_addJoined_38 (q_Plan_addJoined_2 n') M1 v2) else (ix v2 8 <| ix (M1.1 67 (v2 : Int32).toNatClampNeg) 26 <| cal (q_Plan_addRegister M1 (M1.1 38 ((M1.1 67 (v2 : Int32).toNatClampNeg) : Int32).toNatClampNeg)) fun M3 r4 => q_Plan_addJoined_38 (q_Plan_addJoined_2 n') M3 v2))
def q_Plan_addJoined  (M : Mm)  : Rs := q_Plan_addJoined_2 4000 M 0
set_option maxHeartbeats 4000000 in
set_option maxRecDepth 20000 in
theorem b_Plan_addJoined_38 {p : Program} {l : Launch} {e : Env} {s s0 : State} {m : MethodId} {args : Array Value} {below : List Frame} {meth : Method} {c : Code} {D : va_G} {cI cZ cC cJ cA : ClassId} {P : Nat → Nat} {M' : Mm} {r' : Int32} {kf2 : Mm → Int32 → Rs} (hx : p.tables.exec = Jvm.exec) (hb : c.code = cX9_addJoined) (hml : c.maxLocals = 3) (hr : meth.sig.returnType = none) (hlk : meth.locks = false) (hgt : ∀ w ∈ GT, w.before args s = true) (hown : s.vm.findClass RX9 = some m.cls) (hK : va_K D vwCl [(cI, .int), (cZ, .boolean), (cC, .char), (cJ, .long), (cA, .array .int)] s) (hO : Old s0 s) (hAO : ∀ q, (aP P 77) q → s0.heap.size ≤ q) (kk2 : ∀ (M : Mm) (v2 : Int32) (H : Heap) (locs : List Loc) (ls : Array Slot), lv_has ls 3 [(0, .ref (P 60)), (1, .ref (P 65)), (2, .int v2)] → va_P D vwCl ((wX cI cZ cC cJ cA P) M) H → va_D (aP P 77) ((wX cI cZ cC cJ cA P) M) → va_S (aP P 77) s.heap H locs → kf2 M v2 = some (M', r') → W p l e ({ frames := 5, cells := 0, slots := 0, locals := 124 }) s m args below meth c H locs 0 0 (MQ below (gQv D (aP P 77) ((wX cI cZ cC cJ cA P) M')) args s 0 0 (aP P 77)) (F0 m 2 ls [])) : ∀ (M : Mm) (v2 : Int32) (H : Heap) (locs : List Loc) (ls : Array Slot), lv_has ls 3 [(0, .ref (P 60)), (1, .ref (P 65)), (2, .int v2)] → va_P D vwCl ((wX cI cZ cC cJ cA P) M) H → va_D (aP P 77) ((wX cI cZ cC cJ cA P) M) → va_S (aP P 77) s.heap H locs → q_Plan_addJoined_38 kf2 M v2 = some (M', r') → W p l e ({ frames := 5, cells := 0, slots := 0, locals := 124 }) s m args below meth c H locs 0 0 (MQ below (gQv D (aP P 77) ((wX cI cZ cC cJ cA P) M')) args s 0 0 (aP P 77)) (F0 m 38 ls []) := by
  intro M v2 H locs ls hl hP hD hS h
  unfold q_Plan_addJoined_38 at h
  refine lv_iinc (v := (v2 + 1)) hx hb dX9_addJoined_38 hl (k := 2) rfl rfl (Nat.le_of_ble_eq_true rfl) (lv' := [(2, .int (v2 + 1)), (0, .ref (P 60)), (1, .ref (P 65))]) rfl (fun ls hl => ?_)
  refine lv_goto hx hb dX9_addJoined_41 (tgt := 2) rfl ?_
  have hl := lv_sub hl [1, 2, 0] (l' := [(0, .ref (P 60)), (1, .ref (P 65)), (2, .int (v2 + 1))]) rfl
  exact kk2 M (v2 + 1) H locs ls hl hP hD hS h
set_option maxHeartbeats 4000000 in
set_option maxRecDepth 20000 in
theorem b_Plan_addJoined_2 {p : Program} {l : Launch} {e : Env} {s s0 : State} {m : MethodId} {args : Array Value} {below : List Frame} {meth : Method} {c : Code} {D : va_G} {cI cZ cC cJ cA : ClassId} {P : Nat → Nat} {M' : Mm} {r' : Int32}  (hx : p.tables.exec = Jvm.exec) (hb : c.code = cX9_addJoined) (hml : c.maxLocals = 3) (hr : meth.sig.returnType = none) (hlk : meth.locks = false) (hgt : ∀ w ∈ GT, w.before args s = true) (hown : s.vm.findClass RX9 = some m.cls) (hK : va_K D vwCl [(cI, .int), (cZ, .boolean), (cC, .char), (cJ, .long), (cA, .array .int)] s) (hO : Old s0 s) (hAO : ∀ q, (aP P 77) q → s0.heap.size ≤ q)  : ∀ (n' : Nat) (M : Mm) (v2 : Int32) (H : Heap) (locs : List Loc) (ls : Array Slot), lv_has ls 3 [(0, .ref (P 60)), (1, .ref (P 65)), (2, .int v2)] → va_P D vwCl ((wX cI cZ cC cJ cA P) M) H → va_D (aP P 77) ((wX cI cZ cC cJ cA P) M) → va_S (aP P 77) s.heap H locs → q_Plan_addJoined_2 n' M v2 = some (M', r') → W p l e ({ frames := 5, cells := 0, slots := 0, locals := 124 }) s m args below meth c H locs 0 0 (MQ below (gQv D (aP P 77) ((wX cI cZ cC cJ cA P) M')) args s 0 0 (aP P 77)) (F0 m 2 ls []) := by
  intro n'
  induction n' with
  | zero => exact fun _ _ _ _ _ _ _ _ _ h => (rs_n h).elim
  | succ n' ih =>
    intro M v2 H locs ls hl hP hD hS h
    rw [q_Plan_addJoined_2] at h
    refine lv_iload_n hx hb dX9_addJoined_2 rfl (lv_at hl 2 rfl) ?_
    refine lv_aload_n hx hb dX9_addJoined_3 rfl (lv_at hl 1 rfl) ?_
    refine va_get (D := D) (ci := 12) (v := .int (M.1 65 0)) (C := RX12) (T := TX12) (N := 4) hx hb hgt iwX12 hown hK hP 65 gX_65 rfl 0 (Nat.le_of_ble_eq_true rfl) (hgt _ wd_1_194) (fun _ h9 => h9) rfl dX9_addJoined_4 ?_
    refine lv_icmp_ge hx hb dX9_addJoined_7 (tgt := 44) rfl (fun hc => ?_) (fun hc => ?_)
    · have h := br_T hc h
      exact rt_v (w := (wX cI cZ cC cJ cA P)) (r := r') hx hb hr hlk hP hD hS h dX9_addJoined_44
    · have h := br_F hc h
      refine lv_aload_n hx hb dX9_addJoined_10 rfl (lv_at hl 0 rfl) ?_
      refine lv_aload_n hx hb dX9_addJoined_11 rfl (lv_at hl 1 rfl) ?_
      refine lv_iload_n hx hb dX9_addJoined_12 rfl (lv_at hl 2 rfl) ?_
      obtain ⟨M1, r2, hq, h⟩ := cal_o h
      refine cx_i (va_runV (As := [.ref (P 65), .int v2]) (rest := []) ⟨hx, hb, hml, hown, hgt⟩ (z_Plan_isFirstOfRegister l D cI cZ cC cJ cA P s0 hAO M v2 M1 r2 hq) (cwV 2 hgt (gV wd_3_4 wd_3_6 sl__ChipMap_Plan____ChipMap_Plan___isFirstOfRegister____LChipMap_Steps_I_Z_____ChipMap_Plan___isFirstOfRegister____LChipMap_Steps_I_Z__ wd_0_12 wd_3_7) rfl rfl rfl (by decide +kernel) ⟨Nat.le_of_ble_eq_true rfl, Nat.le_of_ble_eq_true rfl⟩) (prV hP hK hD hO hAO hS (va_recv hK hP (ci := 9) (q0 := 60) rfl gX_60)) rfl rfl hl.1 rfl (lv_room (Nat.le_of_ble_eq_true rfl)) dX9_addJoined_13 ⟨Nat.le_of_ble_eq_true rfl, Nat.le_of_ble_eq_true rfl⟩) hS (fun H locs hP hD hS => ?_)
      refine lv_if_eq hx hb dX9_addJoined_16 (tgt := 38) rfl (fun hc => ?_) (fun hc => ?_)
      · have h := br_T hc h
        have hl := lv_sub hl [0, 1, 2] (l' := [(0, .ref (P 60)), (1, .ref (P 65)), (2, .int v2)]) rfl
        exact b_Plan_addJoined_38 hx hb hml hr hlk hgt hown hK hO hAO ih M1 v2 H _ ls hl hP hD hS h
      · have h := br_F hc h
        refine lv_aload_n hx hb dX9_addJoined_19 rfl (lv_at hl 0 rfl) ?_
        refine lv_aload_n hx hb dX9_addJoined_20 rfl (lv_at hl 1 rfl) ?_
        refine lv_aload_n hx hb dX9_addJoined_21 rfl (lv_at hl 0 rfl) ?_
        refine va_get (D := D) (ci := 9) (v := .ref (P 24)) (C := RX9) (T := TX9) (N := 6) hx hb hgt iwX9 hown hK hP 60 gX_60 rfl 0 (Nat.le_of_ble_eq_true rfl) (hgt _ wd_1_160) (fun _ h9 => h9) rfl dX9_addJoined_22 ?_
        refine va_get (D := D) (ci := 6) (v := .ref (P 38)) (C := RX6) (T := TX6) (N := 13) hx hb hgt iwX6 hown hK hP 24 gX_24 rfl 7 (Nat.le_of_ble_eq_true rfl) (hgt _ wd_1_27) (fun _ h9 => h9) rfl dX9_addJoined_25 ?_
        refine lv_aload_n hx hb dX9_addJoined_28 rfl (lv_at hl 1 rfl) ?_
        refine va_get (D := D) (ci := 12) (v := .ref (P 67)) (C := RX12) (T := TX12) (N := 4) hx hb hgt iwX12 hown hK hP 65 gX_65 rfl 2 (Nat.le_of_ble_eq_true rfl) (hgt _ wd_1_200) (fun _ h9 => h9) rfl dX9_addJoined_29 ?_
        refine lv_iload_n hx hb dX9_addJoined_32 rfl (lv_at hl 2 rfl) ?_
        refine va_iald hx hb hK hP 67 0 gX_67 rfl (ix_l h) dX9_addJoined_33 ?_
        have h := ix_r h
        refine va_iald hx hb hK hP 38 0 gX_38 rfl (ix_l h) dX9_addJoined_34 ?_
        have h := ix_r h
        obtain ⟨M3, r4, hq, h⟩ := cal_o h
        refine cx_v (va_runV (As := [.ref (P 65), .int (M1.1 38 ((M1.1 67 (v2 : Int32).toNatClampNeg) : Int32).toNatClampNeg)]) (rest := []) ⟨hx, hb, hml, hown, hgt⟩ (z_Plan_addRegister l D cI cZ cC cJ cA P s0 hAO M1 (M1.1 38 ((M1.1 67 (v2 : Int32).toNatClampNeg) : Int32).toNatClampNeg) M3 r4 hq) (cwV 2 hgt (gV wd_3_8 wd_3_10 sl__ChipMap_Plan____ChipMap_Plan___addRegister____LChipMap_Steps_I_V_____ChipMap_Plan___addRegister____LChipMap_Steps_I_V__ wd_0_12 wd_3_11) rfl rfl rfl (by decide +kernel) ⟨Nat.le_of_ble_eq_true rfl, Nat.le_of_ble_eq_true rfl⟩) (prV hP hK hD hO hAO hS (va_recv hK hP (ci := 9) (q0 := 60) rfl gX_60)) rfl rfl hl.1 rfl (lv_room (Nat.le_of_ble_eq_true rfl)) dX9_addJoined_35 ⟨Nat.le_of_ble_eq_true rfl, Nat.le_of_ble_eq_true rfl⟩) hS (fun H locs hP hD hS => ?_)
        have hl := lv_sub hl [0, 1, 2] (l' := [(0, .ref (P 60)), (1, .ref (P 65)), (2, .int v2)]) rfl
        exact b_Plan_addJoined_38 hx hb hml hr hlk hgt hown hK hO hAO ih M3 v2 H _ ls hl hP hD hS h
set_option maxHeartbeats 4000000 in
set_option maxRecDepth 20000 in
theorem b_Plan_addJoined_0 {p : Program} {l : Launch} {e : Env} {s s0 : State} {m : MethodId} {args : Array Value} {below : List Frame} {meth : Method} {c : Code} {D : va_G} {cI cZ cC cJ cA : ClassId} {P : Nat → Nat} {M' : Mm} {r' : Int32}  (hx : p.tables.exec = Jvm.exec) (hb : c.code = cX9_addJoined) (hml : c.maxLocals = 3) (hr : meth.sig.returnType = none) (hlk : meth.locks = false) (hgt : ∀ w ∈ GT, w.before args s = true) (hown : s.vm.findClass RX9 = some m.cls) (hK : va_K D vwCl [(cI, .int), (cZ, .boolean), (cC, .char), (cJ, .long), (cA, .array .int)] s) (hO : Old s0 s) (hAO : ∀ q, (aP P 77) q → s0.heap.size ≤ q)  : ∀ (M : Mm)  (H : Heap) (locs : List Loc) (ls : Array Slot), lv_has ls 3 [(0, .ref (P 60)), (1, .ref (P 65))] → va_P D vwCl ((wX cI cZ cC cJ cA P) M) H → va_D (aP P 77) ((wX cI cZ cC cJ cA P) M) → va_S (aP P 77) s.heap H locs → q_Plan_addJoined M = some (M', r') → W p l e ({ frames := 5, cells := 0, slots := 0, locals := 124 }) s m args below meth c H locs 0 0 (MQ below (gQv D (aP P 77) ((wX cI cZ cC cJ cA P) M')) args s 0 0 (aP P 77)) (F0 m 0 ls []) := by
  intro M H locs ls hl hP hD hS h
  unfold q_Plan_addJoined at h
  refine lv_iconst (v := 0) hx hb dX9_addJoined_0 (by decide) ?_
  refine lv_istore_n hx hb dX9_addJoined_1 rfl hl (Nat.le_of_ble_eq_true rfl) (lv' := [(2, .int 0), (0, .ref (P 60)), (1, .ref (P 65))]) rfl (fun ls hl => ?_)
  have hl := lv_sub hl [1, 2, 0] (l' := [(0, .ref (P 60)), (1, .ref (P 65)), (2, .int 0)]) rfl
  exact b_Plan_addJoined_2 hx hb hml hr hlk hgt hown hK hO hAO 4000 M 0 H _ ls hl hP hD hS h
set_option maxHeartbeats 4000000 in
set_option maxRecDepth 20000 in
theorem z_Plan_addJoined (l : Launch) (D : va_G) (cI cZ cC cJ cA : ClassId) (P : Nat → Nat) (s0 : State) (hAO : ∀ q, (aP P 77) q → s0.heap.size ≤ q) (M : Mm)  (M' : Mm) (r' : Int32) (h : q_Plan_addJoined M = some (M', r')) : Met l yX9_addJoined wsX9_addJoined ({ frames := 5, cells := 0, slots := 0, locals := 124 }) (va_Pc [.ref (P 60), .ref (P 65)] (gPre s0 D [(cI, .int), (cZ, .boolean), (cC, .char), (cJ, .long), (cA, .array .int)] (aP P 77) ((wX cI cZ cC cJ cA P) M))) (gQv D (aP P 77) ((wX cI cZ cC cJ cA P) M')) 0 0 (aP P 77) := by
  refine Met.ofW (cc := cX9_addJoined) (maxL := 3) (ret := none) (by decide) rfl ?_
  intro p e s m args below meth c s₁ B hml hv
  obtain ⟨rfl, hP, hK, hD, hO⟩ := hv
  have hx := B.exec
  have hb := B.bytes
  have hr := B.returns
  have hlk := B.notSynchronized
  have hgt := fun w (h : w ∈ GT) => atoms_spec (ws := wsX9_addJoined) B.pre w (List.mem_cons_of_mem _ h)
  have hown : s.vm.findClass RX9 = some m.cls := findClass_of_methodNamed B.named
  have hS : va_S (aP P 77) s.heap s.heap [] := va_S.rf
  have hl := lv_entry ([.ref (P 60), .ref (P 65)]) (n := 3) (Nat.le_of_ble_eq_true rfl)
  rw [lg_entry_eq]
  generalize (lg_sl ([.ref (P 60), .ref (P 65)]) ++ List.replicate (3 - (lg_sl ([.ref (P 60), .ref (P 65)])).length) Slot.unset).toArray = ls at hl ⊢
  have hl : lv_has ls 3 [(0, .ref (P 60)), (1, .ref (P 65))] := hl
  exact b_Plan_addJoined_0 hx hb hml hr hlk hgt hown hK hO hAO M s.heap [] ls hl hP hD hS h
def q_ChipMap_flush  (M : Mm)  : Rs := cal (q_Plan_begin M) fun M1 r2 => cal (q_Plan_addJoined M1) fun M3 r4 => cal (q_ChipMap_doWrites M3) fun M5 r6 => if r6 = (-2) then (some (M5, r6)) else (lt' (stI M5 65 (upd (M5.1 65) 0 0)) fun M7 => some (M7, r6))
set_option maxHeartbeats 4000000 in
set_option maxRecDepth 20000 in
theorem b_ChipMap_flush_0 {p : Program} {l : Launch} {e : Env} {s s0 : State} {m : MethodId} {args : Array Value} {below : List Frame} {meth : Method} {c : Code} {D : va_G} {cI cZ cC cJ cA : ClassId} {P : Nat → Nat} {M' : Mm} {r' : Int32}  (hx : p.tables.exec = Jvm.exec) (hb : c.code = cX0_flush) (hml : c.maxLocals = 2) (hr : meth.sig.returnType = (some .int)) (hlk : meth.locks = false) (hgt : ∀ w ∈ GT, w.before args s = true) (hown : s.vm.findClass RX0 = some m.cls) (hK : va_K D vwCl [(cI, .int), (cZ, .boolean), (cC, .char), (cJ, .long), (cA, .array .int)] s) (hO : Old s0 s) (hAO : ∀ q, (aP P 77) q → s0.heap.size ≤ q)  : ∀ (M : Mm)  (H : Heap) (locs : List Loc) (ls : Array Slot), lv_has ls 2 [(0, .ref (P 0))] → va_P D vwCl ((wX cI cZ cC cJ cA P) M) H → va_D (aP P 77) ((wX cI cZ cC cJ cA P) M) → va_S (aP P 77) s.heap H locs → q_ChipMap_flush M = some (M', r') → W p l e ({ frames := 6, cells := 0, slots := 0, locals := 146 }) s m args below meth c H locs 0 0 (MQ below (gQi D (aP P 77) ((wX cI cZ cC cJ cA P) M') r') args s 0 0 (aP P 77)) (F0 m 0 ls []) := by
  intro M H locs ls hl hP hD hS h
  unfold q_ChipMap_flush at h
  refine lv_aload_n hx hb dX0_flush_0 rfl (lv_at hl 0 rfl) ?_
  refine va_get (D := D) (ci := 0) (v := .ref (P 60)) (C := RX0) (T := TX0) (N := 9) hx hb hgt iwX0 hown hK hP 0 gX_0 rfl 5 (Nat.le_of_ble_eq_true rfl) (hgt _ wd_2_22) (fun _ h9 => h9) rfl dX0_flush_1 ?_
  refine lv_aload_n hx hb dX0_flush_4 rfl (lv_at hl 0 rfl) ?_
  refine va_get (D := D) (ci := 0) (v := .ref (P 50)) (C := RX0) (T := TX0) (N := 9) hx hb hgt iwX0 hown hK hP 0 gX_0 rfl 4 (Nat.le_of_ble_eq_true rfl) (hgt _ wd_2_21) (fun _ h9 => h9) rfl dX0_flush_5 ?_
  refine va_get (D := D) (ci := 3) (v := .ref (P 51)) (C := RX3) (T := TX3) (N := 7) hx hb hgt iwX3 hown hK hP 50 gX_50 rfl 1 (Nat.le_of_ble_eq_true rfl) (hgt _ wd_1_128) (fun _ h9 => h9) rfl dX0_flush_8 ?_
  obtain ⟨M1, r2, hq, h⟩ := cal_o h
  refine cx_v (va_runV (As := [.ref (P 51)]) (rest := []) ⟨hx, hb, hml, hown, hgt⟩ (z_Plan_begin l D cI cZ cC cJ cA P s0 hAO M M1 r2 hq) (cwV 1 hgt (gV wd_2_184 wd_2_185 wd_2_186 wd_0_12 wd_2_187) rfl rfl rfl (by decide +kernel) ⟨Nat.le_of_ble_eq_true rfl, Nat.le_of_ble_eq_true rfl⟩) (prV hP hK hD hO hAO hS (va_recv hK hP (ci := 9) (q0 := 60) rfl gX_60)) rfl rfl hl.1 rfl (lv_room (Nat.le_of_ble_eq_true rfl)) dX0_flush_11 ⟨Nat.le_of_ble_eq_true rfl, Nat.le_of_ble_eq_true rfl⟩) hS (fun H locs hP hD hS => ?_)
  refine lv_aload_n hx hb dX0_flush_14 rfl (lv_at hl 0 rfl) ?_
  refine va_get (D := D) (ci := 0) (v := .ref (P 60)) (C := RX0) (T := TX0) (N := 9) hx hb hgt iwX0 hown hK hP 0 gX_0 rfl 5 (Nat.le_of_ble_eq_true rfl) (hgt _ wd_2_22) (fun _ h9 => h9) rfl dX0_flush_15 ?_
  refine lv_aload_n hx hb dX0_flush_18 rfl (lv_at hl 0 rfl) ?_
  refine va_get (D := D) (ci := 0) (v := .ref (P 65)) (C := RX0) (T := TX0) (N := 9) hx hb hgt iwX0 hown hK hP 0 gX_0 rfl 6 (Nat.le_of_ble_eq_true rfl) (hgt _ wd_2_23) (fun _ h9 => h9) rfl dX0_flush_19 ?_
  obtain ⟨M3, r4, hq, h⟩ := cal_o h
  refine cx_v (va_runV (As := [.ref (P 65)]) (rest := []) ⟨hx, hb, hml, hown, hgt⟩ (z_Plan_addJoined l D cI cZ cC cJ cA P s0 hAO M1 M3 r4 hq) (cwV 1 hgt (gV wd_3_0 wd_3_1 wd_3_2 wd_0_12 wd_3_3) rfl rfl rfl (by decide +kernel) ⟨Nat.le_of_ble_eq_true rfl, Nat.le_of_ble_eq_true rfl⟩) (prV hP hK hD hO hAO hS (va_recv hK hP (ci := 9) (q0 := 60) rfl gX_60)) rfl rfl hl.1 rfl (lv_room (Nat.le_of_ble_eq_true rfl)) dX0_flush_22 ⟨Nat.le_of_ble_eq_true rfl, Nat.le_of_ble_eq_true rfl⟩) hS (fun H locs hP hD hS => ?_)
  refine lv_aload_n hx hb dX0_flush_25 rfl (lv_at hl 0 rfl) ?_
  obtain ⟨M5, r6, hq, h⟩ := cal_o h
  refine cx_i (va_runV (As := []) (rest := []) ⟨hx, hb, hml, hown, hgt⟩ (z_ChipMap_doWrites l D cI cZ cC cJ cA P s0 hAO M3 M5 r6 hq) (cwV 0 hgt (gV wd_2_220 wd_2_222 sl__ChipMap____ChipMap___doWrites_____I_____ChipMap___doWrites_____I__ wd_0_1 wd_2_223) rfl rfl rfl (by decide +kernel) ⟨Nat.le_of_ble_eq_true rfl, Nat.le_of_ble_eq_true rfl⟩) (prV hP hK hD hO hAO hS (va_recv hK hP (ci := 0) (q0 := 0) rfl gX_0)) rfl rfl hl.1 rfl (lv_room (Nat.le_of_ble_eq_true rfl)) dX0_flush_26 ⟨Nat.le_of_ble_eq_true rfl, Nat.le_of_ble_eq_true rfl⟩) hS (fun H locs hP hD hS => ?_)
  refine lv_istore_n hx hb dX0_flush_29 rfl hl (Nat.le_of_ble_eq_true rfl) (lv' := [(1, .int r6), (0, .ref (P 0))]) rfl (fun ls hl => ?_)
  refine lv_iload_n hx hb dX0_flush_30 rfl (lv_at hl 0 rfl) ?_
  refine lv_bipush (v := (-2)) hx hb dX0_flush_31 (by decide) ?_
  refine lv_icmp_eq hx hb dX0_flush_33 (tgt := 44) rfl (fun hc => ?_) (fun hc => ?_)
  · have h := br_T hc h
    refine lv_iload_n hx hb dX0_flush_44 rfl (lv_at hl 0 rfl) ?_
    exact rt_i (w := (wX cI cZ cC cJ cA P)) hx hb hr hlk hP hD hS h dX0_flush_45
  · have h := br_F hc h
    refine lv_aload_n hx hb dX0_flush_36 rfl (lv_at hl 1 rfl) ?_
    refine va_get (D := D) (ci := 0) (v := .ref (P 65)) (C := RX0) (T := TX0) (N := 9) hx hb hgt iwX0 hown hK hP 0 gX_0 rfl 6 (Nat.le_of_ble_eq_true rfl) (hgt _ wd_2_23) (fun _ h9 => h9) rfl dX0_flush_37 ?_
    refine lv_iconst (v := 0) hx hb dX0_flush_40 (by decide) ?_
    refine pm_put (w := (wX cI cZ cC cJ cA P)) (D := D) (ci := 12) (x := 0) (ty := .int) (C := RX12) (T := TX12) (N := 4) hx hb hgt iwX12 tyX12 tyX12_ok nmX12 hown hK hP hD hS 65 gX_65 rfl 0 (Nat.le_of_ble_eq_true rfl) (hgt _ wd_1_193) (fun _ h9 => h9) rfl (by decide +kernel) rfl rfl (Nat.le_of_ble_eq_true rfl) (sX_65_0 _) dX0_flush_41 (fun M7 eM7 H locs hP hD hS => ?_)
    have h := lt_o eM7 h
    refine lv_iload_n hx hb dX0_flush_44 rfl (lv_at hl 0 rfl) ?_
    exact rt_i (w := (wX cI cZ cC cJ cA P)) hx hb hr hlk hP hD hS h dX0_flush_45
set_option maxHeartbeats 4000000 in
set_option maxRecDepth 20000 in
theorem z_ChipMap_flush (l : Launch) (D : va_G) (cI cZ cC cJ cA : ClassId) (P : Nat → Nat) (s0 : State) (hAO : ∀ q, (aP P 77) q → s0.heap.size ≤ q) (M : Mm)  (M' : Mm) (r' : Int32) (h : q_ChipMap_flush M = some (M', r')) : Met l yX0_flush wsX0_flush ({ frames := 6, cells := 0, slots := 0, locals := 146 }) (va_Pc [.ref (P 0)] (gPre s0 D [(cI, .int), (cZ, .boolean), (cC, .char), (cJ, .long), (cA, .array .int)] (aP P 77) ((wX cI cZ cC cJ cA P) M))) (gQi D (aP P 77) ((wX cI cZ cC cJ cA P) M') r') 0 0 (aP P 77) := by
  refine Met.ofW (cc := cX0_flush) (maxL := 2) (ret := (some .int)) (by decide) rfl ?_
  intro p e s m args below meth c s₁ B hml hv
  obtain ⟨rfl, hP, hK, hD, hO⟩ := hv
  have hx := B.exec
  have hb := B.bytes
  have hr := B.returns
  have hlk := B.notSynchronized
  have hgt := fun w (h : w ∈ GT) => atoms_spec (ws := wsX0_flush) B.pre w (List.mem_cons_of_mem _ h)
  have hown : s.vm.findClass RX0 = some m.cls := findClass_of_methodNamed B.named
  have hS : va_S (aP P 77) s.heap s.heap [] := va_S.rf
  have hl := lv_entry ([.ref (P 0)]) (n := 2) (Nat.le_of_ble_eq_true rfl)
  rw [lg_entry_eq]
  generalize (lg_sl ([.ref (P 0)]) ++ List.replicate (2 - (lg_sl ([.ref (P 0)])).length) Slot.unset).toArray = ls at hl ⊢
  have hl : lv_has ls 2 [(0, .ref (P 0))] := hl
  exact b_ChipMap_flush_0 hx hb hml hr hlk hgt hown hK hO hAO M s.heap [] ls hl hP hD hS h
end
section
def q_Steps_empty  (M : Mm)  : Rs := lt' (M.1 65 0) fun x1 => lt' (stI M 65 (upd (M.1 65) 0 0)) fun M2 => some (M2, x1)
set_option maxHeartbeats 4000000 in
set_option maxRecDepth 20000 in
theorem b_Steps_empty_0 {p : Program} {l : Launch} {e : Env} {s s0 : State} {m : MethodId} {args : Array Value} {below : List Frame} {meth : Method} {c : Code} {D : va_G} {cI cZ cC cJ cA : ClassId} {P : Nat → Nat} {M' : Mm} {r' : Int32}  (hx : p.tables.exec = Jvm.exec) (hb : c.code = cX12_empty) (hml : c.maxLocals = 2) (hr : meth.sig.returnType = (some .int)) (hlk : meth.locks = false) (hgt : ∀ w ∈ GT, w.before args s = true) (hown : s.vm.findClass RX12 = some m.cls) (hK : va_K D vwCl [(cI, .int), (cZ, .boolean), (cC, .char), (cJ, .long), (cA, .array .int)] s) (hO : Old s0 s) (hAO : ∀ q, (aP P 77) q → s0.heap.size ≤ q)  : ∀ (M : Mm)  (H : Heap) (locs : List Loc) (ls : Array Slot), lv_has ls 2 [(0, .ref (P 65))] → va_P D vwCl ((wX cI cZ cC cJ cA P) M) H → va_D (aP P 77) ((wX cI cZ cC cJ cA P) M) → va_S (aP P 77) s.heap H locs → q_Steps_empty M = some (M', r') → W p l e ({ frames := 0, cells := 0, slots := 0, locals := 0 }) s m args below meth c H locs 0 0 (MQ below (gQi D (aP P 77) ((wX cI cZ cC cJ cA P) M') r') args s 0 0 (aP P 77)) (F0 m 0 ls []) := by
  intro M H locs ls hl hP hD hS h
  unfold q_Steps_empty at h
  refine lv_aload_n hx hb dX12_empty_0 rfl (lv_at hl 0 rfl) ?_
  refine va_get (D := D) (ci := 12) (v := .int (M.1 65 0)) (C := RX12) (T := TX12) (N := 4) hx hb hgt iwX12 hown hK hP 65 gX_65 rfl 0 (Nat.le_of_ble_eq_true rfl) (hgt _ wd_1_191) (fun _ h9 => h9) rfl dX12_empty_1 ?_
  refine lv_topi (fun x1 ex1 => ?_)
  have h := lt_o ex1 h
  refine lv_istore_n hx hb dX12_empty_4 rfl hl (Nat.le_of_ble_eq_true rfl) (lv' := [(1, .int x1), (0, .ref (P 65))]) rfl (fun ls hl => ?_)
  refine lv_aload_n hx hb dX12_empty_5 rfl (lv_at hl 1 rfl) ?_
  refine lv_iconst (v := 0) hx hb dX12_empty_6 (by decide) ?_
  refine pm_put (w := (wX cI cZ cC cJ cA P)) (D := D) (ci := 12) (x := 0) (ty := .int) (C := RX12) (T := TX12) (N := 4) hx hb hgt iwX12 tyX12 tyX12_ok nmX12 hown hK hP hD hS 65 gX_65 rfl 0 (Nat.le_of_ble_eq_true rfl) (hgt _ wd_1_191) (fun _ h9 => h9) rfl (by decide +kernel) rfl rfl (Nat.le_of_ble_eq_true rfl) (sX_65_0 _) dX12_empty_7 (fun M2 eM2 H locs hP hD hS => ?_)
  have h := lt_o eM2 h
  refine lv_iload_n hx hb dX12_empty_10 rfl (lv_at hl 0 rfl) ?_
  exact rt_i (w := (wX cI cZ cC cJ cA P)) hx hb hr hlk hP hD hS h dX12_empty_11
set_option maxHeartbeats 4000000 in
set_option maxRecDepth 20000 in
theorem z_Steps_empty (l : Launch) (D : va_G) (cI cZ cC cJ cA : ClassId) (P : Nat → Nat) (s0 : State) (hAO : ∀ q, (aP P 77) q → s0.heap.size ≤ q) (M : Mm)  (M' : Mm) (r' : Int32) (h : q_Steps_empty M = some (M', r')) : Met l yX12_empty wsX12_empty ({ frames := 0, cells := 0, slots := 0, locals := 0 }) (va_Pc [.ref (P 65)] (gPre s0 D [(cI, .int), (cZ, .boolean), (cC, .char), (cJ, .long), (cA, .array .int)] (aP P 77) ((wX cI cZ cC cJ cA P) M))) (gQi D (aP P 77) ((wX cI cZ cC cJ cA P) M') r') 0 0 (aP P 77) := by
  refine Met.ofW (cc := cX12_empty) (maxL := 2) (ret := (some .int)) (by decide) rfl ?_
  intro p e s m args below meth c s₁ B hml hv
  obtain ⟨rfl, hP, hK, hD, hO⟩ := hv
  have hx := B.exec
  have hb := B.bytes
  have hr := B.returns
  have hlk := B.notSynchronized
  have hgt := fun w (h : w ∈ GT) => atoms_spec (ws := wsX12_empty) B.pre w (List.mem_cons_of_mem _ h)
  have hown : s.vm.findClass RX12 = some m.cls := findClass_of_methodNamed B.named
  have hS : va_S (aP P 77) s.heap s.heap [] := va_S.rf
  have hl := lv_entry ([.ref (P 65)]) (n := 2) (Nat.le_of_ble_eq_true rfl)
  rw [lg_entry_eq]
  generalize (lg_sl ([.ref (P 65)]) ++ List.replicate (2 - (lg_sl ([.ref (P 65)])).length) Slot.unset).toArray = ls at hl ⊢
  have hl : lv_has ls 2 [(0, .ref (P 65))] := hl
  exact b_Steps_empty_0 hx hb hml hr hlk hgt hown hK hO hAO M s.heap [] ls hl hP hD hS h
def q_ChipMap_drop  (M : Mm)  : Rs := cal (q_Steps_empty M) fun M1 r2 => some (M1, r2)
set_option maxHeartbeats 4000000 in
set_option maxRecDepth 20000 in
theorem b_ChipMap_drop_0 {p : Program} {l : Launch} {e : Env} {s s0 : State} {m : MethodId} {args : Array Value} {below : List Frame} {meth : Method} {c : Code} {D : va_G} {cI cZ cC cJ cA : ClassId} {P : Nat → Nat} {M' : Mm} {r' : Int32}  (hx : p.tables.exec = Jvm.exec) (hb : c.code = cX0_drop) (hml : c.maxLocals = 1) (hr : meth.sig.returnType = (some .int)) (hlk : meth.locks = false) (hgt : ∀ w ∈ GT, w.before args s = true) (hown : s.vm.findClass RX0 = some m.cls) (hK : va_K D vwCl [(cI, .int), (cZ, .boolean), (cC, .char), (cJ, .long), (cA, .array .int)] s) (hO : Old s0 s) (hAO : ∀ q, (aP P 77) q → s0.heap.size ≤ q)  : ∀ (M : Mm)  (H : Heap) (locs : List Loc) (ls : Array Slot), lv_has ls 1 [(0, .ref (P 0))] → va_P D vwCl ((wX cI cZ cC cJ cA P) M) H → va_D (aP P 77) ((wX cI cZ cC cJ cA P) M) → va_S (aP P 77) s.heap H locs → q_ChipMap_drop M = some (M', r') → W p l e ({ frames := 1, cells := 0, slots := 0, locals := 21 }) s m args below meth c H locs 0 0 (MQ below (gQi D (aP P 77) ((wX cI cZ cC cJ cA P) M') r') args s 0 0 (aP P 77)) (F0 m 0 ls []) := by
  intro M H locs ls hl hP hD hS h
  unfold q_ChipMap_drop at h
  refine lv_aload_n hx hb dX0_drop_0 rfl (lv_at hl 0 rfl) ?_
  refine va_get (D := D) (ci := 0) (v := .ref (P 65)) (C := RX0) (T := TX0) (N := 9) hx hb hgt iwX0 hown hK hP 0 gX_0 rfl 6 (Nat.le_of_ble_eq_true rfl) (hgt _ wd_2_23) (fun _ h9 => h9) rfl dX0_drop_1 ?_
  obtain ⟨M1, r2, hq, h⟩ := cal_o h
  refine cx_i (va_runV (As := []) (rest := []) ⟨hx, hb, hml, hown, hgt⟩ (z_Steps_empty l D cI cZ cC cJ cA P s0 hAO M M1 r2 hq) (cwV 0 hgt (gV wd_3_16 wd_3_17 wd_3_18 wd_0_13 wd_3_19) rfl rfl rfl (by decide +kernel) ⟨Nat.le_of_ble_eq_true rfl, Nat.le_of_ble_eq_true rfl⟩) (prV hP hK hD hO hAO hS (va_recv hK hP (ci := 12) (q0 := 65) rfl gX_65)) rfl rfl hl.1 rfl (lv_room (Nat.le_of_ble_eq_true rfl)) dX0_drop_4 ⟨Nat.le_of_ble_eq_true rfl, Nat.le_of_ble_eq_true rfl⟩) hS (fun H locs hP hD hS => ?_)
  exact rt_i (w := (wX cI cZ cC cJ cA P)) hx hb hr hlk hP hD hS h dX0_drop_7
set_option maxHeartbeats 4000000 in
set_option maxRecDepth 20000 in
theorem z_ChipMap_drop (l : Launch) (D : va_G) (cI cZ cC cJ cA : ClassId) (P : Nat → Nat) (s0 : State) (hAO : ∀ q, (aP P 77) q → s0.heap.size ≤ q) (M : Mm)  (M' : Mm) (r' : Int32) (h : q_ChipMap_drop M = some (M', r')) : Met l yX0_drop wsX0_drop ({ frames := 1, cells := 0, slots := 0, locals := 21 }) (va_Pc [.ref (P 0)] (gPre s0 D [(cI, .int), (cZ, .boolean), (cC, .char), (cJ, .long), (cA, .array .int)] (aP P 77) ((wX cI cZ cC cJ cA P) M))) (gQi D (aP P 77) ((wX cI cZ cC cJ cA P) M') r') 0 0 (aP P 77) := by
  refine Met.ofW (cc := cX0_drop) (maxL := 1) (ret := (some .int)) (by decide) rfl ?_
  intro p e s m args below meth c s₁ B hml hv
  obtain ⟨rfl, hP, hK, hD, hO⟩ := hv
  have hx := B.exec
  have hb := B.bytes
  have hr := B.returns
  have hlk := B.notSynchronized
  have hgt := fun w (h : w ∈ GT) => atoms_spec (ws := wsX0_drop) B.pre w (List.mem_cons_of_mem _ h)
  have hown : s.vm.findClass RX0 = some m.cls := findClass_of_methodNamed B.named
  have hS : va_S (aP P 77) s.heap s.heap [] := va_S.rf
  have hl := lv_entry ([.ref (P 0)]) (n := 1) (Nat.le_of_ble_eq_true rfl)
  rw [lg_entry_eq]
  generalize (lg_sl ([.ref (P 0)]) ++ List.replicate (1 - (lg_sl ([.ref (P 0)])).length) Slot.unset).toArray = ls at hl ⊢
  have hl : lv_has ls 1 [(0, .ref (P 0))] := hl
  exact b_ChipMap_drop_0 hx hb hml hr hlk hgt hown hK hO hAO M s.heap [] ls hl hP hD hS h
def q_Log_rowOf  (M : Mm) (a1 : Int32) : Rs := if a1 < 0 then (some (M, (-1))) else (if 64 ≤ a1 then (some (M, (-1))) else (if a1 < (M.1 53 0) then (some (M, ((((M.1 53 0) - 1) - a1) - (((M.1 53 0) - 1) - a1) / 64 * 64))) else (some (M, (-1)))))
set_option maxHeartbeats 4000000 in
set_option maxRecDepth 20000 in
theorem b_Log_rowOf_0 {p : Program} {l : Launch} {e : Env} {s s0 : State} {m : MethodId} {args : Array Value} {below : List Frame} {meth : Method} {c : Code} {D : va_G} {cI cZ cC cJ cA : ClassId} {P : Nat → Nat} {M' : Mm} {r' : Int32}  (hx : p.tables.exec = Jvm.exec) (hb : c.code = cX7_rowOf) (hml : c.maxLocals = 2) (hr : meth.sig.returnType = (some .int)) (hlk : meth.locks = false) (hgt : ∀ w ∈ GT, w.before args s = true) (hown : s.vm.findClass RX7 = some m.cls) (hK : va_K D vwCl [(cI, .int), (cZ, .boolean), (cC, .char), (cJ, .long), (cA, .array .int)] s) (hO : Old s0 s) (hAO : ∀ q, (aP P 77) q → s0.heap.size ≤ q)  : ∀ (M : Mm) (a1 : Int32) (H : Heap) (locs : List Loc) (ls : Array Slot), lv_has ls 2 [(0, .ref (P 53)), (1, .int a1)] → va_P D vwCl ((wX cI cZ cC cJ cA P) M) H → va_D (aP P 77) ((wX cI cZ cC cJ cA P) M) → va_S (aP P 77) s.heap H locs → q_Log_rowOf M a1 = some (M', r') → W p l e ({ frames := 0, cells := 0, slots := 0, locals := 0 }) s m args below meth c H locs 0 0 (MQ below (gQi D (aP P 77) ((wX cI cZ cC cJ cA P) M') r') args s 0 0 (aP P 77)) (F0 m 0 ls []) := by
  intro M a1 H locs ls hl hP hD hS h
  unfold q_Log_rowOf at h
  refine lv_iload_n hx hb dX7_rowOf_0 rfl (lv_at hl 1 rfl) ?_
  refine lv_if_lt hx hb dX7_rowOf_1 (tgt := 18) rfl (fun hc => ?_) (fun hc => ?_)
  · have h := br_T hc h
    refine lv_iconst (v := (-1)) hx hb dX7_rowOf_18 (by decide) ?_
    exact rt_i (w := (wX cI cZ cC cJ cA P)) hx hb hr hlk hP hD hS h dX7_rowOf_19
  · have h := br_F hc h
    refine lv_iload_n hx hb dX7_rowOf_4 rfl (lv_at hl 1 rfl) ?_
    refine lv_bipush (v := 64) hx hb dX7_rowOf_5 (by decide) ?_
    refine lv_icmp_ge hx hb dX7_rowOf_7 (tgt := 18) rfl (fun hc => ?_) (fun hc => ?_)
    · have h := br_T hc h
      refine lv_iconst (v := (-1)) hx hb dX7_rowOf_18 (by decide) ?_
      exact rt_i (w := (wX cI cZ cC cJ cA P)) hx hb hr hlk hP hD hS h dX7_rowOf_19
    · have h := br_F hc h
      refine lv_iload_n hx hb dX7_rowOf_10 rfl (lv_at hl 1 rfl) ?_
      refine lv_aload_n hx hb dX7_rowOf_11 rfl (lv_at hl 0 rfl) ?_
      refine va_get (D := D) (ci := 7) (v := .int (M.1 53 0)) (C := RX7) (T := TX7) (N := 4) hx hb hgt iwX7 hown hK hP 53 gX_53 rfl 0 (Nat.le_of_ble_eq_true rfl) (hgt _ wd_1_88) (fun _ h9 => h9) rfl dX7_rowOf_12 ?_
      refine lv_icmp_lt hx hb dX7_rowOf_15 (tgt := 20) rfl (fun hc => ?_) (fun hc => ?_)
      · have h := br_T hc h
        refine lv_aload_n hx hb dX7_rowOf_20 rfl (lv_at hl 0 rfl) ?_
        refine va_get (D := D) (ci := 7) (v := .int (M.1 53 0)) (C := RX7) (T := TX7) (N := 4) hx hb hgt iwX7 hown hK hP 53 gX_53 rfl 0 (Nat.le_of_ble_eq_true rfl) (hgt _ wd_1_88) (fun _ h9 => h9) rfl dX7_rowOf_21 ?_
        refine lv_iconst (v := 1) hx hb dX7_rowOf_24 (by decide) ?_
        refine lv_isub hx hb dX7_rowOf_25 ?_
        refine lv_iload_n hx hb dX7_rowOf_26 rfl (lv_at hl 1 rfl) ?_
        refine lv_isub hx hb dX7_rowOf_27 ?_
        refine lv_bipush (v := 64) hx hb dX7_rowOf_28 (by decide) ?_
        refine lv_irem hx hb dX7_rowOf_30 (by decide) ?_
        exact rt_i (w := (wX cI cZ cC cJ cA P)) hx hb hr hlk hP hD hS h dX7_rowOf_31
      · have h := br_F hc h
        refine lv_iconst (v := (-1)) hx hb dX7_rowOf_18 (by decide) ?_
        exact rt_i (w := (wX cI cZ cC cJ cA P)) hx hb hr hlk hP hD hS h dX7_rowOf_19
set_option maxHeartbeats 4000000 in
set_option maxRecDepth 20000 in
theorem z_Log_rowOf (l : Launch) (D : va_G) (cI cZ cC cJ cA : ClassId) (P : Nat → Nat) (s0 : State) (hAO : ∀ q, (aP P 77) q → s0.heap.size ≤ q) (M : Mm) (a1 : Int32) (M' : Mm) (r' : Int32) (h : q_Log_rowOf M a1 = some (M', r')) : Met l yX7_rowOf wsX7_rowOf ({ frames := 0, cells := 0, slots := 0, locals := 0 }) (va_Pc [.ref (P 53), .int a1] (gPre s0 D [(cI, .int), (cZ, .boolean), (cC, .char), (cJ, .long), (cA, .array .int)] (aP P 77) ((wX cI cZ cC cJ cA P) M))) (gQi D (aP P 77) ((wX cI cZ cC cJ cA P) M') r') 0 0 (aP P 77) := by
  refine Met.ofW (cc := cX7_rowOf) (maxL := 2) (ret := (some .int)) (by decide) rfl ?_
  intro p e s m args below meth c s₁ B hml hv
  obtain ⟨rfl, hP, hK, hD, hO⟩ := hv
  have hx := B.exec
  have hb := B.bytes
  have hr := B.returns
  have hlk := B.notSynchronized
  have hgt := fun w (h : w ∈ GT) => atoms_spec (ws := wsX7_rowOf) B.pre w (List.mem_cons_of_mem _ h)
  have hown : s.vm.findClass RX7 = some m.cls := findClass_of_methodNamed B.named
  have hS : va_S (aP P 77) s.heap s.heap [] := va_S.rf
  have hl := lv_entry ([.ref (P 53), .int a1]) (n := 2) (Nat.le_of_ble_eq_true rfl)
  rw [lg_entry_eq]
  generalize (lg_sl ([.ref (P 53), .int a1]) ++ List.replicate (2 - (lg_sl ([.ref (P 53), .int a1])).length) Slot.unset).toArray = ls at hl ⊢
  have hl : lv_has ls 2 [(0, .ref (P 53)), (1, .int a1)] := hl
  exact b_Log_rowOf_0 hx hb hml hr hlk hgt hown hK hO hAO M a1 s.heap [] ls hl hP hD hS h
def q_ChipMap_trace  (M : Mm) (a1 : Int32) (a2 : Int32) : Rs := cal (q_Log_rowOf M a1) fun M1 r2 => if r2 = (-1) then (some (M1, (-1))) else (if a2 = 0 then (ix r2 64 <| some (M1, (M1.1 54 (r2 : Int32).toNatClampNeg))) else if a2 = 1 then (ix r2 64 <| some (M1, (M1.1 55 (r2 : Int32).toNatClampNeg))) else if a2 = 2 then (ix r2 64 <| some (M1, (M1.1 56 (r2 : Int32).toNatClampNeg))) else (some (M1, (-1))))
set_option maxHeartbeats 4000000 in
set_option maxRecDepth 20000 in
theorem b_ChipMap_trace_0 {p : Program} {l : Launch} {e : Env} {s s0 : State} {m : MethodId} {args : Array Value} {below : List Frame} {meth : Method} {c : Code} {D : va_G} {cI cZ cC cJ cA : ClassId} {P : Nat → Nat} {M' : Mm} {r' : Int32}  (hx : p.tables.exec = Jvm.exec) (hb : c.code = cX0_trace) (hml : c.maxLocals = 5) (hr : meth.sig.returnType = (some .int)) (hlk : meth.locks = false) (hgt : ∀ w ∈ GT, w.before args s = true) (hown : s.vm.findClass RX0 = some m.cls) (hK : va_K D vwCl [(cI, .int), (cZ, .boolean), (cC, .char), (cJ, .long), (cA, .array .int)] s) (hO : Old s0 s) (hAO : ∀ q, (aP P 77) q → s0.heap.size ≤ q)  : ∀ (M : Mm) (a1 : Int32) (a2 : Int32) (H : Heap) (locs : List Loc) (ls : Array Slot), lv_has ls 5 [(0, .ref (P 0)), (1, .int a1), (2, .int a2)] → va_P D vwCl ((wX cI cZ cC cJ cA P) M) H → va_D (aP P 77) ((wX cI cZ cC cJ cA P) M) → va_S (aP P 77) s.heap H locs → q_ChipMap_trace M a1 a2 = some (M', r') → W p l e ({ frames := 1, cells := 0, slots := 0, locals := 21 }) s m args below meth c H locs 0 0 (MQ below (gQi D (aP P 77) ((wX cI cZ cC cJ cA P) M') r') args s 0 0 (aP P 77)) (F0 m 0 ls []) := by
  intro M a1 a2 H locs ls hl hP hD hS h
  unfold q_ChipMap_trace at h
  refine lv_aload_n hx hb dX0_trace_0 rfl (lv_at hl 0 rfl) ?_
  refine va_get (D := D) (ci := 0) (v := .ref (P 50)) (C := RX0) (T := TX0) (N := 9) hx hb hgt iwX0 hown hK hP 0 gX_0 rfl 4 (Nat.le_of_ble_eq_true rfl) (hgt _ wd_2_21) (fun _ h9 => h9) rfl dX0_trace_1 ?_
  refine va_get (D := D) (ci := 3) (v := .ref (P 53)) (C := RX3) (T := TX3) (N := 7) hx hb hgt iwX3 hown hK hP 50 gX_50 rfl 2 (Nat.le_of_ble_eq_true rfl) (hgt _ wd_1_130) (fun _ h9 => h9) rfl dX0_trace_4 ?_
  refine lv_astore_n hx hb dX0_trace_7 rfl hl (Nat.le_of_ble_eq_true rfl) (lv' := [(3, .ref (P 53)), (0, .ref (P 0)), (1, .int a1), (2, .int a2)]) rfl (fun ls hl => ?_)
  refine lv_aload_n hx hb dX0_trace_8 rfl (lv_at hl 0 rfl) ?_
  refine lv_iload_n hx hb dX0_trace_9 rfl (lv_at hl 2 rfl) ?_
  obtain ⟨M1, r2, hq, h⟩ := cal_o h
  refine cx_i (va_runV (As := [.int a1]) (rest := []) ⟨hx, hb, hml, hown, hgt⟩ (z_Log_rowOf l D cI cZ cC cJ cA P s0 hAO M a1 M1 r2 hq) (cwV 1 hgt (gV wd_3_24 wd_3_25 wd_3_26 wd_0_10 wd_3_27) rfl rfl rfl (by decide +kernel) ⟨Nat.le_of_ble_eq_true rfl, Nat.le_of_ble_eq_true rfl⟩) (prV hP hK hD hO hAO hS (va_recv hK hP (ci := 7) (q0 := 53) rfl gX_53)) rfl rfl hl.1 rfl (lv_room (Nat.le_of_ble_eq_true rfl)) dX0_trace_10 ⟨Nat.le_of_ble_eq_true rfl, Nat.le_of_ble_eq_true rfl⟩) hS (fun H locs hP hD hS => ?_)
  refine lv_istore hx hb dX0_trace_13 hl (Nat.le_of_ble_eq_true rfl) (lv' := [(4, .int r2), (3, .ref (P 53)), (0, .ref (P 0)), (1, .int a1), (2, .int a2)]) rfl (fun ls hl => ?_)
  refine lv_iload hx hb dX0_trace_15 (lv_at hl 0 rfl) ?_
  refine lv_iconst (v := (-1)) hx hb dX0_trace_17 (by decide) ?_
  refine lv_icmp_ne hx hb dX0_trace_18 (tgt := 23) rfl (fun hc => ?_) (fun hc => ?_)
  · have h := br_F hc h
    refine lv_iload_n hx hb dX0_trace_23 rfl (lv_at hl 4 rfl) ?_
    by_cases k_24_0 : a2 = 0
    · have h := br_T k_24_0 h
      refine lv_tableIn hx hb dX0_trace_24 (off := 28) (tgt := 52) (by rw [k_24_0]; decide) (by rw [k_24_0]; decide) (by rw [k_24_0]; decide) (by decide) ?_
      refine lv_aload_n hx hb dX0_trace_52 rfl (lv_at hl 1 rfl) ?_
      refine va_get (D := D) (ci := 7) (v := .ref (P 54)) (C := RX7) (T := TX7) (N := 4) hx hb hgt iwX7 hown hK hP 53 gX_53 rfl 1 (Nat.le_of_ble_eq_true rfl) (hgt _ wd_1_92) (fun _ h9 => h9) rfl dX0_trace_53 ?_
      refine lv_iload hx hb dX0_trace_56 (lv_at hl 0 rfl) ?_
      refine va_iald hx hb hK hP 54 0 gX_54 rfl (ix_l h) dX0_trace_58 ?_
      have h := ix_r h
      exact rt_i (w := (wX cI cZ cC cJ cA P)) hx hb hr hlk hP hD hS h dX0_trace_59
    have h := br_F k_24_0 h
    by_cases k_24_1 : a2 = 1
    · have h := br_T k_24_1 h
      refine lv_tableIn hx hb dX0_trace_24 (off := 36) (tgt := 60) (by rw [k_24_1]; decide) (by rw [k_24_1]; decide) (by rw [k_24_1]; decide) (by decide) ?_
      refine lv_aload_n hx hb dX0_trace_60 rfl (lv_at hl 1 rfl) ?_
      refine va_get (D := D) (ci := 7) (v := .ref (P 55)) (C := RX7) (T := TX7) (N := 4) hx hb hgt iwX7 hown hK hP 53 gX_53 rfl 2 (Nat.le_of_ble_eq_true rfl) (hgt _ wd_1_94) (fun _ h9 => h9) rfl dX0_trace_61 ?_
      refine lv_iload hx hb dX0_trace_64 (lv_at hl 0 rfl) ?_
      refine va_iald hx hb hK hP 55 0 gX_55 rfl (ix_l h) dX0_trace_66 ?_
      have h := ix_r h
      exact rt_i (w := (wX cI cZ cC cJ cA P)) hx hb hr hlk hP hD hS h dX0_trace_67
    have h := br_F k_24_1 h
    by_cases k_24_2 : a2 = 2
    · have h := br_T k_24_2 h
      refine lv_tableIn hx hb dX0_trace_24 (off := 44) (tgt := 68) (by rw [k_24_2]; decide) (by rw [k_24_2]; decide) (by rw [k_24_2]; decide) (by decide) ?_
      refine lv_aload_n hx hb dX0_trace_68 rfl (lv_at hl 1 rfl) ?_
      refine va_get (D := D) (ci := 7) (v := .ref (P 56)) (C := RX7) (T := TX7) (N := 4) hx hb hgt iwX7 hown hK hP 53 gX_53 rfl 3 (Nat.le_of_ble_eq_true rfl) (hgt _ wd_1_96) (fun _ h9 => h9) rfl dX0_trace_69 ?_
      refine lv_iload hx hb dX0_trace_72 (lv_at hl 0 rfl) ?_
      refine va_iald hx hb hK hP 56 0 gX_56 rfl (ix_l h) dX0_trace_74 ?_
      have h := ix_r h
      exact rt_i (w := (wX cI cZ cC cJ cA P)) hx hb hr hlk hP hD hS h dX0_trace_75
    have h := br_F k_24_2 h
    refine lv_tableOut hx hb dX0_trace_24 (tgt := 76) (by have a0 := tne (z := 0) (by decide) k_24_0; have a1 := tne (z := 1) (by decide) k_24_1; have a2 := tne (z := 2) (by decide) k_24_2; omega) (by decide) ?_
    refine lv_iconst (v := (-1)) hx hb dX0_trace_76 (by decide) ?_
    exact rt_i (w := (wX cI cZ cC cJ cA P)) hx hb hr hlk hP hD hS h dX0_trace_77
  · have h := br_T hc h
    refine lv_iconst (v := (-1)) hx hb dX0_trace_21 (by decide) ?_
    exact rt_i (w := (wX cI cZ cC cJ cA P)) hx hb hr hlk hP hD hS h dX0_trace_22
set_option maxHeartbeats 4000000 in
set_option maxRecDepth 20000 in
theorem z_ChipMap_trace (l : Launch) (D : va_G) (cI cZ cC cJ cA : ClassId) (P : Nat → Nat) (s0 : State) (hAO : ∀ q, (aP P 77) q → s0.heap.size ≤ q) (M : Mm) (a1 : Int32) (a2 : Int32) (M' : Mm) (r' : Int32) (h : q_ChipMap_trace M a1 a2 = some (M', r')) : Met l yX0_trace wsX0_trace ({ frames := 1, cells := 0, slots := 0, locals := 21 }) (va_Pc [.ref (P 0), .int a1, .int a2] (gPre s0 D [(cI, .int), (cZ, .boolean), (cC, .char), (cJ, .long), (cA, .array .int)] (aP P 77) ((wX cI cZ cC cJ cA P) M))) (gQi D (aP P 77) ((wX cI cZ cC cJ cA P) M') r') 0 0 (aP P 77) := by
  refine Met.ofW (cc := cX0_trace) (maxL := 5) (ret := (some .int)) (by decide) rfl ?_
  intro p e s m args below meth c s₁ B hml hv
  obtain ⟨rfl, hP, hK, hD, hO⟩ := hv
  have hx := B.exec
  have hb := B.bytes
  have hr := B.returns
  have hlk := B.notSynchronized
  have hgt := fun w (h : w ∈ GT) => atoms_spec (ws := wsX0_trace) B.pre w (List.mem_cons_of_mem _ h)
  have hown : s.vm.findClass RX0 = some m.cls := findClass_of_methodNamed B.named
  have hS : va_S (aP P 77) s.heap s.heap [] := va_S.rf
  have hl := lv_entry ([.ref (P 0), .int a1, .int a2]) (n := 5) (Nat.le_of_ble_eq_true rfl)
  rw [lg_entry_eq]
  generalize (lg_sl ([.ref (P 0), .int a1, .int a2]) ++ List.replicate (5 - (lg_sl ([.ref (P 0), .int a1, .int a2])).length) Slot.unset).toArray = ls at hl ⊢
  have hl : lv_has ls 5 [(0, .ref (P 0)), (1, .int a1), (2, .int a2)] := hl
  exact b_ChipMap_trace_0 hx hb hml hr hlk hgt hown hK hO hAO M a1 a2 s.heap [] ls hl hP hD hS h
def q_Steps_isFull_1  (M : Mm)  : Rs := if (M.1 69 0) < 40 then (some (M, 0)) else (some (M, 1))
set_option maxHeartbeats 4000000 in
set_option maxRecDepth 20000 in
theorem b_Steps_isFull_1_0 {p : Program} {l : Launch} {e : Env} {s s0 : State} {m : MethodId} {args : Array Value} {below : List Frame} {meth : Method} {c : Code} {D : va_G} {cI cZ cC cJ cA : ClassId} {P : Nat → Nat} {M' : Mm} {r' : Int32}  (hx : p.tables.exec = Jvm.exec) (hb : c.code = cX12_isFull) (hml : c.maxLocals = 1) (hr : meth.sig.returnType = (some .boolean)) (hlk : meth.locks = false) (hgt : ∀ w ∈ GT, w.before args s = true) (hown : s.vm.findClass RX12 = some m.cls) (hK : va_K D vwCl [(cI, .int), (cZ, .boolean), (cC, .char), (cJ, .long), (cA, .array .int)] s) (hO : Old s0 s) (hAO : ∀ q, (aP P 77) q → s0.heap.size ≤ q)  : ∀ (M : Mm)  (H : Heap) (locs : List Loc) (ls : Array Slot), lv_has ls 1 [(0, .ref (P 69))] → va_P D vwCl ((wX cI cZ cC cJ cA P) M) H → va_D (aP P 77) ((wX cI cZ cC cJ cA P) M) → va_S (aP P 77) s.heap H locs → q_Steps_isFull_1 M = some (M', r') → W p l e ({ frames := 0, cells := 0, slots := 0, locals := 0 }) s m args below meth c H locs 0 0 (MQ below (gQi D (aP P 77) ((wX cI cZ cC cJ cA P) M') r') args s 0 0 (aP P 77)) (F0 m 0 ls []) := by
  intro M H locs ls hl hP hD hS h
  unfold q_Steps_isFull_1 at h
  refine lv_aload_n hx hb dX12_isFull_0 rfl (lv_at hl 0 rfl) ?_
  refine va_get (D := D) (ci := 12) (v := .int (M.1 69 0)) (C := RX12) (T := TX12) (N := 4) hx hb hgt iwX12 hown hK hP 69 gX_69 rfl 0 (Nat.le_of_ble_eq_true rfl) (hgt _ wd_1_191) (fun _ h9 => h9) rfl dX12_isFull_1 ?_
  refine lv_aload_n hx hb dX12_isFull_4 rfl (lv_at hl 0 rfl) ?_
  refine va_get (D := D) (ci := 12) (v := .ref (P 70)) (C := RX12) (T := TX12) (N := 4) hx hb hgt iwX12 hown hK hP 69 gX_69 rfl 1 (Nat.le_of_ble_eq_true rfl) (hgt _ wd_1_195) (fun _ h9 => h9) rfl dX12_isFull_5 ?_
  refine va_alen (v := 40) hx hb hK hP 70 0 gX_70 rfl rfl dX12_isFull_8 ?_
  refine lv_icmp_lt hx hb dX12_isFull_9 (tgt := 16) rfl (fun hc => ?_) (fun hc => ?_)
  · have h := br_T hc h
    refine lv_iconst (v := 0) hx hb dX12_isFull_16 (by decide) ?_
    exact rt_z (w := (wX cI cZ cC cJ cA P)) hx hb hr hlk rfl hP hD hS h dX12_isFull_17
  · have h := br_F hc h
    refine lv_iconst (v := 1) hx hb dX12_isFull_12 (by decide) ?_
    refine lv_goto hx hb dX12_isFull_13 (tgt := 17) rfl ?_
    exact rt_z (w := (wX cI cZ cC cJ cA P)) hx hb hr hlk rfl hP hD hS h dX12_isFull_17
set_option maxHeartbeats 4000000 in
set_option maxRecDepth 20000 in
theorem z_Steps_isFull_1 (l : Launch) (D : va_G) (cI cZ cC cJ cA : ClassId) (P : Nat → Nat) (s0 : State) (hAO : ∀ q, (aP P 77) q → s0.heap.size ≤ q) (M : Mm)  (M' : Mm) (r' : Int32) (h : q_Steps_isFull_1 M = some (M', r')) : Met l yX12_isFull wsX12_isFull ({ frames := 0, cells := 0, slots := 0, locals := 0 }) (va_Pc [.ref (P 69)] (gPre s0 D [(cI, .int), (cZ, .boolean), (cC, .char), (cJ, .long), (cA, .array .int)] (aP P 77) ((wX cI cZ cC cJ cA P) M))) (gQi D (aP P 77) ((wX cI cZ cC cJ cA P) M') r') 0 0 (aP P 77) := by
  refine Met.ofW (cc := cX12_isFull) (maxL := 1) (ret := (some .boolean)) (by decide) rfl ?_
  intro p e s m args below meth c s₁ B hml hv
  obtain ⟨rfl, hP, hK, hD, hO⟩ := hv
  have hx := B.exec
  have hb := B.bytes
  have hr := B.returns
  have hlk := B.notSynchronized
  have hgt := fun w (h : w ∈ GT) => atoms_spec (ws := wsX12_isFull) B.pre w (List.mem_cons_of_mem _ h)
  have hown : s.vm.findClass RX12 = some m.cls := findClass_of_methodNamed B.named
  have hS : va_S (aP P 77) s.heap s.heap [] := va_S.rf
  have hl := lv_entry ([.ref (P 69)]) (n := 1) (Nat.le_of_ble_eq_true rfl)
  rw [lg_entry_eq]
  generalize (lg_sl ([.ref (P 69)]) ++ List.replicate (1 - (lg_sl ([.ref (P 69)])).length) Slot.unset).toArray = ls at hl ⊢
  have hl : lv_has ls 1 [(0, .ref (P 69))] := hl
  exact b_Steps_isFull_1_0 hx hb hml hr hlk hgt hown hK hO hAO M s.heap [] ls hl hP hD hS h
def q_ChipMap_isStep  (M : Mm) (a1 : Int32) (a2 : Int32) (a3 : Int32) : Rs := if a1 = 0 then (cal (q_Layout_canPut M a2 a3) fun M1 r2 => bz r2 (some (M1, r2))) else if a1 = 1 then (cal (q_Layout_canFetch M a2) fun M1 r2 => bz r2 (some (M1, r2))) else if a1 = 2 then (if a3 < 0 then (some (M, 0)) else (if 40 < a3 then (some (M, 0)) else (some (M, 1)))) else (if a1 = 3 then (some (M, 1)) else (some (M, 0)))
set_option maxHeartbeats 4000000 in
set_option maxRecDepth 20000 in
theorem b_ChipMap_isStep_0 {p : Program} {l : Launch} {e : Env} {s s0 : State} {m : MethodId} {args : Array Value} {below : List Frame} {meth : Method} {c : Code} {D : va_G} {cI cZ cC cJ cA : ClassId} {P : Nat → Nat} {M' : Mm} {r' : Int32}  (hx : p.tables.exec = Jvm.exec) (hb : c.code = cX0_isStep) (hml : c.maxLocals = 4) (hr : meth.sig.returnType = (some .boolean)) (hlk : meth.locks = false) (hgt : ∀ w ∈ GT, w.before args s = true) (hown : s.vm.findClass RX0 = some m.cls) (hK : va_K D vwCl [(cI, .int), (cZ, .boolean), (cC, .char), (cJ, .long), (cA, .array .int)] s) (hO : Old s0 s) (hAO : ∀ q, (aP P 77) q → s0.heap.size ≤ q)  : ∀ (M : Mm) (a1 : Int32) (a2 : Int32) (a3 : Int32) (H : Heap) (locs : List Loc) (ls : Array Slot), lv_has ls 4 [(0, .ref (P 0)), (1, .int a1), (2, .int a2), (3, .int a3)] → va_P D vwCl ((wX cI cZ cC cJ cA P) M) H → va_D (aP P 77) ((wX cI cZ cC cJ cA P) M) → va_S (aP P 77) s.heap H locs → q_ChipMap_isStep M a1 a2 a3 = some (M', r') → W p l e ({ frames := 2, cells := 0, slots := 0, locals := 44 }) s m args below meth c H locs 0 0 (MQ below (gQi D (aP P 77) ((wX cI cZ cC cJ cA P) M') r') args s 0 0 (aP P 77)) (F0 m 0 ls []) := by
  intro M a1 a2 a3 H locs ls hl hP hD hS h
  unfold q_ChipMap_isStep at h
  refine lv_iload_n hx hb dX0_isStep_0 rfl (lv_at hl 1 rfl) ?_
  by_cases k_1_0 : a1 = 0
  · have h := br_T k_1_0 h
    refine lv_tableIn hx hb dX0_isStep_1 (off := 27) (tgt := 28) (by rw [k_1_0]; decide) (by rw [k_1_0]; decide) (by rw [k_1_0]; decide) (by decide) ?_
    refine lv_aload_n hx hb dX0_isStep_28 rfl (lv_at hl 0 rfl) ?_
    refine va_get (D := D) (ci := 0) (v := .ref (P 24)) (C := RX0) (T := TX0) (N := 9) hx hb hgt iwX0 hown hK hP 0 gX_0 rfl 3 (Nat.le_of_ble_eq_true rfl) (hgt _ wd_2_20) (fun _ h9 => h9) rfl dX0_isStep_29 ?_
    refine lv_iload_n hx hb dX0_isStep_32 rfl (lv_at hl 2 rfl) ?_
    refine lv_iload_n hx hb dX0_isStep_33 rfl (lv_at hl 3 rfl) ?_
    obtain ⟨M1, r2, hq, h⟩ := cal_o h
    refine cx_i (va_runV (As := [.int a2, .int a3]) (rest := []) ⟨hx, hb, hml, hown, hgt⟩ (z_Layout_canPut l D cI cZ cC cJ cA P s0 hAO M a2 a3 M1 r2 hq) (cwV 2 hgt (gV wd_2_178 wd_2_179 wd_2_180 wd_0_6 wd_2_181) rfl rfl rfl (by decide +kernel) ⟨Nat.le_of_ble_eq_true rfl, Nat.le_of_ble_eq_true rfl⟩) (prV hP hK hD hO hAO hS (va_recv hK hP (ci := 6) (q0 := 24) rfl gX_24)) rfl rfl hl.1 rfl (lv_room (Nat.le_of_ble_eq_true rfl)) dX0_isStep_34 ⟨Nat.le_of_ble_eq_true rfl, Nat.le_of_ble_eq_true rfl⟩) hS (fun H locs hP hD hS => ?_)
    exact rt_z (w := (wX cI cZ cC cJ cA P)) hx hb hr hlk (bz_l h) hP hD hS (bz_r h) dX0_isStep_37
  have h := br_F k_1_0 h
  by_cases k_1_1 : a1 = 1
  · have h := br_T k_1_1 h
    refine lv_tableIn hx hb dX0_isStep_1 (off := 37) (tgt := 38) (by rw [k_1_1]; decide) (by rw [k_1_1]; decide) (by rw [k_1_1]; decide) (by decide) ?_
    refine lv_aload_n hx hb dX0_isStep_38 rfl (lv_at hl 0 rfl) ?_
    refine va_get (D := D) (ci := 0) (v := .ref (P 24)) (C := RX0) (T := TX0) (N := 9) hx hb hgt iwX0 hown hK hP 0 gX_0 rfl 3 (Nat.le_of_ble_eq_true rfl) (hgt _ wd_2_20) (fun _ h9 => h9) rfl dX0_isStep_39 ?_
    refine lv_iload_n hx hb dX0_isStep_42 rfl (lv_at hl 2 rfl) ?_
    obtain ⟨M1, r2, hq, h⟩ := cal_o h
    refine cx_i (va_runV (As := [.int a2]) (rest := []) ⟨hx, hb, hml, hown, hgt⟩ (z_Layout_canFetch l D cI cZ cC cJ cA P s0 hAO M a2 M1 r2 hq) (cwV 1 hgt (gV wd_3_36 wd_3_37 wd_3_38 wd_0_6 wd_3_39) rfl rfl rfl (by decide +kernel) ⟨Nat.le_of_ble_eq_true rfl, Nat.le_of_ble_eq_true rfl⟩) (prV hP hK hD hO hAO hS (va_recv hK hP (ci := 6) (q0 := 24) rfl gX_24)) rfl rfl hl.1 rfl (lv_room (Nat.le_of_ble_eq_true rfl)) dX0_isStep_43 ⟨Nat.le_of_ble_eq_true rfl, Nat.le_of_ble_eq_true rfl⟩) hS (fun H locs hP hD hS => ?_)
    exact rt_z (w := (wX cI cZ cC cJ cA P)) hx hb hr hlk (bz_l h) hP hD hS (bz_r h) dX0_isStep_46
  have h := br_F k_1_1 h
  by_cases k_1_2 : a1 = 2
  · have h := br_T k_1_2 h
    refine lv_tableIn hx hb dX0_isStep_1 (off := 46) (tgt := 47) (by rw [k_1_2]; decide) (by rw [k_1_2]; decide) (by rw [k_1_2]; decide) (by decide) ?_
    refine lv_iload_n hx hb dX0_isStep_47 rfl (lv_at hl 3 rfl) ?_
    refine lv_if_lt hx hb dX0_isStep_48 (tgt := 61) rfl (fun hc => ?_) (fun hc => ?_)
    · have h := br_T hc h
      refine lv_iconst (v := 0) hx hb dX0_isStep_61 (by decide) ?_
      exact rt_z (w := (wX cI cZ cC cJ cA P)) hx hb hr hlk rfl hP hD hS h dX0_isStep_62
    · have h := br_F hc h
      refine lv_iload_n hx hb dX0_isStep_51 rfl (lv_at hl 3 rfl) ?_
      refine lv_bipush (v := 40) hx hb dX0_isStep_52 (by decide) ?_
      refine lv_icmp_gt hx hb dX0_isStep_54 (tgt := 61) rfl (fun hc => ?_) (fun hc => ?_)
      · have h := br_T hc h
        refine lv_iconst (v := 0) hx hb dX0_isStep_61 (by decide) ?_
        exact rt_z (w := (wX cI cZ cC cJ cA P)) hx hb hr hlk rfl hP hD hS h dX0_isStep_62
      · have h := br_F hc h
        refine lv_iconst (v := 1) hx hb dX0_isStep_57 (by decide) ?_
        refine lv_goto hx hb dX0_isStep_58 (tgt := 62) rfl ?_
        exact rt_z (w := (wX cI cZ cC cJ cA P)) hx hb hr hlk rfl hP hD hS h dX0_isStep_62
  have h := br_F k_1_2 h
  refine lv_tableOut hx hb dX0_isStep_1 (tgt := 63) (by have a0 := tne (z := 0) (by decide) k_1_0; have a1 := tne (z := 1) (by decide) k_1_1; have a2 := tne (z := 2) (by decide) k_1_2; omega) (by decide) ?_
  refine lv_iload_n hx hb dX0_isStep_63 rfl (lv_at hl 1 rfl) ?_
  refine lv_iconst (v := 3) hx hb dX0_isStep_64 (by decide) ?_
  refine lv_icmp_ne hx hb dX0_isStep_65 (tgt := 72) rfl (fun hc => ?_) (fun hc => ?_)
  · have h := br_F hc h
    refine lv_iconst (v := 0) hx hb dX0_isStep_72 (by decide) ?_
    exact rt_z (w := (wX cI cZ cC cJ cA P)) hx hb hr hlk rfl hP hD hS h dX0_isStep_73
  · have h := br_T hc h
    refine lv_iconst (v := 1) hx hb dX0_isStep_68 (by decide) ?_
    refine lv_goto hx hb dX0_isStep_69 (tgt := 73) rfl ?_
    exact rt_z (w := (wX cI cZ cC cJ cA P)) hx hb hr hlk rfl hP hD hS h dX0_isStep_73
set_option maxHeartbeats 4000000 in
set_option maxRecDepth 20000 in
theorem z_ChipMap_isStep (l : Launch) (D : va_G) (cI cZ cC cJ cA : ClassId) (P : Nat → Nat) (s0 : State) (hAO : ∀ q, (aP P 77) q → s0.heap.size ≤ q) (M : Mm) (a1 : Int32) (a2 : Int32) (a3 : Int32) (M' : Mm) (r' : Int32) (h : q_ChipMap_isStep M a1 a2 a3 = some (M', r')) : Met l yX0_isStep wsX0_isStep ({ frames := 2, cells := 0, slots := 0, locals := 44 }) (va_Pc [.ref (P 0), .int a1, .int a2, .int a3] (gPre s0 D [(cI, .int), (cZ, .boolean), (cC, .char), (cJ, .long), (cA, .array .int)] (aP P 77) ((wX cI cZ cC cJ cA P) M))) (gQi D (aP P 77) ((wX cI cZ cC cJ cA P) M') r') 0 0 (aP P 77) := by
  refine Met.ofW (cc := cX0_isStep) (maxL := 4) (ret := (some .boolean)) (by decide) rfl ?_
  intro p e s m args below meth c s₁ B hml hv
  obtain ⟨rfl, hP, hK, hD, hO⟩ := hv
  have hx := B.exec
  have hb := B.bytes
  have hr := B.returns
  have hlk := B.notSynchronized
  have hgt := fun w (h : w ∈ GT) => atoms_spec (ws := wsX0_isStep) B.pre w (List.mem_cons_of_mem _ h)
  have hown : s.vm.findClass RX0 = some m.cls := findClass_of_methodNamed B.named
  have hS : va_S (aP P 77) s.heap s.heap [] := va_S.rf
  have hl := lv_entry ([.ref (P 0), .int a1, .int a2, .int a3]) (n := 4) (Nat.le_of_ble_eq_true rfl)
  rw [lg_entry_eq]
  generalize (lg_sl ([.ref (P 0), .int a1, .int a2, .int a3]) ++ List.replicate (4 - (lg_sl ([.ref (P 0), .int a1, .int a2, .int a3])).length) Slot.unset).toArray = ls at hl ⊢
  have hl : lv_has ls 4 [(0, .ref (P 0)), (1, .int a1), (2, .int a2), (3, .int a3)] := hl
  exact b_ChipMap_isStep_0 hx hb hml hr hlk hgt hown hK hO hAO M a1 a2 a3 s.heap [] ls hl hP hD hS h
def q_Steps_append_1  (M : Mm) (a1 : Int32) (a2 : Int32) (a3 : Int32) : Rs := ix (M.1 69 0) 40 <| lt' (stI M 70 (upd (M.1 70) ((M.1 69 0) : Int32).toNatClampNeg a1)) fun M1 => ix (M1.1 69 0) 40 <| lt' (stI M1 71 (upd (M1.1 71) ((M1.1 69 0) : Int32).toNatClampNeg a2)) fun M2 => ix (M2.1 69 0) 40 <| lt' (stI M2 72 (upd (M2.1 72) ((M2.1 69 0) : Int32).toNatClampNeg a3)) fun M3 => lt' (stI M3 69 (upd (M3.1 69) 0 ((M3.1 69 0) + 1))) fun M4 => some (M4, 0)
set_option maxHeartbeats 4000000 in
set_option maxRecDepth 20000 in
theorem b_Steps_append_1_0 {p : Program} {l : Launch} {e : Env} {s s0 : State} {m : MethodId} {args : Array Value} {below : List Frame} {meth : Method} {c : Code} {D : va_G} {cI cZ cC cJ cA : ClassId} {P : Nat → Nat} {M' : Mm} {r' : Int32}  (hx : p.tables.exec = Jvm.exec) (hb : c.code = cX12_append) (hml : c.maxLocals = 4) (hr : meth.sig.returnType = none) (hlk : meth.locks = false) (hgt : ∀ w ∈ GT, w.before args s = true) (hown : s.vm.findClass RX12 = some m.cls) (hK : va_K D vwCl [(cI, .int), (cZ, .boolean), (cC, .char), (cJ, .long), (cA, .array .int)] s) (hO : Old s0 s) (hAO : ∀ q, (aP P 77) q → s0.heap.size ≤ q)  : ∀ (M : Mm) (a1 : Int32) (a2 : Int32) (a3 : Int32) (H : Heap) (locs : List Loc) (ls : Array Slot), lv_has ls 4 [(0, .ref (P 69)), (1, .int a1), (2, .int a2), (3, .int a3)] → va_P D vwCl ((wX cI cZ cC cJ cA P) M) H → va_D (aP P 77) ((wX cI cZ cC cJ cA P) M) → va_S (aP P 77) s.heap H locs → q_Steps_append_1 M a1 a2 a3 = some (M', r') → W p l e ({ frames := 0, cells := 0, slots := 0, locals := 0 }) s m args below meth c H locs 0 0 (MQ below (gQv D (aP P 77) ((wX cI cZ cC cJ cA P) M')) args s 0 0 (aP P 77)) (F0 m 0 ls []) := by
  intro M a1 a2 a3 H locs ls hl hP hD hS h
  unfold q_Steps_append_1 at h
  refine lv_aload_n hx hb dX12_append_0 rfl (lv_at hl 0 rfl) ?_
  refine va_get (D := D) (ci := 12) (v := .ref (P 70)) (C := RX12) (T := TX12) (N := 4) hx hb hgt iwX12 hown hK hP 69 gX_69 rfl 1 (Nat.le_of_ble_eq_true rfl) (hgt _ wd_1_195) (fun _ h9 => h9) rfl dX12_append_1 ?_
  refine lv_aload_n hx hb dX12_append_4 rfl (lv_at hl 0 rfl) ?_
  refine va_get (D := D) (ci := 12) (v := .int (M.1 69 0)) (C := RX12) (T := TX12) (N := 4) hx hb hgt iwX12 hown hK hP 69 gX_69 rfl 0 (Nat.le_of_ble_eq_true rfl) (hgt _ wd_1_191) (fun _ h9 => h9) rfl dX12_append_5 ?_
  refine lv_iload_n hx hb dX12_append_8 rfl (lv_at hl 1 rfl) ?_
  refine pm_iast (w := (wX cI cZ cC cJ cA P)) hx hb hK hP hD hS 70 0 gX_70 rfl sX_70 (ix_l h) dX12_append_9 (fun M1 eM1 H locs hP hD hS => ?_)
  have h := ix_r h
  have h := lt_o eM1 h
  refine lv_aload_n hx hb dX12_append_10 rfl (lv_at hl 0 rfl) ?_
  refine va_get (D := D) (ci := 12) (v := .ref (P 71)) (C := RX12) (T := TX12) (N := 4) hx hb hgt iwX12 hown hK hP 69 gX_69 rfl 2 (Nat.le_of_ble_eq_true rfl) (hgt _ wd_1_198) (fun _ h9 => h9) rfl dX12_append_11 ?_
  refine lv_aload_n hx hb dX12_append_14 rfl (lv_at hl 0 rfl) ?_
  refine va_get (D := D) (ci := 12) (v := .int (M1.1 69 0)) (C := RX12) (T := TX12) (N := 4) hx hb hgt iwX12 hown hK hP 69 gX_69 rfl 0 (Nat.le_of_ble_eq_true rfl) (hgt _ wd_1_191) (fun _ h9 => h9) rfl dX12_append_15 ?_
  refine lv_iload_n hx hb dX12_append_18 rfl (lv_at hl 2 rfl) ?_
  refine pm_iast (w := (wX cI cZ cC cJ cA P)) hx hb hK hP hD hS 71 0 gX_71 rfl sX_71 (ix_l h) dX12_append_19 (fun M2 eM2 H locs hP hD hS => ?_)
  have h := ix_r h
  have h := lt_o eM2 h
  refine lv_aload_n hx hb dX12_append_20 rfl (lv_at hl 0 rfl) ?_
  refine va_get (D := D) (ci := 12) (v := .ref (P 72)) (C := RX12) (T := TX12) (N := 4) hx hb hgt iwX12 hown hK hP 69 gX_69 rfl 3 (Nat.le_of_ble_eq_true rfl) (hgt _ wd_1_202) (fun _ h9 => h9) rfl dX12_append_21 ?_
  refine lv_aload_n hx hb dX12_append_24 rfl (lv_at hl 0 rfl) ?_
  refine va_get (D := D) (ci := 12) (v := .int (M2.1 69 0)) (C := RX12) (T := TX12) (N := 4) hx hb hgt iwX12 hown hK hP 69 gX_69 rfl 0 (Nat.le_of_ble_eq_true rfl) (hgt _ wd_1_191) (fun _ h9 => h9) rfl dX12_append_25 ?_
  refine lv_iload_n hx hb dX12_append_28 rfl (lv_at hl 3 rfl) ?_
  refine pm_iast (w := (wX cI cZ cC cJ cA P)) hx hb hK hP hD hS 72 0 gX_72 rfl sX_72 (ix_l h) dX12_append_29 (fun M3 eM3 H locs hP hD hS => ?_)
  have h := ix_r h
  have h := lt_o eM3 h
  refine lv_aload_n hx hb dX12_append_30 rfl (lv_at hl 0 rfl) ?_
  refine lv_dup hx hb dX12_append_31 rfl ?_
  refine va_get (D := D) (ci := 12) (v := .int (M3.1 69 0)) (C := RX12) (T := TX12) (N := 4) hx hb hgt iwX12 hown hK hP 69 gX_69 rfl 0 (Nat.le_of_ble_eq_true rfl) (hgt _ wd_1_191) (fun _ h9 => h9) rfl dX12_append_32 ?_
  refine lv_iconst (v := 1) hx hb dX12_append_35 (by decide) ?_
  refine lv_iadd hx hb dX12_append_36 ?_
  refine pm_put (w := (wX cI cZ cC cJ cA P)) (D := D) (ci := 12) (x := ((M3.1 69 0) + 1)) (ty := .int) (C := RX12) (T := TX12) (N := 4) hx hb hgt iwX12 tyX12 tyX12_ok nmX12 hown hK hP hD hS 69 gX_69 rfl 0 (Nat.le_of_ble_eq_true rfl) (hgt _ wd_1_191) (fun _ h9 => h9) rfl (by decide +kernel) rfl rfl (Nat.le_of_ble_eq_true rfl) (sX_69_0 _) dX12_append_37 (fun M4 eM4 H locs hP hD hS => ?_)
  have h := lt_o eM4 h
  exact rt_v (w := (wX cI cZ cC cJ cA P)) (r := r') hx hb hr hlk hP hD hS h dX12_append_40
set_option maxHeartbeats 4000000 in
set_option maxRecDepth 20000 in
theorem z_Steps_append_1 (l : Launch) (D : va_G) (cI cZ cC cJ cA : ClassId) (P : Nat → Nat) (s0 : State) (hAO : ∀ q, (aP P 77) q → s0.heap.size ≤ q) (M : Mm) (a1 : Int32) (a2 : Int32) (a3 : Int32) (M' : Mm) (r' : Int32) (h : q_Steps_append_1 M a1 a2 a3 = some (M', r')) : Met l yX12_append wsX12_append ({ frames := 0, cells := 0, slots := 0, locals := 0 }) (va_Pc [.ref (P 69), .int a1, .int a2, .int a3] (gPre s0 D [(cI, .int), (cZ, .boolean), (cC, .char), (cJ, .long), (cA, .array .int)] (aP P 77) ((wX cI cZ cC cJ cA P) M))) (gQv D (aP P 77) ((wX cI cZ cC cJ cA P) M')) 0 0 (aP P 77) := by
  refine Met.ofW (cc := cX12_append) (maxL := 4) (ret := none) (by decide) rfl ?_
  intro p e s m args below meth c s₁ B hml hv
  obtain ⟨rfl, hP, hK, hD, hO⟩ := hv
  have hx := B.exec
  have hb := B.bytes
  have hr := B.returns
  have hlk := B.notSynchronized
  have hgt := fun w (h : w ∈ GT) => atoms_spec (ws := wsX12_append) B.pre w (List.mem_cons_of_mem _ h)
  have hown : s.vm.findClass RX12 = some m.cls := findClass_of_methodNamed B.named
  have hS : va_S (aP P 77) s.heap s.heap [] := va_S.rf
  have hl := lv_entry ([.ref (P 69), .int a1, .int a2, .int a3]) (n := 4) (Nat.le_of_ble_eq_true rfl)
  rw [lg_entry_eq]
  generalize (lg_sl ([.ref (P 69), .int a1, .int a2, .int a3]) ++ List.replicate (4 - (lg_sl ([.ref (P 69), .int a1, .int a2, .int a3])).length) Slot.unset).toArray = ls at hl ⊢
  have hl : lv_has ls 4 [(0, .ref (P 69)), (1, .int a1), (2, .int a2), (3, .int a3)] := hl
  exact b_Steps_append_1_0 hx hb hml hr hlk hgt hown hK hO hAO M a1 a2 a3 s.heap [] ls hl hP hD hS h
def q_ChipMap_step  (M : Mm) (a1 : Int32) (a2 : Int32) (a3 : Int32) : Rs := cal (q_Steps_isFull_1 M) fun M1 r2 => if r2 = 0 then (cal (q_ChipMap_hasMap M1) fun M3 r4 => if r4 = 0 then (some (M3, (-1))) else (cal (q_ChipMap_isStep M3 a1 a2 a3) fun M5 r6 => if r6 = 0 then (some (M5, (-1))) else (cal (q_Steps_append_1 M5 a1 a2 a3) fun M7 r8 => some (M7, ((M7.1 69 0) - 1))))) else (some (M1, (-1)))
set_option maxHeartbeats 4000000 in
set_option maxRecDepth 20000 in
theorem b_ChipMap_step_0 {p : Program} {l : Launch} {e : Env} {s s0 : State} {m : MethodId} {args : Array Value} {below : List Frame} {meth : Method} {c : Code} {D : va_G} {cI cZ cC cJ cA : ClassId} {P : Nat → Nat} {M' : Mm} {r' : Int32}  (hx : p.tables.exec = Jvm.exec) (hb : c.code = cX0_step) (hml : c.maxLocals = 4) (hr : meth.sig.returnType = (some .int)) (hlk : meth.locks = false) (hgt : ∀ w ∈ GT, w.before args s = true) (hown : s.vm.findClass RX0 = some m.cls) (hK : va_K D vwCl [(cI, .int), (cZ, .boolean), (cC, .char), (cJ, .long), (cA, .array .int)] s) (hO : Old s0 s) (hAO : ∀ q, (aP P 77) q → s0.heap.size ≤ q)  : ∀ (M : Mm) (a1 : Int32) (a2 : Int32) (a3 : Int32) (H : Heap) (locs : List Loc) (ls : Array Slot), lv_has ls 4 [(0, .ref (P 0)), (1, .int a1), (2, .int a2), (3, .int a3)] → va_P D vwCl ((wX cI cZ cC cJ cA P) M) H → va_D (aP P 77) ((wX cI cZ cC cJ cA P) M) → va_S (aP P 77) s.heap H locs → q_ChipMap_step M a1 a2 a3 = some (M', r') → W p l e ({ frames := 3, cells := 0, slots := 0, locals := 67 }) s m args below meth c H locs 0 0 (MQ below (gQi D (aP P 77) ((wX cI cZ cC cJ cA P) M') r') args s 0 0 (aP P 77)) (F0 m 0 ls []) := by
  intro M a1 a2 a3 H locs ls hl hP hD hS h
  unfold q_ChipMap_step at h
  refine lv_aload_n hx hb dX0_step_0 rfl (lv_at hl 0 rfl) ?_
  refine va_get (D := D) (ci := 0) (v := .ref (P 69)) (C := RX0) (T := TX0) (N := 9) hx hb hgt iwX0 hown hK hP 0 gX_0 rfl 7 (Nat.le_of_ble_eq_true rfl) (hgt _ wd_2_24) (fun _ h9 => h9) rfl dX0_step_1 ?_
  obtain ⟨M1, r2, hq, h⟩ := cal_o h
  refine cx_i (va_runV (As := []) (rest := []) ⟨hx, hb, hml, hown, hgt⟩ (z_Steps_isFull_1 l D cI cZ cC cJ cA P s0 hAO M M1 r2 hq) (cwV 0 hgt (gV wd_2_228 wd_2_229 wd_2_230 wd_0_13 wd_2_231) rfl rfl rfl (by decide +kernel) ⟨Nat.le_of_ble_eq_true rfl, Nat.le_of_ble_eq_true rfl⟩) (prV hP hK hD hO hAO hS (va_recv hK hP (ci := 12) (q0 := 69) rfl gX_69)) rfl rfl hl.1 rfl (lv_room (Nat.le_of_ble_eq_true rfl)) dX0_step_4 ⟨Nat.le_of_ble_eq_true rfl, Nat.le_of_ble_eq_true rfl⟩) hS (fun H locs hP hD hS => ?_)
  refine lv_if_ne hx hb dX0_step_7 (tgt := 27) rfl (fun hc => ?_) (fun hc => ?_)
  · have h := br_F hc h
    refine lv_iconst (v := (-1)) hx hb dX0_step_27 (by decide) ?_
    exact rt_i (w := (wX cI cZ cC cJ cA P)) hx hb hr hlk hP hD hS h dX0_step_28
  · have h := br_T hc h
    refine lv_aload_n hx hb dX0_step_10 rfl (lv_at hl 0 rfl) ?_
    obtain ⟨M3, r4, hq, h⟩ := cal_o h
    refine cx_i (va_runV (As := []) (rest := []) ⟨hx, hb, hml, hown, hgt⟩ (z_ChipMap_hasMap l D cI cZ cC cJ cA P s0 hAO M1 M3 r4 hq) (cwV 0 hgt (gV wd_2_81 wd_2_83 sl__ChipMap____ChipMap___hasMap_____Z_____ChipMap___hasMap_____Z__ wd_0_1 wd_2_84) rfl rfl rfl (by decide +kernel) ⟨Nat.le_of_ble_eq_true rfl, Nat.le_of_ble_eq_true rfl⟩) (prV hP hK hD hO hAO hS (va_recv hK hP (ci := 0) (q0 := 0) rfl gX_0)) rfl rfl hl.1 rfl (lv_room (Nat.le_of_ble_eq_true rfl)) dX0_step_11 ⟨Nat.le_of_ble_eq_true rfl, Nat.le_of_ble_eq_true rfl⟩) hS (fun H locs hP hD hS => ?_)
    refine lv_if_eq hx hb dX0_step_14 (tgt := 27) rfl (fun hc => ?_) (fun hc => ?_)
    · have h := br_T hc h
      refine lv_iconst (v := (-1)) hx hb dX0_step_27 (by decide) ?_
      exact rt_i (w := (wX cI cZ cC cJ cA P)) hx hb hr hlk hP hD hS h dX0_step_28
    · have h := br_F hc h
      refine lv_aload_n hx hb dX0_step_17 rfl (lv_at hl 0 rfl) ?_
      refine lv_iload_n hx hb dX0_step_18 rfl (lv_at hl 1 rfl) ?_
      refine lv_iload_n hx hb dX0_step_19 rfl (lv_at hl 2 rfl) ?_
      refine lv_iload_n hx hb dX0_step_20 rfl (lv_at hl 3 rfl) ?_
      obtain ⟨M5, r6, hq, h⟩ := cal_o h
      refine cx_i (va_runV (As := [.int a1, .int a2, .int a3]) (rest := []) ⟨hx, hb, hml, hown, hgt⟩ (z_ChipMap_isStep l D cI cZ cC cJ cA P s0 hAO M3 a1 a2 a3 M5 r6 hq) (cwV 3 hgt (gV wd_3_32 wd_3_34 sl__ChipMap____ChipMap___isStep____III_Z_____ChipMap___isStep____III_Z__ wd_0_1 wd_3_35) rfl rfl rfl (by decide +kernel) ⟨Nat.le_of_ble_eq_true rfl, Nat.le_of_ble_eq_true rfl⟩) (prV hP hK hD hO hAO hS (va_recv hK hP (ci := 0) (q0 := 0) rfl gX_0)) rfl rfl hl.1 rfl (lv_room (Nat.le_of_ble_eq_true rfl)) dX0_step_21 ⟨Nat.le_of_ble_eq_true rfl, Nat.le_of_ble_eq_true rfl⟩) hS (fun H locs hP hD hS => ?_)
      refine lv_if_ne hx hb dX0_step_24 (tgt := 29) rfl (fun hc => ?_) (fun hc => ?_)
      · have h := br_F hc h
        refine lv_aload_n hx hb dX0_step_29 rfl (lv_at hl 0 rfl) ?_
        refine va_get (D := D) (ci := 0) (v := .ref (P 69)) (C := RX0) (T := TX0) (N := 9) hx hb hgt iwX0 hown hK hP 0 gX_0 rfl 7 (Nat.le_of_ble_eq_true rfl) (hgt _ wd_2_24) (fun _ h9 => h9) rfl dX0_step_30 ?_
        refine lv_iload_n hx hb dX0_step_33 rfl (lv_at hl 1 rfl) ?_
        refine lv_iload_n hx hb dX0_step_34 rfl (lv_at hl 2 rfl) ?_
        refine lv_iload_n hx hb dX0_step_35 rfl (lv_at hl 3 rfl) ?_
        obtain ⟨M7, r8, hq, h⟩ := cal_o h
        refine cx_v (va_runV (As := [.int a1, .int a2, .int a3]) (rest := []) ⟨hx, hb, hml, hown, hgt⟩ (z_Steps_append_1 l D cI cZ cC cJ cA P s0 hAO M5 a1 a2 a3 M7 r8 hq) (cwV 3 hgt (gV wd_2_232 wd_2_233 wd_2_234 wd_0_13 wd_2_235) rfl rfl rfl (by decide +kernel) ⟨Nat.le_of_ble_eq_true rfl, Nat.le_of_ble_eq_true rfl⟩) (prV hP hK hD hO hAO hS (va_recv hK hP (ci := 12) (q0 := 69) rfl gX_69)) rfl rfl hl.1 rfl (lv_room (Nat.le_of_ble_eq_true rfl)) dX0_step_36 ⟨Nat.le_of_ble_eq_true rfl, Nat.le_of_ble_eq_true rfl⟩) hS (fun H locs hP hD hS => ?_)
        refine lv_aload_n hx hb dX0_step_39 rfl (lv_at hl 0 rfl) ?_
        refine va_get (D := D) (ci := 0) (v := .ref (P 69)) (C := RX0) (T := TX0) (N := 9) hx hb hgt iwX0 hown hK hP 0 gX_0 rfl 7 (Nat.le_of_ble_eq_true rfl) (hgt _ wd_2_24) (fun _ h9 => h9) rfl dX0_step_40 ?_
        refine va_get (D := D) (ci := 12) (v := .int (M7.1 69 0)) (C := RX12) (T := TX12) (N := 4) hx hb hgt iwX12 hown hK hP 69 gX_69 rfl 0 (Nat.le_of_ble_eq_true rfl) (hgt _ wd_1_193) (fun _ h9 => h9) rfl dX0_step_43 ?_
        refine lv_iconst (v := 1) hx hb dX0_step_46 (by decide) ?_
        refine lv_isub hx hb dX0_step_47 ?_
        exact rt_i (w := (wX cI cZ cC cJ cA P)) hx hb hr hlk hP hD hS h dX0_step_48
      · have h := br_T hc h
        refine lv_iconst (v := (-1)) hx hb dX0_step_27 (by decide) ?_
        exact rt_i (w := (wX cI cZ cC cJ cA P)) hx hb hr hlk hP hD hS h dX0_step_28
set_option maxHeartbeats 4000000 in
set_option maxRecDepth 20000 in
theorem z_ChipMap_step (l : Launch) (D : va_G) (cI cZ cC cJ cA : ClassId) (P : Nat → Nat) (s0 : State) (hAO : ∀ q, (aP P 77) q → s0.heap.size ≤ q) (M : Mm) (a1 : Int32) (a2 : Int32) (a3 : Int32) (M' : Mm) (r' : Int32) (h : q_ChipMap_step M a1 a2 a3 = some (M', r')) : Met l yX0_step wsX0_step ({ frames := 3, cells := 0, slots := 0, locals := 67 }) (va_Pc [.ref (P 0), .int a1, .int a2, .int a3] (gPre s0 D [(cI, .int), (cZ, .boolean), (cC, .char), (cJ, .long), (cA, .array .int)] (aP P 77) ((wX cI cZ cC cJ cA P) M))) (gQi D (aP P 77) ((wX cI cZ cC cJ cA P) M') r') 0 0 (aP P 77) := by
  refine Met.ofW (cc := cX0_step) (maxL := 4) (ret := (some .int)) (by decide) rfl ?_
  intro p e s m args below meth c s₁ B hml hv
  obtain ⟨rfl, hP, hK, hD, hO⟩ := hv
  have hx := B.exec
  have hb := B.bytes
  have hr := B.returns
  have hlk := B.notSynchronized
  have hgt := fun w (h : w ∈ GT) => atoms_spec (ws := wsX0_step) B.pre w (List.mem_cons_of_mem _ h)
  have hown : s.vm.findClass RX0 = some m.cls := findClass_of_methodNamed B.named
  have hS : va_S (aP P 77) s.heap s.heap [] := va_S.rf
  have hl := lv_entry ([.ref (P 0), .int a1, .int a2, .int a3]) (n := 4) (Nat.le_of_ble_eq_true rfl)
  rw [lg_entry_eq]
  generalize (lg_sl ([.ref (P 0), .int a1, .int a2, .int a3]) ++ List.replicate (4 - (lg_sl ([.ref (P 0), .int a1, .int a2, .int a3])).length) Slot.unset).toArray = ls at hl ⊢
  have hl : lv_has ls 4 [(0, .ref (P 0)), (1, .int a1), (2, .int a2), (3, .int a3)] := hl
  exact b_ChipMap_step_0 hx hb hml hr hlk hgt hown hK hO hAO M a1 a2 a3 s.heap [] ls hl hP hD hS h
def q_Steps_empty_1  (M : Mm)  : Rs := lt' (M.1 69 0) fun x1 => lt' (stI M 69 (upd (M.1 69) 0 0)) fun M2 => some (M2, x1)
set_option maxHeartbeats 4000000 in
set_option maxRecDepth 20000 in
theorem b_Steps_empty_1_0 {p : Program} {l : Launch} {e : Env} {s s0 : State} {m : MethodId} {args : Array Value} {below : List Frame} {meth : Method} {c : Code} {D : va_G} {cI cZ cC cJ cA : ClassId} {P : Nat → Nat} {M' : Mm} {r' : Int32}  (hx : p.tables.exec = Jvm.exec) (hb : c.code = cX12_empty) (hml : c.maxLocals = 2) (hr : meth.sig.returnType = (some .int)) (hlk : meth.locks = false) (hgt : ∀ w ∈ GT, w.before args s = true) (hown : s.vm.findClass RX12 = some m.cls) (hK : va_K D vwCl [(cI, .int), (cZ, .boolean), (cC, .char), (cJ, .long), (cA, .array .int)] s) (hO : Old s0 s) (hAO : ∀ q, (aP P 77) q → s0.heap.size ≤ q)  : ∀ (M : Mm)  (H : Heap) (locs : List Loc) (ls : Array Slot), lv_has ls 2 [(0, .ref (P 69))] → va_P D vwCl ((wX cI cZ cC cJ cA P) M) H → va_D (aP P 77) ((wX cI cZ cC cJ cA P) M) → va_S (aP P 77) s.heap H locs → q_Steps_empty_1 M = some (M', r') → W p l e ({ frames := 0, cells := 0, slots := 0, locals := 0 }) s m args below meth c H locs 0 0 (MQ below (gQi D (aP P 77) ((wX cI cZ cC cJ cA P) M') r') args s 0 0 (aP P 77)) (F0 m 0 ls []) := by
  intro M H locs ls hl hP hD hS h
  unfold q_Steps_empty_1 at h
  refine lv_aload_n hx hb dX12_empty_0 rfl (lv_at hl 0 rfl) ?_
  refine va_get (D := D) (ci := 12) (v := .int (M.1 69 0)) (C := RX12) (T := TX12) (N := 4) hx hb hgt iwX12 hown hK hP 69 gX_69 rfl 0 (Nat.le_of_ble_eq_true rfl) (hgt _ wd_1_191) (fun _ h9 => h9) rfl dX12_empty_1 ?_
  refine lv_topi (fun x1 ex1 => ?_)
  have h := lt_o ex1 h
  refine lv_istore_n hx hb dX12_empty_4 rfl hl (Nat.le_of_ble_eq_true rfl) (lv' := [(1, .int x1), (0, .ref (P 69))]) rfl (fun ls hl => ?_)
  refine lv_aload_n hx hb dX12_empty_5 rfl (lv_at hl 1 rfl) ?_
  refine lv_iconst (v := 0) hx hb dX12_empty_6 (by decide) ?_
  refine pm_put (w := (wX cI cZ cC cJ cA P)) (D := D) (ci := 12) (x := 0) (ty := .int) (C := RX12) (T := TX12) (N := 4) hx hb hgt iwX12 tyX12 tyX12_ok nmX12 hown hK hP hD hS 69 gX_69 rfl 0 (Nat.le_of_ble_eq_true rfl) (hgt _ wd_1_191) (fun _ h9 => h9) rfl (by decide +kernel) rfl rfl (Nat.le_of_ble_eq_true rfl) (sX_69_0 _) dX12_empty_7 (fun M2 eM2 H locs hP hD hS => ?_)
  have h := lt_o eM2 h
  refine lv_iload_n hx hb dX12_empty_10 rfl (lv_at hl 0 rfl) ?_
  exact rt_i (w := (wX cI cZ cC cJ cA P)) hx hb hr hlk hP hD hS h dX12_empty_11
set_option maxHeartbeats 4000000 in
set_option maxRecDepth 20000 in
theorem z_Steps_empty_1 (l : Launch) (D : va_G) (cI cZ cC cJ cA : ClassId) (P : Nat → Nat) (s0 : State) (hAO : ∀ q, (aP P 77) q → s0.heap.size ≤ q) (M : Mm)  (M' : Mm) (r' : Int32) (h : q_Steps_empty_1 M = some (M', r')) : Met l yX12_empty wsX12_empty ({ frames := 0, cells := 0, slots := 0, locals := 0 }) (va_Pc [.ref (P 69)] (gPre s0 D [(cI, .int), (cZ, .boolean), (cC, .char), (cJ, .long), (cA, .array .int)] (aP P 77) ((wX cI cZ cC cJ cA P) M))) (gQi D (aP P 77) ((wX cI cZ cC cJ cA P) M') r') 0 0 (aP P 77) := by
  refine Met.ofW (cc := cX12_empty) (maxL := 2) (ret := (some .int)) (by decide) rfl ?_
  intro p e s m args below meth c s₁ B hml hv
  obtain ⟨rfl, hP, hK, hD, hO⟩ := hv
  have hx := B.exec
  have hb := B.bytes
  have hr := B.returns
  have hlk := B.notSynchronized
  have hgt := fun w (h : w ∈ GT) => atoms_spec (ws := wsX12_empty) B.pre w (List.mem_cons_of_mem _ h)
  have hown : s.vm.findClass RX12 = some m.cls := findClass_of_methodNamed B.named
  have hS : va_S (aP P 77) s.heap s.heap [] := va_S.rf
  have hl := lv_entry ([.ref (P 69)]) (n := 2) (Nat.le_of_ble_eq_true rfl)
  rw [lg_entry_eq]
  generalize (lg_sl ([.ref (P 69)]) ++ List.replicate (2 - (lg_sl ([.ref (P 69)])).length) Slot.unset).toArray = ls at hl ⊢
  have hl : lv_has ls 2 [(0, .ref (P 69))] := hl
  exact b_Steps_empty_1_0 hx hb hml hr hlk hgt hown hK hO hAO M s.heap [] ls hl hP hD hS h
def q_ChipMap_erase  (M : Mm)  : Rs := cal (q_Steps_empty_1 M) fun M1 r2 => some (M1, r2)
set_option maxHeartbeats 4000000 in
set_option maxRecDepth 20000 in
theorem b_ChipMap_erase_0 {p : Program} {l : Launch} {e : Env} {s s0 : State} {m : MethodId} {args : Array Value} {below : List Frame} {meth : Method} {c : Code} {D : va_G} {cI cZ cC cJ cA : ClassId} {P : Nat → Nat} {M' : Mm} {r' : Int32}  (hx : p.tables.exec = Jvm.exec) (hb : c.code = cX0_erase) (hml : c.maxLocals = 1) (hr : meth.sig.returnType = (some .int)) (hlk : meth.locks = false) (hgt : ∀ w ∈ GT, w.before args s = true) (hown : s.vm.findClass RX0 = some m.cls) (hK : va_K D vwCl [(cI, .int), (cZ, .boolean), (cC, .char), (cJ, .long), (cA, .array .int)] s) (hO : Old s0 s) (hAO : ∀ q, (aP P 77) q → s0.heap.size ≤ q)  : ∀ (M : Mm)  (H : Heap) (locs : List Loc) (ls : Array Slot), lv_has ls 1 [(0, .ref (P 0))] → va_P D vwCl ((wX cI cZ cC cJ cA P) M) H → va_D (aP P 77) ((wX cI cZ cC cJ cA P) M) → va_S (aP P 77) s.heap H locs → q_ChipMap_erase M = some (M', r') → W p l e ({ frames := 1, cells := 0, slots := 0, locals := 21 }) s m args below meth c H locs 0 0 (MQ below (gQi D (aP P 77) ((wX cI cZ cC cJ cA P) M') r') args s 0 0 (aP P 77)) (F0 m 0 ls []) := by
  intro M H locs ls hl hP hD hS h
  unfold q_ChipMap_erase at h
  refine lv_aload_n hx hb dX0_erase_0 rfl (lv_at hl 0 rfl) ?_
  refine va_get (D := D) (ci := 0) (v := .ref (P 69)) (C := RX0) (T := TX0) (N := 9) hx hb hgt iwX0 hown hK hP 0 gX_0 rfl 7 (Nat.le_of_ble_eq_true rfl) (hgt _ wd_2_24) (fun _ h9 => h9) rfl dX0_erase_1 ?_
  obtain ⟨M1, r2, hq, h⟩ := cal_o h
  refine cx_i (va_runV (As := []) (rest := []) ⟨hx, hb, hml, hown, hgt⟩ (z_Steps_empty_1 l D cI cZ cC cJ cA P s0 hAO M M1 r2 hq) (cwV 0 hgt (gV wd_3_16 wd_3_17 wd_3_18 wd_0_13 wd_3_19) rfl rfl rfl (by decide +kernel) ⟨Nat.le_of_ble_eq_true rfl, Nat.le_of_ble_eq_true rfl⟩) (prV hP hK hD hO hAO hS (va_recv hK hP (ci := 12) (q0 := 69) rfl gX_69)) rfl rfl hl.1 rfl (lv_room (Nat.le_of_ble_eq_true rfl)) dX0_erase_4 ⟨Nat.le_of_ble_eq_true rfl, Nat.le_of_ble_eq_true rfl⟩) hS (fun H locs hP hD hS => ?_)
  exact rt_i (w := (wX cI cZ cC cJ cA P)) hx hb hr hlk hP hD hS h dX0_erase_7
set_option maxHeartbeats 4000000 in
set_option maxRecDepth 20000 in
theorem z_ChipMap_erase (l : Launch) (D : va_G) (cI cZ cC cJ cA : ClassId) (P : Nat → Nat) (s0 : State) (hAO : ∀ q, (aP P 77) q → s0.heap.size ≤ q) (M : Mm)  (M' : Mm) (r' : Int32) (h : q_ChipMap_erase M = some (M', r')) : Met l yX0_erase wsX0_erase ({ frames := 1, cells := 0, slots := 0, locals := 21 }) (va_Pc [.ref (P 0)] (gPre s0 D [(cI, .int), (cZ, .boolean), (cC, .char), (cJ, .long), (cA, .array .int)] (aP P 77) ((wX cI cZ cC cJ cA P) M))) (gQi D (aP P 77) ((wX cI cZ cC cJ cA P) M') r') 0 0 (aP P 77) := by
  refine Met.ofW (cc := cX0_erase) (maxL := 1) (ret := (some .int)) (by decide) rfl ?_
  intro p e s m args below meth c s₁ B hml hv
  obtain ⟨rfl, hP, hK, hD, hO⟩ := hv
  have hx := B.exec
  have hb := B.bytes
  have hr := B.returns
  have hlk := B.notSynchronized
  have hgt := fun w (h : w ∈ GT) => atoms_spec (ws := wsX0_erase) B.pre w (List.mem_cons_of_mem _ h)
  have hown : s.vm.findClass RX0 = some m.cls := findClass_of_methodNamed B.named
  have hS : va_S (aP P 77) s.heap s.heap [] := va_S.rf
  have hl := lv_entry ([.ref (P 0)]) (n := 1) (Nat.le_of_ble_eq_true rfl)
  rw [lg_entry_eq]
  generalize (lg_sl ([.ref (P 0)]) ++ List.replicate (1 - (lg_sl ([.ref (P 0)])).length) Slot.unset).toArray = ls at hl ⊢
  have hl : lv_has ls 1 [(0, .ref (P 0))] := hl
  exact b_ChipMap_erase_0 hx hb hml hr hlk hgt hown hK hO hAO M s.heap [] ls hl hP hD hS h
def q_Mind_restart_1_2  : Nat → Mm → Int32 → Rs
  | 0, _, _ => none
  | n' + 1, M, v1 => if 16 ≤ v1 then (lt' (stI M 61 (upd (M.1 61) 2 0)) fun M1 => some (M1, 0)) else (ix v1 16 <| ix v1 16 <| ix v1 16 <| lt' (stI M 62 (upd (M.1 62) (v1 : Int32).toNatClampNeg ((M.1 28 (v1 : Int32).toNatClampNeg) &&& (M.1 29 (v1 : Int32).toNatClampNeg)))) fun M1 => q_Mind_restart_1_2 n' M1 (v1 + 1))
def q_Mind_restart_1  (M : Mm)  : Rs := q_Mind_restart_1_2 4000 M 0
set_option maxHeartbeats 4000000 in
set_option maxRecDepth 20000 in
theorem b_Mind_restart_1_2 {p : Program} {l : Launch} {e : Env} {s s0 : State} {m : MethodId} {args : Array Value} {below : List Frame} {meth : Method} {c : Code} {D : va_G} {cI cZ cC cJ cA : ClassId} {P : Nat → Nat} {M' : Mm} {r' : Int32}  (hx : p.tables.exec = Jvm.exec) (hb : c.code = cX8_restart) (hml : c.maxLocals = 2) (hr : meth.sig.returnType = none) (hlk : meth.locks = false) (hgt : ∀ w ∈ GT, w.before args s = true) (hown : s.vm.findClass RX8 = some m.cls) (hK : va_K D vwCl [(cI, .int), (cZ, .boolean), (cC, .char), (cJ, .long), (cA, .array .int)] s) (hO : Old s0 s) (hAO : ∀ q, (aP P 77) q → s0.heap.size ≤ q)  : ∀ (n' : Nat) (M : Mm) (v1 : Int32) (H : Heap) (locs : List Loc) (ls : Array Slot), lv_has ls 2 [(0, .ref (P 61)), (1, .int v1)] → va_P D vwCl ((wX cI cZ cC cJ cA P) M) H → va_D (aP P 77) ((wX cI cZ cC cJ cA P) M) → va_S (aP P 77) s.heap H locs → q_Mind_restart_1_2 n' M v1 = some (M', r') → W p l e ({ frames := 0, cells := 0, slots := 0, locals := 0 }) s m args below meth c H locs 0 0 (MQ below (gQv D (aP P 77) ((wX cI cZ cC cJ cA P) M')) args s 0 0 (aP P 77)) (F0 m 2 ls []) := by
  intro n'
  induction n' with
  | zero => exact fun _ _ _ _ _ _ _ _ _ h => (rs_n h).elim
  | succ n' ih =>
    intro M v1 H locs ls hl hP hD hS h
    rw [q_Mind_restart_1_2] at h
    refine lv_iload_n hx hb dX8_restart_2 rfl (lv_at hl 1 rfl) ?_
    refine lv_bipush (v := 16) hx hb dX8_restart_3 (by decide) ?_
    refine lv_icmp_ge hx hb dX8_restart_5 (tgt := 39) rfl (fun hc => ?_) (fun hc => ?_)
    · have h := br_T hc h
      refine lv_aload_n hx hb dX8_restart_39 rfl (lv_at hl 0 rfl) ?_
      refine lv_iconst (v := 0) hx hb dX8_restart_40 (by decide) ?_
      refine pm_put (w := (wX cI cZ cC cJ cA P)) (D := D) (ci := 8) (x := 0) (ty := .int) (C := RX8) (T := TX8) (N := 3) hx hb hgt iwX8 tyX8 tyX8_ok nmX8 hown hK hP hD hS 61 gX_61 rfl 2 (Nat.le_of_ble_eq_true rfl) (hgt _ wd_1_117) (fun _ h9 => h9) rfl (by decide +kernel) rfl rfl (Nat.le_of_ble_eq_true rfl) (sX_61_2 _) dX8_restart_41 (fun M1 eM1 H locs hP hD hS => ?_)
      have h := lt_o eM1 h
      exact rt_v (w := (wX cI cZ cC cJ cA P)) (r := r') hx hb hr hlk hP hD hS h dX8_restart_44
    · have h := br_F hc h
      refine lv_aload_n hx hb dX8_restart_8 rfl (lv_at hl 0 rfl) ?_
      refine va_get (D := D) (ci := 8) (v := .ref (P 62)) (C := RX8) (T := TX8) (N := 3) hx hb hgt iwX8 hown hK hP 61 gX_61 rfl 1 (Nat.le_of_ble_eq_true rfl) (hgt _ wd_1_113) (fun _ h9 => h9) rfl dX8_restart_9 ?_
      refine lv_iload_n hx hb dX8_restart_12 rfl (lv_at hl 1 rfl) ?_
      refine lv_aload_n hx hb dX8_restart_13 rfl (lv_at hl 0 rfl) ?_
      refine va_get (D := D) (ci := 8) (v := .ref (P 24)) (C := RX8) (T := TX8) (N := 3) hx hb hgt iwX8 hown hK hP 61 gX_61 rfl 0 (Nat.le_of_ble_eq_true rfl) (hgt _ wd_1_112) (fun _ h9 => h9) rfl dX8_restart_14 ?_
      refine va_get (D := D) (ci := 6) (v := .ref (P 28)) (C := RX6) (T := TX6) (N := 13) hx hb hgt iwX6 hown hK hP 24 gX_24 rfl 4 (Nat.le_of_ble_eq_true rfl) (hgt _ wd_1_17) (fun _ h9 => h9) rfl dX8_restart_17 ?_
      refine lv_iload_n hx hb dX8_restart_20 rfl (lv_at hl 1 rfl) ?_
      refine va_iald hx hb hK hP 28 0 gX_28 rfl (ix_l h) dX8_restart_21 ?_
      have h := ix_r h
      refine lv_aload_n hx hb dX8_restart_22 rfl (lv_at hl 0 rfl) ?_
      refine va_get (D := D) (ci := 8) (v := .ref (P 24)) (C := RX8) (T := TX8) (N := 3) hx hb hgt iwX8 hown hK hP 61 gX_61 rfl 0 (Nat.le_of_ble_eq_true rfl) (hgt _ wd_1_112) (fun _ h9 => h9) rfl dX8_restart_23 ?_
      refine va_get (D := D) (ci := 6) (v := .ref (P 29)) (C := RX6) (T := TX6) (N := 13) hx hb hgt iwX6 hown hK hP 24 gX_24 rfl 5 (Nat.le_of_ble_eq_true rfl) (hgt _ wd_1_20) (fun _ h9 => h9) rfl dX8_restart_26 ?_
      refine lv_iload_n hx hb dX8_restart_29 rfl (lv_at hl 1 rfl) ?_
      refine va_iald hx hb hK hP 29 0 gX_29 rfl (ix_l h) dX8_restart_30 ?_
      have h := ix_r h
      refine lv_iand hx hb dX8_restart_31 ?_
      refine pm_iast (w := (wX cI cZ cC cJ cA P)) hx hb hK hP hD hS 62 0 gX_62 rfl sX_62 (ix_l h) dX8_restart_32 (fun M1 eM1 H locs hP hD hS => ?_)
      have h := ix_r h
      have h := lt_o eM1 h
      refine lv_iinc (v := (v1 + 1)) hx hb dX8_restart_33 hl (k := 1) rfl rfl (Nat.le_of_ble_eq_true rfl) (lv' := [(1, .int (v1 + 1)), (0, .ref (P 61))]) rfl (fun ls hl => ?_)
      refine lv_goto hx hb dX8_restart_36 (tgt := 2) rfl ?_
      have hl := lv_sub hl [1, 0] (l' := [(0, .ref (P 61)), (1, .int (v1 + 1))]) rfl
      exact ih M1 (v1 + 1) H locs ls hl hP hD hS h
set_option maxHeartbeats 4000000 in
set_option maxRecDepth 20000 in
theorem b_Mind_restart_1_0 {p : Program} {l : Launch} {e : Env} {s s0 : State} {m : MethodId} {args : Array Value} {below : List Frame} {meth : Method} {c : Code} {D : va_G} {cI cZ cC cJ cA : ClassId} {P : Nat → Nat} {M' : Mm} {r' : Int32}  (hx : p.tables.exec = Jvm.exec) (hb : c.code = cX8_restart) (hml : c.maxLocals = 2) (hr : meth.sig.returnType = none) (hlk : meth.locks = false) (hgt : ∀ w ∈ GT, w.before args s = true) (hown : s.vm.findClass RX8 = some m.cls) (hK : va_K D vwCl [(cI, .int), (cZ, .boolean), (cC, .char), (cJ, .long), (cA, .array .int)] s) (hO : Old s0 s) (hAO : ∀ q, (aP P 77) q → s0.heap.size ≤ q)  : ∀ (M : Mm)  (H : Heap) (locs : List Loc) (ls : Array Slot), lv_has ls 2 [(0, .ref (P 61))] → va_P D vwCl ((wX cI cZ cC cJ cA P) M) H → va_D (aP P 77) ((wX cI cZ cC cJ cA P) M) → va_S (aP P 77) s.heap H locs → q_Mind_restart_1 M = some (M', r') → W p l e ({ frames := 0, cells := 0, slots := 0, locals := 0 }) s m args below meth c H locs 0 0 (MQ below (gQv D (aP P 77) ((wX cI cZ cC cJ cA P) M')) args s 0 0 (aP P 77)) (F0 m 0 ls []) := by
  intro M H locs ls hl hP hD hS h
  unfold q_Mind_restart_1 at h
  refine lv_iconst (v := 0) hx hb dX8_restart_0 (by decide) ?_
  refine lv_istore_n hx hb dX8_restart_1 rfl hl (Nat.le_of_ble_eq_true rfl) (lv' := [(1, .int 0), (0, .ref (P 61))]) rfl (fun ls hl => ?_)
  have hl := lv_sub hl [1, 0] (l' := [(0, .ref (P 61)), (1, .int 0)]) rfl
  exact b_Mind_restart_1_2 hx hb hml hr hlk hgt hown hK hO hAO 4000 M 0 H _ ls hl hP hD hS h
set_option maxHeartbeats 4000000 in
set_option maxRecDepth 20000 in
theorem z_Mind_restart_1 (l : Launch) (D : va_G) (cI cZ cC cJ cA : ClassId) (P : Nat → Nat) (s0 : State) (hAO : ∀ q, (aP P 77) q → s0.heap.size ≤ q) (M : Mm)  (M' : Mm) (r' : Int32) (h : q_Mind_restart_1 M = some (M', r')) : Met l yX8_restart wsX8_restart ({ frames := 0, cells := 0, slots := 0, locals := 0 }) (va_Pc [.ref (P 61)] (gPre s0 D [(cI, .int), (cZ, .boolean), (cC, .char), (cJ, .long), (cA, .array .int)] (aP P 77) ((wX cI cZ cC cJ cA P) M))) (gQv D (aP P 77) ((wX cI cZ cC cJ cA P) M')) 0 0 (aP P 77) := by
  refine Met.ofW (cc := cX8_restart) (maxL := 2) (ret := none) (by decide) rfl ?_
  intro p e s m args below meth c s₁ B hml hv
  obtain ⟨rfl, hP, hK, hD, hO⟩ := hv
  have hx := B.exec
  have hb := B.bytes
  have hr := B.returns
  have hlk := B.notSynchronized
  have hgt := fun w (h : w ∈ GT) => atoms_spec (ws := wsX8_restart) B.pre w (List.mem_cons_of_mem _ h)
  have hown : s.vm.findClass RX8 = some m.cls := findClass_of_methodNamed B.named
  have hS : va_S (aP P 77) s.heap s.heap [] := va_S.rf
  have hl := lv_entry ([.ref (P 61)]) (n := 2) (Nat.le_of_ble_eq_true rfl)
  rw [lg_entry_eq]
  generalize (lg_sl ([.ref (P 61)]) ++ List.replicate (2 - (lg_sl ([.ref (P 61)])).length) Slot.unset).toArray = ls at hl ⊢
  have hl : lv_has ls 2 [(0, .ref (P 61))] := hl
  exact b_Mind_restart_1_0 hx hb hml hr hlk hgt hown hK hO hAO M s.heap [] ls hl hP hD hS h
end
