section
def q_Reader_readRules_2  : Nat → Mm → Int32 → Rs
  | 0, _, _ => none
  | n' + 1, M, v1 => if 12 ≤ v1 then (some (M, 1)) else (if (M.1 21 3) < (M.1 21 2) then (cal (q_Reader_readRule M v1) fun M1 r2 => if r2 = 0 then (some (M1, 0)) else (lt' (stI M1 14 (upd (M1.1 14) 0 (v1 + 1))) fun M3 => q_Reader_readRules_2 n' M3 (v1 + 1))) else (some (M, 1)))
def q_Reader_readRules  (M : Mm)  : Rs := q_Reader_readRules_2 4000 M 0
set_option maxHeartbeats 4000000 in
set_option maxRecDepth 20000 in
theorem b_Reader_readRules_2 {p : Program} {l : Launch} {e : Env} {s s0 : State} {m : MethodId} {args : Array Value} {below : List Frame} {meth : Method} {c : Code} {D : va_G} {cI cZ cC cJ cA : ClassId} {P : Nat → Nat} {M' : Mm} {r' : Int32}  {qS : Nat → Nat} (hx : p.tables.exec = Jvm.exec) (hb : c.code = cX10_readRules) (hml : c.maxLocals = 2) (hr : meth.sig.returnType = (some .boolean)) (hlk : meth.locks = false) (hgt : ∀ w ∈ GT, w.before args s = true) (hown : s.vm.findClass RX10 = some m.cls) (hK : va_K D vwCl [(cI, .int), (cZ, .boolean), (cC, .char), (cJ, .long), (cA, .array .int)] s) (hO : Old s0 s) (hAO : ∀ q, (aP P 77) q → s0.heap.size ≤ q) (hE : xE s0 qS)  : ∀ (n' : Nat) (M : Mm) (v1 : Int32) (H : Heap) (locs : List Loc) (ls : Array Slot), lv_has ls 2 [(0, .ref (P 21)), (1, .int v1)] → va_P D vwCl ((wX cI cZ cC cJ cA P) M) H → va_D (aP P 77) ((wX cI cZ cC cJ cA P) M) → va_S (aP P 77) s.heap H locs → q_Reader_readRules_2 n' M v1 = some (M', r') → W p l e ({ frames := 6, cells := 0, slots := 0, locals := 135 }) s m args below meth c H locs 0 0 (MQ below (gQi D (aP P 77) ((wX cI cZ cC cJ cA P) M') r') args s 0 0 (aP P 77)) (F0 m 2 ls []) := by
  intro n'
  induction n' with
  | zero => exact fun _ _ _ _ _ _ _ _ _ h => (rs_n h).elim
  | succ n' ih =>
    intro M v1 H locs ls hl hP hD hS h
    rw [q_Reader_readRules_2] at h
    refine lv_iload_n hx hb dX10_readRules_2 rfl (lv_at hl 1 rfl) ?_
    refine lv_bipush (v := 12) hx hb dX10_readRules_3 (by decide) ?_
    refine lv_icmp_ge hx hb dX10_readRules_5 (tgt := 51) rfl (fun hc => ?_) (fun hc => ?_)
    · have h := br_T hc h
      refine lv_iconst (v := 1) hx hb dX10_readRules_51 (by decide) ?_
      exact rt_z (w := (wX cI cZ cC cJ cA P)) hx hb hr hlk rfl hP hD hS h dX10_readRules_52
    · have h := br_F hc h
      refine lv_aload_n hx hb dX10_readRules_8 rfl (lv_at hl 0 rfl) ?_
      refine va_get (D := D) (ci := 10) (v := .int (M.1 21 3)) (C := RX10) (T := TX10) (N := 4) hx hb hgt iwX10 hown hK hP 21 gX_21 rfl 3 (Nat.le_of_ble_eq_true rfl) (hgt _ wd_0_191) (fun _ h9 => h9) rfl dX10_readRules_9 ?_
      refine lv_aload_n hx hb dX10_readRules_12 rfl (lv_at hl 0 rfl) ?_
      refine va_get (D := D) (ci := 10) (v := .int (M.1 21 2)) (C := RX10) (T := TX10) (N := 4) hx hb hgt iwX10 hown hK hP 21 gX_21 rfl 2 (Nat.le_of_ble_eq_true rfl) (hgt _ wd_0_189) (fun _ h9 => h9) rfl dX10_readRules_13 ?_
      refine lv_icmp_lt hx hb dX10_readRules_16 (tgt := 22) rfl (fun hc => ?_) (fun hc => ?_)
      · have h := br_T hc h
        refine lv_aload_n hx hb dX10_readRules_22 rfl (lv_at hl 0 rfl) ?_
        refine lv_iload_n hx hb dX10_readRules_23 rfl (lv_at hl 1 rfl) ?_
        obtain ⟨M1, r2, hq, h⟩ := cal_o h
        refine cx_i (va_runV (As := [.int v1]) (rest := []) ⟨hx, hb, hml, hown, hgt⟩ (z_Reader_readRule l D cI cZ cC cJ cA P s0 hAO qS hE M v1 M1 r2 hq) (cwV 1 hgt (gV wd_4_29 wd_4_31 sl__ChipMap_Reader____ChipMap_Reader___readRule____I_Z_____ChipMap_Reader___readRule____I_Z__ wd_0_4 wd_4_32) rfl rfl rfl (by decide +kernel) ⟨Nat.le_of_ble_eq_true rfl, Nat.le_of_ble_eq_true rfl⟩) (prV hP hK hD hO hAO hS (va_recv hK hP (ci := 10) (q0 := 21) rfl gX_21)) rfl rfl hl.1 rfl (lv_room (Nat.le_of_ble_eq_true rfl)) dX10_readRules_24 ⟨Nat.le_of_ble_eq_true rfl, Nat.le_of_ble_eq_true rfl⟩) hS (fun H locs hP hD hS => ?_)
        refine lv_if_ne hx hb dX10_readRules_27 (tgt := 32) rfl (fun hc => ?_) (fun hc => ?_)
        · have h := br_F hc h
          refine lv_aload_n hx hb dX10_readRules_32 rfl (lv_at hl 0 rfl) ?_
          refine va_get (D := D) (ci := 10) (v := .ref (P 1)) (C := RX10) (T := TX10) (N := 4) hx hb hgt iwX10 hown hK hP 21 gX_21 rfl 0 (Nat.le_of_ble_eq_true rfl) (hgt _ wd_0_187) (fun _ h9 => h9) rfl dX10_readRules_33 ?_
          refine va_get (D := D) (ci := 4) (v := .ref (P 14)) (C := RX4) (T := TX4) (N := 15) hx hb hgt iwX4 hown hK hP 1 gX_1 rfl 14 (Nat.le_of_ble_eq_true rfl) (hgt _ wd_0_148) (fun _ h9 => h9) rfl dX10_readRules_36 ?_
          refine lv_iload_n hx hb dX10_readRules_39 rfl (lv_at hl 1 rfl) ?_
          refine lv_iconst (v := 1) hx hb dX10_readRules_40 (by decide) ?_
          refine lv_iadd hx hb dX10_readRules_41 ?_
          refine pm_put (w := (wX cI cZ cC cJ cA P)) (D := D) (ci := 11) (x := (v1 + 1)) (ty := .int) (C := RX11) (T := TX11) (N := 7) hx hb hgt iwX11 tyX11 tyX11_ok nmX11 hown hK hP hD hS 14 gX_14 rfl 0 (Nat.le_of_ble_eq_true rfl) (hgt _ wd_0_52) (fun _ h9 => h9) rfl (by decide +kernel) rfl rfl (Nat.le_of_ble_eq_true rfl) (sX_14_0 _) dX10_readRules_42 (fun M3 eM3 H locs hP hD hS => ?_)
          have h := lt_o eM3 h
          refine lv_iinc (v := (v1 + 1)) hx hb dX10_readRules_45 hl (k := 1) rfl rfl (Nat.le_of_ble_eq_true rfl) (lv' := [(1, .int (v1 + 1)), (0, .ref (P 21))]) rfl (fun ls hl => ?_)
          refine lv_goto hx hb dX10_readRules_48 (tgt := 2) rfl ?_
          have hl := lv_sub hl [1, 0] (l' := [(0, .ref (P 21)), (1, .int (v1 + 1))]) rfl
          exact ih M3 (v1 + 1) H locs ls hl hP hD hS h
        · have h := br_T hc h
          refine lv_iconst (v := 0) hx hb dX10_readRules_30 (by decide) ?_
          exact rt_z (w := (wX cI cZ cC cJ cA P)) hx hb hr hlk rfl hP hD hS h dX10_readRules_31
      · have h := br_F hc h
        refine lv_goto hx hb dX10_readRules_19 (tgt := 51) rfl ?_
        refine lv_iconst (v := 1) hx hb dX10_readRules_51 (by decide) ?_
        exact rt_z (w := (wX cI cZ cC cJ cA P)) hx hb hr hlk rfl hP hD hS h dX10_readRules_52
set_option maxHeartbeats 4000000 in
set_option maxRecDepth 20000 in
theorem b_Reader_readRules_0 {p : Program} {l : Launch} {e : Env} {s s0 : State} {m : MethodId} {args : Array Value} {below : List Frame} {meth : Method} {c : Code} {D : va_G} {cI cZ cC cJ cA : ClassId} {P : Nat → Nat} {M' : Mm} {r' : Int32}  {qS : Nat → Nat} (hx : p.tables.exec = Jvm.exec) (hb : c.code = cX10_readRules) (hml : c.maxLocals = 2) (hr : meth.sig.returnType = (some .boolean)) (hlk : meth.locks = false) (hgt : ∀ w ∈ GT, w.before args s = true) (hown : s.vm.findClass RX10 = some m.cls) (hK : va_K D vwCl [(cI, .int), (cZ, .boolean), (cC, .char), (cJ, .long), (cA, .array .int)] s) (hO : Old s0 s) (hAO : ∀ q, (aP P 77) q → s0.heap.size ≤ q) (hE : xE s0 qS)  : ∀ (M : Mm)  (H : Heap) (locs : List Loc) (ls : Array Slot), lv_has ls 2 [(0, .ref (P 21))] → va_P D vwCl ((wX cI cZ cC cJ cA P) M) H → va_D (aP P 77) ((wX cI cZ cC cJ cA P) M) → va_S (aP P 77) s.heap H locs → q_Reader_readRules M = some (M', r') → W p l e ({ frames := 6, cells := 0, slots := 0, locals := 135 }) s m args below meth c H locs 0 0 (MQ below (gQi D (aP P 77) ((wX cI cZ cC cJ cA P) M') r') args s 0 0 (aP P 77)) (F0 m 0 ls []) := by
  intro M H locs ls hl hP hD hS h
  unfold q_Reader_readRules at h
  refine lv_iconst (v := 0) hx hb dX10_readRules_0 (by decide) ?_
  refine lv_istore_n hx hb dX10_readRules_1 rfl hl (Nat.le_of_ble_eq_true rfl) (lv' := [(1, .int 0), (0, .ref (P 21))]) rfl (fun ls hl => ?_)
  have hl := lv_sub hl [1, 0] (l' := [(0, .ref (P 21)), (1, .int 0)]) rfl
  exact b_Reader_readRules_2 hx hb hml hr hlk hgt hown hK hO hAO hE 4000 M 0 H _ ls hl hP hD hS h
set_option maxHeartbeats 4000000 in
set_option maxRecDepth 20000 in
theorem z_Reader_readRules (l : Launch) (D : va_G) (cI cZ cC cJ cA : ClassId) (P : Nat → Nat) (s0 : State) (hAO : ∀ q, (aP P 77) q → s0.heap.size ≤ q) (qS : Nat → Nat) (hE : xE s0 qS) (M : Mm)  (M' : Mm) (r' : Int32) (h : q_Reader_readRules M = some (M', r')) : Met l yX10_readRules wsX10_readRules ({ frames := 6, cells := 0, slots := 0, locals := 135 }) (va_Pc [.ref (P 21)] (gPre s0 D [(cI, .int), (cZ, .boolean), (cC, .char), (cJ, .long), (cA, .array .int)] (aP P 77) ((wX cI cZ cC cJ cA P) M))) (gQi D (aP P 77) ((wX cI cZ cC cJ cA P) M') r') 0 0 (aP P 77) := by
  refine Met.ofW (cc := cX10_readRules) (maxL := 2) (ret := (some .boolean)) (by decide) rfl ?_
  intro p e s m args below meth c s₁ B hml hv
  obtain ⟨rfl, hP, hK, hD, hO⟩ := hv
  have hx := B.exec
  have hb := B.bytes
  have hr := B.returns
  have hlk := B.notSynchronized
  have hgt := fun w (h : w ∈ GT) => atoms_spec (ws := wsX10_readRules) B.pre w (List.mem_cons_of_mem _ h)
  have hown : s.vm.findClass RX10 = some m.cls := findClass_of_methodNamed B.named
  have hS : va_S (aP P 77) s.heap s.heap [] := va_S.rf
  have hl := lv_entry ([.ref (P 21)]) (n := 2) (Nat.le_of_ble_eq_true rfl)
  rw [lg_entry_eq]
  generalize (lg_sl ([.ref (P 21)]) ++ List.replicate (2 - (lg_sl ([.ref (P 21)])).length) Slot.unset).toArray = ls at hl ⊢
  have hl : lv_has ls 2 [(0, .ref (P 21))] := hl
  exact b_Reader_readRules_0 hx hb hml hr hlk hgt hown hK hO hAO hE M s.heap [] ls hl hP hD hS h
def q_Reader_readAll_42  (M : Mm) (t0 : Int32) : Rs := lt' (stI M 21 (upd (M.1 21) 2 0)) fun M1 => bz t0 (some (M1, t0))
def q_Reader_readAll_41  (M : Mm)  : Rs := q_Reader_readAll_42 M 0
def q_Reader_readAll  (M : Mm)  : Rs := cal (q_Draft_clear M) fun M1 r2 => lt' (stI M1 21 (upd (M1.1 21) 3 0)) fun M3 => cal (q_Reader_readRegisters M3) fun M4 r5 => if r5 = 0 then (q_Reader_readAll_41 M4) else (cal (q_Reader_readRules M4) fun M6 r7 => if r7 = 0 then (q_Reader_readAll_41 M6) else (if (M6.1 21 3) = (M6.1 21 2) then (q_Reader_readAll_42 M6 1) else (q_Reader_readAll_41 M6)))
set_option maxHeartbeats 4000000 in
set_option maxRecDepth 20000 in
theorem b_Reader_readAll_42 {p : Program} {l : Launch} {e : Env} {s s0 : State} {m : MethodId} {args : Array Value} {below : List Frame} {meth : Method} {c : Code} {D : va_G} {cI cZ cC cJ cA : ClassId} {P : Nat → Nat} {M' : Mm} {r' : Int32}  {qS : Nat → Nat} (hx : p.tables.exec = Jvm.exec) (hb : c.code = cX10_readAll) (hml : c.maxLocals = 2) (hr : meth.sig.returnType = (some .boolean)) (hlk : meth.locks = false) (hgt : ∀ w ∈ GT, w.before args s = true) (hown : s.vm.findClass RX10 = some m.cls) (hK : va_K D vwCl [(cI, .int), (cZ, .boolean), (cC, .char), (cJ, .long), (cA, .array .int)] s) (hO : Old s0 s) (hAO : ∀ q, (aP P 77) q → s0.heap.size ≤ q) (hE : xE s0 qS)  : ∀ (M : Mm) (t0 : Int32) (H : Heap) (locs : List Loc) (ls : Array Slot), lv_has ls 2 [(0, .ref (P 21))] → va_P D vwCl ((wX cI cZ cC cJ cA P) M) H → va_D (aP P 77) ((wX cI cZ cC cJ cA P) M) → va_S (aP P 77) s.heap H locs → q_Reader_readAll_42 M t0 = some (M', r') → W p l e ({ frames := 8, cells := 0, slots := 0, locals := 178 }) s m args below meth c H locs 0 0 (MQ below (gQi D (aP P 77) ((wX cI cZ cC cJ cA P) M') r') args s 0 0 (aP P 77)) (F0 m 42 ls [.int t0]) := by
  intro M t0 H locs ls hl hP hD hS h
  unfold q_Reader_readAll_42 at h
  refine lv_istore_n hx hb dX10_readAll_42 rfl hl (Nat.le_of_ble_eq_true rfl) (lv' := [(1, .int t0), (0, .ref (P 21))]) rfl (fun ls hl => ?_)
  refine lv_aload_n hx hb dX10_readAll_43 rfl (lv_at hl 1 rfl) ?_
  refine lv_iconst (v := 0) hx hb dX10_readAll_44 (by decide) ?_
  refine pm_put (w := (wX cI cZ cC cJ cA P)) (D := D) (ci := 10) (x := 0) (ty := .int) (C := RX10) (T := TX10) (N := 4) hx hb hgt iwX10 tyX10 tyX10_ok nmX10 hown hK hP hD hS 21 gX_21 rfl 2 (Nat.le_of_ble_eq_true rfl) (hgt _ wd_0_189) (fun _ h9 => h9) rfl (by decide +kernel) rfl rfl (Nat.le_of_ble_eq_true rfl) (sX_21_2 _) dX10_readAll_45 (fun M1 eM1 H locs hP hD hS => ?_)
  have h := lt_o eM1 h
  refine lv_iload_n hx hb dX10_readAll_48 rfl (lv_at hl 0 rfl) ?_
  exact rt_z (w := (wX cI cZ cC cJ cA P)) hx hb hr hlk (bz_l h) hP hD hS (bz_r h) dX10_readAll_49
set_option maxHeartbeats 4000000 in
set_option maxRecDepth 20000 in
theorem b_Reader_readAll_41 {p : Program} {l : Launch} {e : Env} {s s0 : State} {m : MethodId} {args : Array Value} {below : List Frame} {meth : Method} {c : Code} {D : va_G} {cI cZ cC cJ cA : ClassId} {P : Nat → Nat} {M' : Mm} {r' : Int32}  {qS : Nat → Nat} (hx : p.tables.exec = Jvm.exec) (hb : c.code = cX10_readAll) (hml : c.maxLocals = 2) (hr : meth.sig.returnType = (some .boolean)) (hlk : meth.locks = false) (hgt : ∀ w ∈ GT, w.before args s = true) (hown : s.vm.findClass RX10 = some m.cls) (hK : va_K D vwCl [(cI, .int), (cZ, .boolean), (cC, .char), (cJ, .long), (cA, .array .int)] s) (hO : Old s0 s) (hAO : ∀ q, (aP P 77) q → s0.heap.size ≤ q) (hE : xE s0 qS)  : ∀ (M : Mm)  (H : Heap) (locs : List Loc) (ls : Array Slot), lv_has ls 2 [(0, .ref (P 21))] → va_P D vwCl ((wX cI cZ cC cJ cA P) M) H → va_D (aP P 77) ((wX cI cZ cC cJ cA P) M) → va_S (aP P 77) s.heap H locs → q_Reader_readAll_41 M = some (M', r') → W p l e ({ frames := 8, cells := 0, slots := 0, locals := 178 }) s m args below meth c H locs 0 0 (MQ below (gQi D (aP P 77) ((wX cI cZ cC cJ cA P) M') r') args s 0 0 (aP P 77)) (F0 m 41 ls []) := by
  intro M H locs ls hl hP hD hS h
  unfold q_Reader_readAll_41 at h
  refine lv_iconst (v := 0) hx hb dX10_readAll_41 (by decide) ?_
  have hl := lv_sub hl [0] (l' := [(0, .ref (P 21))]) rfl
  exact b_Reader_readAll_42 hx hb hml hr hlk hgt hown hK hO hAO hE M 0 H _ ls hl hP hD hS h
set_option maxHeartbeats 4000000 in
set_option maxRecDepth 20000 in
theorem b_Reader_readAll_0 {p : Program} {l : Launch} {e : Env} {s s0 : State} {m : MethodId} {args : Array Value} {below : List Frame} {meth : Method} {c : Code} {D : va_G} {cI cZ cC cJ cA : ClassId} {P : Nat → Nat} {M' : Mm} {r' : Int32}  {qS : Nat → Nat} (hx : p.tables.exec = Jvm.exec) (hb : c.code = cX10_readAll) (hml : c.maxLocals = 2) (hr : meth.sig.returnType = (some .boolean)) (hlk : meth.locks = false) (hgt : ∀ w ∈ GT, w.before args s = true) (hown : s.vm.findClass RX10 = some m.cls) (hK : va_K D vwCl [(cI, .int), (cZ, .boolean), (cC, .char), (cJ, .long), (cA, .array .int)] s) (hO : Old s0 s) (hAO : ∀ q, (aP P 77) q → s0.heap.size ≤ q) (hE : xE s0 qS)  : ∀ (M : Mm)  (H : Heap) (locs : List Loc) (ls : Array Slot), lv_has ls 2 [(0, .ref (P 21))] → va_P D vwCl ((wX cI cZ cC cJ cA P) M) H → va_D (aP P 77) ((wX cI cZ cC cJ cA P) M) → va_S (aP P 77) s.heap H locs → q_Reader_readAll M = some (M', r') → W p l e ({ frames := 8, cells := 0, slots := 0, locals := 178 }) s m args below meth c H locs 0 0 (MQ below (gQi D (aP P 77) ((wX cI cZ cC cJ cA P) M') r') args s 0 0 (aP P 77)) (F0 m 0 ls []) := by
  intro M H locs ls hl hP hD hS h
  unfold q_Reader_readAll at h
  refine lv_aload_n hx hb dX10_readAll_0 rfl (lv_at hl 0 rfl) ?_
  refine va_get (D := D) (ci := 10) (v := .ref (P 1)) (C := RX10) (T := TX10) (N := 4) hx hb hgt iwX10 hown hK hP 21 gX_21 rfl 0 (Nat.le_of_ble_eq_true rfl) (hgt _ wd_0_187) (fun _ h9 => h9) rfl dX10_readAll_1 ?_
  obtain ⟨M1, r2, hq, h⟩ := cal_o h
  refine cx_v (va_runV (As := []) (rest := []) ⟨hx, hb, hml, hown, hgt⟩ (z_Draft_clear l D cI cZ cC cJ cA P s0 hAO M M1 r2 hq) (cwV 0 hgt (gV wd_3_142 wd_3_143 wd_3_144 wd_0_2 wd_3_145) rfl rfl rfl (by decide +kernel) ⟨Nat.le_of_ble_eq_true rfl, Nat.le_of_ble_eq_true rfl⟩) (prV hP hK hD hO hAO hS (va_recv hK hP (ci := 4) (q0 := 1) rfl gX_1)) rfl rfl hl.1 rfl (lv_room (Nat.le_of_ble_eq_true rfl)) dX10_readAll_4 ⟨Nat.le_of_ble_eq_true rfl, Nat.le_of_ble_eq_true rfl⟩) hS (fun H locs hP hD hS => ?_)
  refine lv_aload_n hx hb dX10_readAll_7 rfl (lv_at hl 0 rfl) ?_
  refine lv_iconst (v := 0) hx hb dX10_readAll_8 (by decide) ?_
  refine pm_put (w := (wX cI cZ cC cJ cA P)) (D := D) (ci := 10) (x := 0) (ty := .int) (C := RX10) (T := TX10) (N := 4) hx hb hgt iwX10 tyX10 tyX10_ok nmX10 hown hK hP hD hS 21 gX_21 rfl 3 (Nat.le_of_ble_eq_true rfl) (hgt _ wd_0_191) (fun _ h9 => h9) rfl (by decide +kernel) rfl rfl (Nat.le_of_ble_eq_true rfl) (sX_21_3 _) dX10_readAll_9 (fun M3 eM3 H locs hP hD hS => ?_)
  have h := lt_o eM3 h
  refine lv_aload_n hx hb dX10_readAll_12 rfl (lv_at hl 0 rfl) ?_
  obtain ⟨M4, r5, hq, h⟩ := cal_o h
  refine cx_i (va_runV (As := []) (rest := []) ⟨hx, hb, hml, hown, hgt⟩ (z_Reader_readRegisters l D cI cZ cC cJ cA P s0 hAO qS hE M3 M4 r5 hq) (cwV 0 hgt (gV wd_3_146 wd_3_148 sl__ChipMap_Reader____ChipMap_Reader___readRegisters_____Z_____ChipMap_Reader___readRegisters_____Z__ wd_0_4 wd_3_149) rfl rfl rfl (by decide +kernel) ⟨Nat.le_of_ble_eq_true rfl, Nat.le_of_ble_eq_true rfl⟩) (prV hP hK hD hO hAO hS (va_recv hK hP (ci := 10) (q0 := 21) rfl gX_21)) rfl rfl hl.1 rfl (lv_room (Nat.le_of_ble_eq_true rfl)) dX10_readAll_13 ⟨Nat.le_of_ble_eq_true rfl, Nat.le_of_ble_eq_true rfl⟩) hS (fun H locs hP hD hS => ?_)
  refine lv_if_eq hx hb dX10_readAll_16 (tgt := 41) rfl (fun hc => ?_) (fun hc => ?_)
  · have h := br_T hc h
    have hl := lv_sub hl [0] (l' := [(0, .ref (P 21))]) rfl
    exact b_Reader_readAll_41 hx hb hml hr hlk hgt hown hK hO hAO hE M4 H _ ls hl hP hD hS h
  · have h := br_F hc h
    refine lv_aload_n hx hb dX10_readAll_19 rfl (lv_at hl 0 rfl) ?_
    obtain ⟨M6, r7, hq, h⟩ := cal_o h
    refine cx_i (va_runV (As := []) (rest := []) ⟨hx, hb, hml, hown, hgt⟩ (z_Reader_readRules l D cI cZ cC cJ cA P s0 hAO qS hE M4 M6 r7 hq) (cwV 0 hgt (gV wd_4_25 wd_4_27 sl__ChipMap_Reader____ChipMap_Reader___readRules_____Z_____ChipMap_Reader___readRules_____Z__ wd_0_4 wd_4_28) rfl rfl rfl (by decide +kernel) ⟨Nat.le_of_ble_eq_true rfl, Nat.le_of_ble_eq_true rfl⟩) (prV hP hK hD hO hAO hS (va_recv hK hP (ci := 10) (q0 := 21) rfl gX_21)) rfl rfl hl.1 rfl (lv_room (Nat.le_of_ble_eq_true rfl)) dX10_readAll_20 ⟨Nat.le_of_ble_eq_true rfl, Nat.le_of_ble_eq_true rfl⟩) hS (fun H locs hP hD hS => ?_)
    refine lv_if_eq hx hb dX10_readAll_23 (tgt := 41) rfl (fun hc => ?_) (fun hc => ?_)
    · have h := br_T hc h
      have hl := lv_sub hl [0] (l' := [(0, .ref (P 21))]) rfl
      exact b_Reader_readAll_41 hx hb hml hr hlk hgt hown hK hO hAO hE M6 H _ ls hl hP hD hS h
    · have h := br_F hc h
      refine lv_aload_n hx hb dX10_readAll_26 rfl (lv_at hl 0 rfl) ?_
      refine va_get (D := D) (ci := 10) (v := .int (M6.1 21 3)) (C := RX10) (T := TX10) (N := 4) hx hb hgt iwX10 hown hK hP 21 gX_21 rfl 3 (Nat.le_of_ble_eq_true rfl) (hgt _ wd_0_191) (fun _ h9 => h9) rfl dX10_readAll_27 ?_
      refine lv_aload_n hx hb dX10_readAll_30 rfl (lv_at hl 0 rfl) ?_
      refine va_get (D := D) (ci := 10) (v := .int (M6.1 21 2)) (C := RX10) (T := TX10) (N := 4) hx hb hgt iwX10 hown hK hP 21 gX_21 rfl 2 (Nat.le_of_ble_eq_true rfl) (hgt _ wd_0_189) (fun _ h9 => h9) rfl dX10_readAll_31 ?_
      refine lv_icmp_ne hx hb dX10_readAll_34 (tgt := 41) rfl (fun hc => ?_) (fun hc => ?_)
      · have h := br_F hc h
        have hl := lv_sub hl [0] (l' := [(0, .ref (P 21))]) rfl
        exact b_Reader_readAll_41 hx hb hml hr hlk hgt hown hK hO hAO hE M6 H _ ls hl hP hD hS h
      · have h := br_T hc h
        refine lv_iconst (v := 1) hx hb dX10_readAll_37 (by decide) ?_
        refine lv_goto hx hb dX10_readAll_38 (tgt := 42) rfl ?_
        have hl := lv_sub hl [0] (l' := [(0, .ref (P 21))]) rfl
        exact b_Reader_readAll_42 hx hb hml hr hlk hgt hown hK hO hAO hE M6 1 H _ ls hl hP hD hS h
set_option maxHeartbeats 4000000 in
set_option maxRecDepth 20000 in
theorem z_Reader_readAll (l : Launch) (D : va_G) (cI cZ cC cJ cA : ClassId) (P : Nat → Nat) (s0 : State) (hAO : ∀ q, (aP P 77) q → s0.heap.size ≤ q) (qS : Nat → Nat) (hE : xE s0 qS) (M : Mm)  (M' : Mm) (r' : Int32) (h : q_Reader_readAll M = some (M', r')) : Met l yX10_readAll wsX10_readAll ({ frames := 8, cells := 0, slots := 0, locals := 178 }) (va_Pc [.ref (P 21)] (gPre s0 D [(cI, .int), (cZ, .boolean), (cC, .char), (cJ, .long), (cA, .array .int)] (aP P 77) ((wX cI cZ cC cJ cA P) M))) (gQi D (aP P 77) ((wX cI cZ cC cJ cA P) M') r') 0 0 (aP P 77) := by
  refine Met.ofW (cc := cX10_readAll) (maxL := 2) (ret := (some .boolean)) (by decide) rfl ?_
  intro p e s m args below meth c s₁ B hml hv
  obtain ⟨rfl, hP, hK, hD, hO⟩ := hv
  have hx := B.exec
  have hb := B.bytes
  have hr := B.returns
  have hlk := B.notSynchronized
  have hgt := fun w (h : w ∈ GT) => atoms_spec (ws := wsX10_readAll) B.pre w (List.mem_cons_of_mem _ h)
  have hown : s.vm.findClass RX10 = some m.cls := findClass_of_methodNamed B.named
  have hS : va_S (aP P 77) s.heap s.heap [] := va_S.rf
  have hl := lv_entry ([.ref (P 21)]) (n := 2) (Nat.le_of_ble_eq_true rfl)
  rw [lg_entry_eq]
  generalize (lg_sl ([.ref (P 21)]) ++ List.replicate (2 - (lg_sl ([.ref (P 21)])).length) Slot.unset).toArray = ls at hl ⊢
  have hl : lv_has ls 2 [(0, .ref (P 21))] := hl
  exact b_Reader_readAll_0 hx hb hml hr hlk hgt hown hK hO hAO hE M s.heap [] ls hl hP hD hS h
def q_Draft_rowOf_2  : Nat → Mm → Int32 → Int32 → Rs
  | 0, _, _, _ => none
  | n' + 1, M, v1, v2 => if (M.1 1 6) ≤ v2 then (some (M, (-1))) else (ix v2 128 <| if (M.1 7 (v2 : Int32).toNatClampNeg) = v1 then (some (M, v2)) else (q_Draft_rowOf_2 n' M v1 (v2 + 1)))
def q_Draft_rowOf  (M : Mm) (a1 : Int32) : Rs := q_Draft_rowOf_2 4000 M a1 0
set_option maxHeartbeats 4000000 in
set_option maxRecDepth 20000 in
theorem b_Draft_rowOf_2 {p : Program} {l : Launch} {e : Env} {s s0 : State} {m : MethodId} {args : Array Value} {below : List Frame} {meth : Method} {c : Code} {D : va_G} {cI cZ cC cJ cA : ClassId} {P : Nat → Nat} {M' : Mm} {r' : Int32}  (hx : p.tables.exec = Jvm.exec) (hb : c.code = cX4_rowOf) (hml : c.maxLocals = 3) (hr : meth.sig.returnType = (some .int)) (hlk : meth.locks = false) (hgt : ∀ w ∈ GT, w.before args s = true) (hown : s.vm.findClass RX4 = some m.cls) (hK : va_K D vwCl [(cI, .int), (cZ, .boolean), (cC, .char), (cJ, .long), (cA, .array .int)] s) (hO : Old s0 s) (hAO : ∀ q, (aP P 77) q → s0.heap.size ≤ q)  : ∀ (n' : Nat) (M : Mm) (v1 : Int32) (v2 : Int32) (H : Heap) (locs : List Loc) (ls : Array Slot), lv_has ls 3 [(0, .ref (P 1)), (1, .int v1), (2, .int v2)] → va_P D vwCl ((wX cI cZ cC cJ cA P) M) H → va_D (aP P 77) ((wX cI cZ cC cJ cA P) M) → va_S (aP P 77) s.heap H locs → q_Draft_rowOf_2 n' M v1 v2 = some (M', r') → W p l e ({ frames := 0, cells := 0, slots := 0, locals := 0 }) s m args below meth c H locs 0 0 (MQ below (gQi D (aP P 77) ((wX cI cZ cC cJ cA P) M') r') args s 0 0 (aP P 77)) (F0 m 2 ls []) := by
  intro n'
  induction n' with
  | zero => exact fun _ _ _ _ _ _ _ _ _ _ h => (rs_n h).elim
  | succ n' ih =>
    intro M v1 v2 H locs ls hl hP hD hS h
    rw [q_Draft_rowOf_2] at h
    refine lv_iload_n hx hb dX4_rowOf_2 rfl (lv_at hl 2 rfl) ?_
    refine lv_aload_n hx hb dX4_rowOf_3 rfl (lv_at hl 0 rfl) ?_
    refine va_get (D := D) (ci := 4) (v := .int (M.1 1 6)) (C := RX4) (T := TX4) (N := 15) hx hb hgt iwX4 hown hK hP 1 gX_1 rfl 6 (Nat.le_of_ble_eq_true rfl) (hgt _ wd_0_115) (fun _ h9 => h9) rfl dX4_rowOf_4 ?_
    refine lv_icmp_ge hx hb dX4_rowOf_7 (tgt := 28) rfl (fun hc => ?_) (fun hc => ?_)
    · have h := br_T hc h
      refine lv_iconst (v := (-1)) hx hb dX4_rowOf_28 (by decide) ?_
      exact rt_i (w := (wX cI cZ cC cJ cA P)) hx hb hr hlk hP hD hS h dX4_rowOf_29
    · have h := br_F hc h
      refine lv_aload_n hx hb dX4_rowOf_10 rfl (lv_at hl 0 rfl) ?_
      refine va_get (D := D) (ci := 4) (v := .ref (P 7)) (C := RX4) (T := TX4) (N := 15) hx hb hgt iwX4 hown hK hP 1 gX_1 rfl 7 (Nat.le_of_ble_eq_true rfl) (hgt _ wd_0_119) (fun _ h9 => h9) rfl dX4_rowOf_11 ?_
      refine lv_iload_n hx hb dX4_rowOf_14 rfl (lv_at hl 2 rfl) ?_
      refine va_iald hx hb hK hP 7 0 gX_7 rfl (ix_l h) dX4_rowOf_15 ?_
      have h := ix_r h
      refine lv_iload_n hx hb dX4_rowOf_16 rfl (lv_at hl 1 rfl) ?_
      refine lv_icmp_ne hx hb dX4_rowOf_17 (tgt := 22) rfl (fun hc => ?_) (fun hc => ?_)
      · have h := br_F hc h
        refine lv_iinc (v := (v2 + 1)) hx hb dX4_rowOf_22 hl (k := 2) rfl rfl (Nat.le_of_ble_eq_true rfl) (lv' := [(2, .int (v2 + 1)), (0, .ref (P 1)), (1, .int v1)]) rfl (fun ls hl => ?_)
        refine lv_goto hx hb dX4_rowOf_25 (tgt := 2) rfl ?_
        have hl := lv_sub hl [1, 2, 0] (l' := [(0, .ref (P 1)), (1, .int v1), (2, .int (v2 + 1))]) rfl
        exact ih M v1 (v2 + 1) H locs ls hl hP hD hS h
      · have h := br_T hc h
        refine lv_iload_n hx hb dX4_rowOf_20 rfl (lv_at hl 2 rfl) ?_
        exact rt_i (w := (wX cI cZ cC cJ cA P)) hx hb hr hlk hP hD hS h dX4_rowOf_21
set_option maxHeartbeats 4000000 in
set_option maxRecDepth 20000 in
theorem b_Draft_rowOf_0 {p : Program} {l : Launch} {e : Env} {s s0 : State} {m : MethodId} {args : Array Value} {below : List Frame} {meth : Method} {c : Code} {D : va_G} {cI cZ cC cJ cA : ClassId} {P : Nat → Nat} {M' : Mm} {r' : Int32}  (hx : p.tables.exec = Jvm.exec) (hb : c.code = cX4_rowOf) (hml : c.maxLocals = 3) (hr : meth.sig.returnType = (some .int)) (hlk : meth.locks = false) (hgt : ∀ w ∈ GT, w.before args s = true) (hown : s.vm.findClass RX4 = some m.cls) (hK : va_K D vwCl [(cI, .int), (cZ, .boolean), (cC, .char), (cJ, .long), (cA, .array .int)] s) (hO : Old s0 s) (hAO : ∀ q, (aP P 77) q → s0.heap.size ≤ q)  : ∀ (M : Mm) (a1 : Int32) (H : Heap) (locs : List Loc) (ls : Array Slot), lv_has ls 3 [(0, .ref (P 1)), (1, .int a1)] → va_P D vwCl ((wX cI cZ cC cJ cA P) M) H → va_D (aP P 77) ((wX cI cZ cC cJ cA P) M) → va_S (aP P 77) s.heap H locs → q_Draft_rowOf M a1 = some (M', r') → W p l e ({ frames := 0, cells := 0, slots := 0, locals := 0 }) s m args below meth c H locs 0 0 (MQ below (gQi D (aP P 77) ((wX cI cZ cC cJ cA P) M') r') args s 0 0 (aP P 77)) (F0 m 0 ls []) := by
  intro M a1 H locs ls hl hP hD hS h
  unfold q_Draft_rowOf at h
  refine lv_iconst (v := 0) hx hb dX4_rowOf_0 (by decide) ?_
  refine lv_istore_n hx hb dX4_rowOf_1 rfl hl (Nat.le_of_ble_eq_true rfl) (lv' := [(2, .int 0), (0, .ref (P 1)), (1, .int a1)]) rfl (fun ls hl => ?_)
  have hl := lv_sub hl [1, 2, 0] (l' := [(0, .ref (P 1)), (1, .int a1), (2, .int 0)]) rfl
  exact b_Draft_rowOf_2 hx hb hml hr hlk hgt hown hK hO hAO 4000 M a1 0 H _ ls hl hP hD hS h
set_option maxHeartbeats 4000000 in
set_option maxRecDepth 20000 in
theorem z_Draft_rowOf (l : Launch) (D : va_G) (cI cZ cC cJ cA : ClassId) (P : Nat → Nat) (s0 : State) (hAO : ∀ q, (aP P 77) q → s0.heap.size ≤ q) (M : Mm) (a1 : Int32) (M' : Mm) (r' : Int32) (h : q_Draft_rowOf M a1 = some (M', r')) : Met l yX4_rowOf wsX4_rowOf ({ frames := 0, cells := 0, slots := 0, locals := 0 }) (va_Pc [.ref (P 1), .int a1] (gPre s0 D [(cI, .int), (cZ, .boolean), (cC, .char), (cJ, .long), (cA, .array .int)] (aP P 77) ((wX cI cZ cC cJ cA P) M))) (gQi D (aP P 77) ((wX cI cZ cC cJ cA P) M') r') 0 0 (aP P 77) := by
  refine Met.ofW (cc := cX4_rowOf) (maxL := 3) (ret := (some .int)) (by decide) rfl ?_
  intro p e s m args below meth c s₁ B hml hv
  obtain ⟨rfl, hP, hK, hD, hO⟩ := hv
  have hx := B.exec
  have hb := B.bytes
  have hr := B.returns
  have hlk := B.notSynchronized
  have hgt := fun w (h : w ∈ GT) => atoms_spec (ws := wsX4_rowOf) B.pre w (List.mem_cons_of_mem _ h)
  have hown : s.vm.findClass RX4 = some m.cls := findClass_of_methodNamed B.named
  have hS : va_S (aP P 77) s.heap s.heap [] := va_S.rf
  have hl := lv_entry ([.ref (P 1), .int a1]) (n := 3) (Nat.le_of_ble_eq_true rfl)
  rw [lg_entry_eq]
  generalize (lg_sl ([.ref (P 1), .int a1]) ++ List.replicate (3 - (lg_sl ([.ref (P 1), .int a1])).length) Slot.unset).toArray = ls at hl ⊢
  have hl : lv_has ls 3 [(0, .ref (P 1)), (1, .int a1)] := hl
  exact b_Draft_rowOf_0 hx hb hml hr hlk hgt hown hK hO hAO M a1 s.heap [] ls hl hP hD hS h
def q_Draft_fits  (M : Mm) (a1 : Int32) (a2 : Int32) : Rs := ix a1 128 <| ix a1 128 <| if ((a2 : Int32) >>> ((((M.1 11 (a1 : Int32).toNatClampNeg) - (M.1 12 (a1 : Int32).toNatClampNeg)) + 1) &&& 31)) = 0 then (some (M, 1)) else (some (M, 0))
set_option maxHeartbeats 4000000 in
set_option maxRecDepth 20000 in
theorem b_Draft_fits_0 {p : Program} {l : Launch} {e : Env} {s s0 : State} {m : MethodId} {args : Array Value} {below : List Frame} {meth : Method} {c : Code} {D : va_G} {cI cZ cC cJ cA : ClassId} {P : Nat → Nat} {M' : Mm} {r' : Int32}  (hx : p.tables.exec = Jvm.exec) (hb : c.code = cX4_fits) (hml : c.maxLocals = 3) (hr : meth.sig.returnType = (some .boolean)) (hlk : meth.locks = false) (hgt : ∀ w ∈ GT, w.before args s = true) (hown : s.vm.findClass RX4 = some m.cls) (hK : va_K D vwCl [(cI, .int), (cZ, .boolean), (cC, .char), (cJ, .long), (cA, .array .int)] s) (hO : Old s0 s) (hAO : ∀ q, (aP P 77) q → s0.heap.size ≤ q)  : ∀ (M : Mm) (a1 : Int32) (a2 : Int32) (H : Heap) (locs : List Loc) (ls : Array Slot), lv_has ls 3 [(0, .ref (P 1)), (1, .int a1), (2, .int a2)] → va_P D vwCl ((wX cI cZ cC cJ cA P) M) H → va_D (aP P 77) ((wX cI cZ cC cJ cA P) M) → va_S (aP P 77) s.heap H locs → q_Draft_fits M a1 a2 = some (M', r') → W p l e ({ frames := 0, cells := 0, slots := 0, locals := 0 }) s m args below meth c H locs 0 0 (MQ below (gQi D (aP P 77) ((wX cI cZ cC cJ cA P) M') r') args s 0 0 (aP P 77)) (F0 m 0 ls []) := by
  intro M a1 a2 H locs ls hl hP hD hS h
  unfold q_Draft_fits at h
  refine lv_iload_n hx hb dX4_fits_0 rfl (lv_at hl 2 rfl) ?_
  refine lv_aload_n hx hb dX4_fits_1 rfl (lv_at hl 0 rfl) ?_
  refine va_get (D := D) (ci := 4) (v := .ref (P 11)) (C := RX4) (T := TX4) (N := 15) hx hb hgt iwX4 hown hK hP 1 gX_1 rfl 11 (Nat.le_of_ble_eq_true rfl) (hgt _ wd_0_134) (fun _ h9 => h9) rfl dX4_fits_2 ?_
  refine lv_iload_n hx hb dX4_fits_5 rfl (lv_at hl 1 rfl) ?_
  refine va_iald hx hb hK hP 11 0 gX_11 rfl (ix_l h) dX4_fits_6 ?_
  have h := ix_r h
  refine lv_aload_n hx hb dX4_fits_7 rfl (lv_at hl 0 rfl) ?_
  refine va_get (D := D) (ci := 4) (v := .ref (P 12)) (C := RX4) (T := TX4) (N := 15) hx hb hgt iwX4 hown hK hP 1 gX_1 rfl 12 (Nat.le_of_ble_eq_true rfl) (hgt _ wd_0_138) (fun _ h9 => h9) rfl dX4_fits_8 ?_
  refine lv_iload_n hx hb dX4_fits_11 rfl (lv_at hl 1 rfl) ?_
  refine va_iald hx hb hK hP 12 0 gX_12 rfl (ix_l h) dX4_fits_12 ?_
  have h := ix_r h
  refine lv_isub hx hb dX4_fits_13 ?_
  refine lv_iconst (v := 1) hx hb dX4_fits_14 (by decide) ?_
  refine lv_iadd hx hb dX4_fits_15 ?_
  refine lv_ishr hx hb dX4_fits_16 ?_
  refine lv_if_ne hx hb dX4_fits_17 (tgt := 24) rfl (fun hc => ?_) (fun hc => ?_)
  · have h := br_F hc h
    refine lv_iconst (v := 0) hx hb dX4_fits_24 (by decide) ?_
    exact rt_z (w := (wX cI cZ cC cJ cA P)) hx hb hr hlk rfl hP hD hS h dX4_fits_25
  · have h := br_T hc h
    refine lv_iconst (v := 1) hx hb dX4_fits_20 (by decide) ?_
    refine lv_goto hx hb dX4_fits_21 (tgt := 25) rfl ?_
    exact rt_z (w := (wX cI cZ cC cJ cA P)) hx hb hr hlk rfl hP hD hS h dX4_fits_25
set_option maxHeartbeats 4000000 in
set_option maxRecDepth 20000 in
theorem z_Draft_fits (l : Launch) (D : va_G) (cI cZ cC cJ cA : ClassId) (P : Nat → Nat) (s0 : State) (hAO : ∀ q, (aP P 77) q → s0.heap.size ≤ q) (M : Mm) (a1 : Int32) (a2 : Int32) (M' : Mm) (r' : Int32) (h : q_Draft_fits M a1 a2 = some (M', r')) : Met l yX4_fits wsX4_fits ({ frames := 0, cells := 0, slots := 0, locals := 0 }) (va_Pc [.ref (P 1), .int a1, .int a2] (gPre s0 D [(cI, .int), (cZ, .boolean), (cC, .char), (cJ, .long), (cA, .array .int)] (aP P 77) ((wX cI cZ cC cJ cA P) M))) (gQi D (aP P 77) ((wX cI cZ cC cJ cA P) M') r') 0 0 (aP P 77) := by
  refine Met.ofW (cc := cX4_fits) (maxL := 3) (ret := (some .boolean)) (by decide) rfl ?_
  intro p e s m args below meth c s₁ B hml hv
  obtain ⟨rfl, hP, hK, hD, hO⟩ := hv
  have hx := B.exec
  have hb := B.bytes
  have hr := B.returns
  have hlk := B.notSynchronized
  have hgt := fun w (h : w ∈ GT) => atoms_spec (ws := wsX4_fits) B.pre w (List.mem_cons_of_mem _ h)
  have hown : s.vm.findClass RX4 = some m.cls := findClass_of_methodNamed B.named
  have hS : va_S (aP P 77) s.heap s.heap [] := va_S.rf
  have hl := lv_entry ([.ref (P 1), .int a1, .int a2]) (n := 3) (Nat.le_of_ble_eq_true rfl)
  rw [lg_entry_eq]
  generalize (lg_sl ([.ref (P 1), .int a1, .int a2]) ++ List.replicate (3 - (lg_sl ([.ref (P 1), .int a1, .int a2])).length) Slot.unset).toArray = ls at hl ⊢
  have hl : lv_has ls 3 [(0, .ref (P 1)), (1, .int a1), (2, .int a2)] := hl
  exact b_Draft_fits_0 hx hb hml hr hlk hgt hown hK hO hAO M a1 a2 s.heap [] ls hl hP hD hS h
def q_Judge_badField_117  (M : Mm) (v2 : Int32) : Rs := ix v2 128 <| some (M, (M.1 8 (v2 : Int32).toNatClampNeg))
def q_Judge_badField_44 (kf4 : Mm → Int32 → Int32 → Rs) (M : Mm) (v1 : Int32) (v2 : Int32) : Rs := ix v2 128 <| lt' (M.1 11 (v2 : Int32).toNatClampNeg) fun x1 => ix v2 128 <| lt' (M.1 12 (v2 : Int32).toNatClampNeg) fun x2 => ix v2 128 <| cal (q_Draft_rowOf M (M.1 7 (v2 : Int32).toNatClampNeg)) fun M3 r4 => if r4 < v2 then (q_Judge_badField_117 M3 v2) else (if 16 ≤ x1 then (q_Judge_badField_117 M3 v2) else (if x1 < x2 then (q_Judge_badField_117 M3 v2) else (ix v2 128 <| cal (q_Draft_fits M3 v2 (M3.1 13 (v2 : Int32).toNatClampNeg)) fun M5 r6 => if r6 = 0 then (q_Judge_badField_117 M5 v2) else (lt' (((((1 : Int32) <<< (((x1 - x2) + 1) &&& 31)) - 1) : Int32) <<< (x2 &&& 31)) fun x7 => if (v1 &&& x7) = 0 then (lt' (v1 ||| x7) fun x8 => kf4 M5 x8 (v2 + 1)) else (ix v2 128 <| some (M5, (M5.1 8 (v2 : Int32).toNatClampNeg)))))))
def q_Judge_badField_42 (kf4 : Mm → Int32 → Int32 → Rs) (M : Mm) (v2 : Int32) : Rs := q_Judge_badField_44 kf4 M 0 v2
def q_Judge_badField_4  : Nat → Mm → Int32 → Int32 → Rs
  | 0, _, _, _ => none
  | n' + 1, M, v1, v2 => if (M.1 1 6) ≤ v2 then (some (M, (-1))) else (if v2 = 0 then (q_Judge_badField_42 (q_Judge_badField_4 n') M v2) else (ix v2 128 <| ix (v2 - 1) 128 <| if (M.1 9 (v2 : Int32).toNatClampNeg) = (M.1 9 ((v2 - 1) : Int32).toNatClampNeg) then (q_Judge_badField_44 (q_Judge_badField_4 n') M v1 v2) else (q_Judge_badField_42 (q_Judge_badField_4 n') M v2)))
def q_Judge_badField  (M : Mm)  : Rs := q_Judge_badField_4 4000 M 0 0
set_option maxHeartbeats 4000000 in
set_option maxRecDepth 20000 in
theorem b_Judge_badField_117 {p : Program} {l : Launch} {e : Env} {s s0 : State} {m : MethodId} {args : Array Value} {below : List Frame} {meth : Method} {c : Code} {D : va_G} {cI cZ cC cJ cA : ClassId} {P : Nat → Nat} {M' : Mm} {r' : Int32}  (hx : p.tables.exec = Jvm.exec) (hb : c.code = cX5_badField) (hml : c.maxLocals = 6) (hr : meth.sig.returnType = (some .int)) (hlk : meth.locks = false) (hgt : ∀ w ∈ GT, w.before args s = true) (hown : s.vm.findClass RX5 = some m.cls) (hK : va_K D vwCl [(cI, .int), (cZ, .boolean), (cC, .char), (cJ, .long), (cA, .array .int)] s) (hO : Old s0 s) (hAO : ∀ q, (aP P 77) q → s0.heap.size ≤ q)  : ∀ (M : Mm) (v2 : Int32) (H : Heap) (locs : List Loc) (ls : Array Slot), lv_has ls 6 [(0, .ref (P 23)), (2, .int v2)] → va_P D vwCl ((wX cI cZ cC cJ cA P) M) H → va_D (aP P 77) ((wX cI cZ cC cJ cA P) M) → va_S (aP P 77) s.heap H locs → q_Judge_badField_117 M v2 = some (M', r') → W p l e ({ frames := 1, cells := 0, slots := 0, locals := 22 }) s m args below meth c H locs 0 0 (MQ below (gQi D (aP P 77) ((wX cI cZ cC cJ cA P) M') r') args s 0 0 (aP P 77)) (F0 m 117 ls []) := by
  intro M v2 H locs ls hl hP hD hS h
  unfold q_Judge_badField_117 at h
  refine lv_aload_n hx hb dX5_badField_117 rfl (lv_at hl 0 rfl) ?_
  refine va_get (D := D) (ci := 5) (v := .ref (P 1)) (C := RX5) (T := TX5) (N := 3) hx hb hgt iwX5 hown hK hP 23 gX_23 rfl 0 (Nat.le_of_ble_eq_true rfl) (hgt _ wd_0_208) (fun _ h9 => h9) rfl dX5_badField_118 ?_
  refine va_get (D := D) (ci := 4) (v := .ref (P 8)) (C := RX4) (T := TX4) (N := 15) hx hb hgt iwX4 hown hK hP 1 gX_1 rfl 8 (Nat.le_of_ble_eq_true rfl) (hgt _ wd_0_124) (fun _ h9 => h9) rfl dX5_badField_121 ?_
  refine lv_iload_n hx hb dX5_badField_124 rfl (lv_at hl 1 rfl) ?_
  refine va_iald hx hb hK hP 8 0 gX_8 rfl (ix_l h) dX5_badField_125 ?_
  have h := ix_r h
  exact rt_i (w := (wX cI cZ cC cJ cA P)) hx hb hr hlk hP hD hS h dX5_badField_126
set_option maxHeartbeats 4000000 in
set_option maxRecDepth 20000 in
theorem b_Judge_badField_44 {p : Program} {l : Launch} {e : Env} {s s0 : State} {m : MethodId} {args : Array Value} {below : List Frame} {meth : Method} {c : Code} {D : va_G} {cI cZ cC cJ cA : ClassId} {P : Nat → Nat} {M' : Mm} {r' : Int32} {kf4 : Mm → Int32 → Int32 → Rs} (hx : p.tables.exec = Jvm.exec) (hb : c.code = cX5_badField) (hml : c.maxLocals = 6) (hr : meth.sig.returnType = (some .int)) (hlk : meth.locks = false) (hgt : ∀ w ∈ GT, w.before args s = true) (hown : s.vm.findClass RX5 = some m.cls) (hK : va_K D vwCl [(cI, .int), (cZ, .boolean), (cC, .char), (cJ, .long), (cA, .array .int)] s) (hO : Old s0 s) (hAO : ∀ q, (aP P 77) q → s0.heap.size ≤ q) (kk4 : ∀ (M : Mm) (v1 : Int32) (v2 : Int32) (H : Heap) (locs : List Loc) (ls : Array Slot), lv_has ls 6 [(0, .ref (P 23)), (1, .int v1), (2, .int v2)] → va_P D vwCl ((wX cI cZ cC cJ cA P) M) H → va_D (aP P 77) ((wX cI cZ cC cJ cA P) M) → va_S (aP P 77) s.heap H locs → kf4 M v1 v2 = some (M', r') → W p l e ({ frames := 1, cells := 0, slots := 0, locals := 22 }) s m args below meth c H locs 0 0 (MQ below (gQi D (aP P 77) ((wX cI cZ cC cJ cA P) M') r') args s 0 0 (aP P 77)) (F0 m 4 ls [])) : ∀ (M : Mm) (v1 : Int32) (v2 : Int32) (H : Heap) (locs : List Loc) (ls : Array Slot), lv_has ls 6 [(0, .ref (P 23)), (1, .int v1), (2, .int v2)] → va_P D vwCl ((wX cI cZ cC cJ cA P) M) H → va_D (aP P 77) ((wX cI cZ cC cJ cA P) M) → va_S (aP P 77) s.heap H locs → q_Judge_badField_44 kf4 M v1 v2 = some (M', r') → W p l e ({ frames := 1, cells := 0, slots := 0, locals := 22 }) s m args below meth c H locs 0 0 (MQ below (gQi D (aP P 77) ((wX cI cZ cC cJ cA P) M') r') args s 0 0 (aP P 77)) (F0 m 44 ls []) := by
  intro M v1 v2 H locs ls hl hP hD hS h
  unfold q_Judge_badField_44 at h
  refine lv_aload_n hx hb dX5_badField_44 rfl (lv_at hl 0 rfl) ?_
  refine va_get (D := D) (ci := 5) (v := .ref (P 1)) (C := RX5) (T := TX5) (N := 3) hx hb hgt iwX5 hown hK hP 23 gX_23 rfl 0 (Nat.le_of_ble_eq_true rfl) (hgt _ wd_0_208) (fun _ h9 => h9) rfl dX5_badField_45 ?_
  refine va_get (D := D) (ci := 4) (v := .ref (P 11)) (C := RX4) (T := TX4) (N := 15) hx hb hgt iwX4 hown hK hP 1 gX_1 rfl 11 (Nat.le_of_ble_eq_true rfl) (hgt _ wd_0_135) (fun _ h9 => h9) rfl dX5_badField_48 ?_
  refine lv_iload_n hx hb dX5_badField_51 rfl (lv_at hl 2 rfl) ?_
  refine va_iald hx hb hK hP 11 0 gX_11 rfl (ix_l h) dX5_badField_52 ?_
  have h := ix_r h
  refine lv_topi (fun x1 ex1 => ?_)
  have h := lt_o ex1 h
  refine lv_istore_n hx hb dX5_badField_53 rfl hl (Nat.le_of_ble_eq_true rfl) (lv' := [(3, .int x1), (0, .ref (P 23)), (1, .int v1), (2, .int v2)]) rfl (fun ls hl => ?_)
  refine lv_aload_n hx hb dX5_badField_54 rfl (lv_at hl 1 rfl) ?_
  refine va_get (D := D) (ci := 5) (v := .ref (P 1)) (C := RX5) (T := TX5) (N := 3) hx hb hgt iwX5 hown hK hP 23 gX_23 rfl 0 (Nat.le_of_ble_eq_true rfl) (hgt _ wd_0_208) (fun _ h9 => h9) rfl dX5_badField_55 ?_
  refine va_get (D := D) (ci := 4) (v := .ref (P 12)) (C := RX4) (T := TX4) (N := 15) hx hb hgt iwX4 hown hK hP 1 gX_1 rfl 12 (Nat.le_of_ble_eq_true rfl) (hgt _ wd_0_140) (fun _ h9 => h9) rfl dX5_badField_58 ?_
  refine lv_iload_n hx hb dX5_badField_61 rfl (lv_at hl 3 rfl) ?_
  refine va_iald hx hb hK hP 12 0 gX_12 rfl (ix_l h) dX5_badField_62 ?_
  have h := ix_r h
  refine lv_topi (fun x2 ex2 => ?_)
  have h := lt_o ex2 h
  refine lv_istore hx hb dX5_badField_63 hl (Nat.le_of_ble_eq_true rfl) (lv' := [(4, .int x2), (3, .int x1), (0, .ref (P 23)), (1, .int v1), (2, .int v2)]) rfl (fun ls hl => ?_)
  refine lv_aload_n hx hb dX5_badField_65 rfl (lv_at hl 2 rfl) ?_
  refine va_get (D := D) (ci := 5) (v := .ref (P 1)) (C := RX5) (T := TX5) (N := 3) hx hb hgt iwX5 hown hK hP 23 gX_23 rfl 0 (Nat.le_of_ble_eq_true rfl) (hgt _ wd_0_208) (fun _ h9 => h9) rfl dX5_badField_66 ?_
  refine lv_aload_n hx hb dX5_badField_69 rfl (lv_at hl 2 rfl) ?_
  refine va_get (D := D) (ci := 5) (v := .ref (P 1)) (C := RX5) (T := TX5) (N := 3) hx hb hgt iwX5 hown hK hP 23 gX_23 rfl 0 (Nat.le_of_ble_eq_true rfl) (hgt _ wd_0_208) (fun _ h9 => h9) rfl dX5_badField_70 ?_
  refine va_get (D := D) (ci := 4) (v := .ref (P 7)) (C := RX4) (T := TX4) (N := 15) hx hb hgt iwX4 hown hK hP 1 gX_1 rfl 7 (Nat.le_of_ble_eq_true rfl) (hgt _ wd_0_121) (fun _ h9 => h9) rfl dX5_badField_73 ?_
  refine lv_iload_n hx hb dX5_badField_76 rfl (lv_at hl 4 rfl) ?_
  refine va_iald hx hb hK hP 7 0 gX_7 rfl (ix_l h) dX5_badField_77 ?_
  have h := ix_r h
  obtain ⟨M3, r4, hq, h⟩ := cal_o h
  refine cx_i (va_runV (As := [.int (M.1 7 (v2 : Int32).toNatClampNeg)]) (rest := []) ⟨hx, hb, hml, hown, hgt⟩ (z_Draft_rowOf l D cI cZ cC cJ cA P s0 hAO M (M.1 7 (v2 : Int32).toNatClampNeg) M3 r4 hq) (cwV 1 hgt (gV wd_4_42 wd_4_43 wd_4_44 wd_0_2 wd_4_45) rfl rfl rfl (by decide +kernel) ⟨Nat.le_of_ble_eq_true rfl, Nat.le_of_ble_eq_true rfl⟩) (prV hP hK hD hO hAO hS (va_recv hK hP (ci := 4) (q0 := 1) rfl gX_1)) rfl rfl hl.1 rfl (lv_room (Nat.le_of_ble_eq_true rfl)) dX5_badField_78 ⟨Nat.le_of_ble_eq_true rfl, Nat.le_of_ble_eq_true rfl⟩) hS (fun H locs hP hD hS => ?_)
  refine lv_iload_n hx hb dX5_badField_81 rfl (lv_at hl 4 rfl) ?_
  refine lv_icmp_lt hx hb dX5_badField_82 (tgt := 117) rfl (fun hc => ?_) (fun hc => ?_)
  · have h := br_T hc h
    have hl := lv_sub hl [2, 4] (l' := [(0, .ref (P 23)), (2, .int v2)]) rfl
    exact b_Judge_badField_117 hx hb hml hr hlk hgt hown hK hO hAO M3 v2 H _ ls hl hP hD hS h
  · have h := br_F hc h
    refine lv_iload_n hx hb dX5_badField_85 rfl (lv_at hl 1 rfl) ?_
    refine lv_bipush (v := 16) hx hb dX5_badField_86 (by decide) ?_
    refine lv_icmp_ge hx hb dX5_badField_88 (tgt := 117) rfl (fun hc => ?_) (fun hc => ?_)
    · have h := br_T hc h
      have hl := lv_sub hl [2, 4] (l' := [(0, .ref (P 23)), (2, .int v2)]) rfl
      exact b_Judge_badField_117 hx hb hml hr hlk hgt hown hK hO hAO M3 v2 H _ ls hl hP hD hS h
    · have h := br_F hc h
      refine lv_iload_n hx hb dX5_badField_91 rfl (lv_at hl 1 rfl) ?_
      refine lv_iload hx hb dX5_badField_92 (lv_at hl 0 rfl) ?_
      refine lv_icmp_lt hx hb dX5_badField_94 (tgt := 117) rfl (fun hc => ?_) (fun hc => ?_)
      · have h := br_T hc h
        have hl := lv_sub hl [2, 4] (l' := [(0, .ref (P 23)), (2, .int v2)]) rfl
        exact b_Judge_badField_117 hx hb hml hr hlk hgt hown hK hO hAO M3 v2 H _ ls hl hP hD hS h
      · have h := br_F hc h
        refine lv_aload_n hx hb dX5_badField_97 rfl (lv_at hl 2 rfl) ?_
        refine va_get (D := D) (ci := 5) (v := .ref (P 1)) (C := RX5) (T := TX5) (N := 3) hx hb hgt iwX5 hown hK hP 23 gX_23 rfl 0 (Nat.le_of_ble_eq_true rfl) (hgt _ wd_0_208) (fun _ h9 => h9) rfl dX5_badField_98 ?_
        refine lv_iload_n hx hb dX5_badField_101 rfl (lv_at hl 4 rfl) ?_
        refine lv_aload_n hx hb dX5_badField_102 rfl (lv_at hl 2 rfl) ?_
        refine va_get (D := D) (ci := 5) (v := .ref (P 1)) (C := RX5) (T := TX5) (N := 3) hx hb hgt iwX5 hown hK hP 23 gX_23 rfl 0 (Nat.le_of_ble_eq_true rfl) (hgt _ wd_0_208) (fun _ h9 => h9) rfl dX5_badField_103 ?_
        refine va_get (D := D) (ci := 4) (v := .ref (P 13)) (C := RX4) (T := TX4) (N := 15) hx hb hgt iwX4 hown hK hP 1 gX_1 rfl 13 (Nat.le_of_ble_eq_true rfl) (hgt _ wd_0_144) (fun _ h9 => h9) rfl dX5_badField_106 ?_
        refine lv_iload_n hx hb dX5_badField_109 rfl (lv_at hl 4 rfl) ?_
        refine va_iald hx hb hK hP 13 0 gX_13 rfl (ix_l h) dX5_badField_110 ?_
        have h := ix_r h
        obtain ⟨M5, r6, hq, h⟩ := cal_o h
        refine cx_i (va_runV (As := [.int v2, .int (M3.1 13 (v2 : Int32).toNatClampNeg)]) (rest := []) ⟨hx, hb, hml, hown, hgt⟩ (z_Draft_fits l D cI cZ cC cJ cA P s0 hAO M3 v2 (M3.1 13 (v2 : Int32).toNatClampNeg) M5 r6 hq) (cwV 2 hgt (gV wd_4_46 wd_4_47 wd_4_48 wd_0_2 wd_4_49) rfl rfl rfl (by decide +kernel) ⟨Nat.le_of_ble_eq_true rfl, Nat.le_of_ble_eq_true rfl⟩) (prV hP hK hD hO hAO hS (va_recv hK hP (ci := 4) (q0 := 1) rfl gX_1)) rfl rfl hl.1 rfl (lv_room (Nat.le_of_ble_eq_true rfl)) dX5_badField_111 ⟨Nat.le_of_ble_eq_true rfl, Nat.le_of_ble_eq_true rfl⟩) hS (fun H locs hP hD hS => ?_)
        refine lv_if_ne hx hb dX5_badField_114 (tgt := 127) rfl (fun hc => ?_) (fun hc => ?_)
        · have h := br_F hc h
          refine lv_iconst (v := 1) hx hb dX5_badField_127 (by decide) ?_
          refine lv_iload_n hx hb dX5_badField_128 rfl (lv_at hl 1 rfl) ?_
          refine lv_iload hx hb dX5_badField_129 (lv_at hl 0 rfl) ?_
          refine lv_isub hx hb dX5_badField_131 ?_
          refine lv_iconst (v := 1) hx hb dX5_badField_132 (by decide) ?_
          refine lv_iadd hx hb dX5_badField_133 ?_
          refine lv_ishl hx hb dX5_badField_134 ?_
          refine lv_iconst (v := 1) hx hb dX5_badField_135 (by decide) ?_
          refine lv_isub hx hb dX5_badField_136 ?_
          refine lv_iload hx hb dX5_badField_137 (lv_at hl 0 rfl) ?_
          refine lv_ishl hx hb dX5_badField_139 ?_
          refine lv_topi (fun x7 ex7 => ?_)
          have h := lt_o ex7 h
          refine lv_istore hx hb dX5_badField_140 hl (Nat.le_of_ble_eq_true rfl) (lv' := [(5, .int x7), (4, .int x2), (3, .int x1), (0, .ref (P 23)), (1, .int v1), (2, .int v2)]) rfl (fun ls hl => ?_)
          refine lv_iload_n hx hb dX5_badField_142 rfl (lv_at hl 4 rfl) ?_
          refine lv_iload hx hb dX5_badField_143 (lv_at hl 0 rfl) ?_
          refine lv_iand hx hb dX5_badField_145 ?_
          refine lv_if_eq hx hb dX5_badField_146 (tgt := 159) rfl (fun hc => ?_) (fun hc => ?_)
          · have h := br_T hc h
            refine lv_iload_n hx hb dX5_badField_159 rfl (lv_at hl 4 rfl) ?_
            refine lv_iload hx hb dX5_badField_160 (lv_at hl 0 rfl) ?_
            refine lv_ior hx hb dX5_badField_162 ?_
            refine lv_topi (fun x8 ex8 => ?_)
            have h := lt_o ex8 h
            refine lv_istore_n hx hb dX5_badField_163 rfl hl (Nat.le_of_ble_eq_true rfl) (lv' := [(1, .int x8), (5, .int x7), (4, .int x2), (3, .int x1), (0, .ref (P 23)), (2, .int v2)]) rfl (fun ls hl => ?_)
            refine lv_iinc (v := (v2 + 1)) hx hb dX5_badField_164 hl (k := 5) rfl rfl (Nat.le_of_ble_eq_true rfl) (lv' := [(2, .int (v2 + 1)), (1, .int x8), (5, .int x7), (4, .int x2), (3, .int x1), (0, .ref (P 23))]) rfl (fun ls hl => ?_)
            refine lv_goto hx hb dX5_badField_167 (tgt := 4) rfl ?_
            have hl := lv_sub hl [5, 1, 0] (l' := [(0, .ref (P 23)), (1, .int x8), (2, .int (v2 + 1))]) rfl
            exact kk4 M5 x8 (v2 + 1) H locs ls hl hP hD hS h
          · have h := br_F hc h
            refine lv_aload_n hx hb dX5_badField_149 rfl (lv_at hl 3 rfl) ?_
            refine va_get (D := D) (ci := 5) (v := .ref (P 1)) (C := RX5) (T := TX5) (N := 3) hx hb hgt iwX5 hown hK hP 23 gX_23 rfl 0 (Nat.le_of_ble_eq_true rfl) (hgt _ wd_0_208) (fun _ h9 => h9) rfl dX5_badField_150 ?_
            refine va_get (D := D) (ci := 4) (v := .ref (P 8)) (C := RX4) (T := TX4) (N := 15) hx hb hgt iwX4 hown hK hP 1 gX_1 rfl 8 (Nat.le_of_ble_eq_true rfl) (hgt _ wd_0_124) (fun _ h9 => h9) rfl dX5_badField_153 ?_
            refine lv_iload_n hx hb dX5_badField_156 rfl (lv_at hl 5 rfl) ?_
            refine va_iald hx hb hK hP 8 0 gX_8 rfl (ix_l h) dX5_badField_157 ?_
            have h := ix_r h
            exact rt_i (w := (wX cI cZ cC cJ cA P)) hx hb hr hlk hP hD hS h dX5_badField_158
        · have h := br_T hc h
          have hl := lv_sub hl [2, 4] (l' := [(0, .ref (P 23)), (2, .int v2)]) rfl
          exact b_Judge_badField_117 hx hb hml hr hlk hgt hown hK hO hAO M5 v2 H _ ls hl hP hD hS h
set_option maxHeartbeats 4000000 in
set_option maxRecDepth 20000 in
theorem b_Judge_badField_42 {p : Program} {l : Launch} {e : Env} {s s0 : State} {m : MethodId} {args : Array Value} {below : List Frame} {meth : Method} {c : Code} {D : va_G} {cI cZ cC cJ cA : ClassId} {P : Nat → Nat} {M' : Mm} {r' : Int32} {kf4 : Mm → Int32 → Int32 → Rs} (hx : p.tables.exec = Jvm.exec) (hb : c.code = cX5_badField) (hml : c.maxLocals = 6) (hr : meth.sig.returnType = (some .int)) (hlk : meth.locks = false) (hgt : ∀ w ∈ GT, w.before args s = true) (hown : s.vm.findClass RX5 = some m.cls) (hK : va_K D vwCl [(cI, .int), (cZ, .boolean), (cC, .char), (cJ, .long), (cA, .array .int)] s) (hO : Old s0 s) (hAO : ∀ q, (aP P 77) q → s0.heap.size ≤ q) (kk4 : ∀ (M : Mm) (v1 : Int32) (v2 : Int32) (H : Heap) (locs : List Loc) (ls : Array Slot), lv_has ls 6 [(0, .ref (P 23)), (1, .int v1), (2, .int v2)] → va_P D vwCl ((wX cI cZ cC cJ cA P) M) H → va_D (aP P 77) ((wX cI cZ cC cJ cA P) M) → va_S (aP P 77) s.heap H locs → kf4 M v1 v2 = some (M', r') → W p l e ({ frames := 1, cells := 0, slots := 0, locals := 22 }) s m args below meth c H locs 0 0 (MQ below (gQi D (aP P 77) ((wX cI cZ cC cJ cA P) M') r') args s 0 0 (aP P 77)) (F0 m 4 ls [])) : ∀ (M : Mm) (v2 : Int32) (H : Heap) (locs : List Loc) (ls : Array Slot), lv_has ls 6 [(0, .ref (P 23)), (2, .int v2)] → va_P D vwCl ((wX cI cZ cC cJ cA P) M) H → va_D (aP P 77) ((wX cI cZ cC cJ cA P) M) → va_S (aP P 77) s.heap H locs → q_Judge_badField_42 kf4 M v2 = some (M', r') → W p l e ({ frames := 1, cells := 0, slots := 0, locals := 22 }) s m args below meth c H locs 0 0 (MQ below (gQi D (aP P 77) ((wX cI cZ cC cJ cA P) M') r') args s 0 0 (aP P 77)) (F0 m 42 ls []) := by
  intro M v2 H locs ls hl hP hD hS h
  unfold q_Judge_badField_42 at h
  refine lv_iconst (v := 0) hx hb dX5_badField_42 (by decide) ?_
  refine lv_istore_n hx hb dX5_badField_43 rfl hl (Nat.le_of_ble_eq_true rfl) (lv' := [(1, .int 0), (0, .ref (P 23)), (2, .int v2)]) rfl (fun ls hl => ?_)
  have hl := lv_sub hl [1, 0, 2] (l' := [(0, .ref (P 23)), (1, .int 0), (2, .int v2)]) rfl
  exact b_Judge_badField_44 hx hb hml hr hlk hgt hown hK hO hAO kk4 M 0 v2 H _ ls hl hP hD hS h
set_option maxHeartbeats 4000000 in
set_option maxRecDepth 20000 in
theorem b_Judge_badField_4 {p : Program} {l : Launch} {e : Env} {s s0 : State} {m : MethodId} {args : Array Value} {below : List Frame} {meth : Method} {c : Code} {D : va_G} {cI cZ cC cJ cA : ClassId} {P : Nat → Nat} {M' : Mm} {r' : Int32}  (hx : p.tables.exec = Jvm.exec) (hb : c.code = cX5_badField) (hml : c.maxLocals = 6) (hr : meth.sig.returnType = (some .int)) (hlk : meth.locks = false) (hgt : ∀ w ∈ GT, w.before args s = true) (hown : s.vm.findClass RX5 = some m.cls) (hK : va_K D vwCl [(cI, .int), (cZ, .boolean), (cC, .char), (cJ, .long), (cA, .array .int)] s) (hO : Old s0 s) (hAO : ∀ q, (aP P 77) q → s0.heap.size ≤ q)  : ∀ (n' : Nat) (M : Mm) (v1 : Int32) (v2 : Int32) (H : Heap) (locs : List Loc) (ls : Array Slot), lv_has ls 6 [(0, .ref (P 23)), (1, .int v1), (2, .int v2)] → va_P D vwCl ((wX cI cZ cC cJ cA P) M) H → va_D (aP P 77) ((wX cI cZ cC cJ cA P) M) → va_S (aP P 77) s.heap H locs → q_Judge_badField_4 n' M v1 v2 = some (M', r') → W p l e ({ frames := 1, cells := 0, slots := 0, locals := 22 }) s m args below meth c H locs 0 0 (MQ below (gQi D (aP P 77) ((wX cI cZ cC cJ cA P) M') r') args s 0 0 (aP P 77)) (F0 m 4 ls []) := by
  intro n'
  induction n' with
  | zero => exact fun _ _ _ _ _ _ _ _ _ _ h => (rs_n h).elim
  | succ n' ih =>
    intro M v1 v2 H locs ls hl hP hD hS h
    rw [q_Judge_badField_4] at h
    refine lv_iload_n hx hb dX5_badField_4 rfl (lv_at hl 2 rfl) ?_
    refine lv_aload_n hx hb dX5_badField_5 rfl (lv_at hl 0 rfl) ?_
    refine va_get (D := D) (ci := 5) (v := .ref (P 1)) (C := RX5) (T := TX5) (N := 3) hx hb hgt iwX5 hown hK hP 23 gX_23 rfl 0 (Nat.le_of_ble_eq_true rfl) (hgt _ wd_0_208) (fun _ h9 => h9) rfl dX5_badField_6 ?_
    refine va_get (D := D) (ci := 4) (v := .int (M.1 1 6)) (C := RX4) (T := TX4) (N := 15) hx hb hgt iwX4 hown hK hP 1 gX_1 rfl 6 (Nat.le_of_ble_eq_true rfl) (hgt _ wd_0_117) (fun _ h9 => h9) rfl dX5_badField_9 ?_
    refine lv_icmp_ge hx hb dX5_badField_12 (tgt := 170) rfl (fun hc => ?_) (fun hc => ?_)
    · have h := br_T hc h
      refine lv_iconst (v := (-1)) hx hb dX5_badField_170 (by decide) ?_
      exact rt_i (w := (wX cI cZ cC cJ cA P)) hx hb hr hlk hP hD hS h dX5_badField_171
    · have h := br_F hc h
      refine lv_iload_n hx hb dX5_badField_15 rfl (lv_at hl 2 rfl) ?_
      refine lv_if_eq hx hb dX5_badField_16 (tgt := 42) rfl (fun hc => ?_) (fun hc => ?_)
      · have h := br_T hc h
        have hl := lv_sub hl [0, 2] (l' := [(0, .ref (P 23)), (2, .int v2)]) rfl
        exact b_Judge_badField_42 hx hb hml hr hlk hgt hown hK hO hAO ih M v2 H _ ls hl hP hD hS h
      · have h := br_F hc h
        refine lv_aload_n hx hb dX5_badField_19 rfl (lv_at hl 0 rfl) ?_
        refine va_get (D := D) (ci := 5) (v := .ref (P 1)) (C := RX5) (T := TX5) (N := 3) hx hb hgt iwX5 hown hK hP 23 gX_23 rfl 0 (Nat.le_of_ble_eq_true rfl) (hgt _ wd_0_208) (fun _ h9 => h9) rfl dX5_badField_20 ?_
        refine va_get (D := D) (ci := 4) (v := .ref (P 9)) (C := RX4) (T := TX4) (N := 15) hx hb hgt iwX4 hown hK hP 1 gX_1 rfl 9 (Nat.le_of_ble_eq_true rfl) (hgt _ wd_0_128) (fun _ h9 => h9) rfl dX5_badField_23 ?_
        refine lv_iload_n hx hb dX5_badField_26 rfl (lv_at hl 2 rfl) ?_
        refine va_iald hx hb hK hP 9 0 gX_9 rfl (ix_l h) dX5_badField_27 ?_
        have h := ix_r h
        refine lv_aload_n hx hb dX5_badField_28 rfl (lv_at hl 0 rfl) ?_
        refine va_get (D := D) (ci := 5) (v := .ref (P 1)) (C := RX5) (T := TX5) (N := 3) hx hb hgt iwX5 hown hK hP 23 gX_23 rfl 0 (Nat.le_of_ble_eq_true rfl) (hgt _ wd_0_208) (fun _ h9 => h9) rfl dX5_badField_29 ?_
        refine va_get (D := D) (ci := 4) (v := .ref (P 9)) (C := RX4) (T := TX4) (N := 15) hx hb hgt iwX4 hown hK hP 1 gX_1 rfl 9 (Nat.le_of_ble_eq_true rfl) (hgt _ wd_0_128) (fun _ h9 => h9) rfl dX5_badField_32 ?_
        refine lv_iload_n hx hb dX5_badField_35 rfl (lv_at hl 2 rfl) ?_
        refine lv_iconst (v := 1) hx hb dX5_badField_36 (by decide) ?_
        refine lv_isub hx hb dX5_badField_37 ?_
        refine va_iald hx hb hK hP 9 0 gX_9 rfl (ix_l h) dX5_badField_38 ?_
        have h := ix_r h
        refine lv_icmp_eq hx hb dX5_badField_39 (tgt := 44) rfl (fun hc => ?_) (fun hc => ?_)
        · have h := br_T hc h
          have hl := lv_sub hl [0, 1, 2] (l' := [(0, .ref (P 23)), (1, .int v1), (2, .int v2)]) rfl
          exact b_Judge_badField_44 hx hb hml hr hlk hgt hown hK hO hAO ih M v1 v2 H _ ls hl hP hD hS h
        · have h := br_F hc h
          have hl := lv_sub hl [0, 2] (l' := [(0, .ref (P 23)), (2, .int v2)]) rfl
          exact b_Judge_badField_42 hx hb hml hr hlk hgt hown hK hO hAO ih M v2 H _ ls hl hP hD hS h
set_option maxHeartbeats 4000000 in
set_option maxRecDepth 20000 in
theorem b_Judge_badField_0 {p : Program} {l : Launch} {e : Env} {s s0 : State} {m : MethodId} {args : Array Value} {below : List Frame} {meth : Method} {c : Code} {D : va_G} {cI cZ cC cJ cA : ClassId} {P : Nat → Nat} {M' : Mm} {r' : Int32}  (hx : p.tables.exec = Jvm.exec) (hb : c.code = cX5_badField) (hml : c.maxLocals = 6) (hr : meth.sig.returnType = (some .int)) (hlk : meth.locks = false) (hgt : ∀ w ∈ GT, w.before args s = true) (hown : s.vm.findClass RX5 = some m.cls) (hK : va_K D vwCl [(cI, .int), (cZ, .boolean), (cC, .char), (cJ, .long), (cA, .array .int)] s) (hO : Old s0 s) (hAO : ∀ q, (aP P 77) q → s0.heap.size ≤ q)  : ∀ (M : Mm)  (H : Heap) (locs : List Loc) (ls : Array Slot), lv_has ls 6 [(0, .ref (P 23))] → va_P D vwCl ((wX cI cZ cC cJ cA P) M) H → va_D (aP P 77) ((wX cI cZ cC cJ cA P) M) → va_S (aP P 77) s.heap H locs → q_Judge_badField M = some (M', r') → W p l e ({ frames := 1, cells := 0, slots := 0, locals := 22 }) s m args below meth c H locs 0 0 (MQ below (gQi D (aP P 77) ((wX cI cZ cC cJ cA P) M') r') args s 0 0 (aP P 77)) (F0 m 0 ls []) := by
  intro M H locs ls hl hP hD hS h
  unfold q_Judge_badField at h
  refine lv_iconst (v := 0) hx hb dX5_badField_0 (by decide) ?_
  refine lv_istore_n hx hb dX5_badField_1 rfl hl (Nat.le_of_ble_eq_true rfl) (lv' := [(1, .int 0), (0, .ref (P 23))]) rfl (fun ls hl => ?_)
  refine lv_iconst (v := 0) hx hb dX5_badField_2 (by decide) ?_
  refine lv_istore_n hx hb dX5_badField_3 rfl hl (Nat.le_of_ble_eq_true rfl) (lv' := [(2, .int 0), (1, .int 0), (0, .ref (P 23))]) rfl (fun ls hl => ?_)
  have hl := lv_sub hl [2, 1, 0] (l' := [(0, .ref (P 23)), (1, .int 0), (2, .int 0)]) rfl
  exact b_Judge_badField_4 hx hb hml hr hlk hgt hown hK hO hAO 4000 M 0 0 H _ ls hl hP hD hS h
set_option maxHeartbeats 4000000 in
set_option maxRecDepth 20000 in
theorem z_Judge_badField (l : Launch) (D : va_G) (cI cZ cC cJ cA : ClassId) (P : Nat → Nat) (s0 : State) (hAO : ∀ q, (aP P 77) q → s0.heap.size ≤ q) (M : Mm)  (M' : Mm) (r' : Int32) (h : q_Judge_badField M = some (M', r')) : Met l yX5_badField wsX5_badField ({ frames := 1, cells := 0, slots := 0, locals := 22 }) (va_Pc [.ref (P 23)] (gPre s0 D [(cI, .int), (cZ, .boolean), (cC, .char), (cJ, .long), (cA, .array .int)] (aP P 77) ((wX cI cZ cC cJ cA P) M))) (gQi D (aP P 77) ((wX cI cZ cC cJ cA P) M') r') 0 0 (aP P 77) := by
  refine Met.ofW (cc := cX5_badField) (maxL := 6) (ret := (some .int)) (by decide) rfl ?_
  intro p e s m args below meth c s₁ B hml hv
  obtain ⟨rfl, hP, hK, hD, hO⟩ := hv
  have hx := B.exec
  have hb := B.bytes
  have hr := B.returns
  have hlk := B.notSynchronized
  have hgt := fun w (h : w ∈ GT) => atoms_spec (ws := wsX5_badField) B.pre w (List.mem_cons_of_mem _ h)
  have hown : s.vm.findClass RX5 = some m.cls := findClass_of_methodNamed B.named
  have hS : va_S (aP P 77) s.heap s.heap [] := va_S.rf
  have hl := lv_entry ([.ref (P 23)]) (n := 6) (Nat.le_of_ble_eq_true rfl)
  rw [lg_entry_eq]
  generalize (lg_sl ([.ref (P 23)]) ++ List.replicate (6 - (lg_sl ([.ref (P 23)])).length) Slot.unset).toArray = ls at hl ⊢
  have hl : lv_has ls 6 [(0, .ref (P 23))] := hl
  exact b_Judge_badField_0 hx hb hml hr hlk hgt hown hK hO hAO M s.heap [] ls hl hP hD hS h
def q_Judge_isWritable  (M : Mm) (a1 : Int32) : Rs := if a1 = (-1) then (some (M, 0)) else (ix a1 128 <| if (M.1 10 (a1 : Int32).toNatClampNeg) = 1 then (some (M, 0)) else (ix a1 128 <| if (M.1 10 (a1 : Int32).toNatClampNeg) = 3 then (some (M, 0)) else (some (M, 1))))
set_option maxHeartbeats 4000000 in
set_option maxRecDepth 20000 in
theorem b_Judge_isWritable_0 {p : Program} {l : Launch} {e : Env} {s s0 : State} {m : MethodId} {args : Array Value} {below : List Frame} {meth : Method} {c : Code} {D : va_G} {cI cZ cC cJ cA : ClassId} {P : Nat → Nat} {M' : Mm} {r' : Int32}  (hx : p.tables.exec = Jvm.exec) (hb : c.code = cX5_isWritable) (hml : c.maxLocals = 2) (hr : meth.sig.returnType = (some .boolean)) (hlk : meth.locks = false) (hgt : ∀ w ∈ GT, w.before args s = true) (hown : s.vm.findClass RX5 = some m.cls) (hK : va_K D vwCl [(cI, .int), (cZ, .boolean), (cC, .char), (cJ, .long), (cA, .array .int)] s) (hO : Old s0 s) (hAO : ∀ q, (aP P 77) q → s0.heap.size ≤ q)  : ∀ (M : Mm) (a1 : Int32) (H : Heap) (locs : List Loc) (ls : Array Slot), lv_has ls 2 [(0, .ref (P 23)), (1, .int a1)] → va_P D vwCl ((wX cI cZ cC cJ cA P) M) H → va_D (aP P 77) ((wX cI cZ cC cJ cA P) M) → va_S (aP P 77) s.heap H locs → q_Judge_isWritable M a1 = some (M', r') → W p l e ({ frames := 0, cells := 0, slots := 0, locals := 0 }) s m args below meth c H locs 0 0 (MQ below (gQi D (aP P 77) ((wX cI cZ cC cJ cA P) M') r') args s 0 0 (aP P 77)) (F0 m 0 ls []) := by
  intro M a1 H locs ls hl hP hD hS h
  unfold q_Judge_isWritable at h
  refine lv_iload_n hx hb dX5_isWritable_0 rfl (lv_at hl 1 rfl) ?_
  refine lv_iconst (v := (-1)) hx hb dX5_isWritable_1 (by decide) ?_
  refine lv_icmp_eq hx hb dX5_isWritable_2 (tgt := 35) rfl (fun hc => ?_) (fun hc => ?_)
  · have h := br_T hc h
    refine lv_iconst (v := 0) hx hb dX5_isWritable_35 (by decide) ?_
    exact rt_z (w := (wX cI cZ cC cJ cA P)) hx hb hr hlk rfl hP hD hS h dX5_isWritable_36
  · have h := br_F hc h
    refine lv_aload_n hx hb dX5_isWritable_5 rfl (lv_at hl 0 rfl) ?_
    refine va_get (D := D) (ci := 5) (v := .ref (P 1)) (C := RX5) (T := TX5) (N := 3) hx hb hgt iwX5 hown hK hP 23 gX_23 rfl 0 (Nat.le_of_ble_eq_true rfl) (hgt _ wd_0_208) (fun _ h9 => h9) rfl dX5_isWritable_6 ?_
    refine va_get (D := D) (ci := 4) (v := .ref (P 10)) (C := RX4) (T := TX4) (N := 15) hx hb hgt iwX4 hown hK hP 1 gX_1 rfl 10 (Nat.le_of_ble_eq_true rfl) (hgt _ wd_0_132) (fun _ h9 => h9) rfl dX5_isWritable_9 ?_
    refine lv_iload_n hx hb dX5_isWritable_12 rfl (lv_at hl 1 rfl) ?_
    refine va_iald hx hb hK hP 10 0 gX_10 rfl (ix_l h) dX5_isWritable_13 ?_
    have h := ix_r h
    refine lv_iconst (v := 1) hx hb dX5_isWritable_14 (by decide) ?_
    refine lv_icmp_eq hx hb dX5_isWritable_15 (tgt := 35) rfl (fun hc => ?_) (fun hc => ?_)
    · have h := br_T hc h
      refine lv_iconst (v := 0) hx hb dX5_isWritable_35 (by decide) ?_
      exact rt_z (w := (wX cI cZ cC cJ cA P)) hx hb hr hlk rfl hP hD hS h dX5_isWritable_36
    · have h := br_F hc h
      refine lv_aload_n hx hb dX5_isWritable_18 rfl (lv_at hl 0 rfl) ?_
      refine va_get (D := D) (ci := 5) (v := .ref (P 1)) (C := RX5) (T := TX5) (N := 3) hx hb hgt iwX5 hown hK hP 23 gX_23 rfl 0 (Nat.le_of_ble_eq_true rfl) (hgt _ wd_0_208) (fun _ h9 => h9) rfl dX5_isWritable_19 ?_
      refine va_get (D := D) (ci := 4) (v := .ref (P 10)) (C := RX4) (T := TX4) (N := 15) hx hb hgt iwX4 hown hK hP 1 gX_1 rfl 10 (Nat.le_of_ble_eq_true rfl) (hgt _ wd_0_132) (fun _ h9 => h9) rfl dX5_isWritable_22 ?_
      refine lv_iload_n hx hb dX5_isWritable_25 rfl (lv_at hl 1 rfl) ?_
      refine va_iald hx hb hK hP 10 0 gX_10 rfl (ix_l h) dX5_isWritable_26 ?_
      have h := ix_r h
      refine lv_iconst (v := 3) hx hb dX5_isWritable_27 (by decide) ?_
      refine lv_icmp_eq hx hb dX5_isWritable_28 (tgt := 35) rfl (fun hc => ?_) (fun hc => ?_)
      · have h := br_T hc h
        refine lv_iconst (v := 0) hx hb dX5_isWritable_35 (by decide) ?_
        exact rt_z (w := (wX cI cZ cC cJ cA P)) hx hb hr hlk rfl hP hD hS h dX5_isWritable_36
      · have h := br_F hc h
        refine lv_iconst (v := 1) hx hb dX5_isWritable_31 (by decide) ?_
        refine lv_goto hx hb dX5_isWritable_32 (tgt := 36) rfl ?_
        exact rt_z (w := (wX cI cZ cC cJ cA P)) hx hb hr hlk rfl hP hD hS h dX5_isWritable_36
set_option maxHeartbeats 4000000 in
set_option maxRecDepth 20000 in
theorem z_Judge_isWritable (l : Launch) (D : va_G) (cI cZ cC cJ cA : ClassId) (P : Nat → Nat) (s0 : State) (hAO : ∀ q, (aP P 77) q → s0.heap.size ≤ q) (M : Mm) (a1 : Int32) (M' : Mm) (r' : Int32) (h : q_Judge_isWritable M a1 = some (M', r')) : Met l yX5_isWritable wsX5_isWritable ({ frames := 0, cells := 0, slots := 0, locals := 0 }) (va_Pc [.ref (P 23), .int a1] (gPre s0 D [(cI, .int), (cZ, .boolean), (cC, .char), (cJ, .long), (cA, .array .int)] (aP P 77) ((wX cI cZ cC cJ cA P) M))) (gQi D (aP P 77) ((wX cI cZ cC cJ cA P) M') r') 0 0 (aP P 77) := by
  refine Met.ofW (cc := cX5_isWritable) (maxL := 2) (ret := (some .boolean)) (by decide) rfl ?_
  intro p e s m args below meth c s₁ B hml hv
  obtain ⟨rfl, hP, hK, hD, hO⟩ := hv
  have hx := B.exec
  have hb := B.bytes
  have hr := B.returns
  have hlk := B.notSynchronized
  have hgt := fun w (h : w ∈ GT) => atoms_spec (ws := wsX5_isWritable) B.pre w (List.mem_cons_of_mem _ h)
  have hown : s.vm.findClass RX5 = some m.cls := findClass_of_methodNamed B.named
  have hS : va_S (aP P 77) s.heap s.heap [] := va_S.rf
  have hl := lv_entry ([.ref (P 23), .int a1]) (n := 2) (Nat.le_of_ble_eq_true rfl)
  rw [lg_entry_eq]
  generalize (lg_sl ([.ref (P 23), .int a1]) ++ List.replicate (2 - (lg_sl ([.ref (P 23), .int a1])).length) Slot.unset).toArray = ls at hl ⊢
  have hl : lv_has ls 2 [(0, .ref (P 23)), (1, .int a1)] := hl
  exact b_Judge_isWritable_0 hx hb hml hr hlk hgt hown hK hO hAO M a1 s.heap [] ls hl hP hD hS h
end
section
def q_Judge_isKnown  (M : Mm) (a1 : Int32) : Rs := if a1 = (-1) then (some (M, 0)) else (ix a1 128 <| if (M.1 10 (a1 : Int32).toNatClampNeg) = 0 then (some (M, 1)) else (ix a1 128 <| if (M.1 10 (a1 : Int32).toNatClampNeg) = 2 then (some (M, 1)) else (some (M, 0))))
set_option maxHeartbeats 4000000 in
set_option maxRecDepth 20000 in
theorem b_Judge_isKnown_0 {p : Program} {l : Launch} {e : Env} {s s0 : State} {m : MethodId} {args : Array Value} {below : List Frame} {meth : Method} {c : Code} {D : va_G} {cI cZ cC cJ cA : ClassId} {P : Nat → Nat} {M' : Mm} {r' : Int32}  (hx : p.tables.exec = Jvm.exec) (hb : c.code = cX5_isKnown) (hml : c.maxLocals = 2) (hr : meth.sig.returnType = (some .boolean)) (hlk : meth.locks = false) (hgt : ∀ w ∈ GT, w.before args s = true) (hown : s.vm.findClass RX5 = some m.cls) (hK : va_K D vwCl [(cI, .int), (cZ, .boolean), (cC, .char), (cJ, .long), (cA, .array .int)] s) (hO : Old s0 s) (hAO : ∀ q, (aP P 77) q → s0.heap.size ≤ q)  : ∀ (M : Mm) (a1 : Int32) (H : Heap) (locs : List Loc) (ls : Array Slot), lv_has ls 2 [(0, .ref (P 23)), (1, .int a1)] → va_P D vwCl ((wX cI cZ cC cJ cA P) M) H → va_D (aP P 77) ((wX cI cZ cC cJ cA P) M) → va_S (aP P 77) s.heap H locs → q_Judge_isKnown M a1 = some (M', r') → W p l e ({ frames := 0, cells := 0, slots := 0, locals := 0 }) s m args below meth c H locs 0 0 (MQ below (gQi D (aP P 77) ((wX cI cZ cC cJ cA P) M') r') args s 0 0 (aP P 77)) (F0 m 0 ls []) := by
  intro M a1 H locs ls hl hP hD hS h
  unfold q_Judge_isKnown at h
  refine lv_iload_n hx hb dX5_isKnown_0 rfl (lv_at hl 1 rfl) ?_
  refine lv_iconst (v := (-1)) hx hb dX5_isKnown_1 (by decide) ?_
  refine lv_icmp_eq hx hb dX5_isKnown_2 (tgt := 34) rfl (fun hc => ?_) (fun hc => ?_)
  · have h := br_T hc h
    refine lv_iconst (v := 0) hx hb dX5_isKnown_34 (by decide) ?_
    exact rt_z (w := (wX cI cZ cC cJ cA P)) hx hb hr hlk rfl hP hD hS h dX5_isKnown_35
  · have h := br_F hc h
    refine lv_aload_n hx hb dX5_isKnown_5 rfl (lv_at hl 0 rfl) ?_
    refine va_get (D := D) (ci := 5) (v := .ref (P 1)) (C := RX5) (T := TX5) (N := 3) hx hb hgt iwX5 hown hK hP 23 gX_23 rfl 0 (Nat.le_of_ble_eq_true rfl) (hgt _ wd_0_208) (fun _ h9 => h9) rfl dX5_isKnown_6 ?_
    refine va_get (D := D) (ci := 4) (v := .ref (P 10)) (C := RX4) (T := TX4) (N := 15) hx hb hgt iwX4 hown hK hP 1 gX_1 rfl 10 (Nat.le_of_ble_eq_true rfl) (hgt _ wd_0_132) (fun _ h9 => h9) rfl dX5_isKnown_9 ?_
    refine lv_iload_n hx hb dX5_isKnown_12 rfl (lv_at hl 1 rfl) ?_
    refine va_iald hx hb hK hP 10 0 gX_10 rfl (ix_l h) dX5_isKnown_13 ?_
    have h := ix_r h
    refine lv_if_eq hx hb dX5_isKnown_14 (tgt := 30) rfl (fun hc => ?_) (fun hc => ?_)
    · have h := br_T hc h
      refine lv_iconst (v := 1) hx hb dX5_isKnown_30 (by decide) ?_
      refine lv_goto hx hb dX5_isKnown_31 (tgt := 35) rfl ?_
      exact rt_z (w := (wX cI cZ cC cJ cA P)) hx hb hr hlk rfl hP hD hS h dX5_isKnown_35
    · have h := br_F hc h
      refine lv_aload_n hx hb dX5_isKnown_17 rfl (lv_at hl 0 rfl) ?_
      refine va_get (D := D) (ci := 5) (v := .ref (P 1)) (C := RX5) (T := TX5) (N := 3) hx hb hgt iwX5 hown hK hP 23 gX_23 rfl 0 (Nat.le_of_ble_eq_true rfl) (hgt _ wd_0_208) (fun _ h9 => h9) rfl dX5_isKnown_18 ?_
      refine va_get (D := D) (ci := 4) (v := .ref (P 10)) (C := RX4) (T := TX4) (N := 15) hx hb hgt iwX4 hown hK hP 1 gX_1 rfl 10 (Nat.le_of_ble_eq_true rfl) (hgt _ wd_0_132) (fun _ h9 => h9) rfl dX5_isKnown_21 ?_
      refine lv_iload_n hx hb dX5_isKnown_24 rfl (lv_at hl 1 rfl) ?_
      refine va_iald hx hb hK hP 10 0 gX_10 rfl (ix_l h) dX5_isKnown_25 ?_
      have h := ix_r h
      refine lv_iconst (v := 2) hx hb dX5_isKnown_26 (by decide) ?_
      refine lv_icmp_ne hx hb dX5_isKnown_27 (tgt := 34) rfl (fun hc => ?_) (fun hc => ?_)
      · have h := br_F hc h
        refine lv_iconst (v := 0) hx hb dX5_isKnown_34 (by decide) ?_
        exact rt_z (w := (wX cI cZ cC cJ cA P)) hx hb hr hlk rfl hP hD hS h dX5_isKnown_35
      · have h := br_T hc h
        refine lv_iconst (v := 1) hx hb dX5_isKnown_30 (by decide) ?_
        refine lv_goto hx hb dX5_isKnown_31 (tgt := 35) rfl ?_
        exact rt_z (w := (wX cI cZ cC cJ cA P)) hx hb hr hlk rfl hP hD hS h dX5_isKnown_35
set_option maxHeartbeats 4000000 in
set_option maxRecDepth 20000 in
theorem z_Judge_isKnown (l : Launch) (D : va_G) (cI cZ cC cJ cA : ClassId) (P : Nat → Nat) (s0 : State) (hAO : ∀ q, (aP P 77) q → s0.heap.size ≤ q) (M : Mm) (a1 : Int32) (M' : Mm) (r' : Int32) (h : q_Judge_isKnown M a1 = some (M', r')) : Met l yX5_isKnown wsX5_isKnown ({ frames := 0, cells := 0, slots := 0, locals := 0 }) (va_Pc [.ref (P 23), .int a1] (gPre s0 D [(cI, .int), (cZ, .boolean), (cC, .char), (cJ, .long), (cA, .array .int)] (aP P 77) ((wX cI cZ cC cJ cA P) M))) (gQi D (aP P 77) ((wX cI cZ cC cJ cA P) M') r') 0 0 (aP P 77) := by
  refine Met.ofW (cc := cX5_isKnown) (maxL := 2) (ret := (some .boolean)) (by decide) rfl ?_
  intro p e s m args below meth c s₁ B hml hv
  obtain ⟨rfl, hP, hK, hD, hO⟩ := hv
  have hx := B.exec
  have hb := B.bytes
  have hr := B.returns
  have hlk := B.notSynchronized
  have hgt := fun w (h : w ∈ GT) => atoms_spec (ws := wsX5_isKnown) B.pre w (List.mem_cons_of_mem _ h)
  have hown : s.vm.findClass RX5 = some m.cls := findClass_of_methodNamed B.named
  have hS : va_S (aP P 77) s.heap s.heap [] := va_S.rf
  have hl := lv_entry ([.ref (P 23), .int a1]) (n := 2) (Nat.le_of_ble_eq_true rfl)
  rw [lg_entry_eq]
  generalize (lg_sl ([.ref (P 23), .int a1]) ++ List.replicate (2 - (lg_sl ([.ref (P 23), .int a1])).length) Slot.unset).toArray = ls at hl ⊢
  have hl : lv_has ls 2 [(0, .ref (P 23)), (1, .int a1)] := hl
  exact b_Judge_isKnown_0 hx hb hml hr hlk hgt hown hK hO hAO M a1 s.heap [] ls hl hP hD hS h
def q_Judge_badRule_107 (kf10 : Mm → Int32 → Rs) (M : Mm) (v2 : Int32) (t0 : Int32) : Rs := if t0 = 0 then (ix v2 12 <| some (M, (M.1 20 (v2 : Int32).toNatClampNeg))) else (kf10 M (v2 + 1))
def q_Judge_badRule_98 (kf10 : Mm → Int32 → Rs) (M : Mm) (v2 : Int32) : Rs := q_Judge_badRule_107 kf10 M v2 0
def q_Judge_badRule_10  : Nat → Mm → Int32 → Rs
  | 0, _, _ => none
  | n' + 1, M, v2 => if (M.1 14 0) ≤ v2 then (some (M, (-1))) else (ix v2 12 <| cal (q_Draft_rowOf M (M.1 16 (v2 : Int32).toNatClampNeg)) fun M1 r2 => cal (q_Judge_isWritable M1 r2) fun M3 r4 => if r4 = 0 then (ix v2 12 <| some (M3, (M3.1 19 (v2 : Int32).toNatClampNeg))) else (ix v2 12 <| cal (q_Draft_rowOf M3 (M3.1 17 (v2 : Int32).toNatClampNeg)) fun M5 r6 => ix v2 12 <| if (M5.1 15 (v2 : Int32).toNatClampNeg) = 1 then (cal (q_Judge_isKnown M5 r6) fun M7 r8 => if r8 = 0 then (q_Judge_badRule_98 (q_Judge_badRule_10 n') M7 v2) else (ix v2 12 <| cal (q_Draft_fits M7 r6 (M7.1 18 (v2 : Int32).toNatClampNeg)) fun M9 r10 => if r10 = 0 then (q_Judge_badRule_98 (q_Judge_badRule_10 n') M9 v2) else (q_Judge_badRule_107 (q_Judge_badRule_10 n') M9 v2 1))) else (cal (q_Judge_isWritable M5 r6) fun M7 r8 => q_Judge_badRule_107 (q_Judge_badRule_10 n') M7 v2 r8)))
def q_Judge_badRule  (M : Mm)  : Rs := q_Judge_badRule_10 4000 M 0
set_option maxHeartbeats 4000000 in
set_option maxRecDepth 20000 in
theorem b_Judge_badRule_107 {p : Program} {l : Launch} {e : Env} {s s0 : State} {m : MethodId} {args : Array Value} {below : List Frame} {meth : Method} {c : Code} {D : va_G} {cI cZ cC cJ cA : ClassId} {P : Nat → Nat} {M' : Mm} {r' : Int32} {kf10 : Mm → Int32 → Rs} (hx : p.tables.exec = Jvm.exec) (hb : c.code = cX5_badRule) (hml : c.maxLocals = 5) (hr : meth.sig.returnType = (some .int)) (hlk : meth.locks = false) (hgt : ∀ w ∈ GT, w.before args s = true) (hown : s.vm.findClass RX5 = some m.cls) (hK : va_K D vwCl [(cI, .int), (cZ, .boolean), (cC, .char), (cJ, .long), (cA, .array .int)] s) (hO : Old s0 s) (hAO : ∀ q, (aP P 77) q → s0.heap.size ≤ q) (kk10 : ∀ (M : Mm) (v2 : Int32) (H : Heap) (locs : List Loc) (ls : Array Slot), lv_has ls 5 [(0, .ref (P 23)), (1, .ref (P 14)), (2, .int v2)] → va_P D vwCl ((wX cI cZ cC cJ cA P) M) H → va_D (aP P 77) ((wX cI cZ cC cJ cA P) M) → va_S (aP P 77) s.heap H locs → kf10 M v2 = some (M', r') → W p l e ({ frames := 1, cells := 0, slots := 0, locals := 22 }) s m args below meth c H locs 0 0 (MQ below (gQi D (aP P 77) ((wX cI cZ cC cJ cA P) M') r') args s 0 0 (aP P 77)) (F0 m 10 ls [])) : ∀ (M : Mm) (v2 : Int32) (t0 : Int32) (H : Heap) (locs : List Loc) (ls : Array Slot), lv_has ls 5 [(0, .ref (P 23)), (1, .ref (P 14)), (2, .int v2)] → va_P D vwCl ((wX cI cZ cC cJ cA P) M) H → va_D (aP P 77) ((wX cI cZ cC cJ cA P) M) → va_S (aP P 77) s.heap H locs → q_Judge_badRule_107 kf10 M v2 t0 = some (M', r') → W p l e ({ frames := 1, cells := 0, slots := 0, locals := 22 }) s m args below meth c H locs 0 0 (MQ below (gQi D (aP P 77) ((wX cI cZ cC cJ cA P) M') r') args s 0 0 (aP P 77)) (F0 m 107 ls [.int t0]) := by
  intro M v2 t0 H locs ls hl hP hD hS h
  unfold q_Judge_badRule_107 at h
  refine lv_istore hx hb dX5_badRule_107 hl (Nat.le_of_ble_eq_true rfl) (lv' := [(4, .int t0), (0, .ref (P 23)), (1, .ref (P 14)), (2, .int v2)]) rfl (fun ls hl => ?_)
  refine lv_iload hx hb dX5_badRule_109 (lv_at hl 0 rfl) ?_
  refine lv_if_ne hx hb dX5_badRule_111 (tgt := 121) rfl (fun hc => ?_) (fun hc => ?_)
  · have h := br_F hc h
    refine lv_iinc (v := (v2 + 1)) hx hb dX5_badRule_121 hl (k := 3) rfl rfl (Nat.le_of_ble_eq_true rfl) (lv' := [(2, .int (v2 + 1)), (4, .int t0), (0, .ref (P 23)), (1, .ref (P 14))]) rfl (fun ls hl => ?_)
    refine lv_goto hx hb dX5_badRule_124 (tgt := 10) rfl ?_
    have hl := lv_sub hl [2, 3, 0] (l' := [(0, .ref (P 23)), (1, .ref (P 14)), (2, .int (v2 + 1))]) rfl
    exact kk10 M (v2 + 1) H locs ls hl hP hD hS h
  · have h := br_T hc h
    refine lv_aload_n hx hb dX5_badRule_114 rfl (lv_at hl 2 rfl) ?_
    refine va_get (D := D) (ci := 11) (v := .ref (P 20)) (C := RX11) (T := TX11) (N := 7) hx hb hgt iwX11 hown hK hP 14 gX_14 rfl 6 (Nat.le_of_ble_eq_true rfl) (hgt _ wd_0_75) (fun _ h9 => h9) rfl dX5_badRule_115 ?_
    refine lv_iload_n hx hb dX5_badRule_118 rfl (lv_at hl 3 rfl) ?_
    refine va_iald hx hb hK hP 20 0 gX_20 rfl (ix_l h) dX5_badRule_119 ?_
    have h := ix_r h
    exact rt_i (w := (wX cI cZ cC cJ cA P)) hx hb hr hlk hP hD hS h dX5_badRule_120
set_option maxHeartbeats 4000000 in
set_option maxRecDepth 20000 in
theorem b_Judge_badRule_98 {p : Program} {l : Launch} {e : Env} {s s0 : State} {m : MethodId} {args : Array Value} {below : List Frame} {meth : Method} {c : Code} {D : va_G} {cI cZ cC cJ cA : ClassId} {P : Nat → Nat} {M' : Mm} {r' : Int32} {kf10 : Mm → Int32 → Rs} (hx : p.tables.exec = Jvm.exec) (hb : c.code = cX5_badRule) (hml : c.maxLocals = 5) (hr : meth.sig.returnType = (some .int)) (hlk : meth.locks = false) (hgt : ∀ w ∈ GT, w.before args s = true) (hown : s.vm.findClass RX5 = some m.cls) (hK : va_K D vwCl [(cI, .int), (cZ, .boolean), (cC, .char), (cJ, .long), (cA, .array .int)] s) (hO : Old s0 s) (hAO : ∀ q, (aP P 77) q → s0.heap.size ≤ q) (kk10 : ∀ (M : Mm) (v2 : Int32) (H : Heap) (locs : List Loc) (ls : Array Slot), lv_has ls 5 [(0, .ref (P 23)), (1, .ref (P 14)), (2, .int v2)] → va_P D vwCl ((wX cI cZ cC cJ cA P) M) H → va_D (aP P 77) ((wX cI cZ cC cJ cA P) M) → va_S (aP P 77) s.heap H locs → kf10 M v2 = some (M', r') → W p l e ({ frames := 1, cells := 0, slots := 0, locals := 22 }) s m args below meth c H locs 0 0 (MQ below (gQi D (aP P 77) ((wX cI cZ cC cJ cA P) M') r') args s 0 0 (aP P 77)) (F0 m 10 ls [])) : ∀ (M : Mm) (v2 : Int32) (H : Heap) (locs : List Loc) (ls : Array Slot), lv_has ls 5 [(0, .ref (P 23)), (1, .ref (P 14)), (2, .int v2)] → va_P D vwCl ((wX cI cZ cC cJ cA P) M) H → va_D (aP P 77) ((wX cI cZ cC cJ cA P) M) → va_S (aP P 77) s.heap H locs → q_Judge_badRule_98 kf10 M v2 = some (M', r') → W p l e ({ frames := 1, cells := 0, slots := 0, locals := 22 }) s m args below meth c H locs 0 0 (MQ below (gQi D (aP P 77) ((wX cI cZ cC cJ cA P) M') r') args s 0 0 (aP P 77)) (F0 m 98 ls []) := by
  intro M v2 H locs ls hl hP hD hS h
  unfold q_Judge_badRule_98 at h
  refine lv_iconst (v := 0) hx hb dX5_badRule_98 (by decide) ?_
  refine lv_goto hx hb dX5_badRule_99 (tgt := 107) rfl ?_
  have hl := lv_sub hl [0, 1, 2] (l' := [(0, .ref (P 23)), (1, .ref (P 14)), (2, .int v2)]) rfl
  exact b_Judge_badRule_107 hx hb hml hr hlk hgt hown hK hO hAO kk10 M v2 0 H _ ls hl hP hD hS h
set_option maxHeartbeats 4000000 in
set_option maxRecDepth 20000 in
theorem b_Judge_badRule_10 {p : Program} {l : Launch} {e : Env} {s s0 : State} {m : MethodId} {args : Array Value} {below : List Frame} {meth : Method} {c : Code} {D : va_G} {cI cZ cC cJ cA : ClassId} {P : Nat → Nat} {M' : Mm} {r' : Int32}  (hx : p.tables.exec = Jvm.exec) (hb : c.code = cX5_badRule) (hml : c.maxLocals = 5) (hr : meth.sig.returnType = (some .int)) (hlk : meth.locks = false) (hgt : ∀ w ∈ GT, w.before args s = true) (hown : s.vm.findClass RX5 = some m.cls) (hK : va_K D vwCl [(cI, .int), (cZ, .boolean), (cC, .char), (cJ, .long), (cA, .array .int)] s) (hO : Old s0 s) (hAO : ∀ q, (aP P 77) q → s0.heap.size ≤ q)  : ∀ (n' : Nat) (M : Mm) (v2 : Int32) (H : Heap) (locs : List Loc) (ls : Array Slot), lv_has ls 5 [(0, .ref (P 23)), (1, .ref (P 14)), (2, .int v2)] → va_P D vwCl ((wX cI cZ cC cJ cA P) M) H → va_D (aP P 77) ((wX cI cZ cC cJ cA P) M) → va_S (aP P 77) s.heap H locs → q_Judge_badRule_10 n' M v2 = some (M', r') → W p l e ({ frames := 1, cells := 0, slots := 0, locals := 22 }) s m args below meth c H locs 0 0 (MQ below (gQi D (aP P 77) ((wX cI cZ cC cJ cA P) M') r') args s 0 0 (aP P 77)) (F0 m 10 ls []) := by
  intro n'
  induction n' with
  | zero => exact fun _ _ _ _ _ _ _ _ _ h => (rs_n h).elim
  | succ n' ih =>
    intro M v2 H locs ls hl hP hD hS h
    rw [q_Judge_badRule_10] at h
    refine lv_iload_n hx hb dX5_badRule_10 rfl (lv_at hl 2 rfl) ?_
    refine lv_aload_n hx hb dX5_badRule_11 rfl (lv_at hl 1 rfl) ?_
    refine va_get (D := D) (ci := 11) (v := .int (M.1 14 0)) (C := RX11) (T := TX11) (N := 7) hx hb hgt iwX11 hown hK hP 14 gX_14 rfl 0 (Nat.le_of_ble_eq_true rfl) (hgt _ wd_0_53) (fun _ h9 => h9) rfl dX5_badRule_12 ?_
    refine lv_icmp_ge hx hb dX5_badRule_15 (tgt := 127) rfl (fun hc => ?_) (fun hc => ?_)
    · have h := br_T hc h
      refine lv_iconst (v := (-1)) hx hb dX5_badRule_127 (by decide) ?_
      exact rt_i (w := (wX cI cZ cC cJ cA P)) hx hb hr hlk hP hD hS h dX5_badRule_128
    · have h := br_F hc h
      refine lv_aload_n hx hb dX5_badRule_18 rfl (lv_at hl 0 rfl) ?_
      refine lv_aload_n hx hb dX5_badRule_19 rfl (lv_at hl 0 rfl) ?_
      refine va_get (D := D) (ci := 5) (v := .ref (P 1)) (C := RX5) (T := TX5) (N := 3) hx hb hgt iwX5 hown hK hP 23 gX_23 rfl 0 (Nat.le_of_ble_eq_true rfl) (hgt _ wd_0_208) (fun _ h9 => h9) rfl dX5_badRule_20 ?_
      refine lv_aload_n hx hb dX5_badRule_23 rfl (lv_at hl 1 rfl) ?_
      refine va_get (D := D) (ci := 11) (v := .ref (P 16)) (C := RX11) (T := TX11) (N := 7) hx hb hgt iwX11 hown hK hP 14 gX_14 rfl 2 (Nat.le_of_ble_eq_true rfl) (hgt _ wd_0_61) (fun _ h9 => h9) rfl dX5_badRule_24 ?_
      refine lv_iload_n hx hb dX5_badRule_27 rfl (lv_at hl 2 rfl) ?_
      refine va_iald hx hb hK hP 16 0 gX_16 rfl (ix_l h) dX5_badRule_28 ?_
      have h := ix_r h
      obtain ⟨M1, r2, hq, h⟩ := cal_o h
      refine cx_i (va_runV (As := [.int (M.1 16 (v2 : Int32).toNatClampNeg)]) (rest := [.ref (P 23)]) ⟨hx, hb, hml, hown, hgt⟩ (z_Draft_rowOf l D cI cZ cC cJ cA P s0 hAO M (M.1 16 (v2 : Int32).toNatClampNeg) M1 r2 hq) (cwV 1 hgt (gV wd_4_42 wd_4_43 wd_4_44 wd_0_2 wd_4_45) rfl rfl rfl (by decide +kernel) ⟨Nat.le_of_ble_eq_true rfl, Nat.le_of_ble_eq_true rfl⟩) (prV hP hK hD hO hAO hS (va_recv hK hP (ci := 4) (q0 := 1) rfl gX_1)) rfl rfl hl.1 rfl (lv_room (Nat.le_of_ble_eq_true rfl)) dX5_badRule_29 ⟨Nat.le_of_ble_eq_true rfl, Nat.le_of_ble_eq_true rfl⟩) hS (fun H locs hP hD hS => ?_)
      obtain ⟨M3, r4, hq, h⟩ := cal_o h
      refine cx_i (va_runV (As := [.int r2]) (rest := []) ⟨hx, hb, hml, hown, hgt⟩ (z_Judge_isWritable l D cI cZ cC cJ cA P s0 hAO M1 r2 M3 r4 hq) (cwV 1 hgt (gV wd_4_70 wd_4_72 sl__ChipMap_Judge____ChipMap_Judge___isWritable____I_Z_____ChipMap_Judge___isWritable____I_Z__ wd_0_5 wd_4_73) rfl rfl rfl (by decide +kernel) ⟨Nat.le_of_ble_eq_true rfl, Nat.le_of_ble_eq_true rfl⟩) (prV hP hK hD hO hAO hS (va_recv hK hP (ci := 5) (q0 := 23) rfl gX_23)) rfl rfl hl.1 rfl (lv_room (Nat.le_of_ble_eq_true rfl)) dX5_badRule_32 ⟨Nat.le_of_ble_eq_true rfl, Nat.le_of_ble_eq_true rfl⟩) hS (fun H locs hP hD hS => ?_)
      refine lv_if_ne hx hb dX5_badRule_35 (tgt := 45) rfl (fun hc => ?_) (fun hc => ?_)
      · have h := br_F hc h
        refine lv_aload_n hx hb dX5_badRule_45 rfl (lv_at hl 0 rfl) ?_
        refine va_get (D := D) (ci := 5) (v := .ref (P 1)) (C := RX5) (T := TX5) (N := 3) hx hb hgt iwX5 hown hK hP 23 gX_23 rfl 0 (Nat.le_of_ble_eq_true rfl) (hgt _ wd_0_208) (fun _ h9 => h9) rfl dX5_badRule_46 ?_
        refine lv_aload_n hx hb dX5_badRule_49 rfl (lv_at hl 1 rfl) ?_
        refine va_get (D := D) (ci := 11) (v := .ref (P 17)) (C := RX11) (T := TX11) (N := 7) hx hb hgt iwX11 hown hK hP 14 gX_14 rfl 3 (Nat.le_of_ble_eq_true rfl) (hgt _ wd_0_65) (fun _ h9 => h9) rfl dX5_badRule_50 ?_
        refine lv_iload_n hx hb dX5_badRule_53 rfl (lv_at hl 2 rfl) ?_
        refine va_iald hx hb hK hP 17 0 gX_17 rfl (ix_l h) dX5_badRule_54 ?_
        have h := ix_r h
        obtain ⟨M5, r6, hq, h⟩ := cal_o h
        refine cx_i (va_runV (As := [.int (M3.1 17 (v2 : Int32).toNatClampNeg)]) (rest := []) ⟨hx, hb, hml, hown, hgt⟩ (z_Draft_rowOf l D cI cZ cC cJ cA P s0 hAO M3 (M3.1 17 (v2 : Int32).toNatClampNeg) M5 r6 hq) (cwV 1 hgt (gV wd_4_42 wd_4_43 wd_4_44 wd_0_2 wd_4_45) rfl rfl rfl (by decide +kernel) ⟨Nat.le_of_ble_eq_true rfl, Nat.le_of_ble_eq_true rfl⟩) (prV hP hK hD hO hAO hS (va_recv hK hP (ci := 4) (q0 := 1) rfl gX_1)) rfl rfl hl.1 rfl (lv_room (Nat.le_of_ble_eq_true rfl)) dX5_badRule_55 ⟨Nat.le_of_ble_eq_true rfl, Nat.le_of_ble_eq_true rfl⟩) hS (fun H locs hP hD hS => ?_)
        refine lv_istore_n hx hb dX5_badRule_58 rfl hl (Nat.le_of_ble_eq_true rfl) (lv' := [(3, .int r6), (0, .ref (P 23)), (1, .ref (P 14)), (2, .int v2)]) rfl (fun ls hl => ?_)
        refine lv_aload_n hx hb dX5_badRule_59 rfl (lv_at hl 2 rfl) ?_
        refine va_get (D := D) (ci := 11) (v := .ref (P 15)) (C := RX11) (T := TX11) (N := 7) hx hb hgt iwX11 hown hK hP 14 gX_14 rfl 1 (Nat.le_of_ble_eq_true rfl) (hgt _ wd_0_57) (fun _ h9 => h9) rfl dX5_badRule_60 ?_
        refine lv_iload_n hx hb dX5_badRule_63 rfl (lv_at hl 3 rfl) ?_
        refine va_iald hx hb hK hP 15 0 gX_15 rfl (ix_l h) dX5_badRule_64 ?_
        have h := ix_r h
        refine lv_iconst (v := 1) hx hb dX5_badRule_65 (by decide) ?_
        refine lv_icmp_ne hx hb dX5_badRule_66 (tgt := 102) rfl (fun hc => ?_) (fun hc => ?_)
        · have h := br_F hc h
          refine lv_aload_n hx hb dX5_badRule_102 rfl (lv_at hl 1 rfl) ?_
          refine lv_iload_n hx hb dX5_badRule_103 rfl (lv_at hl 0 rfl) ?_
          obtain ⟨M7, r8, hq, h⟩ := cal_o h
          refine cx_i (va_runV (As := [.int r6]) (rest := []) ⟨hx, hb, hml, hown, hgt⟩ (z_Judge_isWritable l D cI cZ cC cJ cA P s0 hAO M5 r6 M7 r8 hq) (cwV 1 hgt (gV wd_4_70 wd_4_72 sl__ChipMap_Judge____ChipMap_Judge___isWritable____I_Z_____ChipMap_Judge___isWritable____I_Z__ wd_0_5 wd_4_73) rfl rfl rfl (by decide +kernel) ⟨Nat.le_of_ble_eq_true rfl, Nat.le_of_ble_eq_true rfl⟩) (prV hP hK hD hO hAO hS (va_recv hK hP (ci := 5) (q0 := 23) rfl gX_23)) rfl rfl hl.1 rfl (lv_room (Nat.le_of_ble_eq_true rfl)) dX5_badRule_104 ⟨Nat.le_of_ble_eq_true rfl, Nat.le_of_ble_eq_true rfl⟩) hS (fun H locs hP hD hS => ?_)
          have hl := lv_sub hl [1, 2, 3] (l' := [(0, .ref (P 23)), (1, .ref (P 14)), (2, .int v2)]) rfl
          exact b_Judge_badRule_107 hx hb hml hr hlk hgt hown hK hO hAO ih M7 v2 r8 H _ ls hl hP hD hS h
        · have h := br_T hc h
          refine lv_aload_n hx hb dX5_badRule_69 rfl (lv_at hl 1 rfl) ?_
          refine lv_iload_n hx hb dX5_badRule_70 rfl (lv_at hl 0 rfl) ?_
          obtain ⟨M7, r8, hq, h⟩ := cal_o h
          refine cx_i (va_runV (As := [.int r6]) (rest := []) ⟨hx, hb, hml, hown, hgt⟩ (z_Judge_isKnown l D cI cZ cC cJ cA P s0 hAO M5 r6 M7 r8 hq) (cwV 1 hgt (gV wd_4_74 wd_4_76 sl__ChipMap_Judge____ChipMap_Judge___isKnown____I_Z_____ChipMap_Judge___isKnown____I_Z__ wd_0_5 wd_4_77) rfl rfl rfl (by decide +kernel) ⟨Nat.le_of_ble_eq_true rfl, Nat.le_of_ble_eq_true rfl⟩) (prV hP hK hD hO hAO hS (va_recv hK hP (ci := 5) (q0 := 23) rfl gX_23)) rfl rfl hl.1 rfl (lv_room (Nat.le_of_ble_eq_true rfl)) dX5_badRule_71 ⟨Nat.le_of_ble_eq_true rfl, Nat.le_of_ble_eq_true rfl⟩) hS (fun H locs hP hD hS => ?_)
          refine lv_if_eq hx hb dX5_badRule_74 (tgt := 98) rfl (fun hc => ?_) (fun hc => ?_)
          · have h := br_T hc h
            have hl := lv_sub hl [1, 2, 3] (l' := [(0, .ref (P 23)), (1, .ref (P 14)), (2, .int v2)]) rfl
            exact b_Judge_badRule_98 hx hb hml hr hlk hgt hown hK hO hAO ih M7 v2 H _ ls hl hP hD hS h
          · have h := br_F hc h
            refine lv_aload_n hx hb dX5_badRule_77 rfl (lv_at hl 1 rfl) ?_
            refine va_get (D := D) (ci := 5) (v := .ref (P 1)) (C := RX5) (T := TX5) (N := 3) hx hb hgt iwX5 hown hK hP 23 gX_23 rfl 0 (Nat.le_of_ble_eq_true rfl) (hgt _ wd_0_208) (fun _ h9 => h9) rfl dX5_badRule_78 ?_
            refine lv_iload_n hx hb dX5_badRule_81 rfl (lv_at hl 0 rfl) ?_
            refine lv_aload_n hx hb dX5_badRule_82 rfl (lv_at hl 2 rfl) ?_
            refine va_get (D := D) (ci := 11) (v := .ref (P 18)) (C := RX11) (T := TX11) (N := 7) hx hb hgt iwX11 hown hK hP 14 gX_14 rfl 4 (Nat.le_of_ble_eq_true rfl) (hgt _ wd_0_69) (fun _ h9 => h9) rfl dX5_badRule_83 ?_
            refine lv_iload_n hx hb dX5_badRule_86 rfl (lv_at hl 3 rfl) ?_
            refine va_iald hx hb hK hP 18 0 gX_18 rfl (ix_l h) dX5_badRule_87 ?_
            have h := ix_r h
            obtain ⟨M9, r10, hq, h⟩ := cal_o h
            refine cx_i (va_runV (As := [.int r6, .int (M7.1 18 (v2 : Int32).toNatClampNeg)]) (rest := []) ⟨hx, hb, hml, hown, hgt⟩ (z_Draft_fits l D cI cZ cC cJ cA P s0 hAO M7 r6 (M7.1 18 (v2 : Int32).toNatClampNeg) M9 r10 hq) (cwV 2 hgt (gV wd_4_46 wd_4_47 wd_4_48 wd_0_2 wd_4_49) rfl rfl rfl (by decide +kernel) ⟨Nat.le_of_ble_eq_true rfl, Nat.le_of_ble_eq_true rfl⟩) (prV hP hK hD hO hAO hS (va_recv hK hP (ci := 4) (q0 := 1) rfl gX_1)) rfl rfl hl.1 rfl (lv_room (Nat.le_of_ble_eq_true rfl)) dX5_badRule_88 ⟨Nat.le_of_ble_eq_true rfl, Nat.le_of_ble_eq_true rfl⟩) hS (fun H locs hP hD hS => ?_)
            refine lv_if_eq hx hb dX5_badRule_91 (tgt := 98) rfl (fun hc => ?_) (fun hc => ?_)
            · have h := br_T hc h
              have hl := lv_sub hl [1, 2, 3] (l' := [(0, .ref (P 23)), (1, .ref (P 14)), (2, .int v2)]) rfl
              exact b_Judge_badRule_98 hx hb hml hr hlk hgt hown hK hO hAO ih M9 v2 H _ ls hl hP hD hS h
            · have h := br_F hc h
              refine lv_iconst (v := 1) hx hb dX5_badRule_94 (by decide) ?_
              refine lv_goto hx hb dX5_badRule_95 (tgt := 107) rfl ?_
              have hl := lv_sub hl [1, 2, 3] (l' := [(0, .ref (P 23)), (1, .ref (P 14)), (2, .int v2)]) rfl
              exact b_Judge_badRule_107 hx hb hml hr hlk hgt hown hK hO hAO ih M9 v2 1 H _ ls hl hP hD hS h
      · have h := br_T hc h
        refine lv_aload_n hx hb dX5_badRule_38 rfl (lv_at hl 1 rfl) ?_
        refine va_get (D := D) (ci := 11) (v := .ref (P 19)) (C := RX11) (T := TX11) (N := 7) hx hb hgt iwX11 hown hK hP 14 gX_14 rfl 5 (Nat.le_of_ble_eq_true rfl) (hgt _ wd_0_72) (fun _ h9 => h9) rfl dX5_badRule_39 ?_
        refine lv_iload_n hx hb dX5_badRule_42 rfl (lv_at hl 2 rfl) ?_
        refine va_iald hx hb hK hP 19 0 gX_19 rfl (ix_l h) dX5_badRule_43 ?_
        have h := ix_r h
        exact rt_i (w := (wX cI cZ cC cJ cA P)) hx hb hr hlk hP hD hS h dX5_badRule_44
set_option maxHeartbeats 4000000 in
set_option maxRecDepth 20000 in
theorem b_Judge_badRule_0 {p : Program} {l : Launch} {e : Env} {s s0 : State} {m : MethodId} {args : Array Value} {below : List Frame} {meth : Method} {c : Code} {D : va_G} {cI cZ cC cJ cA : ClassId} {P : Nat → Nat} {M' : Mm} {r' : Int32}  (hx : p.tables.exec = Jvm.exec) (hb : c.code = cX5_badRule) (hml : c.maxLocals = 5) (hr : meth.sig.returnType = (some .int)) (hlk : meth.locks = false) (hgt : ∀ w ∈ GT, w.before args s = true) (hown : s.vm.findClass RX5 = some m.cls) (hK : va_K D vwCl [(cI, .int), (cZ, .boolean), (cC, .char), (cJ, .long), (cA, .array .int)] s) (hO : Old s0 s) (hAO : ∀ q, (aP P 77) q → s0.heap.size ≤ q)  : ∀ (M : Mm)  (H : Heap) (locs : List Loc) (ls : Array Slot), lv_has ls 5 [(0, .ref (P 23))] → va_P D vwCl ((wX cI cZ cC cJ cA P) M) H → va_D (aP P 77) ((wX cI cZ cC cJ cA P) M) → va_S (aP P 77) s.heap H locs → q_Judge_badRule M = some (M', r') → W p l e ({ frames := 1, cells := 0, slots := 0, locals := 22 }) s m args below meth c H locs 0 0 (MQ below (gQi D (aP P 77) ((wX cI cZ cC cJ cA P) M') r') args s 0 0 (aP P 77)) (F0 m 0 ls []) := by
  intro M H locs ls hl hP hD hS h
  unfold q_Judge_badRule at h
  refine lv_aload_n hx hb dX5_badRule_0 rfl (lv_at hl 0 rfl) ?_
  refine va_get (D := D) (ci := 5) (v := .ref (P 1)) (C := RX5) (T := TX5) (N := 3) hx hb hgt iwX5 hown hK hP 23 gX_23 rfl 0 (Nat.le_of_ble_eq_true rfl) (hgt _ wd_0_208) (fun _ h9 => h9) rfl dX5_badRule_1 ?_
  refine va_get (D := D) (ci := 4) (v := .ref (P 14)) (C := RX4) (T := TX4) (N := 15) hx hb hgt iwX4 hown hK hP 1 gX_1 rfl 14 (Nat.le_of_ble_eq_true rfl) (hgt _ wd_0_149) (fun _ h9 => h9) rfl dX5_badRule_4 ?_
  refine lv_astore_n hx hb dX5_badRule_7 rfl hl (Nat.le_of_ble_eq_true rfl) (lv' := [(1, .ref (P 14)), (0, .ref (P 23))]) rfl (fun ls hl => ?_)
  refine lv_iconst (v := 0) hx hb dX5_badRule_8 (by decide) ?_
  refine lv_istore_n hx hb dX5_badRule_9 rfl hl (Nat.le_of_ble_eq_true rfl) (lv' := [(2, .int 0), (1, .ref (P 14)), (0, .ref (P 23))]) rfl (fun ls hl => ?_)
  have hl := lv_sub hl [2, 1, 0] (l' := [(0, .ref (P 23)), (1, .ref (P 14)), (2, .int 0)]) rfl
  exact b_Judge_badRule_10 hx hb hml hr hlk hgt hown hK hO hAO 4000 M 0 H _ ls hl hP hD hS h
set_option maxHeartbeats 4000000 in
set_option maxRecDepth 20000 in
theorem z_Judge_badRule (l : Launch) (D : va_G) (cI cZ cC cJ cA : ClassId) (P : Nat → Nat) (s0 : State) (hAO : ∀ q, (aP P 77) q → s0.heap.size ≤ q) (M : Mm)  (M' : Mm) (r' : Int32) (h : q_Judge_badRule M = some (M', r')) : Met l yX5_badRule wsX5_badRule ({ frames := 1, cells := 0, slots := 0, locals := 22 }) (va_Pc [.ref (P 23)] (gPre s0 D [(cI, .int), (cZ, .boolean), (cC, .char), (cJ, .long), (cA, .array .int)] (aP P 77) ((wX cI cZ cC cJ cA P) M))) (gQi D (aP P 77) ((wX cI cZ cC cJ cA P) M') r') 0 0 (aP P 77) := by
  refine Met.ofW (cc := cX5_badRule) (maxL := 5) (ret := (some .int)) (by decide) rfl ?_
  intro p e s m args below meth c s₁ B hml hv
  obtain ⟨rfl, hP, hK, hD, hO⟩ := hv
  have hx := B.exec
  have hb := B.bytes
  have hr := B.returns
  have hlk := B.notSynchronized
  have hgt := fun w (h : w ∈ GT) => atoms_spec (ws := wsX5_badRule) B.pre w (List.mem_cons_of_mem _ h)
  have hown : s.vm.findClass RX5 = some m.cls := findClass_of_methodNamed B.named
  have hS : va_S (aP P 77) s.heap s.heap [] := va_S.rf
  have hl := lv_entry ([.ref (P 23)]) (n := 5) (Nat.le_of_ble_eq_true rfl)
  rw [lg_entry_eq]
  generalize (lg_sl ([.ref (P 23)]) ++ List.replicate (5 - (lg_sl ([.ref (P 23)])).length) Slot.unset).toArray = ls at hl ⊢
  have hl : lv_has ls 5 [(0, .ref (P 23))] := hl
  exact b_Judge_badRule_0 hx hb hml hr hlk hgt hown hK hO hAO M s.heap [] ls hl hP hD hS h
def q_Judge_areApart  (M : Mm) (a1 : Int32) (a2 : Int32) : Rs := ix a1 16 <| if (M.1 4 (a1 : Int32).toNatClampNeg) = (-1) then (some (M, 0)) else (ix a1 16 <| ix a2 16 <| if (M.1 4 (a1 : Int32).toNatClampNeg) = (M.1 4 (a2 : Int32).toNatClampNeg) then (ix a1 16 <| ix a2 16 <| if (M.1 6 (a1 : Int32).toNatClampNeg) = (M.1 6 (a2 : Int32).toNatClampNeg) then (some (M, 0)) else (some (M, 1))) else (some (M, 0)))
set_option maxHeartbeats 4000000 in
set_option maxRecDepth 20000 in
theorem b_Judge_areApart_0 {p : Program} {l : Launch} {e : Env} {s s0 : State} {m : MethodId} {args : Array Value} {below : List Frame} {meth : Method} {c : Code} {D : va_G} {cI cZ cC cJ cA : ClassId} {P : Nat → Nat} {M' : Mm} {r' : Int32}  (hx : p.tables.exec = Jvm.exec) (hb : c.code = cX5_areApart) (hml : c.maxLocals = 3) (hr : meth.sig.returnType = (some .boolean)) (hlk : meth.locks = false) (hgt : ∀ w ∈ GT, w.before args s = true) (hown : s.vm.findClass RX5 = some m.cls) (hK : va_K D vwCl [(cI, .int), (cZ, .boolean), (cC, .char), (cJ, .long), (cA, .array .int)] s) (hO : Old s0 s) (hAO : ∀ q, (aP P 77) q → s0.heap.size ≤ q)  : ∀ (M : Mm) (a1 : Int32) (a2 : Int32) (H : Heap) (locs : List Loc) (ls : Array Slot), lv_has ls 3 [(0, .ref (P 23)), (1, .int a1), (2, .int a2)] → va_P D vwCl ((wX cI cZ cC cJ cA P) M) H → va_D (aP P 77) ((wX cI cZ cC cJ cA P) M) → va_S (aP P 77) s.heap H locs → q_Judge_areApart M a1 a2 = some (M', r') → W p l e ({ frames := 0, cells := 0, slots := 0, locals := 0 }) s m args below meth c H locs 0 0 (MQ below (gQi D (aP P 77) ((wX cI cZ cC cJ cA P) M') r') args s 0 0 (aP P 77)) (F0 m 0 ls []) := by
  intro M a1 a2 H locs ls hl hP hD hS h
  unfold q_Judge_areApart at h
  refine lv_aload_n hx hb dX5_areApart_0 rfl (lv_at hl 0 rfl) ?_
  refine va_get (D := D) (ci := 5) (v := .ref (P 1)) (C := RX5) (T := TX5) (N := 3) hx hb hgt iwX5 hown hK hP 23 gX_23 rfl 0 (Nat.le_of_ble_eq_true rfl) (hgt _ wd_0_208) (fun _ h9 => h9) rfl dX5_areApart_1 ?_
  refine va_get (D := D) (ci := 4) (v := .ref (P 4)) (C := RX4) (T := TX4) (N := 15) hx hb hgt iwX4 hown hK hP 1 gX_1 rfl 3 (Nat.le_of_ble_eq_true rfl) (hgt _ wd_0_106) (fun _ h9 => h9) rfl dX5_areApart_4 ?_
  refine lv_iload_n hx hb dX5_areApart_7 rfl (lv_at hl 1 rfl) ?_
  refine va_iald hx hb hK hP 4 0 gX_4 rfl (ix_l h) dX5_areApart_8 ?_
  have h := ix_r h
  refine lv_iconst (v := (-1)) hx hb dX5_areApart_9 (by decide) ?_
  refine lv_icmp_eq hx hb dX5_areApart_10 (tgt := 59) rfl (fun hc => ?_) (fun hc => ?_)
  · have h := br_T hc h
    refine lv_iconst (v := 0) hx hb dX5_areApart_59 (by decide) ?_
    exact rt_z (w := (wX cI cZ cC cJ cA P)) hx hb hr hlk rfl hP hD hS h dX5_areApart_60
  · have h := br_F hc h
    refine lv_aload_n hx hb dX5_areApart_13 rfl (lv_at hl 0 rfl) ?_
    refine va_get (D := D) (ci := 5) (v := .ref (P 1)) (C := RX5) (T := TX5) (N := 3) hx hb hgt iwX5 hown hK hP 23 gX_23 rfl 0 (Nat.le_of_ble_eq_true rfl) (hgt _ wd_0_208) (fun _ h9 => h9) rfl dX5_areApart_14 ?_
    refine va_get (D := D) (ci := 4) (v := .ref (P 4)) (C := RX4) (T := TX4) (N := 15) hx hb hgt iwX4 hown hK hP 1 gX_1 rfl 3 (Nat.le_of_ble_eq_true rfl) (hgt _ wd_0_106) (fun _ h9 => h9) rfl dX5_areApart_17 ?_
    refine lv_iload_n hx hb dX5_areApart_20 rfl (lv_at hl 1 rfl) ?_
    refine va_iald hx hb hK hP 4 0 gX_4 rfl (ix_l h) dX5_areApart_21 ?_
    have h := ix_r h
    refine lv_aload_n hx hb dX5_areApart_22 rfl (lv_at hl 0 rfl) ?_
    refine va_get (D := D) (ci := 5) (v := .ref (P 1)) (C := RX5) (T := TX5) (N := 3) hx hb hgt iwX5 hown hK hP 23 gX_23 rfl 0 (Nat.le_of_ble_eq_true rfl) (hgt _ wd_0_208) (fun _ h9 => h9) rfl dX5_areApart_23 ?_
    refine va_get (D := D) (ci := 4) (v := .ref (P 4)) (C := RX4) (T := TX4) (N := 15) hx hb hgt iwX4 hown hK hP 1 gX_1 rfl 3 (Nat.le_of_ble_eq_true rfl) (hgt _ wd_0_106) (fun _ h9 => h9) rfl dX5_areApart_26 ?_
    refine lv_iload_n hx hb dX5_areApart_29 rfl (lv_at hl 2 rfl) ?_
    refine va_iald hx hb hK hP 4 0 gX_4 rfl (ix_l h) dX5_areApart_30 ?_
    have h := ix_r h
    refine lv_icmp_ne hx hb dX5_areApart_31 (tgt := 59) rfl (fun hc => ?_) (fun hc => ?_)
    · have h := br_F hc h
      refine lv_iconst (v := 0) hx hb dX5_areApart_59 (by decide) ?_
      exact rt_z (w := (wX cI cZ cC cJ cA P)) hx hb hr hlk rfl hP hD hS h dX5_areApart_60
    · have h := br_T hc h
      refine lv_aload_n hx hb dX5_areApart_34 rfl (lv_at hl 0 rfl) ?_
      refine va_get (D := D) (ci := 5) (v := .ref (P 1)) (C := RX5) (T := TX5) (N := 3) hx hb hgt iwX5 hown hK hP 23 gX_23 rfl 0 (Nat.le_of_ble_eq_true rfl) (hgt _ wd_0_208) (fun _ h9 => h9) rfl dX5_areApart_35 ?_
      refine va_get (D := D) (ci := 4) (v := .ref (P 6)) (C := RX4) (T := TX4) (N := 15) hx hb hgt iwX4 hown hK hP 1 gX_1 rfl 5 (Nat.le_of_ble_eq_true rfl) (hgt _ wd_0_113) (fun _ h9 => h9) rfl dX5_areApart_38 ?_
      refine lv_iload_n hx hb dX5_areApart_41 rfl (lv_at hl 1 rfl) ?_
      refine va_iald hx hb hK hP 6 0 gX_6 rfl (ix_l h) dX5_areApart_42 ?_
      have h := ix_r h
      refine lv_aload_n hx hb dX5_areApart_43 rfl (lv_at hl 0 rfl) ?_
      refine va_get (D := D) (ci := 5) (v := .ref (P 1)) (C := RX5) (T := TX5) (N := 3) hx hb hgt iwX5 hown hK hP 23 gX_23 rfl 0 (Nat.le_of_ble_eq_true rfl) (hgt _ wd_0_208) (fun _ h9 => h9) rfl dX5_areApart_44 ?_
      refine va_get (D := D) (ci := 4) (v := .ref (P 6)) (C := RX4) (T := TX4) (N := 15) hx hb hgt iwX4 hown hK hP 1 gX_1 rfl 5 (Nat.le_of_ble_eq_true rfl) (hgt _ wd_0_113) (fun _ h9 => h9) rfl dX5_areApart_47 ?_
      refine lv_iload_n hx hb dX5_areApart_50 rfl (lv_at hl 2 rfl) ?_
      refine va_iald hx hb hK hP 6 0 gX_6 rfl (ix_l h) dX5_areApart_51 ?_
      have h := ix_r h
      refine lv_icmp_eq hx hb dX5_areApart_52 (tgt := 59) rfl (fun hc => ?_) (fun hc => ?_)
      · have h := br_T hc h
        refine lv_iconst (v := 0) hx hb dX5_areApart_59 (by decide) ?_
        exact rt_z (w := (wX cI cZ cC cJ cA P)) hx hb hr hlk rfl hP hD hS h dX5_areApart_60
      · have h := br_F hc h
        refine lv_iconst (v := 1) hx hb dX5_areApart_55 (by decide) ?_
        refine lv_goto hx hb dX5_areApart_56 (tgt := 60) rfl ?_
        exact rt_z (w := (wX cI cZ cC cJ cA P)) hx hb hr hlk rfl hP hD hS h dX5_areApart_60
set_option maxHeartbeats 4000000 in
set_option maxRecDepth 20000 in
theorem z_Judge_areApart (l : Launch) (D : va_G) (cI cZ cC cJ cA : ClassId) (P : Nat → Nat) (s0 : State) (hAO : ∀ q, (aP P 77) q → s0.heap.size ≤ q) (M : Mm) (a1 : Int32) (a2 : Int32) (M' : Mm) (r' : Int32) (h : q_Judge_areApart M a1 a2 = some (M', r')) : Met l yX5_areApart wsX5_areApart ({ frames := 0, cells := 0, slots := 0, locals := 0 }) (va_Pc [.ref (P 23), .int a1, .int a2] (gPre s0 D [(cI, .int), (cZ, .boolean), (cC, .char), (cJ, .long), (cA, .array .int)] (aP P 77) ((wX cI cZ cC cJ cA P) M))) (gQi D (aP P 77) ((wX cI cZ cC cJ cA P) M') r') 0 0 (aP P 77) := by
  refine Met.ofW (cc := cX5_areApart) (maxL := 3) (ret := (some .boolean)) (by decide) rfl ?_
  intro p e s m args below meth c s₁ B hml hv
  obtain ⟨rfl, hP, hK, hD, hO⟩ := hv
  have hx := B.exec
  have hb := B.bytes
  have hr := B.returns
  have hlk := B.notSynchronized
  have hgt := fun w (h : w ∈ GT) => atoms_spec (ws := wsX5_areApart) B.pre w (List.mem_cons_of_mem _ h)
  have hown : s.vm.findClass RX5 = some m.cls := findClass_of_methodNamed B.named
  have hS : va_S (aP P 77) s.heap s.heap [] := va_S.rf
  have hl := lv_entry ([.ref (P 23), .int a1, .int a2]) (n := 3) (Nat.le_of_ble_eq_true rfl)
  rw [lg_entry_eq]
  generalize (lg_sl ([.ref (P 23), .int a1, .int a2]) ++ List.replicate (3 - (lg_sl ([.ref (P 23), .int a1, .int a2])).length) Slot.unset).toArray = ls at hl ⊢
  have hl : lv_has ls 3 [(0, .ref (P 23)), (1, .int a1), (2, .int a2)] := hl
  exact b_Judge_areApart_0 hx hb hml hr hlk hgt hown hK hO hAO M a1 a2 s.heap [] ls hl hP hD hS h
def q_Judge_badOffset_60 (kf2 : Mm → Int32 → Rs) (kf15 : Mm → Int32 → Int32 → Rs) (M : Mm) (v1 : Int32) (v2 : Int32) : Rs := kf15 M v1 (v2 + 1)
def q_Judge_badOffset_15 (kf2 : Mm → Int32 → Rs) : Nat → Mm → Int32 → Int32 → Rs
  | 0, _, _, _ => none
  | n' + 1, M, v1, v2 => if v1 ≤ v2 then (kf2 M (v1 + 1)) else (ix v1 16 <| ix v2 16 <| if (M.1 3 (v1 : Int32).toNatClampNeg) = (M.1 3 (v2 : Int32).toNatClampNeg) then (cal (q_Judge_areApart M v1 v2) fun M1 r2 => if r2 = 0 then (ix v1 16 <| some (M1, (M1.1 2 (v1 : Int32).toNatClampNeg))) else (q_Judge_badOffset_60 kf2 (q_Judge_badOffset_15 kf2 n') M1 v1 v2)) else (q_Judge_badOffset_60 kf2 (q_Judge_badOffset_15 kf2 n') M v1 v2))
def q_Judge_badOffset_2  : Nat → Mm → Int32 → Rs
  | 0, _, _ => none
  | n' + 1, M, v1 => if (M.1 1 0) ≤ v1 then (some (M, (-1))) else (q_Judge_badOffset_15 (q_Judge_badOffset_2 n') 4000 M v1 0)
def q_Judge_badOffset  (M : Mm)  : Rs := q_Judge_badOffset_2 4000 M 1
set_option maxHeartbeats 4000000 in
set_option maxRecDepth 20000 in
theorem b_Judge_badOffset_60 {p : Program} {l : Launch} {e : Env} {s s0 : State} {m : MethodId} {args : Array Value} {below : List Frame} {meth : Method} {c : Code} {D : va_G} {cI cZ cC cJ cA : ClassId} {P : Nat → Nat} {M' : Mm} {r' : Int32} {kf2 : Mm → Int32 → Rs} {kf15 : Mm → Int32 → Int32 → Rs} (hx : p.tables.exec = Jvm.exec) (hb : c.code = cX5_badOffset) (hml : c.maxLocals = 3) (hr : meth.sig.returnType = (some .int)) (hlk : meth.locks = false) (hgt : ∀ w ∈ GT, w.before args s = true) (hown : s.vm.findClass RX5 = some m.cls) (hK : va_K D vwCl [(cI, .int), (cZ, .boolean), (cC, .char), (cJ, .long), (cA, .array .int)] s) (hO : Old s0 s) (hAO : ∀ q, (aP P 77) q → s0.heap.size ≤ q) (kk2 : ∀ (M : Mm) (v1 : Int32) (H : Heap) (locs : List Loc) (ls : Array Slot), lv_has ls 3 [(0, .ref (P 23)), (1, .int v1)] → va_P D vwCl ((wX cI cZ cC cJ cA P) M) H → va_D (aP P 77) ((wX cI cZ cC cJ cA P) M) → va_S (aP P 77) s.heap H locs → kf2 M v1 = some (M', r') → W p l e ({ frames := 1, cells := 0, slots := 0, locals := 22 }) s m args below meth c H locs 0 0 (MQ below (gQi D (aP P 77) ((wX cI cZ cC cJ cA P) M') r') args s 0 0 (aP P 77)) (F0 m 2 ls [])) (kk15 : ∀ (M : Mm) (v1 : Int32) (v2 : Int32) (H : Heap) (locs : List Loc) (ls : Array Slot), lv_has ls 3 [(0, .ref (P 23)), (1, .int v1), (2, .int v2)] → va_P D vwCl ((wX cI cZ cC cJ cA P) M) H → va_D (aP P 77) ((wX cI cZ cC cJ cA P) M) → va_S (aP P 77) s.heap H locs → kf15 M v1 v2 = some (M', r') → W p l e ({ frames := 1, cells := 0, slots := 0, locals := 22 }) s m args below meth c H locs 0 0 (MQ below (gQi D (aP P 77) ((wX cI cZ cC cJ cA P) M') r') args s 0 0 (aP P 77)) (F0 m 15 ls [])) : ∀ (M : Mm) (v1 : Int32) (v2 : Int32) (H : Heap) (locs : List Loc) (ls : Array Slot), lv_has ls 3 [(0, .ref (P 23)), (1, .int v1), (2, .int v2)] → va_P D vwCl ((wX cI cZ cC cJ cA P) M) H → va_D (aP P 77) ((wX cI cZ cC cJ cA P) M) → va_S (aP P 77) s.heap H locs → q_Judge_badOffset_60 kf2 kf15 M v1 v2 = some (M', r') → W p l e ({ frames := 1, cells := 0, slots := 0, locals := 22 }) s m args below meth c H locs 0 0 (MQ below (gQi D (aP P 77) ((wX cI cZ cC cJ cA P) M') r') args s 0 0 (aP P 77)) (F0 m 60 ls []) := by
  intro M v1 v2 H locs ls hl hP hD hS h
  unfold q_Judge_badOffset_60 at h
  refine lv_iinc (v := (v2 + 1)) hx hb dX5_badOffset_60 hl (k := 2) rfl rfl (Nat.le_of_ble_eq_true rfl) (lv' := [(2, .int (v2 + 1)), (0, .ref (P 23)), (1, .int v1)]) rfl (fun ls hl => ?_)
  refine lv_goto hx hb dX5_badOffset_63 (tgt := 15) rfl ?_
  have hl := lv_sub hl [1, 2, 0] (l' := [(0, .ref (P 23)), (1, .int v1), (2, .int (v2 + 1))]) rfl
  exact kk15 M v1 (v2 + 1) H locs ls hl hP hD hS h
set_option maxHeartbeats 4000000 in
set_option maxRecDepth 20000 in
theorem b_Judge_badOffset_15 {p : Program} {l : Launch} {e : Env} {s s0 : State} {m : MethodId} {args : Array Value} {below : List Frame} {meth : Method} {c : Code} {D : va_G} {cI cZ cC cJ cA : ClassId} {P : Nat → Nat} {M' : Mm} {r' : Int32} {kf2 : Mm → Int32 → Rs} (hx : p.tables.exec = Jvm.exec) (hb : c.code = cX5_badOffset) (hml : c.maxLocals = 3) (hr : meth.sig.returnType = (some .int)) (hlk : meth.locks = false) (hgt : ∀ w ∈ GT, w.before args s = true) (hown : s.vm.findClass RX5 = some m.cls) (hK : va_K D vwCl [(cI, .int), (cZ, .boolean), (cC, .char), (cJ, .long), (cA, .array .int)] s) (hO : Old s0 s) (hAO : ∀ q, (aP P 77) q → s0.heap.size ≤ q) (kk2 : ∀ (M : Mm) (v1 : Int32) (H : Heap) (locs : List Loc) (ls : Array Slot), lv_has ls 3 [(0, .ref (P 23)), (1, .int v1)] → va_P D vwCl ((wX cI cZ cC cJ cA P) M) H → va_D (aP P 77) ((wX cI cZ cC cJ cA P) M) → va_S (aP P 77) s.heap H locs → kf2 M v1 = some (M', r') → W p l e ({ frames := 1, cells := 0, slots := 0, locals := 22 }) s m args below meth c H locs 0 0 (MQ below (gQi D (aP P 77) ((wX cI cZ cC cJ cA P) M') r') args s 0 0 (aP P 77)) (F0 m 2 ls [])) : ∀ (n' : Nat) (M : Mm) (v1 : Int32) (v2 : Int32) (H : Heap) (locs : List Loc) (ls : Array Slot), lv_has ls 3 [(0, .ref (P 23)), (1, .int v1), (2, .int v2)] → va_P D vwCl ((wX cI cZ cC cJ cA P) M) H → va_D (aP P 77) ((wX cI cZ cC cJ cA P) M) → va_S (aP P 77) s.heap H locs → q_Judge_badOffset_15 kf2 n' M v1 v2 = some (M', r') → W p l e ({ frames := 1, cells := 0, slots := 0, locals := 22 }) s m args below meth c H locs 0 0 (MQ below (gQi D (aP P 77) ((wX cI cZ cC cJ cA P) M') r') args s 0 0 (aP P 77)) (F0 m 15 ls []) := by
  intro n'
  induction n' with
  | zero => exact fun _ _ _ _ _ _ _ _ _ _ h => (rs_n h).elim
  | succ n' ih =>
    intro M v1 v2 H locs ls hl hP hD hS h
    rw [q_Judge_badOffset_15] at h
    refine lv_iload_n hx hb dX5_badOffset_15 rfl (lv_at hl 2 rfl) ?_
    refine lv_iload_n hx hb dX5_badOffset_16 rfl (lv_at hl 1 rfl) ?_
    refine lv_icmp_ge hx hb dX5_badOffset_17 (tgt := 66) rfl (fun hc => ?_) (fun hc => ?_)
    · have h := br_T hc h
      refine lv_iinc (v := (v1 + 1)) hx hb dX5_badOffset_66 hl (k := 1) rfl rfl (Nat.le_of_ble_eq_true rfl) (lv' := [(1, .int (v1 + 1)), (0, .ref (P 23)), (2, .int v2)]) rfl (fun ls hl => ?_)
      refine lv_goto hx hb dX5_badOffset_69 (tgt := 2) rfl ?_
      have hl := lv_sub hl [1, 0] (l' := [(0, .ref (P 23)), (1, .int (v1 + 1))]) rfl
      exact kk2 M (v1 + 1) H locs ls hl hP hD hS h
    · have h := br_F hc h
      refine lv_aload_n hx hb dX5_badOffset_20 rfl (lv_at hl 0 rfl) ?_
      refine va_get (D := D) (ci := 5) (v := .ref (P 1)) (C := RX5) (T := TX5) (N := 3) hx hb hgt iwX5 hown hK hP 23 gX_23 rfl 0 (Nat.le_of_ble_eq_true rfl) (hgt _ wd_0_208) (fun _ h9 => h9) rfl dX5_badOffset_21 ?_
      refine va_get (D := D) (ci := 4) (v := .ref (P 3)) (C := RX4) (T := TX4) (N := 15) hx hb hgt iwX4 hown hK hP 1 gX_1 rfl 2 (Nat.le_of_ble_eq_true rfl) (hgt _ wd_0_102) (fun _ h9 => h9) rfl dX5_badOffset_24 ?_
      refine lv_iload_n hx hb dX5_badOffset_27 rfl (lv_at hl 1 rfl) ?_
      refine va_iald hx hb hK hP 3 0 gX_3 rfl (ix_l h) dX5_badOffset_28 ?_
      have h := ix_r h
      refine lv_aload_n hx hb dX5_badOffset_29 rfl (lv_at hl 0 rfl) ?_
      refine va_get (D := D) (ci := 5) (v := .ref (P 1)) (C := RX5) (T := TX5) (N := 3) hx hb hgt iwX5 hown hK hP 23 gX_23 rfl 0 (Nat.le_of_ble_eq_true rfl) (hgt _ wd_0_208) (fun _ h9 => h9) rfl dX5_badOffset_30 ?_
      refine va_get (D := D) (ci := 4) (v := .ref (P 3)) (C := RX4) (T := TX4) (N := 15) hx hb hgt iwX4 hown hK hP 1 gX_1 rfl 2 (Nat.le_of_ble_eq_true rfl) (hgt _ wd_0_102) (fun _ h9 => h9) rfl dX5_badOffset_33 ?_
      refine lv_iload_n hx hb dX5_badOffset_36 rfl (lv_at hl 2 rfl) ?_
      refine va_iald hx hb hK hP 3 0 gX_3 rfl (ix_l h) dX5_badOffset_37 ?_
      have h := ix_r h
      refine lv_icmp_ne hx hb dX5_badOffset_38 (tgt := 60) rfl (fun hc => ?_) (fun hc => ?_)
      · have h := br_F hc h
        have hl := lv_sub hl [0, 1, 2] (l' := [(0, .ref (P 23)), (1, .int v1), (2, .int v2)]) rfl
        exact b_Judge_badOffset_60 hx hb hml hr hlk hgt hown hK hO hAO kk2 ih M v1 v2 H _ ls hl hP hD hS h
      · have h := br_T hc h
        refine lv_aload_n hx hb dX5_badOffset_41 rfl (lv_at hl 0 rfl) ?_
        refine lv_iload_n hx hb dX5_badOffset_42 rfl (lv_at hl 1 rfl) ?_
        refine lv_iload_n hx hb dX5_badOffset_43 rfl (lv_at hl 2 rfl) ?_
        obtain ⟨M1, r2, hq, h⟩ := cal_o h
        refine cx_i (va_runV (As := [.int v1, .int v2]) (rest := []) ⟨hx, hb, hml, hown, hgt⟩ (z_Judge_areApart l D cI cZ cC cJ cA P s0 hAO M v1 v2 M1 r2 hq) (cwV 2 hgt (gV wd_4_62 wd_4_64 sl__ChipMap_Judge____ChipMap_Judge___areApart____II_Z_____ChipMap_Judge___areApart____II_Z__ wd_0_5 wd_4_65) rfl rfl rfl (by decide +kernel) ⟨Nat.le_of_ble_eq_true rfl, Nat.le_of_ble_eq_true rfl⟩) (prV hP hK hD hO hAO hS (va_recv hK hP (ci := 5) (q0 := 23) rfl gX_23)) rfl rfl hl.1 rfl (lv_room (Nat.le_of_ble_eq_true rfl)) dX5_badOffset_44 ⟨Nat.le_of_ble_eq_true rfl, Nat.le_of_ble_eq_true rfl⟩) hS (fun H locs hP hD hS => ?_)
        refine lv_if_ne hx hb dX5_badOffset_47 (tgt := 60) rfl (fun hc => ?_) (fun hc => ?_)
        · have h := br_F hc h
          have hl := lv_sub hl [0, 1, 2] (l' := [(0, .ref (P 23)), (1, .int v1), (2, .int v2)]) rfl
          exact b_Judge_badOffset_60 hx hb hml hr hlk hgt hown hK hO hAO kk2 ih M1 v1 v2 H _ ls hl hP hD hS h
        · have h := br_T hc h
          refine lv_aload_n hx hb dX5_badOffset_50 rfl (lv_at hl 0 rfl) ?_
          refine va_get (D := D) (ci := 5) (v := .ref (P 1)) (C := RX5) (T := TX5) (N := 3) hx hb hgt iwX5 hown hK hP 23 gX_23 rfl 0 (Nat.le_of_ble_eq_true rfl) (hgt _ wd_0_208) (fun _ h9 => h9) rfl dX5_badOffset_51 ?_
          refine va_get (D := D) (ci := 4) (v := .ref (P 2)) (C := RX4) (T := TX4) (N := 15) hx hb hgt iwX4 hown hK hP 1 gX_1 rfl 1 (Nat.le_of_ble_eq_true rfl) (hgt _ wd_0_98) (fun _ h9 => h9) rfl dX5_badOffset_54 ?_
          refine lv_iload_n hx hb dX5_badOffset_57 rfl (lv_at hl 1 rfl) ?_
          refine va_iald hx hb hK hP 2 0 gX_2 rfl (ix_l h) dX5_badOffset_58 ?_
          have h := ix_r h
          exact rt_i (w := (wX cI cZ cC cJ cA P)) hx hb hr hlk hP hD hS h dX5_badOffset_59
set_option maxHeartbeats 4000000 in
set_option maxRecDepth 20000 in
theorem b_Judge_badOffset_2 {p : Program} {l : Launch} {e : Env} {s s0 : State} {m : MethodId} {args : Array Value} {below : List Frame} {meth : Method} {c : Code} {D : va_G} {cI cZ cC cJ cA : ClassId} {P : Nat → Nat} {M' : Mm} {r' : Int32}  (hx : p.tables.exec = Jvm.exec) (hb : c.code = cX5_badOffset) (hml : c.maxLocals = 3) (hr : meth.sig.returnType = (some .int)) (hlk : meth.locks = false) (hgt : ∀ w ∈ GT, w.before args s = true) (hown : s.vm.findClass RX5 = some m.cls) (hK : va_K D vwCl [(cI, .int), (cZ, .boolean), (cC, .char), (cJ, .long), (cA, .array .int)] s) (hO : Old s0 s) (hAO : ∀ q, (aP P 77) q → s0.heap.size ≤ q)  : ∀ (n' : Nat) (M : Mm) (v1 : Int32) (H : Heap) (locs : List Loc) (ls : Array Slot), lv_has ls 3 [(0, .ref (P 23)), (1, .int v1)] → va_P D vwCl ((wX cI cZ cC cJ cA P) M) H → va_D (aP P 77) ((wX cI cZ cC cJ cA P) M) → va_S (aP P 77) s.heap H locs → q_Judge_badOffset_2 n' M v1 = some (M', r') → W p l e ({ frames := 1, cells := 0, slots := 0, locals := 22 }) s m args below meth c H locs 0 0 (MQ below (gQi D (aP P 77) ((wX cI cZ cC cJ cA P) M') r') args s 0 0 (aP P 77)) (F0 m 2 ls []) := by
  intro n'
  induction n' with
  | zero => exact fun _ _ _ _ _ _ _ _ _ h => (rs_n h).elim
  | succ n' ih =>
    intro M v1 H locs ls hl hP hD hS h
    rw [q_Judge_badOffset_2] at h
    refine lv_iload_n hx hb dX5_badOffset_2 rfl (lv_at hl 1 rfl) ?_
    refine lv_aload_n hx hb dX5_badOffset_3 rfl (lv_at hl 0 rfl) ?_
    refine va_get (D := D) (ci := 5) (v := .ref (P 1)) (C := RX5) (T := TX5) (N := 3) hx hb hgt iwX5 hown hK hP 23 gX_23 rfl 0 (Nat.le_of_ble_eq_true rfl) (hgt _ wd_0_208) (fun _ h9 => h9) rfl dX5_badOffset_4 ?_
    refine va_get (D := D) (ci := 4) (v := .int (M.1 1 0)) (C := RX4) (T := TX4) (N := 15) hx hb hgt iwX4 hown hK hP 1 gX_1 rfl 0 (Nat.le_of_ble_eq_true rfl) (hgt _ wd_0_95) (fun _ h9 => h9) rfl dX5_badOffset_7 ?_
    refine lv_icmp_ge hx hb dX5_badOffset_10 (tgt := 72) rfl (fun hc => ?_) (fun hc => ?_)
    · have h := br_T hc h
      refine lv_iconst (v := (-1)) hx hb dX5_badOffset_72 (by decide) ?_
      exact rt_i (w := (wX cI cZ cC cJ cA P)) hx hb hr hlk hP hD hS h dX5_badOffset_73
    · have h := br_F hc h
      refine lv_iconst (v := 0) hx hb dX5_badOffset_13 (by decide) ?_
      refine lv_istore_n hx hb dX5_badOffset_14 rfl hl (Nat.le_of_ble_eq_true rfl) (lv' := [(2, .int 0), (0, .ref (P 23)), (1, .int v1)]) rfl (fun ls hl => ?_)
      have hl := lv_sub hl [1, 2, 0] (l' := [(0, .ref (P 23)), (1, .int v1), (2, .int 0)]) rfl
      exact b_Judge_badOffset_15 hx hb hml hr hlk hgt hown hK hO hAO ih 4000 M v1 0 H _ ls hl hP hD hS h
set_option maxHeartbeats 4000000 in
set_option maxRecDepth 20000 in
theorem b_Judge_badOffset_0 {p : Program} {l : Launch} {e : Env} {s s0 : State} {m : MethodId} {args : Array Value} {below : List Frame} {meth : Method} {c : Code} {D : va_G} {cI cZ cC cJ cA : ClassId} {P : Nat → Nat} {M' : Mm} {r' : Int32}  (hx : p.tables.exec = Jvm.exec) (hb : c.code = cX5_badOffset) (hml : c.maxLocals = 3) (hr : meth.sig.returnType = (some .int)) (hlk : meth.locks = false) (hgt : ∀ w ∈ GT, w.before args s = true) (hown : s.vm.findClass RX5 = some m.cls) (hK : va_K D vwCl [(cI, .int), (cZ, .boolean), (cC, .char), (cJ, .long), (cA, .array .int)] s) (hO : Old s0 s) (hAO : ∀ q, (aP P 77) q → s0.heap.size ≤ q)  : ∀ (M : Mm)  (H : Heap) (locs : List Loc) (ls : Array Slot), lv_has ls 3 [(0, .ref (P 23))] → va_P D vwCl ((wX cI cZ cC cJ cA P) M) H → va_D (aP P 77) ((wX cI cZ cC cJ cA P) M) → va_S (aP P 77) s.heap H locs → q_Judge_badOffset M = some (M', r') → W p l e ({ frames := 1, cells := 0, slots := 0, locals := 22 }) s m args below meth c H locs 0 0 (MQ below (gQi D (aP P 77) ((wX cI cZ cC cJ cA P) M') r') args s 0 0 (aP P 77)) (F0 m 0 ls []) := by
  intro M H locs ls hl hP hD hS h
  unfold q_Judge_badOffset at h
  refine lv_iconst (v := 1) hx hb dX5_badOffset_0 (by decide) ?_
  refine lv_istore_n hx hb dX5_badOffset_1 rfl hl (Nat.le_of_ble_eq_true rfl) (lv' := [(1, .int 1), (0, .ref (P 23))]) rfl (fun ls hl => ?_)
  have hl := lv_sub hl [1, 0] (l' := [(0, .ref (P 23)), (1, .int 1)]) rfl
  exact b_Judge_badOffset_2 hx hb hml hr hlk hgt hown hK hO hAO 4000 M 1 H _ ls hl hP hD hS h
set_option maxHeartbeats 4000000 in
set_option maxRecDepth 20000 in
theorem z_Judge_badOffset (l : Launch) (D : va_G) (cI cZ cC cJ cA : ClassId) (P : Nat → Nat) (s0 : State) (hAO : ∀ q, (aP P 77) q → s0.heap.size ≤ q) (M : Mm)  (M' : Mm) (r' : Int32) (h : q_Judge_badOffset M = some (M', r')) : Met l yX5_badOffset wsX5_badOffset ({ frames := 1, cells := 0, slots := 0, locals := 22 }) (va_Pc [.ref (P 23)] (gPre s0 D [(cI, .int), (cZ, .boolean), (cC, .char), (cJ, .long), (cA, .array .int)] (aP P 77) ((wX cI cZ cC cJ cA P) M))) (gQi D (aP P 77) ((wX cI cZ cC cJ cA P) M') r') 0 0 (aP P 77) := by
  refine Met.ofW (cc := cX5_badOffset) (maxL := 3) (ret := (some .int)) (by decide) rfl ?_
  intro p e s m args below meth c s₁ B hml hv
  obtain ⟨rfl, hP, hK, hD, hO⟩ := hv
  have hx := B.exec
  have hb := B.bytes
  have hr := B.returns
  have hlk := B.notSynchronized
  have hgt := fun w (h : w ∈ GT) => atoms_spec (ws := wsX5_badOffset) B.pre w (List.mem_cons_of_mem _ h)
  have hown : s.vm.findClass RX5 = some m.cls := findClass_of_methodNamed B.named
  have hS : va_S (aP P 77) s.heap s.heap [] := va_S.rf
  have hl := lv_entry ([.ref (P 23)]) (n := 3) (Nat.le_of_ble_eq_true rfl)
  rw [lg_entry_eq]
  generalize (lg_sl ([.ref (P 23)]) ++ List.replicate (3 - (lg_sl ([.ref (P 23)])).length) Slot.unset).toArray = ls at hl ⊢
  have hl : lv_has ls 3 [(0, .ref (P 23))] := hl
  exact b_Judge_badOffset_0 hx hb hml hr hlk hgt hown hK hO hAO M s.heap [] ls hl hP hD hS h
def q_Judge_canBeBank  (M : Mm) (a1 : Int32) (a2 : Int32) : Rs := if a1 = (-1) then (some (M, 0)) else (ix a1 128 <| if (M.1 10 (a1 : Int32).toNatClampNeg) = 0 then (ix a1 128 <| ix (M.1 9 (a1 : Int32).toNatClampNeg) 16 <| if (M.1 4 ((M.1 9 (a1 : Int32).toNatClampNeg) : Int32).toNatClampNeg) = (-1) then (cal (q_Draft_fits M a1 a2) fun M1 r2 => if r2 = 0 then (some (M1, 0)) else (some (M1, 1))) else (some (M, 0))) else (some (M, 0)))
set_option maxHeartbeats 4000000 in
set_option maxRecDepth 20000 in
theorem b_Judge_canBeBank_0 {p : Program} {l : Launch} {e : Env} {s s0 : State} {m : MethodId} {args : Array Value} {below : List Frame} {meth : Method} {c : Code} {D : va_G} {cI cZ cC cJ cA : ClassId} {P : Nat → Nat} {M' : Mm} {r' : Int32}  (hx : p.tables.exec = Jvm.exec) (hb : c.code = cX5_canBeBank) (hml : c.maxLocals = 3) (hr : meth.sig.returnType = (some .boolean)) (hlk : meth.locks = false) (hgt : ∀ w ∈ GT, w.before args s = true) (hown : s.vm.findClass RX5 = some m.cls) (hK : va_K D vwCl [(cI, .int), (cZ, .boolean), (cC, .char), (cJ, .long), (cA, .array .int)] s) (hO : Old s0 s) (hAO : ∀ q, (aP P 77) q → s0.heap.size ≤ q)  : ∀ (M : Mm) (a1 : Int32) (a2 : Int32) (H : Heap) (locs : List Loc) (ls : Array Slot), lv_has ls 3 [(0, .ref (P 23)), (1, .int a1), (2, .int a2)] → va_P D vwCl ((wX cI cZ cC cJ cA P) M) H → va_D (aP P 77) ((wX cI cZ cC cJ cA P) M) → va_S (aP P 77) s.heap H locs → q_Judge_canBeBank M a1 a2 = some (M', r') → W p l e ({ frames := 1, cells := 0, slots := 0, locals := 22 }) s m args below meth c H locs 0 0 (MQ below (gQi D (aP P 77) ((wX cI cZ cC cJ cA P) M') r') args s 0 0 (aP P 77)) (F0 m 0 ls []) := by
  intro M a1 a2 H locs ls hl hP hD hS h
  unfold q_Judge_canBeBank at h
  refine lv_iload_n hx hb dX5_canBeBank_0 rfl (lv_at hl 1 rfl) ?_
  refine lv_iconst (v := (-1)) hx hb dX5_canBeBank_1 (by decide) ?_
  refine lv_icmp_eq hx hb dX5_canBeBank_2 (tgt := 54) rfl (fun hc => ?_) (fun hc => ?_)
  · have h := br_T hc h
    refine lv_iconst (v := 0) hx hb dX5_canBeBank_54 (by decide) ?_
    exact rt_z (w := (wX cI cZ cC cJ cA P)) hx hb hr hlk rfl hP hD hS h dX5_canBeBank_55
  · have h := br_F hc h
    refine lv_aload_n hx hb dX5_canBeBank_5 rfl (lv_at hl 0 rfl) ?_
    refine va_get (D := D) (ci := 5) (v := .ref (P 1)) (C := RX5) (T := TX5) (N := 3) hx hb hgt iwX5 hown hK hP 23 gX_23 rfl 0 (Nat.le_of_ble_eq_true rfl) (hgt _ wd_0_208) (fun _ h9 => h9) rfl dX5_canBeBank_6 ?_
    refine va_get (D := D) (ci := 4) (v := .ref (P 10)) (C := RX4) (T := TX4) (N := 15) hx hb hgt iwX4 hown hK hP 1 gX_1 rfl 10 (Nat.le_of_ble_eq_true rfl) (hgt _ wd_0_132) (fun _ h9 => h9) rfl dX5_canBeBank_9 ?_
    refine lv_iload_n hx hb dX5_canBeBank_12 rfl (lv_at hl 1 rfl) ?_
    refine va_iald hx hb hK hP 10 0 gX_10 rfl (ix_l h) dX5_canBeBank_13 ?_
    have h := ix_r h
    refine lv_if_ne hx hb dX5_canBeBank_14 (tgt := 54) rfl (fun hc => ?_) (fun hc => ?_)
    · have h := br_F hc h
      refine lv_iconst (v := 0) hx hb dX5_canBeBank_54 (by decide) ?_
      exact rt_z (w := (wX cI cZ cC cJ cA P)) hx hb hr hlk rfl hP hD hS h dX5_canBeBank_55
    · have h := br_T hc h
      refine lv_aload_n hx hb dX5_canBeBank_17 rfl (lv_at hl 0 rfl) ?_
      refine va_get (D := D) (ci := 5) (v := .ref (P 1)) (C := RX5) (T := TX5) (N := 3) hx hb hgt iwX5 hown hK hP 23 gX_23 rfl 0 (Nat.le_of_ble_eq_true rfl) (hgt _ wd_0_208) (fun _ h9 => h9) rfl dX5_canBeBank_18 ?_
      refine va_get (D := D) (ci := 4) (v := .ref (P 4)) (C := RX4) (T := TX4) (N := 15) hx hb hgt iwX4 hown hK hP 1 gX_1 rfl 3 (Nat.le_of_ble_eq_true rfl) (hgt _ wd_0_106) (fun _ h9 => h9) rfl dX5_canBeBank_21 ?_
      refine lv_aload_n hx hb dX5_canBeBank_24 rfl (lv_at hl 0 rfl) ?_
      refine va_get (D := D) (ci := 5) (v := .ref (P 1)) (C := RX5) (T := TX5) (N := 3) hx hb hgt iwX5 hown hK hP 23 gX_23 rfl 0 (Nat.le_of_ble_eq_true rfl) (hgt _ wd_0_208) (fun _ h9 => h9) rfl dX5_canBeBank_25 ?_
      refine va_get (D := D) (ci := 4) (v := .ref (P 9)) (C := RX4) (T := TX4) (N := 15) hx hb hgt iwX4 hown hK hP 1 gX_1 rfl 9 (Nat.le_of_ble_eq_true rfl) (hgt _ wd_0_128) (fun _ h9 => h9) rfl dX5_canBeBank_28 ?_
      refine lv_iload_n hx hb dX5_canBeBank_31 rfl (lv_at hl 1 rfl) ?_
      refine va_iald hx hb hK hP 9 0 gX_9 rfl (ix_l h) dX5_canBeBank_32 ?_
      have h := ix_r h
      refine va_iald hx hb hK hP 4 0 gX_4 rfl (ix_l h) dX5_canBeBank_33 ?_
      have h := ix_r h
      refine lv_iconst (v := (-1)) hx hb dX5_canBeBank_34 (by decide) ?_
      refine lv_icmp_ne hx hb dX5_canBeBank_35 (tgt := 54) rfl (fun hc => ?_) (fun hc => ?_)
      · have h := br_F hc h
        refine lv_iconst (v := 0) hx hb dX5_canBeBank_54 (by decide) ?_
        exact rt_z (w := (wX cI cZ cC cJ cA P)) hx hb hr hlk rfl hP hD hS h dX5_canBeBank_55
      · have h := br_T hc h
        refine lv_aload_n hx hb dX5_canBeBank_38 rfl (lv_at hl 0 rfl) ?_
        refine va_get (D := D) (ci := 5) (v := .ref (P 1)) (C := RX5) (T := TX5) (N := 3) hx hb hgt iwX5 hown hK hP 23 gX_23 rfl 0 (Nat.le_of_ble_eq_true rfl) (hgt _ wd_0_208) (fun _ h9 => h9) rfl dX5_canBeBank_39 ?_
        refine lv_iload_n hx hb dX5_canBeBank_42 rfl (lv_at hl 1 rfl) ?_
        refine lv_iload_n hx hb dX5_canBeBank_43 rfl (lv_at hl 2 rfl) ?_
        obtain ⟨M1, r2, hq, h⟩ := cal_o h
        refine cx_i (va_runV (As := [.int a1, .int a2]) (rest := []) ⟨hx, hb, hml, hown, hgt⟩ (z_Draft_fits l D cI cZ cC cJ cA P s0 hAO M a1 a2 M1 r2 hq) (cwV 2 hgt (gV wd_4_46 wd_4_47 wd_4_48 wd_0_2 wd_4_49) rfl rfl rfl (by decide +kernel) ⟨Nat.le_of_ble_eq_true rfl, Nat.le_of_ble_eq_true rfl⟩) (prV hP hK hD hO hAO hS (va_recv hK hP (ci := 4) (q0 := 1) rfl gX_1)) rfl rfl hl.1 rfl (lv_room (Nat.le_of_ble_eq_true rfl)) dX5_canBeBank_44 ⟨Nat.le_of_ble_eq_true rfl, Nat.le_of_ble_eq_true rfl⟩) hS (fun H locs hP hD hS => ?_)
        refine lv_if_eq hx hb dX5_canBeBank_47 (tgt := 54) rfl (fun hc => ?_) (fun hc => ?_)
        · have h := br_T hc h
          refine lv_iconst (v := 0) hx hb dX5_canBeBank_54 (by decide) ?_
          exact rt_z (w := (wX cI cZ cC cJ cA P)) hx hb hr hlk rfl hP hD hS h dX5_canBeBank_55
        · have h := br_F hc h
          refine lv_iconst (v := 1) hx hb dX5_canBeBank_50 (by decide) ?_
          refine lv_goto hx hb dX5_canBeBank_51 (tgt := 55) rfl ?_
          exact rt_z (w := (wX cI cZ cC cJ cA P)) hx hb hr hlk rfl hP hD hS h dX5_canBeBank_55
set_option maxHeartbeats 4000000 in
set_option maxRecDepth 20000 in
theorem z_Judge_canBeBank (l : Launch) (D : va_G) (cI cZ cC cJ cA : ClassId) (P : Nat → Nat) (s0 : State) (hAO : ∀ q, (aP P 77) q → s0.heap.size ≤ q) (M : Mm) (a1 : Int32) (a2 : Int32) (M' : Mm) (r' : Int32) (h : q_Judge_canBeBank M a1 a2 = some (M', r')) : Met l yX5_canBeBank wsX5_canBeBank ({ frames := 1, cells := 0, slots := 0, locals := 22 }) (va_Pc [.ref (P 23), .int a1, .int a2] (gPre s0 D [(cI, .int), (cZ, .boolean), (cC, .char), (cJ, .long), (cA, .array .int)] (aP P 77) ((wX cI cZ cC cJ cA P) M))) (gQi D (aP P 77) ((wX cI cZ cC cJ cA P) M') r') 0 0 (aP P 77) := by
  refine Met.ofW (cc := cX5_canBeBank) (maxL := 3) (ret := (some .boolean)) (by decide) rfl ?_
  intro p e s m args below meth c s₁ B hml hv
  obtain ⟨rfl, hP, hK, hD, hO⟩ := hv
  have hx := B.exec
  have hb := B.bytes
  have hr := B.returns
  have hlk := B.notSynchronized
  have hgt := fun w (h : w ∈ GT) => atoms_spec (ws := wsX5_canBeBank) B.pre w (List.mem_cons_of_mem _ h)
  have hown : s.vm.findClass RX5 = some m.cls := findClass_of_methodNamed B.named
  have hS : va_S (aP P 77) s.heap s.heap [] := va_S.rf
  have hl := lv_entry ([.ref (P 23), .int a1, .int a2]) (n := 3) (Nat.le_of_ble_eq_true rfl)
  rw [lg_entry_eq]
  generalize (lg_sl ([.ref (P 23), .int a1, .int a2]) ++ List.replicate (3 - (lg_sl ([.ref (P 23), .int a1, .int a2])).length) Slot.unset).toArray = ls at hl ⊢
  have hl : lv_has ls 3 [(0, .ref (P 23)), (1, .int a1), (2, .int a2)] := hl
  exact b_Judge_canBeBank_0 hx hb hml hr hlk hgt hown hK hO hAO M a1 a2 s.heap [] ls hl hP hD hS h
def q_Judge_badBank_68 (kf2 : Mm → Int32 → Rs) (M : Mm) (v1 : Int32) : Rs := kf2 M (v1 + 1)
def q_Judge_badBank_2  : Nat → Mm → Int32 → Rs
  | 0, _, _ => none
  | n' + 1, M, v1 => if (M.1 1 0) ≤ v1 then (some (M, (-1))) else (ix v1 16 <| if (M.1 4 (v1 : Int32).toNatClampNeg) = (-1) then (q_Judge_badBank_68 (q_Judge_badBank_2 n') M v1) else (ix v1 16 <| cal (q_Draft_rowOf M (M.1 4 (v1 : Int32).toNatClampNeg)) fun M1 r2 => ix v1 16 <| cal (q_Judge_canBeBank M1 r2 (M1.1 6 (v1 : Int32).toNatClampNeg)) fun M3 r4 => if r4 = 0 then (ix v1 16 <| some (M3, (M3.1 5 (v1 : Int32).toNatClampNeg))) else (q_Judge_badBank_68 (q_Judge_badBank_2 n') M3 v1)))
def q_Judge_badBank  (M : Mm)  : Rs := q_Judge_badBank_2 4000 M 0
set_option maxHeartbeats 4000000 in
set_option maxRecDepth 20000 in
theorem b_Judge_badBank_68 {p : Program} {l : Launch} {e : Env} {s s0 : State} {m : MethodId} {args : Array Value} {below : List Frame} {meth : Method} {c : Code} {D : va_G} {cI cZ cC cJ cA : ClassId} {P : Nat → Nat} {M' : Mm} {r' : Int32} {kf2 : Mm → Int32 → Rs} (hx : p.tables.exec = Jvm.exec) (hb : c.code = cX5_badBank) (hml : c.maxLocals = 2) (hr : meth.sig.returnType = (some .int)) (hlk : meth.locks = false) (hgt : ∀ w ∈ GT, w.before args s = true) (hown : s.vm.findClass RX5 = some m.cls) (hK : va_K D vwCl [(cI, .int), (cZ, .boolean), (cC, .char), (cJ, .long), (cA, .array .int)] s) (hO : Old s0 s) (hAO : ∀ q, (aP P 77) q → s0.heap.size ≤ q) (kk2 : ∀ (M : Mm) (v1 : Int32) (H : Heap) (locs : List Loc) (ls : Array Slot), lv_has ls 2 [(0, .ref (P 23)), (1, .int v1)] → va_P D vwCl ((wX cI cZ cC cJ cA P) M) H → va_D (aP P 77) ((wX cI cZ cC cJ cA P) M) → va_S (aP P 77) s.heap H locs → kf2 M v1 = some (M', r') → W p l e ({ frames := 2, cells := 0, slots := 0, locals := 44 }) s m args below meth c H locs 0 0 (MQ below (gQi D (aP P 77) ((wX cI cZ cC cJ cA P) M') r') args s 0 0 (aP P 77)) (F0 m 2 ls [])) : ∀ (M : Mm) (v1 : Int32) (H : Heap) (locs : List Loc) (ls : Array Slot), lv_has ls 2 [(0, .ref (P 23)), (1, .int v1)] → va_P D vwCl ((wX cI cZ cC cJ cA P) M) H → va_D (aP P 77) ((wX cI cZ cC cJ cA P) M) → va_S (aP P 77) s.heap H locs → q_Judge_badBank_68 kf2 M v1 = some (M', r') → W p l e ({ frames := 2, cells := 0, slots := 0, locals := 44 }) s m args below meth c H locs 0 0 (MQ below (gQi D (aP P 77) ((wX cI cZ cC cJ cA P) M') r') args s 0 0 (aP P 77)) (F0 m 68 ls []) := by
  intro M v1 H locs ls hl hP hD hS h
  unfold q_Judge_badBank_68 at h
  refine lv_iinc (v := (v1 + 1)) hx hb dX5_badBank_68 hl (k := 1) rfl rfl (Nat.le_of_ble_eq_true rfl) (lv' := [(1, .int (v1 + 1)), (0, .ref (P 23))]) rfl (fun ls hl => ?_)
  refine lv_goto hx hb dX5_badBank_71 (tgt := 2) rfl ?_
  have hl := lv_sub hl [1, 0] (l' := [(0, .ref (P 23)), (1, .int (v1 + 1))]) rfl
  exact kk2 M (v1 + 1) H locs ls hl hP hD hS h
set_option maxHeartbeats 4000000 in
set_option maxRecDepth 20000 in
theorem b_Judge_badBank_2 {p : Program} {l : Launch} {e : Env} {s s0 : State} {m : MethodId} {args : Array Value} {below : List Frame} {meth : Method} {c : Code} {D : va_G} {cI cZ cC cJ cA : ClassId} {P : Nat → Nat} {M' : Mm} {r' : Int32}  (hx : p.tables.exec = Jvm.exec) (hb : c.code = cX5_badBank) (hml : c.maxLocals = 2) (hr : meth.sig.returnType = (some .int)) (hlk : meth.locks = false) (hgt : ∀ w ∈ GT, w.before args s = true) (hown : s.vm.findClass RX5 = some m.cls) (hK : va_K D vwCl [(cI, .int), (cZ, .boolean), (cC, .char), (cJ, .long), (cA, .array .int)] s) (hO : Old s0 s) (hAO : ∀ q, (aP P 77) q → s0.heap.size ≤ q)  : ∀ (n' : Nat) (M : Mm) (v1 : Int32) (H : Heap) (locs : List Loc) (ls : Array Slot), lv_has ls 2 [(0, .ref (P 23)), (1, .int v1)] → va_P D vwCl ((wX cI cZ cC cJ cA P) M) H → va_D (aP P 77) ((wX cI cZ cC cJ cA P) M) → va_S (aP P 77) s.heap H locs → q_Judge_badBank_2 n' M v1 = some (M', r') → W p l e ({ frames := 2, cells := 0, slots := 0, locals := 44 }) s m args below meth c H locs 0 0 (MQ below (gQi D (aP P 77) ((wX cI cZ cC cJ cA P) M') r') args s 0 0 (aP P 77)) (F0 m 2 ls []) := by
  intro n'
  induction n' with
  | zero => exact fun _ _ _ _ _ _ _ _ _ h => (rs_n h).elim
  | succ n' ih =>
    intro M v1 H locs ls hl hP hD hS h
    rw [q_Judge_badBank_2] at h
    refine lv_iload_n hx hb dX5_badBank_2 rfl (lv_at hl 1 rfl) ?_
    refine lv_aload_n hx hb dX5_badBank_3 rfl (lv_at hl 0 rfl) ?_
    refine va_get (D := D) (ci := 5) (v := .ref (P 1)) (C := RX5) (T := TX5) (N := 3) hx hb hgt iwX5 hown hK hP 23 gX_23 rfl 0 (Nat.le_of_ble_eq_true rfl) (hgt _ wd_0_208) (fun _ h9 => h9) rfl dX5_badBank_4 ?_
    refine va_get (D := D) (ci := 4) (v := .int (M.1 1 0)) (C := RX4) (T := TX4) (N := 15) hx hb hgt iwX4 hown hK hP 1 gX_1 rfl 0 (Nat.le_of_ble_eq_true rfl) (hgt _ wd_0_95) (fun _ h9 => h9) rfl dX5_badBank_7 ?_
    refine lv_icmp_ge hx hb dX5_badBank_10 (tgt := 74) rfl (fun hc => ?_) (fun hc => ?_)
    · have h := br_T hc h
      refine lv_iconst (v := (-1)) hx hb dX5_badBank_74 (by decide) ?_
      exact rt_i (w := (wX cI cZ cC cJ cA P)) hx hb hr hlk hP hD hS h dX5_badBank_75
    · have h := br_F hc h
      refine lv_aload_n hx hb dX5_badBank_13 rfl (lv_at hl 0 rfl) ?_
      refine va_get (D := D) (ci := 5) (v := .ref (P 1)) (C := RX5) (T := TX5) (N := 3) hx hb hgt iwX5 hown hK hP 23 gX_23 rfl 0 (Nat.le_of_ble_eq_true rfl) (hgt _ wd_0_208) (fun _ h9 => h9) rfl dX5_badBank_14 ?_
      refine va_get (D := D) (ci := 4) (v := .ref (P 4)) (C := RX4) (T := TX4) (N := 15) hx hb hgt iwX4 hown hK hP 1 gX_1 rfl 3 (Nat.le_of_ble_eq_true rfl) (hgt _ wd_0_106) (fun _ h9 => h9) rfl dX5_badBank_17 ?_
      refine lv_iload_n hx hb dX5_badBank_20 rfl (lv_at hl 1 rfl) ?_
      refine va_iald hx hb hK hP 4 0 gX_4 rfl (ix_l h) dX5_badBank_21 ?_
      have h := ix_r h
      refine lv_iconst (v := (-1)) hx hb dX5_badBank_22 (by decide) ?_
      refine lv_icmp_eq hx hb dX5_badBank_23 (tgt := 68) rfl (fun hc => ?_) (fun hc => ?_)
      · have h := br_T hc h
        have hl := lv_sub hl [0, 1] (l' := [(0, .ref (P 23)), (1, .int v1)]) rfl
        exact b_Judge_badBank_68 hx hb hml hr hlk hgt hown hK hO hAO ih M v1 H _ ls hl hP hD hS h
      · have h := br_F hc h
        refine lv_aload_n hx hb dX5_badBank_26 rfl (lv_at hl 0 rfl) ?_
        refine lv_aload_n hx hb dX5_badBank_27 rfl (lv_at hl 0 rfl) ?_
        refine va_get (D := D) (ci := 5) (v := .ref (P 1)) (C := RX5) (T := TX5) (N := 3) hx hb hgt iwX5 hown hK hP 23 gX_23 rfl 0 (Nat.le_of_ble_eq_true rfl) (hgt _ wd_0_208) (fun _ h9 => h9) rfl dX5_badBank_28 ?_
        refine lv_aload_n hx hb dX5_badBank_31 rfl (lv_at hl 0 rfl) ?_
        refine va_get (D := D) (ci := 5) (v := .ref (P 1)) (C := RX5) (T := TX5) (N := 3) hx hb hgt iwX5 hown hK hP 23 gX_23 rfl 0 (Nat.le_of_ble_eq_true rfl) (hgt _ wd_0_208) (fun _ h9 => h9) rfl dX5_badBank_32 ?_
        refine va_get (D := D) (ci := 4) (v := .ref (P 4)) (C := RX4) (T := TX4) (N := 15) hx hb hgt iwX4 hown hK hP 1 gX_1 rfl 3 (Nat.le_of_ble_eq_true rfl) (hgt _ wd_0_106) (fun _ h9 => h9) rfl dX5_badBank_35 ?_
        refine lv_iload_n hx hb dX5_badBank_38 rfl (lv_at hl 1 rfl) ?_
        refine va_iald hx hb hK hP 4 0 gX_4 rfl (ix_l h) dX5_badBank_39 ?_
        have h := ix_r h
        obtain ⟨M1, r2, hq, h⟩ := cal_o h
        refine cx_i (va_runV (As := [.int (M.1 4 (v1 : Int32).toNatClampNeg)]) (rest := [.ref (P 23)]) ⟨hx, hb, hml, hown, hgt⟩ (z_Draft_rowOf l D cI cZ cC cJ cA P s0 hAO M (M.1 4 (v1 : Int32).toNatClampNeg) M1 r2 hq) (cwV 1 hgt (gV wd_4_42 wd_4_43 wd_4_44 wd_0_2 wd_4_45) rfl rfl rfl (by decide +kernel) ⟨Nat.le_of_ble_eq_true rfl, Nat.le_of_ble_eq_true rfl⟩) (prV hP hK hD hO hAO hS (va_recv hK hP (ci := 4) (q0 := 1) rfl gX_1)) rfl rfl hl.1 rfl (lv_room (Nat.le_of_ble_eq_true rfl)) dX5_badBank_40 ⟨Nat.le_of_ble_eq_true rfl, Nat.le_of_ble_eq_true rfl⟩) hS (fun H locs hP hD hS => ?_)
        refine lv_aload_n hx hb dX5_badBank_43 rfl (lv_at hl 0 rfl) ?_
        refine va_get (D := D) (ci := 5) (v := .ref (P 1)) (C := RX5) (T := TX5) (N := 3) hx hb hgt iwX5 hown hK hP 23 gX_23 rfl 0 (Nat.le_of_ble_eq_true rfl) (hgt _ wd_0_208) (fun _ h9 => h9) rfl dX5_badBank_44 ?_
        refine va_get (D := D) (ci := 4) (v := .ref (P 6)) (C := RX4) (T := TX4) (N := 15) hx hb hgt iwX4 hown hK hP 1 gX_1 rfl 5 (Nat.le_of_ble_eq_true rfl) (hgt _ wd_0_113) (fun _ h9 => h9) rfl dX5_badBank_47 ?_
        refine lv_iload_n hx hb dX5_badBank_50 rfl (lv_at hl 1 rfl) ?_
        refine va_iald hx hb hK hP 6 0 gX_6 rfl (ix_l h) dX5_badBank_51 ?_
        have h := ix_r h
        obtain ⟨M3, r4, hq, h⟩ := cal_o h
        refine cx_i (va_runV (As := [.int r2, .int (M1.1 6 (v1 : Int32).toNatClampNeg)]) (rest := []) ⟨hx, hb, hml, hown, hgt⟩ (z_Judge_canBeBank l D cI cZ cC cJ cA P s0 hAO M1 r2 (M1.1 6 (v1 : Int32).toNatClampNeg) M3 r4 hq) (cwV 2 hgt (gV wd_4_54 wd_4_56 sl__ChipMap_Judge____ChipMap_Judge___canBeBank____II_Z_____ChipMap_Judge___canBeBank____II_Z__ wd_0_5 wd_4_57) rfl rfl rfl (by decide +kernel) ⟨Nat.le_of_ble_eq_true rfl, Nat.le_of_ble_eq_true rfl⟩) (prV hP hK hD hO hAO hS (va_recv hK hP (ci := 5) (q0 := 23) rfl gX_23)) rfl rfl hl.1 rfl (lv_room (Nat.le_of_ble_eq_true rfl)) dX5_badBank_52 ⟨Nat.le_of_ble_eq_true rfl, Nat.le_of_ble_eq_true rfl⟩) hS (fun H locs hP hD hS => ?_)
        refine lv_if_ne hx hb dX5_badBank_55 (tgt := 68) rfl (fun hc => ?_) (fun hc => ?_)
        · have h := br_F hc h
          have hl := lv_sub hl [0, 1] (l' := [(0, .ref (P 23)), (1, .int v1)]) rfl
          exact b_Judge_badBank_68 hx hb hml hr hlk hgt hown hK hO hAO ih M3 v1 H _ ls hl hP hD hS h
        · have h := br_T hc h
          refine lv_aload_n hx hb dX5_badBank_58 rfl (lv_at hl 0 rfl) ?_
          refine va_get (D := D) (ci := 5) (v := .ref (P 1)) (C := RX5) (T := TX5) (N := 3) hx hb hgt iwX5 hown hK hP 23 gX_23 rfl 0 (Nat.le_of_ble_eq_true rfl) (hgt _ wd_0_208) (fun _ h9 => h9) rfl dX5_badBank_59 ?_
          refine va_get (D := D) (ci := 4) (v := .ref (P 5)) (C := RX4) (T := TX4) (N := 15) hx hb hgt iwX4 hown hK hP 1 gX_1 rfl 4 (Nat.le_of_ble_eq_true rfl) (hgt _ wd_0_109) (fun _ h9 => h9) rfl dX5_badBank_62 ?_
          refine lv_iload_n hx hb dX5_badBank_65 rfl (lv_at hl 1 rfl) ?_
          refine va_iald hx hb hK hP 5 0 gX_5 rfl (ix_l h) dX5_badBank_66 ?_
          have h := ix_r h
          exact rt_i (w := (wX cI cZ cC cJ cA P)) hx hb hr hlk hP hD hS h dX5_badBank_67
set_option maxHeartbeats 4000000 in
set_option maxRecDepth 20000 in
theorem b_Judge_badBank_0 {p : Program} {l : Launch} {e : Env} {s s0 : State} {m : MethodId} {args : Array Value} {below : List Frame} {meth : Method} {c : Code} {D : va_G} {cI cZ cC cJ cA : ClassId} {P : Nat → Nat} {M' : Mm} {r' : Int32}  (hx : p.tables.exec = Jvm.exec) (hb : c.code = cX5_badBank) (hml : c.maxLocals = 2) (hr : meth.sig.returnType = (some .int)) (hlk : meth.locks = false) (hgt : ∀ w ∈ GT, w.before args s = true) (hown : s.vm.findClass RX5 = some m.cls) (hK : va_K D vwCl [(cI, .int), (cZ, .boolean), (cC, .char), (cJ, .long), (cA, .array .int)] s) (hO : Old s0 s) (hAO : ∀ q, (aP P 77) q → s0.heap.size ≤ q)  : ∀ (M : Mm)  (H : Heap) (locs : List Loc) (ls : Array Slot), lv_has ls 2 [(0, .ref (P 23))] → va_P D vwCl ((wX cI cZ cC cJ cA P) M) H → va_D (aP P 77) ((wX cI cZ cC cJ cA P) M) → va_S (aP P 77) s.heap H locs → q_Judge_badBank M = some (M', r') → W p l e ({ frames := 2, cells := 0, slots := 0, locals := 44 }) s m args below meth c H locs 0 0 (MQ below (gQi D (aP P 77) ((wX cI cZ cC cJ cA P) M') r') args s 0 0 (aP P 77)) (F0 m 0 ls []) := by
  intro M H locs ls hl hP hD hS h
  unfold q_Judge_badBank at h
  refine lv_iconst (v := 0) hx hb dX5_badBank_0 (by decide) ?_
  refine lv_istore_n hx hb dX5_badBank_1 rfl hl (Nat.le_of_ble_eq_true rfl) (lv' := [(1, .int 0), (0, .ref (P 23))]) rfl (fun ls hl => ?_)
  have hl := lv_sub hl [1, 0] (l' := [(0, .ref (P 23)), (1, .int 0)]) rfl
  exact b_Judge_badBank_2 hx hb hml hr hlk hgt hown hK hO hAO 4000 M 0 H _ ls hl hP hD hS h
set_option maxHeartbeats 4000000 in
set_option maxRecDepth 20000 in
theorem z_Judge_badBank (l : Launch) (D : va_G) (cI cZ cC cJ cA : ClassId) (P : Nat → Nat) (s0 : State) (hAO : ∀ q, (aP P 77) q → s0.heap.size ≤ q) (M : Mm)  (M' : Mm) (r' : Int32) (h : q_Judge_badBank M = some (M', r')) : Met l yX5_badBank wsX5_badBank ({ frames := 2, cells := 0, slots := 0, locals := 44 }) (va_Pc [.ref (P 23)] (gPre s0 D [(cI, .int), (cZ, .boolean), (cC, .char), (cJ, .long), (cA, .array .int)] (aP P 77) ((wX cI cZ cC cJ cA P) M))) (gQi D (aP P 77) ((wX cI cZ cC cJ cA P) M') r') 0 0 (aP P 77) := by
  refine Met.ofW (cc := cX5_badBank) (maxL := 2) (ret := (some .int)) (by decide) rfl ?_
  intro p e s m args below meth c s₁ B hml hv
  obtain ⟨rfl, hP, hK, hD, hO⟩ := hv
  have hx := B.exec
  have hb := B.bytes
  have hr := B.returns
  have hlk := B.notSynchronized
  have hgt := fun w (h : w ∈ GT) => atoms_spec (ws := wsX5_badBank) B.pre w (List.mem_cons_of_mem _ h)
  have hown : s.vm.findClass RX5 = some m.cls := findClass_of_methodNamed B.named
  have hS : va_S (aP P 77) s.heap s.heap [] := va_S.rf
  have hl := lv_entry ([.ref (P 23)]) (n := 2) (Nat.le_of_ble_eq_true rfl)
  rw [lg_entry_eq]
  generalize (lg_sl ([.ref (P 23)]) ++ List.replicate (2 - (lg_sl ([.ref (P 23)])).length) Slot.unset).toArray = ls at hl ⊢
  have hl : lv_has ls 2 [(0, .ref (P 23))] := hl
  exact b_Judge_badBank_0 hx hb hml hr hlk hgt hown hK hO hAO M s.heap [] ls hl hP hD hS h
end
