section
def q_Mind_write_1_136 (kf11 : Mm → Int32 → Int32 → Int32 → Rs) (M : Mm) (v1 : Int32) (v2 : Int32) (v4 : Int32) : Rs := kf11 M v1 v2 (v4 + 1)
def q_Mind_write_1_62 (kf11 : Mm → Int32 → Int32 → Int32 → Rs) (M : Mm) (v1 : Int32) (v2 : Int32) (v4 : Int32) : Rs := ix v4 12 <| if (M.1 44 (v4 : Int32).toNatClampNeg) = 2 then (ix v4 12 <| cal (q_Mind_isWritten_1 M (M.1 46 (v4 : Int32).toNatClampNeg) v1 v2) fun M1 r2 => if r2 = 0 then (ix v4 12 <| cal (q_Mind_isWritten_1 M1 (M1.1 45 (v4 : Int32).toNatClampNeg) v1 v2) fun M3 r4 => if r4 = 0 then (q_Mind_write_1_136 kf11 M3 v1 v2 v4) else (lt' (stI M3 61 (upd (M3.1 61) 2 ((M3.1 61 2) ||| ((1 : Int32) <<< (v4 &&& 31))))) fun M5 => q_Mind_write_1_136 kf11 M5 v1 v2 v4)) else (lt' (stI M1 61 (upd (M1.1 61) 2 ((M1.1 61 2) &&& (((1 : Int32) <<< (v4 &&& 31)) ^^^ (-1))))) fun M3 => q_Mind_write_1_136 kf11 M3 v1 v2 v4)) else (q_Mind_write_1_136 kf11 M v1 v2 v4)
def q_Mind_write_1_11  : Nat → Mm → Int32 → Int32 → Int32 → Rs
  | 0, _, _, _, _ => none
  | n' + 1, M, v1, v2, v4 => if (M.1 43 0) ≤ v4 then (ix v1 16 <| ix v1 16 <| lt' (stI M 62 (upd (M.1 62) (v1 : Int32).toNatClampNeg (v2 &&& (M.1 29 (v1 : Int32).toNatClampNeg)))) fun M1 => some (M1, 0)) else (ix v4 12 <| if (M.1 44 (v4 : Int32).toNatClampNeg) = 0 then (ix v4 12 <| cal (q_Mind_isWritten_1 M (M.1 45 (v4 : Int32).toNatClampNeg) v1 v2) fun M1 r2 => if r2 = 0 then (q_Mind_write_1_62 (q_Mind_write_1_11 n') M1 v1 v2 v4) else (lt' (stI M1 61 (upd (M1.1 61) 2 ((M1.1 61 2) ||| ((1 : Int32) <<< (v4 &&& 31))))) fun M3 => q_Mind_write_1_136 (q_Mind_write_1_11 n') M3 v1 v2 v4)) else (q_Mind_write_1_62 (q_Mind_write_1_11 n') M v1 v2 v4))
def q_Mind_write_1  (M : Mm) (a1 : Int32) (a2 : Int32) : Rs := q_Mind_write_1_11 4000 M a1 a2 0
set_option maxHeartbeats 4000000 in
set_option maxRecDepth 20000 in
theorem b_Mind_write_1_136 {p : Program} {l : Launch} {e : Env} {s s0 : State} {m : MethodId} {args : Array Value} {below : List Frame} {meth : Method} {c : Code} {D : va_G} {cI cZ cC cJ cA : ClassId} {P : Nat → Nat} {M' : Mm} {r' : Int32} {kf11 : Mm → Int32 → Int32 → Int32 → Rs} (hx : p.tables.exec = Jvm.exec) (hb : c.code = cX8_write) (hml : c.maxLocals = 5) (hr : meth.sig.returnType = none) (hlk : meth.locks = false) (hgt : ∀ w ∈ GT, w.before args s = true) (hown : s.vm.findClass RX8 = some m.cls) (hK : va_K D vwCl [(cI, .int), (cZ, .boolean), (cC, .char), (cJ, .long), (cA, .array .int)] s) (hO : Old s0 s) (hAO : ∀ q, (aP P 77) q → s0.heap.size ≤ q) (kk11 : ∀ (M : Mm) (v1 : Int32) (v2 : Int32) (v4 : Int32) (H : Heap) (locs : List Loc) (ls : Array Slot), lv_has ls 5 [(0, .ref (P 61)), (1, .int v1), (2, .int v2), (3, .ref (P 43)), (4, .int v4)] → va_P D vwCl ((wX cI cZ cC cJ cA P) M) H → va_D (aP P 77) ((wX cI cZ cC cJ cA P) M) → va_S (aP P 77) s.heap H locs → kf11 M v1 v2 v4 = some (M', r') → W p l e ({ frames := 1, cells := 0, slots := 0, locals := 23 }) s m args below meth c H locs 0 0 (MQ below (gQv D (aP P 77) ((wX cI cZ cC cJ cA P) M')) args s 0 0 (aP P 77)) (F0 m 11 ls [])) : ∀ (M : Mm) (v1 : Int32) (v2 : Int32) (v4 : Int32) (H : Heap) (locs : List Loc) (ls : Array Slot), lv_has ls 5 [(0, .ref (P 61)), (1, .int v1), (2, .int v2), (3, .ref (P 43)), (4, .int v4)] → va_P D vwCl ((wX cI cZ cC cJ cA P) M) H → va_D (aP P 77) ((wX cI cZ cC cJ cA P) M) → va_S (aP P 77) s.heap H locs → q_Mind_write_1_136 kf11 M v1 v2 v4 = some (M', r') → W p l e ({ frames := 1, cells := 0, slots := 0, locals := 23 }) s m args below meth c H locs 0 0 (MQ below (gQv D (aP P 77) ((wX cI cZ cC cJ cA P) M')) args s 0 0 (aP P 77)) (F0 m 136 ls []) := by
  intro M v1 v2 v4 H locs ls hl hP hD hS h
  unfold q_Mind_write_1_136 at h
  refine lv_iinc (v := (v4 + 1)) hx hb dX8_write_136 hl (k := 4) rfl rfl (Nat.le_of_ble_eq_true rfl) (lv' := [(4, .int (v4 + 1)), (0, .ref (P 61)), (1, .int v1), (2, .int v2), (3, .ref (P 43))]) rfl (fun ls hl => ?_)
  refine lv_goto hx hb dX8_write_139 (tgt := 11) rfl ?_
  have hl := lv_sub hl [1, 2, 3, 4, 0] (l' := [(0, .ref (P 61)), (1, .int v1), (2, .int v2), (3, .ref (P 43)), (4, .int (v4 + 1))]) rfl
  exact kk11 M v1 v2 (v4 + 1) H locs ls hl hP hD hS h
set_option maxHeartbeats 4000000 in
set_option maxRecDepth 20000 in
theorem b_Mind_write_1_62 {p : Program} {l : Launch} {e : Env} {s s0 : State} {m : MethodId} {args : Array Value} {below : List Frame} {meth : Method} {c : Code} {D : va_G} {cI cZ cC cJ cA : ClassId} {P : Nat → Nat} {M' : Mm} {r' : Int32} {kf11 : Mm → Int32 → Int32 → Int32 → Rs} (hx : p.tables.exec = Jvm.exec) (hb : c.code = cX8_write) (hml : c.maxLocals = 5) (hr : meth.sig.returnType = none) (hlk : meth.locks = false) (hgt : ∀ w ∈ GT, w.before args s = true) (hown : s.vm.findClass RX8 = some m.cls) (hK : va_K D vwCl [(cI, .int), (cZ, .boolean), (cC, .char), (cJ, .long), (cA, .array .int)] s) (hO : Old s0 s) (hAO : ∀ q, (aP P 77) q → s0.heap.size ≤ q) (kk11 : ∀ (M : Mm) (v1 : Int32) (v2 : Int32) (v4 : Int32) (H : Heap) (locs : List Loc) (ls : Array Slot), lv_has ls 5 [(0, .ref (P 61)), (1, .int v1), (2, .int v2), (3, .ref (P 43)), (4, .int v4)] → va_P D vwCl ((wX cI cZ cC cJ cA P) M) H → va_D (aP P 77) ((wX cI cZ cC cJ cA P) M) → va_S (aP P 77) s.heap H locs → kf11 M v1 v2 v4 = some (M', r') → W p l e ({ frames := 1, cells := 0, slots := 0, locals := 23 }) s m args below meth c H locs 0 0 (MQ below (gQv D (aP P 77) ((wX cI cZ cC cJ cA P) M')) args s 0 0 (aP P 77)) (F0 m 11 ls [])) : ∀ (M : Mm) (v1 : Int32) (v2 : Int32) (v4 : Int32) (H : Heap) (locs : List Loc) (ls : Array Slot), lv_has ls 5 [(0, .ref (P 61)), (1, .int v1), (2, .int v2), (3, .ref (P 43)), (4, .int v4)] → va_P D vwCl ((wX cI cZ cC cJ cA P) M) H → va_D (aP P 77) ((wX cI cZ cC cJ cA P) M) → va_S (aP P 77) s.heap H locs → q_Mind_write_1_62 kf11 M v1 v2 v4 = some (M', r') → W p l e ({ frames := 1, cells := 0, slots := 0, locals := 23 }) s m args below meth c H locs 0 0 (MQ below (gQv D (aP P 77) ((wX cI cZ cC cJ cA P) M')) args s 0 0 (aP P 77)) (F0 m 62 ls []) := by
  intro M v1 v2 v4 H locs ls hl hP hD hS h
  unfold q_Mind_write_1_62 at h
  refine lv_aload_n hx hb dX8_write_62 rfl (lv_at hl 3 rfl) ?_
  refine va_get (D := D) (ci := 11) (v := .ref (P 44)) (C := RX11) (T := TX11) (N := 7) hx hb hgt iwX11 hown hK hP 43 gX_43 rfl 1 (Nat.le_of_ble_eq_true rfl) (hgt _ wd_0_56) (fun _ h9 => h9) rfl dX8_write_63 ?_
  refine lv_iload hx hb dX8_write_66 (lv_at hl 4 rfl) ?_
  refine va_iald hx hb hK hP 44 0 gX_44 rfl (ix_l h) dX8_write_68 ?_
  have h := ix_r h
  refine lv_iconst (v := 2) hx hb dX8_write_69 (by decide) ?_
  refine lv_icmp_ne hx hb dX8_write_70 (tgt := 136) rfl (fun hc => ?_) (fun hc => ?_)
  · have h := br_F hc h
    have hl := lv_sub hl [0, 1, 2, 3, 4] (l' := [(0, .ref (P 61)), (1, .int v1), (2, .int v2), (3, .ref (P 43)), (4, .int v4)]) rfl
    exact b_Mind_write_1_136 hx hb hml hr hlk hgt hown hK hO hAO kk11 M v1 v2 v4 H _ ls hl hP hD hS h
  · have h := br_T hc h
    refine lv_aload_n hx hb dX8_write_73 rfl (lv_at hl 0 rfl) ?_
    refine lv_aload_n hx hb dX8_write_74 rfl (lv_at hl 3 rfl) ?_
    refine va_get (D := D) (ci := 11) (v := .ref (P 46)) (C := RX11) (T := TX11) (N := 7) hx hb hgt iwX11 hown hK hP 43 gX_43 rfl 3 (Nat.le_of_ble_eq_true rfl) (hgt _ wd_0_64) (fun _ h9 => h9) rfl dX8_write_75 ?_
    refine lv_iload hx hb dX8_write_78 (lv_at hl 4 rfl) ?_
    refine va_iald hx hb hK hP 46 0 gX_46 rfl (ix_l h) dX8_write_80 ?_
    have h := ix_r h
    refine lv_iload_n hx hb dX8_write_81 rfl (lv_at hl 1 rfl) ?_
    refine lv_iload_n hx hb dX8_write_82 rfl (lv_at hl 2 rfl) ?_
    obtain ⟨M1, r2, hq, h⟩ := cal_o h
    refine cx_i (va_runV (As := [.int (M.1 46 (v4 : Int32).toNatClampNeg), .int v1, .int v2]) (rest := []) ⟨hx, hb, hml, hown, hgt⟩ (z_Mind_isWritten_1 l D cI cZ cC cJ cA P s0 hAO M (M.1 46 (v4 : Int32).toNatClampNeg) v1 v2 M1 r2 hq) (cwV 3 hgt (gV wd_2_119 wd_2_121 sl__ChipMap_Mind____ChipMap_Mind___isWritten____III_Z_____ChipMap_Mind___isWritten____III_Z__ wd_0_11 wd_2_122) rfl rfl rfl (by decide +kernel) ⟨Nat.le_of_ble_eq_true rfl, Nat.le_of_ble_eq_true rfl⟩) (prV hP hK hD hO hAO hS (va_recv hK hP (ci := 8) (q0 := 61) rfl gX_61)) rfl rfl hl.1 rfl (lv_room (Nat.le_of_ble_eq_true rfl)) dX8_write_83 ⟨Nat.le_of_ble_eq_true rfl, Nat.le_of_ble_eq_true rfl⟩) hS (fun H locs hP hD hS => ?_)
    refine lv_if_eq hx hb dX8_write_86 (tgt := 107) rfl (fun hc => ?_) (fun hc => ?_)
    · have h := br_T hc h
      refine lv_aload_n hx hb dX8_write_107 rfl (lv_at hl 0 rfl) ?_
      refine lv_aload_n hx hb dX8_write_108 rfl (lv_at hl 3 rfl) ?_
      refine va_get (D := D) (ci := 11) (v := .ref (P 45)) (C := RX11) (T := TX11) (N := 7) hx hb hgt iwX11 hown hK hP 43 gX_43 rfl 2 (Nat.le_of_ble_eq_true rfl) (hgt _ wd_0_60) (fun _ h9 => h9) rfl dX8_write_109 ?_
      refine lv_iload hx hb dX8_write_112 (lv_at hl 4 rfl) ?_
      refine va_iald hx hb hK hP 45 0 gX_45 rfl (ix_l h) dX8_write_114 ?_
      have h := ix_r h
      refine lv_iload_n hx hb dX8_write_115 rfl (lv_at hl 1 rfl) ?_
      refine lv_iload_n hx hb dX8_write_116 rfl (lv_at hl 2 rfl) ?_
      obtain ⟨M3, r4, hq, h⟩ := cal_o h
      refine cx_i (va_runV (As := [.int (M1.1 45 (v4 : Int32).toNatClampNeg), .int v1, .int v2]) (rest := []) ⟨hx, hb, hml, hown, hgt⟩ (z_Mind_isWritten_1 l D cI cZ cC cJ cA P s0 hAO M1 (M1.1 45 (v4 : Int32).toNatClampNeg) v1 v2 M3 r4 hq) (cwV 3 hgt (gV wd_2_119 wd_2_121 sl__ChipMap_Mind____ChipMap_Mind___isWritten____III_Z_____ChipMap_Mind___isWritten____III_Z__ wd_0_11 wd_2_122) rfl rfl rfl (by decide +kernel) ⟨Nat.le_of_ble_eq_true rfl, Nat.le_of_ble_eq_true rfl⟩) (prV hP hK hD hO hAO hS (va_recv hK hP (ci := 8) (q0 := 61) rfl gX_61)) rfl rfl hl.1 rfl (lv_room (Nat.le_of_ble_eq_true rfl)) dX8_write_117 ⟨Nat.le_of_ble_eq_true rfl, Nat.le_of_ble_eq_true rfl⟩) hS (fun H locs hP hD hS => ?_)
      refine lv_if_eq hx hb dX8_write_120 (tgt := 136) rfl (fun hc => ?_) (fun hc => ?_)
      · have h := br_T hc h
        have hl := lv_sub hl [0, 1, 2, 3, 4] (l' := [(0, .ref (P 61)), (1, .int v1), (2, .int v2), (3, .ref (P 43)), (4, .int v4)]) rfl
        exact b_Mind_write_1_136 hx hb hml hr hlk hgt hown hK hO hAO kk11 M3 v1 v2 v4 H _ ls hl hP hD hS h
      · have h := br_F hc h
        refine lv_aload_n hx hb dX8_write_123 rfl (lv_at hl 0 rfl) ?_
        refine lv_dup hx hb dX8_write_124 rfl ?_
        refine va_get (D := D) (ci := 8) (v := .int (M3.1 61 2)) (C := RX8) (T := TX8) (N := 3) hx hb hgt iwX8 hown hK hP 61 gX_61 rfl 2 (Nat.le_of_ble_eq_true rfl) (hgt _ wd_1_117) (fun _ h9 => h9) rfl dX8_write_125 ?_
        refine lv_iconst (v := 1) hx hb dX8_write_128 (by decide) ?_
        refine lv_iload hx hb dX8_write_129 (lv_at hl 4 rfl) ?_
        refine lv_ishl hx hb dX8_write_131 ?_
        refine lv_ior hx hb dX8_write_132 ?_
        refine pm_put (w := (wX cI cZ cC cJ cA P)) (D := D) (ci := 8) (x := ((M3.1 61 2) ||| ((1 : Int32) <<< (v4 &&& 31)))) (ty := .int) (C := RX8) (T := TX8) (N := 3) hx hb hgt iwX8 tyX8 tyX8_ok nmX8 hown hK hP hD hS 61 gX_61 rfl 2 (Nat.le_of_ble_eq_true rfl) (hgt _ wd_1_117) (fun _ h9 => h9) rfl (by decide +kernel) rfl rfl (Nat.le_of_ble_eq_true rfl) (sX_61_2 _) dX8_write_133 (fun M5 eM5 H locs hP hD hS => ?_)
        have h := lt_o eM5 h
        have hl := lv_sub hl [0, 1, 2, 3, 4] (l' := [(0, .ref (P 61)), (1, .int v1), (2, .int v2), (3, .ref (P 43)), (4, .int v4)]) rfl
        exact b_Mind_write_1_136 hx hb hml hr hlk hgt hown hK hO hAO kk11 M5 v1 v2 v4 H _ ls hl hP hD hS h
    · have h := br_F hc h
      refine lv_aload_n hx hb dX8_write_89 rfl (lv_at hl 0 rfl) ?_
      refine lv_dup hx hb dX8_write_90 rfl ?_
      refine va_get (D := D) (ci := 8) (v := .int (M1.1 61 2)) (C := RX8) (T := TX8) (N := 3) hx hb hgt iwX8 hown hK hP 61 gX_61 rfl 2 (Nat.le_of_ble_eq_true rfl) (hgt _ wd_1_117) (fun _ h9 => h9) rfl dX8_write_91 ?_
      refine lv_iconst (v := 1) hx hb dX8_write_94 (by decide) ?_
      refine lv_iload hx hb dX8_write_95 (lv_at hl 4 rfl) ?_
      refine lv_ishl hx hb dX8_write_97 ?_
      refine lv_iconst (v := (-1)) hx hb dX8_write_98 (by decide) ?_
      refine lv_ixor hx hb dX8_write_99 ?_
      refine lv_iand hx hb dX8_write_100 ?_
      refine pm_put (w := (wX cI cZ cC cJ cA P)) (D := D) (ci := 8) (x := ((M1.1 61 2) &&& (((1 : Int32) <<< (v4 &&& 31)) ^^^ (-1)))) (ty := .int) (C := RX8) (T := TX8) (N := 3) hx hb hgt iwX8 tyX8 tyX8_ok nmX8 hown hK hP hD hS 61 gX_61 rfl 2 (Nat.le_of_ble_eq_true rfl) (hgt _ wd_1_117) (fun _ h9 => h9) rfl (by decide +kernel) rfl rfl (Nat.le_of_ble_eq_true rfl) (sX_61_2 _) dX8_write_101 (fun M3 eM3 H locs hP hD hS => ?_)
      have h := lt_o eM3 h
      refine lv_goto hx hb dX8_write_104 (tgt := 136) rfl ?_
      have hl := lv_sub hl [0, 1, 2, 3, 4] (l' := [(0, .ref (P 61)), (1, .int v1), (2, .int v2), (3, .ref (P 43)), (4, .int v4)]) rfl
      exact b_Mind_write_1_136 hx hb hml hr hlk hgt hown hK hO hAO kk11 M3 v1 v2 v4 H _ ls hl hP hD hS h
set_option maxHeartbeats 4000000 in
set_option maxRecDepth 20000 in
theorem b_Mind_write_1_11 {p : Program} {l : Launch} {e : Env} {s s0 : State} {m : MethodId} {args : Array Value} {below : List Frame} {meth : Method} {c : Code} {D : va_G} {cI cZ cC cJ cA : ClassId} {P : Nat → Nat} {M' : Mm} {r' : Int32}  (hx : p.tables.exec = Jvm.exec) (hb : c.code = cX8_write) (hml : c.maxLocals = 5) (hr : meth.sig.returnType = none) (hlk : meth.locks = false) (hgt : ∀ w ∈ GT, w.before args s = true) (hown : s.vm.findClass RX8 = some m.cls) (hK : va_K D vwCl [(cI, .int), (cZ, .boolean), (cC, .char), (cJ, .long), (cA, .array .int)] s) (hO : Old s0 s) (hAO : ∀ q, (aP P 77) q → s0.heap.size ≤ q)  : ∀ (n' : Nat) (M : Mm) (v1 : Int32) (v2 : Int32) (v4 : Int32) (H : Heap) (locs : List Loc) (ls : Array Slot), lv_has ls 5 [(0, .ref (P 61)), (1, .int v1), (2, .int v2), (3, .ref (P 43)), (4, .int v4)] → va_P D vwCl ((wX cI cZ cC cJ cA P) M) H → va_D (aP P 77) ((wX cI cZ cC cJ cA P) M) → va_S (aP P 77) s.heap H locs → q_Mind_write_1_11 n' M v1 v2 v4 = some (M', r') → W p l e ({ frames := 1, cells := 0, slots := 0, locals := 23 }) s m args below meth c H locs 0 0 (MQ below (gQv D (aP P 77) ((wX cI cZ cC cJ cA P) M')) args s 0 0 (aP P 77)) (F0 m 11 ls []) := by
  intro n'
  induction n' with
  | zero => exact fun _ _ _ _ _ _ _ _ _ _ _ h => (rs_n h).elim
  | succ n' ih =>
    intro M v1 v2 v4 H locs ls hl hP hD hS h
    rw [q_Mind_write_1_11] at h
    refine lv_iload hx hb dX8_write_11 (lv_at hl 4 rfl) ?_
    refine lv_aload_n hx hb dX8_write_13 rfl (lv_at hl 3 rfl) ?_
    refine va_get (D := D) (ci := 11) (v := .int (M.1 43 0)) (C := RX11) (T := TX11) (N := 7) hx hb hgt iwX11 hown hK hP 43 gX_43 rfl 0 (Nat.le_of_ble_eq_true rfl) (hgt _ wd_0_51) (fun _ h9 => h9) rfl dX8_write_14 ?_
    refine lv_icmp_ge hx hb dX8_write_17 (tgt := 142) rfl (fun hc => ?_) (fun hc => ?_)
    · have h := br_T hc h
      refine lv_aload_n hx hb dX8_write_142 rfl (lv_at hl 0 rfl) ?_
      refine va_get (D := D) (ci := 8) (v := .ref (P 62)) (C := RX8) (T := TX8) (N := 3) hx hb hgt iwX8 hown hK hP 61 gX_61 rfl 1 (Nat.le_of_ble_eq_true rfl) (hgt _ wd_1_113) (fun _ h9 => h9) rfl dX8_write_143 ?_
      refine lv_iload_n hx hb dX8_write_146 rfl (lv_at hl 1 rfl) ?_
      refine lv_iload_n hx hb dX8_write_147 rfl (lv_at hl 2 rfl) ?_
      refine lv_aload_n hx hb dX8_write_148 rfl (lv_at hl 0 rfl) ?_
      refine va_get (D := D) (ci := 8) (v := .ref (P 24)) (C := RX8) (T := TX8) (N := 3) hx hb hgt iwX8 hown hK hP 61 gX_61 rfl 0 (Nat.le_of_ble_eq_true rfl) (hgt _ wd_1_112) (fun _ h9 => h9) rfl dX8_write_149 ?_
      refine va_get (D := D) (ci := 6) (v := .ref (P 29)) (C := RX6) (T := TX6) (N := 13) hx hb hgt iwX6 hown hK hP 24 gX_24 rfl 5 (Nat.le_of_ble_eq_true rfl) (hgt _ wd_1_20) (fun _ h9 => h9) rfl dX8_write_152 ?_
      refine lv_iload_n hx hb dX8_write_155 rfl (lv_at hl 1 rfl) ?_
      refine va_iald hx hb hK hP 29 0 gX_29 rfl (ix_l h) dX8_write_156 ?_
      have h := ix_r h
      refine lv_iand hx hb dX8_write_157 ?_
      refine pm_iast (w := (wX cI cZ cC cJ cA P)) hx hb hK hP hD hS 62 0 gX_62 rfl sX_62 (ix_l h) dX8_write_158 (fun M1 eM1 H locs hP hD hS => ?_)
      have h := ix_r h
      have h := lt_o eM1 h
      exact rt_v (w := (wX cI cZ cC cJ cA P)) (r := r') hx hb hr hlk hP hD hS h dX8_write_159
    · have h := br_F hc h
      refine lv_aload_n hx hb dX8_write_20 rfl (lv_at hl 3 rfl) ?_
      refine va_get (D := D) (ci := 11) (v := .ref (P 44)) (C := RX11) (T := TX11) (N := 7) hx hb hgt iwX11 hown hK hP 43 gX_43 rfl 1 (Nat.le_of_ble_eq_true rfl) (hgt _ wd_0_56) (fun _ h9 => h9) rfl dX8_write_21 ?_
      refine lv_iload hx hb dX8_write_24 (lv_at hl 4 rfl) ?_
      refine va_iald hx hb hK hP 44 0 gX_44 rfl (ix_l h) dX8_write_26 ?_
      have h := ix_r h
      refine lv_if_ne hx hb dX8_write_27 (tgt := 62) rfl (fun hc => ?_) (fun hc => ?_)
      · have h := br_F hc h
        have hl := lv_sub hl [0, 1, 2, 3, 4] (l' := [(0, .ref (P 61)), (1, .int v1), (2, .int v2), (3, .ref (P 43)), (4, .int v4)]) rfl
        exact b_Mind_write_1_62 hx hb hml hr hlk hgt hown hK hO hAO ih M v1 v2 v4 H _ ls hl hP hD hS h
      · have h := br_T hc h
        refine lv_aload_n hx hb dX8_write_30 rfl (lv_at hl 0 rfl) ?_
        refine lv_aload_n hx hb dX8_write_31 rfl (lv_at hl 3 rfl) ?_
        refine va_get (D := D) (ci := 11) (v := .ref (P 45)) (C := RX11) (T := TX11) (N := 7) hx hb hgt iwX11 hown hK hP 43 gX_43 rfl 2 (Nat.le_of_ble_eq_true rfl) (hgt _ wd_0_60) (fun _ h9 => h9) rfl dX8_write_32 ?_
        refine lv_iload hx hb dX8_write_35 (lv_at hl 4 rfl) ?_
        refine va_iald hx hb hK hP 45 0 gX_45 rfl (ix_l h) dX8_write_37 ?_
        have h := ix_r h
        refine lv_iload_n hx hb dX8_write_38 rfl (lv_at hl 1 rfl) ?_
        refine lv_iload_n hx hb dX8_write_39 rfl (lv_at hl 2 rfl) ?_
        obtain ⟨M1, r2, hq, h⟩ := cal_o h
        refine cx_i (va_runV (As := [.int (M.1 45 (v4 : Int32).toNatClampNeg), .int v1, .int v2]) (rest := []) ⟨hx, hb, hml, hown, hgt⟩ (z_Mind_isWritten_1 l D cI cZ cC cJ cA P s0 hAO M (M.1 45 (v4 : Int32).toNatClampNeg) v1 v2 M1 r2 hq) (cwV 3 hgt (gV wd_2_119 wd_2_121 sl__ChipMap_Mind____ChipMap_Mind___isWritten____III_Z_____ChipMap_Mind___isWritten____III_Z__ wd_0_11 wd_2_122) rfl rfl rfl (by decide +kernel) ⟨Nat.le_of_ble_eq_true rfl, Nat.le_of_ble_eq_true rfl⟩) (prV hP hK hD hO hAO hS (va_recv hK hP (ci := 8) (q0 := 61) rfl gX_61)) rfl rfl hl.1 rfl (lv_room (Nat.le_of_ble_eq_true rfl)) dX8_write_40 ⟨Nat.le_of_ble_eq_true rfl, Nat.le_of_ble_eq_true rfl⟩) hS (fun H locs hP hD hS => ?_)
        refine lv_if_eq hx hb dX8_write_43 (tgt := 62) rfl (fun hc => ?_) (fun hc => ?_)
        · have h := br_T hc h
          have hl := lv_sub hl [0, 1, 2, 3, 4] (l' := [(0, .ref (P 61)), (1, .int v1), (2, .int v2), (3, .ref (P 43)), (4, .int v4)]) rfl
          exact b_Mind_write_1_62 hx hb hml hr hlk hgt hown hK hO hAO ih M1 v1 v2 v4 H _ ls hl hP hD hS h
        · have h := br_F hc h
          refine lv_aload_n hx hb dX8_write_46 rfl (lv_at hl 0 rfl) ?_
          refine lv_dup hx hb dX8_write_47 rfl ?_
          refine va_get (D := D) (ci := 8) (v := .int (M1.1 61 2)) (C := RX8) (T := TX8) (N := 3) hx hb hgt iwX8 hown hK hP 61 gX_61 rfl 2 (Nat.le_of_ble_eq_true rfl) (hgt _ wd_1_117) (fun _ h9 => h9) rfl dX8_write_48 ?_
          refine lv_iconst (v := 1) hx hb dX8_write_51 (by decide) ?_
          refine lv_iload hx hb dX8_write_52 (lv_at hl 4 rfl) ?_
          refine lv_ishl hx hb dX8_write_54 ?_
          refine lv_ior hx hb dX8_write_55 ?_
          refine pm_put (w := (wX cI cZ cC cJ cA P)) (D := D) (ci := 8) (x := ((M1.1 61 2) ||| ((1 : Int32) <<< (v4 &&& 31)))) (ty := .int) (C := RX8) (T := TX8) (N := 3) hx hb hgt iwX8 tyX8 tyX8_ok nmX8 hown hK hP hD hS 61 gX_61 rfl 2 (Nat.le_of_ble_eq_true rfl) (hgt _ wd_1_117) (fun _ h9 => h9) rfl (by decide +kernel) rfl rfl (Nat.le_of_ble_eq_true rfl) (sX_61_2 _) dX8_write_56 (fun M3 eM3 H locs hP hD hS => ?_)
          have h := lt_o eM3 h
          refine lv_goto hx hb dX8_write_59 (tgt := 136) rfl ?_
          have hl := lv_sub hl [0, 1, 2, 3, 4] (l' := [(0, .ref (P 61)), (1, .int v1), (2, .int v2), (3, .ref (P 43)), (4, .int v4)]) rfl
          exact b_Mind_write_1_136 hx hb hml hr hlk hgt hown hK hO hAO ih M3 v1 v2 v4 H _ ls hl hP hD hS h
set_option maxHeartbeats 4000000 in
set_option maxRecDepth 20000 in
theorem b_Mind_write_1_0 {p : Program} {l : Launch} {e : Env} {s s0 : State} {m : MethodId} {args : Array Value} {below : List Frame} {meth : Method} {c : Code} {D : va_G} {cI cZ cC cJ cA : ClassId} {P : Nat → Nat} {M' : Mm} {r' : Int32}  (hx : p.tables.exec = Jvm.exec) (hb : c.code = cX8_write) (hml : c.maxLocals = 5) (hr : meth.sig.returnType = none) (hlk : meth.locks = false) (hgt : ∀ w ∈ GT, w.before args s = true) (hown : s.vm.findClass RX8 = some m.cls) (hK : va_K D vwCl [(cI, .int), (cZ, .boolean), (cC, .char), (cJ, .long), (cA, .array .int)] s) (hO : Old s0 s) (hAO : ∀ q, (aP P 77) q → s0.heap.size ≤ q)  : ∀ (M : Mm) (a1 : Int32) (a2 : Int32) (H : Heap) (locs : List Loc) (ls : Array Slot), lv_has ls 5 [(0, .ref (P 61)), (1, .int a1), (2, .int a2)] → va_P D vwCl ((wX cI cZ cC cJ cA P) M) H → va_D (aP P 77) ((wX cI cZ cC cJ cA P) M) → va_S (aP P 77) s.heap H locs → q_Mind_write_1 M a1 a2 = some (M', r') → W p l e ({ frames := 1, cells := 0, slots := 0, locals := 23 }) s m args below meth c H locs 0 0 (MQ below (gQv D (aP P 77) ((wX cI cZ cC cJ cA P) M')) args s 0 0 (aP P 77)) (F0 m 0 ls []) := by
  intro M a1 a2 H locs ls hl hP hD hS h
  unfold q_Mind_write_1 at h
  refine lv_aload_n hx hb dX8_write_0 rfl (lv_at hl 0 rfl) ?_
  refine va_get (D := D) (ci := 8) (v := .ref (P 24)) (C := RX8) (T := TX8) (N := 3) hx hb hgt iwX8 hown hK hP 61 gX_61 rfl 0 (Nat.le_of_ble_eq_true rfl) (hgt _ wd_1_112) (fun _ h9 => h9) rfl dX8_write_1 ?_
  refine va_get (D := D) (ci := 6) (v := .ref (P 43)) (C := RX6) (T := TX6) (N := 13) hx hb hgt iwX6 hown hK hP 24 gX_24 rfl 12 (Nat.le_of_ble_eq_true rfl) (hgt _ wd_1_46) (fun _ h9 => h9) rfl dX8_write_4 ?_
  refine lv_astore_n hx hb dX8_write_7 rfl hl (Nat.le_of_ble_eq_true rfl) (lv' := [(3, .ref (P 43)), (0, .ref (P 61)), (1, .int a1), (2, .int a2)]) rfl (fun ls hl => ?_)
  refine lv_iconst (v := 0) hx hb dX8_write_8 (by decide) ?_
  refine lv_istore hx hb dX8_write_9 hl (Nat.le_of_ble_eq_true rfl) (lv' := [(4, .int 0), (3, .ref (P 43)), (0, .ref (P 61)), (1, .int a1), (2, .int a2)]) rfl (fun ls hl => ?_)
  have hl := lv_sub hl [2, 3, 4, 1, 0] (l' := [(0, .ref (P 61)), (1, .int a1), (2, .int a2), (3, .ref (P 43)), (4, .int 0)]) rfl
  exact b_Mind_write_1_11 hx hb hml hr hlk hgt hown hK hO hAO 4000 M a1 a2 0 H _ ls hl hP hD hS h
set_option maxHeartbeats 4000000 in
set_option maxRecDepth 20000 in
theorem z_Mind_write_1 (l : Launch) (D : va_G) (cI cZ cC cJ cA : ClassId) (P : Nat → Nat) (s0 : State) (hAO : ∀ q, (aP P 77) q → s0.heap.size ≤ q) (M : Mm) (a1 : Int32) (a2 : Int32) (M' : Mm) (r' : Int32) (h : q_Mind_write_1 M a1 a2 = some (M', r')) : Met l yX8_write wsX8_write ({ frames := 1, cells := 0, slots := 0, locals := 23 }) (va_Pc [.ref (P 61), .int a1, .int a2] (gPre s0 D [(cI, .int), (cZ, .boolean), (cC, .char), (cJ, .long), (cA, .array .int)] (aP P 77) ((wX cI cZ cC cJ cA P) M))) (gQv D (aP P 77) ((wX cI cZ cC cJ cA P) M')) 0 0 (aP P 77) := by
  refine Met.ofW (cc := cX8_write) (maxL := 5) (ret := none) (by decide) rfl ?_
  intro p e s m args below meth c s₁ B hml hv
  obtain ⟨rfl, hP, hK, hD, hO⟩ := hv
  have hx := B.exec
  have hb := B.bytes
  have hr := B.returns
  have hlk := B.notSynchronized
  have hgt := fun w (h : w ∈ GT) => atoms_spec (ws := wsX8_write) B.pre w (List.mem_cons_of_mem _ h)
  have hown : s.vm.findClass RX8 = some m.cls := findClass_of_methodNamed B.named
  have hS : va_S (aP P 77) s.heap s.heap [] := va_S.rf
  have hl := lv_entry ([.ref (P 61), .int a1, .int a2]) (n := 5) (Nat.le_of_ble_eq_true rfl)
  rw [lg_entry_eq]
  generalize (lg_sl ([.ref (P 61), .int a1, .int a2]) ++ List.replicate (5 - (lg_sl ([.ref (P 61), .int a1, .int a2])).length) Slot.unset).toArray = ls at hl ⊢
  have hl : lv_has ls 5 [(0, .ref (P 61)), (1, .int a1), (2, .int a2)] := hl
  exact b_Mind_write_1_0 hx hb hml hr hlk hgt hown hK hO hAO M a1 a2 s.heap [] ls hl hP hD hS h
def q_Plan_addTold  (M : Mm) (a1 : Int32) (a2 : Int32) (a3 : Int32) : Rs := if (M.1 60 5) = 0 then (if (M.1 60 2) < 16 then (ix a1 16 <| lt' (((M.1 62 (a1 : Int32).toNatClampNeg) &&& (a2 ^^^ (-1))) ||| a3) fun x1 => cal (q_Mind_brokenBy_1 M a1 x1) fun M2 r3 => if r3 = 0 then (cal (q_Mind_write_1 M2 a1 x1) fun M4 r5 => ix (M4.1 60 2) 16 <| lt' (stI M4 63 (upd (M4.1 63) ((M4.1 60 2) : Int32).toNatClampNeg a1)) fun M6 => ix (M6.1 60 2) 16 <| lt' (stI M6 64 (upd (M6.1 64) ((M6.1 60 2) : Int32).toNatClampNeg x1)) fun M7 => lt' (stI M7 60 (upd (M7.1 60) 2 ((M7.1 60 2) + 1))) fun M8 => some (M8, 0)) else (cal (q_Integer_numberOfTrailingZeros M2 r3) fun M4 r5 => lt' (stI M4 60 (upd (M4.1 60) 5 (1 + r5))) fun M6 => some (M6, 0))) else (some (M, 0))) else (some (M, 0))
set_option maxHeartbeats 4000000 in
set_option maxRecDepth 20000 in
theorem b_Plan_addTold_0 {p : Program} {l : Launch} {e : Env} {s s0 : State} {m : MethodId} {args : Array Value} {below : List Frame} {meth : Method} {c : Code} {D : va_G} {cI cZ cC cJ cA : ClassId} {P : Nat → Nat} {M' : Mm} {r' : Int32}  (hx : p.tables.exec = Jvm.exec) (hb : c.code = cX9_addTold) (hml : c.maxLocals = 6) (hr : meth.sig.returnType = none) (hlk : meth.locks = false) (hgt : ∀ w ∈ GT, w.before args s = true) (hown : s.vm.findClass RX9 = some m.cls) (hK : va_K D vwCl [(cI, .int), (cZ, .boolean), (cC, .char), (cJ, .long), (cA, .array .int)] s) (hO : Old s0 s) (hAO : ∀ q, (aP P 77) q → s0.heap.size ≤ q)  : ∀ (M : Mm) (a1 : Int32) (a2 : Int32) (a3 : Int32) (H : Heap) (locs : List Loc) (ls : Array Slot), lv_has ls 6 [(0, .ref (P 60)), (1, .int a1), (2, .int a2), (3, .int a3)] → va_P D vwCl ((wX cI cZ cC cJ cA P) M) H → va_D (aP P 77) ((wX cI cZ cC cJ cA P) M) → va_S (aP P 77) s.heap H locs → q_Plan_addTold M a1 a2 a3 = some (M', r') → W p l e ({ frames := 2, cells := 0, slots := 0, locals := 50 }) s m args below meth c H locs 0 0 (MQ below (gQv D (aP P 77) ((wX cI cZ cC cJ cA P) M')) args s 0 0 (aP P 77)) (F0 m 0 ls []) := by
  intro M a1 a2 a3 H locs ls hl hP hD hS h
  unfold q_Plan_addTold at h
  refine lv_aload_n hx hb dX9_addTold_0 rfl (lv_at hl 0 rfl) ?_
  refine va_get (D := D) (ci := 9) (v := .int (M.1 60 5)) (C := RX9) (T := TX9) (N := 6) hx hb hgt iwX9 hown hK hP 60 gX_60 rfl 5 (Nat.le_of_ble_eq_true rfl) (hgt _ wd_1_169) (fun _ h9 => h9) rfl dX9_addTold_1 ?_
  refine lv_if_ne hx hb dX9_addTold_4 (tgt := 16) rfl (fun hc => ?_) (fun hc => ?_)
  · have h := br_F hc h
    exact rt_v (w := (wX cI cZ cC cJ cA P)) (r := r') hx hb hr hlk hP hD hS h dX9_addTold_16
  · have h := br_T hc h
    refine lv_aload_n hx hb dX9_addTold_7 rfl (lv_at hl 0 rfl) ?_
    refine va_get (D := D) (ci := 9) (v := .int (M.1 60 2)) (C := RX9) (T := TX9) (N := 6) hx hb hgt iwX9 hown hK hP 60 gX_60 rfl 2 (Nat.le_of_ble_eq_true rfl) (hgt _ wd_1_163) (fun _ h9 => h9) rfl dX9_addTold_8 ?_
    refine lv_bipush (v := 16) hx hb dX9_addTold_11 (by decide) ?_
    refine lv_icmp_lt hx hb dX9_addTold_13 (tgt := 17) rfl (fun hc => ?_) (fun hc => ?_)
    · have h := br_T hc h
      refine lv_aload_n hx hb dX9_addTold_17 rfl (lv_at hl 0 rfl) ?_
      refine va_get (D := D) (ci := 9) (v := .ref (P 61)) (C := RX9) (T := TX9) (N := 6) hx hb hgt iwX9 hown hK hP 60 gX_60 rfl 1 (Nat.le_of_ble_eq_true rfl) (hgt _ wd_1_161) (fun _ h9 => h9) rfl dX9_addTold_18 ?_
      refine va_get (D := D) (ci := 8) (v := .ref (P 62)) (C := RX8) (T := TX8) (N := 3) hx hb hgt iwX8 hown hK hP 61 gX_61 rfl 1 (Nat.le_of_ble_eq_true rfl) (hgt _ wd_1_116) (fun _ h9 => h9) rfl dX9_addTold_21 ?_
      refine lv_iload_n hx hb dX9_addTold_24 rfl (lv_at hl 1 rfl) ?_
      refine va_iald hx hb hK hP 62 0 gX_62 rfl (ix_l h) dX9_addTold_25 ?_
      have h := ix_r h
      refine lv_iload_n hx hb dX9_addTold_26 rfl (lv_at hl 2 rfl) ?_
      refine lv_iconst (v := (-1)) hx hb dX9_addTold_27 (by decide) ?_
      refine lv_ixor hx hb dX9_addTold_28 ?_
      refine lv_iand hx hb dX9_addTold_29 ?_
      refine lv_iload_n hx hb dX9_addTold_30 rfl (lv_at hl 3 rfl) ?_
      refine lv_ior hx hb dX9_addTold_31 ?_
      refine lv_topi (fun x1 ex1 => ?_)
      have h := lt_o ex1 h
      refine lv_istore hx hb dX9_addTold_32 hl (Nat.le_of_ble_eq_true rfl) (lv' := [(4, .int x1), (0, .ref (P 60)), (1, .int a1), (2, .int a2), (3, .int a3)]) rfl (fun ls hl => ?_)
      refine lv_aload_n hx hb dX9_addTold_34 rfl (lv_at hl 1 rfl) ?_
      refine va_get (D := D) (ci := 9) (v := .ref (P 61)) (C := RX9) (T := TX9) (N := 6) hx hb hgt iwX9 hown hK hP 60 gX_60 rfl 1 (Nat.le_of_ble_eq_true rfl) (hgt _ wd_1_161) (fun _ h9 => h9) rfl dX9_addTold_35 ?_
      refine lv_iload_n hx hb dX9_addTold_38 rfl (lv_at hl 2 rfl) ?_
      refine lv_iload hx hb dX9_addTold_39 (lv_at hl 0 rfl) ?_
      obtain ⟨M2, r3, hq, h⟩ := cal_o h
      refine cx_i (va_runV (As := [.int a1, .int x1]) (rest := []) ⟨hx, hb, hml, hown, hgt⟩ (z_Mind_brokenBy_1 l D cI cZ cC cJ cA P s0 hAO M a1 x1 M2 r3 hq) (cwV 2 hgt (gV wd_2_217 wd_2_116 wd_2_117 wd_0_11 wd_2_118) rfl rfl rfl (by decide +kernel) ⟨Nat.le_of_ble_eq_true rfl, Nat.le_of_ble_eq_true rfl⟩) (prV hP hK hD hO hAO hS (va_recv hK hP (ci := 8) (q0 := 61) rfl gX_61)) rfl rfl hl.1 rfl (lv_room (Nat.le_of_ble_eq_true rfl)) dX9_addTold_41 ⟨Nat.le_of_ble_eq_true rfl, Nat.le_of_ble_eq_true rfl⟩) hS (fun H locs hP hD hS => ?_)
      refine lv_istore hx hb dX9_addTold_44 hl (Nat.le_of_ble_eq_true rfl) (lv' := [(5, .int r3), (4, .int x1), (0, .ref (P 60)), (1, .int a1), (2, .int a2), (3, .int a3)]) rfl (fun ls hl => ?_)
      refine lv_iload hx hb dX9_addTold_46 (lv_at hl 0 rfl) ?_
      refine lv_if_eq hx hb dX9_addTold_48 (tgt := 63) rfl (fun hc => ?_) (fun hc => ?_)
      · have h := br_T hc h
        refine lv_aload_n hx hb dX9_addTold_63 rfl (lv_at hl 2 rfl) ?_
        refine va_get (D := D) (ci := 9) (v := .ref (P 61)) (C := RX9) (T := TX9) (N := 6) hx hb hgt iwX9 hown hK hP 60 gX_60 rfl 1 (Nat.le_of_ble_eq_true rfl) (hgt _ wd_1_161) (fun _ h9 => h9) rfl dX9_addTold_64 ?_
        refine lv_iload_n hx hb dX9_addTold_67 rfl (lv_at hl 3 rfl) ?_
        refine lv_iload hx hb dX9_addTold_68 (lv_at hl 1 rfl) ?_
        obtain ⟨M4, r5, hq, h⟩ := cal_o h
        refine cx_v (va_runV (As := [.int a1, .int x1]) (rest := []) ⟨hx, hb, hml, hown, hgt⟩ (z_Mind_write_1 l D cI cZ cC cJ cA P s0 hAO M2 a1 x1 M4 r5 hq) (cwV 2 hgt (gV wd_2_219 wd_2_132 wd_2_133 wd_0_11 wd_2_134) rfl rfl rfl (by decide +kernel) ⟨Nat.le_of_ble_eq_true rfl, Nat.le_of_ble_eq_true rfl⟩) (prV hP hK hD hO hAO hS (va_recv hK hP (ci := 8) (q0 := 61) rfl gX_61)) rfl rfl hl.1 rfl (lv_room (Nat.le_of_ble_eq_true rfl)) dX9_addTold_70 ⟨Nat.le_of_ble_eq_true rfl, Nat.le_of_ble_eq_true rfl⟩) hS (fun H locs hP hD hS => ?_)
        refine lv_aload_n hx hb dX9_addTold_73 rfl (lv_at hl 2 rfl) ?_
        refine va_get (D := D) (ci := 9) (v := .ref (P 63)) (C := RX9) (T := TX9) (N := 6) hx hb hgt iwX9 hown hK hP 60 gX_60 rfl 3 (Nat.le_of_ble_eq_true rfl) (hgt _ wd_1_165) (fun _ h9 => h9) rfl dX9_addTold_74 ?_
        refine lv_aload_n hx hb dX9_addTold_77 rfl (lv_at hl 2 rfl) ?_
        refine va_get (D := D) (ci := 9) (v := .int (M4.1 60 2)) (C := RX9) (T := TX9) (N := 6) hx hb hgt iwX9 hown hK hP 60 gX_60 rfl 2 (Nat.le_of_ble_eq_true rfl) (hgt _ wd_1_163) (fun _ h9 => h9) rfl dX9_addTold_78 ?_
        refine lv_iload_n hx hb dX9_addTold_81 rfl (lv_at hl 3 rfl) ?_
        refine pm_iast (w := (wX cI cZ cC cJ cA P)) hx hb hK hP hD hS 63 0 gX_63 rfl sX_63 (ix_l h) dX9_addTold_82 (fun M6 eM6 H locs hP hD hS => ?_)
        have h := ix_r h
        have h := lt_o eM6 h
        refine lv_aload_n hx hb dX9_addTold_83 rfl (lv_at hl 2 rfl) ?_
        refine va_get (D := D) (ci := 9) (v := .ref (P 64)) (C := RX9) (T := TX9) (N := 6) hx hb hgt iwX9 hown hK hP 60 gX_60 rfl 4 (Nat.le_of_ble_eq_true rfl) (hgt _ wd_1_167) (fun _ h9 => h9) rfl dX9_addTold_84 ?_
        refine lv_aload_n hx hb dX9_addTold_87 rfl (lv_at hl 2 rfl) ?_
        refine va_get (D := D) (ci := 9) (v := .int (M6.1 60 2)) (C := RX9) (T := TX9) (N := 6) hx hb hgt iwX9 hown hK hP 60 gX_60 rfl 2 (Nat.le_of_ble_eq_true rfl) (hgt _ wd_1_163) (fun _ h9 => h9) rfl dX9_addTold_88 ?_
        refine lv_iload hx hb dX9_addTold_91 (lv_at hl 1 rfl) ?_
        refine pm_iast (w := (wX cI cZ cC cJ cA P)) hx hb hK hP hD hS 64 0 gX_64 rfl sX_64 (ix_l h) dX9_addTold_93 (fun M7 eM7 H locs hP hD hS => ?_)
        have h := ix_r h
        have h := lt_o eM7 h
        refine lv_aload_n hx hb dX9_addTold_94 rfl (lv_at hl 2 rfl) ?_
        refine lv_dup hx hb dX9_addTold_95 rfl ?_
        refine va_get (D := D) (ci := 9) (v := .int (M7.1 60 2)) (C := RX9) (T := TX9) (N := 6) hx hb hgt iwX9 hown hK hP 60 gX_60 rfl 2 (Nat.le_of_ble_eq_true rfl) (hgt _ wd_1_163) (fun _ h9 => h9) rfl dX9_addTold_96 ?_
        refine lv_iconst (v := 1) hx hb dX9_addTold_99 (by decide) ?_
        refine lv_iadd hx hb dX9_addTold_100 ?_
        refine pm_put (w := (wX cI cZ cC cJ cA P)) (D := D) (ci := 9) (x := ((M7.1 60 2) + 1)) (ty := .int) (C := RX9) (T := TX9) (N := 6) hx hb hgt iwX9 tyX9 tyX9_ok nmX9 hown hK hP hD hS 60 gX_60 rfl 2 (Nat.le_of_ble_eq_true rfl) (hgt _ wd_1_163) (fun _ h9 => h9) rfl (by decide +kernel) rfl rfl (Nat.le_of_ble_eq_true rfl) (sX_60_2 _) dX9_addTold_101 (fun M8 eM8 H locs hP hD hS => ?_)
        have h := lt_o eM8 h
        exact rt_v (w := (wX cI cZ cC cJ cA P)) (r := r') hx hb hr hlk hP hD hS h dX9_addTold_104
      · have h := br_F hc h
        refine lv_aload_n hx hb dX9_addTold_51 rfl (lv_at hl 2 rfl) ?_
        refine lv_iconst (v := 1) hx hb dX9_addTold_52 (by decide) ?_
        refine lv_iload hx hb dX9_addTold_53 (lv_at hl 0 rfl) ?_
        obtain ⟨M4, r5, hq, h⟩ := cal_o h
        refine cx_i (va_runS (As := [.int r3]) (rest := [.int 1, .ref (P 60)]) ⟨hx, hb, hml, hown, hgt⟩ (z_Integer_numberOfTrailingZeros l D cI cZ cC cJ cA P s0 hAO M2 r3 M4 r5 hq) (va_cwS 1 hgt (gS wd_2_218 wd_2_150 wd_0_26 wd_2_151) rfl rfl rfl (by decide +kernel) ⟨Nat.le_of_ble_eq_true rfl, Nat.le_of_ble_eq_true rfl⟩) (prS hP hK hD hO hAO hS) rfl rfl hl.1 rfl (lv_room (Nat.le_of_ble_eq_true rfl)) dX9_addTold_55 ⟨Nat.le_of_ble_eq_true rfl, Nat.le_of_ble_eq_true rfl⟩) hS (fun H locs hP hD hS => ?_)
        refine lv_iadd hx hb dX9_addTold_58 ?_
        refine pm_put (w := (wX cI cZ cC cJ cA P)) (D := D) (ci := 9) (x := (1 + r5)) (ty := .int) (C := RX9) (T := TX9) (N := 6) hx hb hgt iwX9 tyX9 tyX9_ok nmX9 hown hK hP hD hS 60 gX_60 rfl 5 (Nat.le_of_ble_eq_true rfl) (hgt _ wd_1_169) (fun _ h9 => h9) rfl (by decide +kernel) rfl rfl (Nat.le_of_ble_eq_true rfl) (sX_60_5 _) dX9_addTold_59 (fun M6 eM6 H locs hP hD hS => ?_)
        have h := lt_o eM6 h
        exact rt_v (w := (wX cI cZ cC cJ cA P)) (r := r') hx hb hr hlk hP hD hS h dX9_addTold_62
    · have h := br_F hc h
      exact rt_v (w := (wX cI cZ cC cJ cA P)) (r := r') hx hb hr hlk hP hD hS h dX9_addTold_16
set_option maxHeartbeats 4000000 in
set_option maxRecDepth 20000 in
theorem z_Plan_addTold (l : Launch) (D : va_G) (cI cZ cC cJ cA : ClassId) (P : Nat → Nat) (s0 : State) (hAO : ∀ q, (aP P 77) q → s0.heap.size ≤ q) (M : Mm) (a1 : Int32) (a2 : Int32) (a3 : Int32) (M' : Mm) (r' : Int32) (h : q_Plan_addTold M a1 a2 a3 = some (M', r')) : Met l yX9_addTold wsX9_addTold ({ frames := 2, cells := 0, slots := 0, locals := 50 }) (va_Pc [.ref (P 60), .int a1, .int a2, .int a3] (gPre s0 D [(cI, .int), (cZ, .boolean), (cC, .char), (cJ, .long), (cA, .array .int)] (aP P 77) ((wX cI cZ cC cJ cA P) M))) (gQv D (aP P 77) ((wX cI cZ cC cJ cA P) M')) 0 0 (aP P 77) := by
  refine Met.ofW (cc := cX9_addTold) (maxL := 6) (ret := none) (by decide) rfl ?_
  intro p e s m args below meth c s₁ B hml hv
  obtain ⟨rfl, hP, hK, hD, hO⟩ := hv
  have hx := B.exec
  have hb := B.bytes
  have hr := B.returns
  have hlk := B.notSynchronized
  have hgt := fun w (h : w ∈ GT) => atoms_spec (ws := wsX9_addTold) B.pre w (List.mem_cons_of_mem _ h)
  have hown : s.vm.findClass RX9 = some m.cls := findClass_of_methodNamed B.named
  have hS : va_S (aP P 77) s.heap s.heap [] := va_S.rf
  have hl := lv_entry ([.ref (P 60), .int a1, .int a2, .int a3]) (n := 6) (Nat.le_of_ble_eq_true rfl)
  rw [lg_entry_eq]
  generalize (lg_sl ([.ref (P 60), .int a1, .int a2, .int a3]) ++ List.replicate (6 - (lg_sl ([.ref (P 60), .int a1, .int a2, .int a3])).length) Slot.unset).toArray = ls at hl ⊢
  have hl : lv_has ls 6 [(0, .ref (P 60)), (1, .int a1), (2, .int a2), (3, .int a3)] := hl
  exact b_Plan_addTold_0 hx hb hml hr hlk hgt hown hK hO hAO M a1 a2 a3 s.heap [] ls hl hP hD hS h
def q_Plan_addReach  (M : Mm) (a1 : Int32) : Rs := cal (q_Mind_isThere_1 M a1) fun M1 r2 => if r2 = 0 then (ix a1 16 <| lt' (M1.1 26 (a1 : Int32).toNatClampNeg) fun x3 => ix x3 26 <| ix x3 26 <| ix a1 16 <| ix x3 26 <| cal (q_Plan_addTold M1 (M1.1 38 (x3 : Int32).toNatClampNeg) (M1.1 42 (x3 : Int32).toNatClampNeg) (((M1.1 27 (a1 : Int32).toNatClampNeg) : Int32) <<< ((M1.1 40 (x3 : Int32).toNatClampNeg) &&& 31))) fun M4 r5 => some (M4, 0)) else (some (M1, 0))
set_option maxHeartbeats 4000000 in
set_option maxRecDepth 20000 in
theorem b_Plan_addReach_0 {p : Program} {l : Launch} {e : Env} {s s0 : State} {m : MethodId} {args : Array Value} {below : List Frame} {meth : Method} {c : Code} {D : va_G} {cI cZ cC cJ cA : ClassId} {P : Nat → Nat} {M' : Mm} {r' : Int32}  (hx : p.tables.exec = Jvm.exec) (hb : c.code = cX9_addReach) (hml : c.maxLocals = 3) (hr : meth.sig.returnType = none) (hlk : meth.locks = false) (hgt : ∀ w ∈ GT, w.before args s = true) (hown : s.vm.findClass RX9 = some m.cls) (hK : va_K D vwCl [(cI, .int), (cZ, .boolean), (cC, .char), (cJ, .long), (cA, .array .int)] s) (hO : Old s0 s) (hAO : ∀ q, (aP P 77) q → s0.heap.size ≤ q)  : ∀ (M : Mm) (a1 : Int32) (H : Heap) (locs : List Loc) (ls : Array Slot), lv_has ls 3 [(0, .ref (P 60)), (1, .int a1)] → va_P D vwCl ((wX cI cZ cC cJ cA P) M) H → va_D (aP P 77) ((wX cI cZ cC cJ cA P) M) → va_S (aP P 77) s.heap H locs → q_Plan_addReach M a1 = some (M', r') → W p l e ({ frames := 3, cells := 0, slots := 0, locals := 75 }) s m args below meth c H locs 0 0 (MQ below (gQv D (aP P 77) ((wX cI cZ cC cJ cA P) M')) args s 0 0 (aP P 77)) (F0 m 0 ls []) := by
  intro M a1 H locs ls hl hP hD hS h
  unfold q_Plan_addReach at h
  refine lv_aload_n hx hb dX9_addReach_0 rfl (lv_at hl 0 rfl) ?_
  refine va_get (D := D) (ci := 9) (v := .ref (P 61)) (C := RX9) (T := TX9) (N := 6) hx hb hgt iwX9 hown hK hP 60 gX_60 rfl 1 (Nat.le_of_ble_eq_true rfl) (hgt _ wd_1_161) (fun _ h9 => h9) rfl dX9_addReach_1 ?_
  refine lv_iload_n hx hb dX9_addReach_4 rfl (lv_at hl 1 rfl) ?_
  obtain ⟨M1, r2, hq, h⟩ := cal_o h
  refine cx_i (va_runV (As := [.int a1]) (rest := []) ⟨hx, hb, hml, hown, hgt⟩ (z_Mind_isThere_1 l D cI cZ cC cJ cA P s0 hAO M a1 M1 r2 hq) (cwV 1 hgt (gV wd_2_212 wd_2_107 wd_2_108 wd_0_11 wd_2_109) rfl rfl rfl (by decide +kernel) ⟨Nat.le_of_ble_eq_true rfl, Nat.le_of_ble_eq_true rfl⟩) (prV hP hK hD hO hAO hS (va_recv hK hP (ci := 8) (q0 := 61) rfl gX_61)) rfl rfl hl.1 rfl (lv_room (Nat.le_of_ble_eq_true rfl)) dX9_addReach_5 ⟨Nat.le_of_ble_eq_true rfl, Nat.le_of_ble_eq_true rfl⟩) hS (fun H locs hP hD hS => ?_)
  refine lv_if_ne hx hb dX9_addReach_8 (tgt := 62) rfl (fun hc => ?_) (fun hc => ?_)
  · have h := br_F hc h
    exact rt_v (w := (wX cI cZ cC cJ cA P)) (r := r') hx hb hr hlk hP hD hS h dX9_addReach_62
  · have h := br_T hc h
    refine lv_aload_n hx hb dX9_addReach_11 rfl (lv_at hl 0 rfl) ?_
    refine va_get (D := D) (ci := 9) (v := .ref (P 24)) (C := RX9) (T := TX9) (N := 6) hx hb hgt iwX9 hown hK hP 60 gX_60 rfl 0 (Nat.le_of_ble_eq_true rfl) (hgt _ wd_1_160) (fun _ h9 => h9) rfl dX9_addReach_12 ?_
    refine va_get (D := D) (ci := 6) (v := .ref (P 26)) (C := RX6) (T := TX6) (N := 13) hx hb hgt iwX6 hown hK hP 24 gX_24 rfl 2 (Nat.le_of_ble_eq_true rfl) (hgt _ wd_1_12) (fun _ h9 => h9) rfl dX9_addReach_15 ?_
    refine lv_iload_n hx hb dX9_addReach_18 rfl (lv_at hl 1 rfl) ?_
    refine va_iald hx hb hK hP 26 0 gX_26 rfl (ix_l h) dX9_addReach_19 ?_
    have h := ix_r h
    refine lv_topi (fun x3 ex3 => ?_)
    have h := lt_o ex3 h
    refine lv_istore_n hx hb dX9_addReach_20 rfl hl (Nat.le_of_ble_eq_true rfl) (lv' := [(2, .int x3), (0, .ref (P 60)), (1, .int a1)]) rfl (fun ls hl => ?_)
    refine lv_aload_n hx hb dX9_addReach_21 rfl (lv_at hl 1 rfl) ?_
    refine lv_aload_n hx hb dX9_addReach_22 rfl (lv_at hl 1 rfl) ?_
    refine va_get (D := D) (ci := 9) (v := .ref (P 24)) (C := RX9) (T := TX9) (N := 6) hx hb hgt iwX9 hown hK hP 60 gX_60 rfl 0 (Nat.le_of_ble_eq_true rfl) (hgt _ wd_1_160) (fun _ h9 => h9) rfl dX9_addReach_23 ?_
    refine va_get (D := D) (ci := 6) (v := .ref (P 38)) (C := RX6) (T := TX6) (N := 13) hx hb hgt iwX6 hown hK hP 24 gX_24 rfl 7 (Nat.le_of_ble_eq_true rfl) (hgt _ wd_1_27) (fun _ h9 => h9) rfl dX9_addReach_26 ?_
    refine lv_iload_n hx hb dX9_addReach_29 rfl (lv_at hl 0 rfl) ?_
    refine va_iald hx hb hK hP 38 0 gX_38 rfl (ix_l h) dX9_addReach_30 ?_
    have h := ix_r h
    refine lv_aload_n hx hb dX9_addReach_31 rfl (lv_at hl 1 rfl) ?_
    refine va_get (D := D) (ci := 9) (v := .ref (P 24)) (C := RX9) (T := TX9) (N := 6) hx hb hgt iwX9 hown hK hP 60 gX_60 rfl 0 (Nat.le_of_ble_eq_true rfl) (hgt _ wd_1_160) (fun _ h9 => h9) rfl dX9_addReach_32 ?_
    refine va_get (D := D) (ci := 6) (v := .ref (P 42)) (C := RX6) (T := TX6) (N := 13) hx hb hgt iwX6 hown hK hP 24 gX_24 rfl 11 (Nat.le_of_ble_eq_true rfl) (hgt _ wd_1_42) (fun _ h9 => h9) rfl dX9_addReach_35 ?_
    refine lv_iload_n hx hb dX9_addReach_38 rfl (lv_at hl 0 rfl) ?_
    refine va_iald hx hb hK hP 42 0 gX_42 rfl (ix_l h) dX9_addReach_39 ?_
    have h := ix_r h
    refine lv_aload_n hx hb dX9_addReach_40 rfl (lv_at hl 1 rfl) ?_
    refine va_get (D := D) (ci := 9) (v := .ref (P 24)) (C := RX9) (T := TX9) (N := 6) hx hb hgt iwX9 hown hK hP 60 gX_60 rfl 0 (Nat.le_of_ble_eq_true rfl) (hgt _ wd_1_160) (fun _ h9 => h9) rfl dX9_addReach_41 ?_
    refine va_get (D := D) (ci := 6) (v := .ref (P 27)) (C := RX6) (T := TX6) (N := 13) hx hb hgt iwX6 hown hK hP 24 gX_24 rfl 3 (Nat.le_of_ble_eq_true rfl) (hgt _ wd_1_15) (fun _ h9 => h9) rfl dX9_addReach_44 ?_
    refine lv_iload_n hx hb dX9_addReach_47 rfl (lv_at hl 2 rfl) ?_
    refine va_iald hx hb hK hP 27 0 gX_27 rfl (ix_l h) dX9_addReach_48 ?_
    have h := ix_r h
    refine lv_aload_n hx hb dX9_addReach_49 rfl (lv_at hl 1 rfl) ?_
    refine va_get (D := D) (ci := 9) (v := .ref (P 24)) (C := RX9) (T := TX9) (N := 6) hx hb hgt iwX9 hown hK hP 60 gX_60 rfl 0 (Nat.le_of_ble_eq_true rfl) (hgt _ wd_1_160) (fun _ h9 => h9) rfl dX9_addReach_50 ?_
    refine va_get (D := D) (ci := 6) (v := .ref (P 40)) (C := RX6) (T := TX6) (N := 13) hx hb hgt iwX6 hown hK hP 24 gX_24 rfl 9 (Nat.le_of_ble_eq_true rfl) (hgt _ wd_1_35) (fun _ h9 => h9) rfl dX9_addReach_53 ?_
    refine lv_iload_n hx hb dX9_addReach_56 rfl (lv_at hl 0 rfl) ?_
    refine va_iald hx hb hK hP 40 0 gX_40 rfl (ix_l h) dX9_addReach_57 ?_
    have h := ix_r h
    refine lv_ishl hx hb dX9_addReach_58 ?_
    obtain ⟨M4, r5, hq, h⟩ := cal_o h
    refine cx_v (va_runV (As := [.int (M1.1 38 (x3 : Int32).toNatClampNeg), .int (M1.1 42 (x3 : Int32).toNatClampNeg), .int (((M1.1 27 (a1 : Int32).toNatClampNeg) : Int32) <<< ((M1.1 40 (x3 : Int32).toNatClampNeg) &&& 31))]) (rest := []) ⟨hx, hb, hml, hown, hgt⟩ (z_Plan_addTold l D cI cZ cC cJ cA P s0 hAO M1 (M1.1 38 (x3 : Int32).toNatClampNeg) (M1.1 42 (x3 : Int32).toNatClampNeg) (((M1.1 27 (a1 : Int32).toNatClampNeg) : Int32) <<< ((M1.1 40 (x3 : Int32).toNatClampNeg) &&& 31)) M4 r5 hq) (cwV 3 hgt (gV wd_2_213 wd_2_215 sl__ChipMap_Plan____ChipMap_Plan___addTold____III_V_____ChipMap_Plan___addTold____III_V__ wd_0_12 wd_2_216) rfl rfl rfl (by decide +kernel) ⟨Nat.le_of_ble_eq_true rfl, Nat.le_of_ble_eq_true rfl⟩) (prV hP hK hD hO hAO hS (va_recv hK hP (ci := 9) (q0 := 60) rfl gX_60)) rfl rfl hl.1 rfl (lv_room (Nat.le_of_ble_eq_true rfl)) dX9_addReach_59 ⟨Nat.le_of_ble_eq_true rfl, Nat.le_of_ble_eq_true rfl⟩) hS (fun H locs hP hD hS => ?_)
    exact rt_v (w := (wX cI cZ cC cJ cA P)) (r := r') hx hb hr hlk hP hD hS h dX9_addReach_62
set_option maxHeartbeats 4000000 in
set_option maxRecDepth 20000 in
theorem z_Plan_addReach (l : Launch) (D : va_G) (cI cZ cC cJ cA : ClassId) (P : Nat → Nat) (s0 : State) (hAO : ∀ q, (aP P 77) q → s0.heap.size ≤ q) (M : Mm) (a1 : Int32) (M' : Mm) (r' : Int32) (h : q_Plan_addReach M a1 = some (M', r')) : Met l yX9_addReach wsX9_addReach ({ frames := 3, cells := 0, slots := 0, locals := 75 }) (va_Pc [.ref (P 60), .int a1] (gPre s0 D [(cI, .int), (cZ, .boolean), (cC, .char), (cJ, .long), (cA, .array .int)] (aP P 77) ((wX cI cZ cC cJ cA P) M))) (gQv D (aP P 77) ((wX cI cZ cC cJ cA P) M')) 0 0 (aP P 77) := by
  refine Met.ofW (cc := cX9_addReach) (maxL := 3) (ret := none) (by decide) rfl ?_
  intro p e s m args below meth c s₁ B hml hv
  obtain ⟨rfl, hP, hK, hD, hO⟩ := hv
  have hx := B.exec
  have hb := B.bytes
  have hr := B.returns
  have hlk := B.notSynchronized
  have hgt := fun w (h : w ∈ GT) => atoms_spec (ws := wsX9_addReach) B.pre w (List.mem_cons_of_mem _ h)
  have hown : s.vm.findClass RX9 = some m.cls := findClass_of_methodNamed B.named
  have hS : va_S (aP P 77) s.heap s.heap [] := va_S.rf
  have hl := lv_entry ([.ref (P 60), .int a1]) (n := 3) (Nat.le_of_ble_eq_true rfl)
  rw [lg_entry_eq]
  generalize (lg_sl ([.ref (P 60), .int a1]) ++ List.replicate (3 - (lg_sl ([.ref (P 60), .int a1])).length) Slot.unset).toArray = ls at hl ⊢
  have hl : lv_has ls 3 [(0, .ref (P 60)), (1, .int a1)] := hl
  exact b_Plan_addReach_0 hx hb hml hr hlk hgt hown hK hO hAO M a1 s.heap [] ls hl hP hD hS h
def q_Plan_addPut_24  (M : Mm) (v1 : Int32) (v2 : Int32) : Rs := ix v1 26 <| lt' (M.1 38 (v1 : Int32).toNatClampNeg) fun x1 => cal (q_Plan_addReach M x1) fun M2 r3 => ix v1 26 <| ix v1 26 <| cal (q_Plan_addTold M2 x1 (M2.1 42 (v1 : Int32).toNatClampNeg) ((v2 : Int32) <<< ((M2.1 40 (v1 : Int32).toNatClampNeg) &&& 31))) fun M4 r5 => some (M4, 0)
def q_Plan_addPut  (M : Mm) (a1 : Int32) (a2 : Int32) : Rs := cal (q_Layout_isKnown M a1) fun M1 r2 => if r2 = 0 then (q_Plan_addPut_24 M1 a1 a2) else (cal (q_Mind_knownValue_1 M1 a1) fun M3 r4 => if r4 = a2 then (some (M3, 0)) else (q_Plan_addPut_24 M3 a1 a2))
set_option maxHeartbeats 4000000 in
set_option maxRecDepth 20000 in
theorem b_Plan_addPut_24 {p : Program} {l : Launch} {e : Env} {s s0 : State} {m : MethodId} {args : Array Value} {below : List Frame} {meth : Method} {c : Code} {D : va_G} {cI cZ cC cJ cA : ClassId} {P : Nat → Nat} {M' : Mm} {r' : Int32}  (hx : p.tables.exec = Jvm.exec) (hb : c.code = cX9_addPut) (hml : c.maxLocals = 4) (hr : meth.sig.returnType = none) (hlk : meth.locks = false) (hgt : ∀ w ∈ GT, w.before args s = true) (hown : s.vm.findClass RX9 = some m.cls) (hK : va_K D vwCl [(cI, .int), (cZ, .boolean), (cC, .char), (cJ, .long), (cA, .array .int)] s) (hO : Old s0 s) (hAO : ∀ q, (aP P 77) q → s0.heap.size ≤ q)  : ∀ (M : Mm) (v1 : Int32) (v2 : Int32) (H : Heap) (locs : List Loc) (ls : Array Slot), lv_has ls 4 [(0, .ref (P 60)), (1, .int v1), (2, .int v2)] → va_P D vwCl ((wX cI cZ cC cJ cA P) M) H → va_D (aP P 77) ((wX cI cZ cC cJ cA P) M) → va_S (aP P 77) s.heap H locs → q_Plan_addPut_24 M v1 v2 = some (M', r') → W p l e ({ frames := 4, cells := 0, slots := 0, locals := 97 }) s m args below meth c H locs 0 0 (MQ below (gQv D (aP P 77) ((wX cI cZ cC cJ cA P) M')) args s 0 0 (aP P 77)) (F0 m 24 ls []) := by
  intro M v1 v2 H locs ls hl hP hD hS h
  unfold q_Plan_addPut_24 at h
  refine lv_aload_n hx hb dX9_addPut_24 rfl (lv_at hl 0 rfl) ?_
  refine va_get (D := D) (ci := 9) (v := .ref (P 24)) (C := RX9) (T := TX9) (N := 6) hx hb hgt iwX9 hown hK hP 60 gX_60 rfl 0 (Nat.le_of_ble_eq_true rfl) (hgt _ wd_1_160) (fun _ h9 => h9) rfl dX9_addPut_25 ?_
  refine va_get (D := D) (ci := 6) (v := .ref (P 38)) (C := RX6) (T := TX6) (N := 13) hx hb hgt iwX6 hown hK hP 24 gX_24 rfl 7 (Nat.le_of_ble_eq_true rfl) (hgt _ wd_1_27) (fun _ h9 => h9) rfl dX9_addPut_28 ?_
  refine lv_iload_n hx hb dX9_addPut_31 rfl (lv_at hl 1 rfl) ?_
  refine va_iald hx hb hK hP 38 0 gX_38 rfl (ix_l h) dX9_addPut_32 ?_
  have h := ix_r h
  refine lv_topi (fun x1 ex1 => ?_)
  have h := lt_o ex1 h
  refine lv_istore_n hx hb dX9_addPut_33 rfl hl (Nat.le_of_ble_eq_true rfl) (lv' := [(3, .int x1), (0, .ref (P 60)), (1, .int v1), (2, .int v2)]) rfl (fun ls hl => ?_)
  refine lv_aload_n hx hb dX9_addPut_34 rfl (lv_at hl 1 rfl) ?_
  refine lv_iload_n hx hb dX9_addPut_35 rfl (lv_at hl 0 rfl) ?_
  obtain ⟨M2, r3, hq, h⟩ := cal_o h
  refine cx_v (va_runV (As := [.int x1]) (rest := []) ⟨hx, hb, hml, hown, hgt⟩ (z_Plan_addReach l D cI cZ cC cJ cA P s0 hAO M x1 M2 r3 hq) (cwV 1 hgt (gV wd_2_208 wd_2_210 sl__ChipMap_Plan____ChipMap_Plan___addReach____I_V_____ChipMap_Plan___addReach____I_V__ wd_0_12 wd_2_211) rfl rfl rfl (by decide +kernel) ⟨Nat.le_of_ble_eq_true rfl, Nat.le_of_ble_eq_true rfl⟩) (prV hP hK hD hO hAO hS (va_recv hK hP (ci := 9) (q0 := 60) rfl gX_60)) rfl rfl hl.1 rfl (lv_room (Nat.le_of_ble_eq_true rfl)) dX9_addPut_36 ⟨Nat.le_of_ble_eq_true rfl, Nat.le_of_ble_eq_true rfl⟩) hS (fun H locs hP hD hS => ?_)
  refine lv_aload_n hx hb dX9_addPut_39 rfl (lv_at hl 1 rfl) ?_
  refine lv_iload_n hx hb dX9_addPut_40 rfl (lv_at hl 0 rfl) ?_
  refine lv_aload_n hx hb dX9_addPut_41 rfl (lv_at hl 1 rfl) ?_
  refine va_get (D := D) (ci := 9) (v := .ref (P 24)) (C := RX9) (T := TX9) (N := 6) hx hb hgt iwX9 hown hK hP 60 gX_60 rfl 0 (Nat.le_of_ble_eq_true rfl) (hgt _ wd_1_160) (fun _ h9 => h9) rfl dX9_addPut_42 ?_
  refine va_get (D := D) (ci := 6) (v := .ref (P 42)) (C := RX6) (T := TX6) (N := 13) hx hb hgt iwX6 hown hK hP 24 gX_24 rfl 11 (Nat.le_of_ble_eq_true rfl) (hgt _ wd_1_42) (fun _ h9 => h9) rfl dX9_addPut_45 ?_
  refine lv_iload_n hx hb dX9_addPut_48 rfl (lv_at hl 2 rfl) ?_
  refine va_iald hx hb hK hP 42 0 gX_42 rfl (ix_l h) dX9_addPut_49 ?_
  have h := ix_r h
  refine lv_iload_n hx hb dX9_addPut_50 rfl (lv_at hl 3 rfl) ?_
  refine lv_aload_n hx hb dX9_addPut_51 rfl (lv_at hl 1 rfl) ?_
  refine va_get (D := D) (ci := 9) (v := .ref (P 24)) (C := RX9) (T := TX9) (N := 6) hx hb hgt iwX9 hown hK hP 60 gX_60 rfl 0 (Nat.le_of_ble_eq_true rfl) (hgt _ wd_1_160) (fun _ h9 => h9) rfl dX9_addPut_52 ?_
  refine va_get (D := D) (ci := 6) (v := .ref (P 40)) (C := RX6) (T := TX6) (N := 13) hx hb hgt iwX6 hown hK hP 24 gX_24 rfl 9 (Nat.le_of_ble_eq_true rfl) (hgt _ wd_1_35) (fun _ h9 => h9) rfl dX9_addPut_55 ?_
  refine lv_iload_n hx hb dX9_addPut_58 rfl (lv_at hl 2 rfl) ?_
  refine va_iald hx hb hK hP 40 0 gX_40 rfl (ix_l h) dX9_addPut_59 ?_
  have h := ix_r h
  refine lv_ishl hx hb dX9_addPut_60 ?_
  obtain ⟨M4, r5, hq, h⟩ := cal_o h
  refine cx_v (va_runV (As := [.int x1, .int (M2.1 42 (v1 : Int32).toNatClampNeg), .int ((v2 : Int32) <<< ((M2.1 40 (v1 : Int32).toNatClampNeg) &&& 31))]) (rest := []) ⟨hx, hb, hml, hown, hgt⟩ (z_Plan_addTold l D cI cZ cC cJ cA P s0 hAO M2 x1 (M2.1 42 (v1 : Int32).toNatClampNeg) ((v2 : Int32) <<< ((M2.1 40 (v1 : Int32).toNatClampNeg) &&& 31)) M4 r5 hq) (cwV 3 hgt (gV wd_2_213 wd_2_215 sl__ChipMap_Plan____ChipMap_Plan___addTold____III_V_____ChipMap_Plan___addTold____III_V__ wd_0_12 wd_2_216) rfl rfl rfl (by decide +kernel) ⟨Nat.le_of_ble_eq_true rfl, Nat.le_of_ble_eq_true rfl⟩) (prV hP hK hD hO hAO hS (va_recv hK hP (ci := 9) (q0 := 60) rfl gX_60)) rfl rfl hl.1 rfl (lv_room (Nat.le_of_ble_eq_true rfl)) dX9_addPut_61 ⟨Nat.le_of_ble_eq_true rfl, Nat.le_of_ble_eq_true rfl⟩) hS (fun H locs hP hD hS => ?_)
  exact rt_v (w := (wX cI cZ cC cJ cA P)) (r := r') hx hb hr hlk hP hD hS h dX9_addPut_64
set_option maxHeartbeats 4000000 in
set_option maxRecDepth 20000 in
theorem b_Plan_addPut_0 {p : Program} {l : Launch} {e : Env} {s s0 : State} {m : MethodId} {args : Array Value} {below : List Frame} {meth : Method} {c : Code} {D : va_G} {cI cZ cC cJ cA : ClassId} {P : Nat → Nat} {M' : Mm} {r' : Int32}  (hx : p.tables.exec = Jvm.exec) (hb : c.code = cX9_addPut) (hml : c.maxLocals = 4) (hr : meth.sig.returnType = none) (hlk : meth.locks = false) (hgt : ∀ w ∈ GT, w.before args s = true) (hown : s.vm.findClass RX9 = some m.cls) (hK : va_K D vwCl [(cI, .int), (cZ, .boolean), (cC, .char), (cJ, .long), (cA, .array .int)] s) (hO : Old s0 s) (hAO : ∀ q, (aP P 77) q → s0.heap.size ≤ q)  : ∀ (M : Mm) (a1 : Int32) (a2 : Int32) (H : Heap) (locs : List Loc) (ls : Array Slot), lv_has ls 4 [(0, .ref (P 60)), (1, .int a1), (2, .int a2)] → va_P D vwCl ((wX cI cZ cC cJ cA P) M) H → va_D (aP P 77) ((wX cI cZ cC cJ cA P) M) → va_S (aP P 77) s.heap H locs → q_Plan_addPut M a1 a2 = some (M', r') → W p l e ({ frames := 4, cells := 0, slots := 0, locals := 97 }) s m args below meth c H locs 0 0 (MQ below (gQv D (aP P 77) ((wX cI cZ cC cJ cA P) M')) args s 0 0 (aP P 77)) (F0 m 0 ls []) := by
  intro M a1 a2 H locs ls hl hP hD hS h
  unfold q_Plan_addPut at h
  refine lv_aload_n hx hb dX9_addPut_0 rfl (lv_at hl 0 rfl) ?_
  refine va_get (D := D) (ci := 9) (v := .ref (P 24)) (C := RX9) (T := TX9) (N := 6) hx hb hgt iwX9 hown hK hP 60 gX_60 rfl 0 (Nat.le_of_ble_eq_true rfl) (hgt _ wd_1_160) (fun _ h9 => h9) rfl dX9_addPut_1 ?_
  refine lv_iload_n hx hb dX9_addPut_4 rfl (lv_at hl 1 rfl) ?_
  obtain ⟨M1, r2, hq, h⟩ := cal_o h
  refine cx_i (va_runV (As := [.int a1]) (rest := []) ⟨hx, hb, hml, hown, hgt⟩ (z_Layout_isKnown l D cI cZ cC cJ cA P s0 hAO M a1 M1 r2 hq) (cwV 1 hgt (gV wd_2_203 wd_2_204 wd_2_205 wd_0_6 wd_2_206) rfl rfl rfl (by decide +kernel) ⟨Nat.le_of_ble_eq_true rfl, Nat.le_of_ble_eq_true rfl⟩) (prV hP hK hD hO hAO hS (va_recv hK hP (ci := 6) (q0 := 24) rfl gX_24)) rfl rfl hl.1 rfl (lv_room (Nat.le_of_ble_eq_true rfl)) dX9_addPut_5 ⟨Nat.le_of_ble_eq_true rfl, Nat.le_of_ble_eq_true rfl⟩) hS (fun H locs hP hD hS => ?_)
  refine lv_if_eq hx hb dX9_addPut_8 (tgt := 24) rfl (fun hc => ?_) (fun hc => ?_)
  · have h := br_T hc h
    have hl := lv_sub hl [0, 1, 2] (l' := [(0, .ref (P 60)), (1, .int a1), (2, .int a2)]) rfl
    exact b_Plan_addPut_24 hx hb hml hr hlk hgt hown hK hO hAO M1 a1 a2 H _ ls hl hP hD hS h
  · have h := br_F hc h
    refine lv_aload_n hx hb dX9_addPut_11 rfl (lv_at hl 0 rfl) ?_
    refine va_get (D := D) (ci := 9) (v := .ref (P 61)) (C := RX9) (T := TX9) (N := 6) hx hb hgt iwX9 hown hK hP 60 gX_60 rfl 1 (Nat.le_of_ble_eq_true rfl) (hgt _ wd_1_161) (fun _ h9 => h9) rfl dX9_addPut_12 ?_
    refine lv_iload_n hx hb dX9_addPut_15 rfl (lv_at hl 1 rfl) ?_
    obtain ⟨M3, r4, hq, h⟩ := cal_o h
    refine cx_i (va_runV (As := [.int a1]) (rest := []) ⟨hx, hb, hml, hown, hgt⟩ (z_Mind_knownValue_1 l D cI cZ cC cJ cA P s0 hAO M1 a1 M3 r4 hq) (cwV 1 hgt (gV wd_2_207 wd_2_111 wd_2_112 wd_0_11 wd_2_113) rfl rfl rfl (by decide +kernel) ⟨Nat.le_of_ble_eq_true rfl, Nat.le_of_ble_eq_true rfl⟩) (prV hP hK hD hO hAO hS (va_recv hK hP (ci := 8) (q0 := 61) rfl gX_61)) rfl rfl hl.1 rfl (lv_room (Nat.le_of_ble_eq_true rfl)) dX9_addPut_16 ⟨Nat.le_of_ble_eq_true rfl, Nat.le_of_ble_eq_true rfl⟩) hS (fun H locs hP hD hS => ?_)
    refine lv_iload_n hx hb dX9_addPut_19 rfl (lv_at hl 2 rfl) ?_
    refine lv_icmp_ne hx hb dX9_addPut_20 (tgt := 24) rfl (fun hc => ?_) (fun hc => ?_)
    · have h := br_F hc h
      have hl := lv_sub hl [0, 1, 2] (l' := [(0, .ref (P 60)), (1, .int a1), (2, .int a2)]) rfl
      exact b_Plan_addPut_24 hx hb hml hr hlk hgt hown hK hO hAO M3 a1 a2 H _ ls hl hP hD hS h
    · have h := br_T hc h
      exact rt_v (w := (wX cI cZ cC cJ cA P)) (r := r') hx hb hr hlk hP hD hS h dX9_addPut_23
set_option maxHeartbeats 4000000 in
set_option maxRecDepth 20000 in
theorem z_Plan_addPut (l : Launch) (D : va_G) (cI cZ cC cJ cA : ClassId) (P : Nat → Nat) (s0 : State) (hAO : ∀ q, (aP P 77) q → s0.heap.size ≤ q) (M : Mm) (a1 : Int32) (a2 : Int32) (M' : Mm) (r' : Int32) (h : q_Plan_addPut M a1 a2 = some (M', r')) : Met l yX9_addPut wsX9_addPut ({ frames := 4, cells := 0, slots := 0, locals := 97 }) (va_Pc [.ref (P 60), .int a1, .int a2] (gPre s0 D [(cI, .int), (cZ, .boolean), (cC, .char), (cJ, .long), (cA, .array .int)] (aP P 77) ((wX cI cZ cC cJ cA P) M))) (gQv D (aP P 77) ((wX cI cZ cC cJ cA P) M')) 0 0 (aP P 77) := by
  refine Met.ofW (cc := cX9_addPut) (maxL := 4) (ret := none) (by decide) rfl ?_
  intro p e s m args below meth c s₁ B hml hv
  obtain ⟨rfl, hP, hK, hD, hO⟩ := hv
  have hx := B.exec
  have hb := B.bytes
  have hr := B.returns
  have hlk := B.notSynchronized
  have hgt := fun w (h : w ∈ GT) => atoms_spec (ws := wsX9_addPut) B.pre w (List.mem_cons_of_mem _ h)
  have hown : s.vm.findClass RX9 = some m.cls := findClass_of_methodNamed B.named
  have hS : va_S (aP P 77) s.heap s.heap [] := va_S.rf
  have hl := lv_entry ([.ref (P 60), .int a1, .int a2]) (n := 4) (Nat.le_of_ble_eq_true rfl)
  rw [lg_entry_eq]
  generalize (lg_sl ([.ref (P 60), .int a1, .int a2]) ++ List.replicate (4 - (lg_sl ([.ref (P 60), .int a1, .int a2])).length) Slot.unset).toArray = ls at hl ⊢
  have hl : lv_has ls 4 [(0, .ref (P 60)), (1, .int a1), (2, .int a2)] := hl
  exact b_Plan_addPut_0 hx hb hml hr hlk hgt hown hK hO hAO M a1 a2 s.heap [] ls hl hP hD hS h
def q_ChipMap_doWrites_15  : Nat → Mm → Int32 → Rs
  | 0, _, _ => none
  | n' + 1, M, v1 => if (M.1 60 2) ≤ v1 then (some (M, (M.1 60 2))) else (ix v1 16 <| ix v1 16 <| cal (q_Device_write M (M.1 63 (v1 : Int32).toNatClampNeg) (M.1 64 (v1 : Int32).toNatClampNeg)) fun M1 r2 => q_ChipMap_doWrites_15 n' M1 (v1 + 1))
def q_ChipMap_doWrites  (M : Mm)  : Rs := if (M.1 60 5) = 0 then (q_ChipMap_doWrites_15 4000 M 0) else (some (M, (-2)))
set_option maxHeartbeats 4000000 in
set_option maxRecDepth 20000 in
theorem b_ChipMap_doWrites_15 {p : Program} {l : Launch} {e : Env} {s s0 : State} {m : MethodId} {args : Array Value} {below : List Frame} {meth : Method} {c : Code} {D : va_G} {cI cZ cC cJ cA : ClassId} {P : Nat → Nat} {M' : Mm} {r' : Int32}  (hx : p.tables.exec = Jvm.exec) (hb : c.code = cX0_doWrites) (hml : c.maxLocals = 2) (hr : meth.sig.returnType = (some .int)) (hlk : meth.locks = false) (hgt : ∀ w ∈ GT, w.before args s = true) (hown : s.vm.findClass RX0 = some m.cls) (hK : va_K D vwCl [(cI, .int), (cZ, .boolean), (cC, .char), (cJ, .long), (cA, .array .int)] s) (hO : Old s0 s) (hAO : ∀ q, (aP P 77) q → s0.heap.size ≤ q)  : ∀ (n' : Nat) (M : Mm) (v1 : Int32) (H : Heap) (locs : List Loc) (ls : Array Slot), lv_has ls 2 [(0, .ref (P 0)), (1, .int v1)] → va_P D vwCl ((wX cI cZ cC cJ cA P) M) H → va_D (aP P 77) ((wX cI cZ cC cJ cA P) M) → va_S (aP P 77) s.heap H locs → q_ChipMap_doWrites_15 n' M v1 = some (M', r') → W p l e ({ frames := 3, cells := 0, slots := 0, locals := 69 }) s m args below meth c H locs 0 0 (MQ below (gQi D (aP P 77) ((wX cI cZ cC cJ cA P) M') r') args s 0 0 (aP P 77)) (F0 m 15 ls []) := by
  intro n'
  induction n' with
  | zero => exact fun _ _ _ _ _ _ _ _ _ h => (rs_n h).elim
  | succ n' ih =>
    intro M v1 H locs ls hl hP hD hS h
    rw [q_ChipMap_doWrites_15] at h
    refine lv_iload_n hx hb dX0_doWrites_15 rfl (lv_at hl 1 rfl) ?_
    refine lv_aload_n hx hb dX0_doWrites_16 rfl (lv_at hl 0 rfl) ?_
    refine va_get (D := D) (ci := 0) (v := .ref (P 60)) (C := RX0) (T := TX0) (N := 9) hx hb hgt iwX0 hown hK hP 0 gX_0 rfl 5 (Nat.le_of_ble_eq_true rfl) (hgt _ wd_2_22) (fun _ h9 => h9) rfl dX0_doWrites_17 ?_
    refine va_get (D := D) (ci := 9) (v := .int (M.1 60 2)) (C := RX9) (T := TX9) (N := 6) hx hb hgt iwX9 hown hK hP 60 gX_60 rfl 2 (Nat.le_of_ble_eq_true rfl) (hgt _ wd_1_164) (fun _ h9 => h9) rfl dX0_doWrites_20 ?_
    refine lv_icmp_ge hx hb dX0_doWrites_23 (tgt := 57) rfl (fun hc => ?_) (fun hc => ?_)
    · have h := br_T hc h
      refine lv_aload_n hx hb dX0_doWrites_57 rfl (lv_at hl 0 rfl) ?_
      refine va_get (D := D) (ci := 0) (v := .ref (P 60)) (C := RX0) (T := TX0) (N := 9) hx hb hgt iwX0 hown hK hP 0 gX_0 rfl 5 (Nat.le_of_ble_eq_true rfl) (hgt _ wd_2_22) (fun _ h9 => h9) rfl dX0_doWrites_58 ?_
      refine va_get (D := D) (ci := 9) (v := .int (M.1 60 2)) (C := RX9) (T := TX9) (N := 6) hx hb hgt iwX9 hown hK hP 60 gX_60 rfl 2 (Nat.le_of_ble_eq_true rfl) (hgt _ wd_1_164) (fun _ h9 => h9) rfl dX0_doWrites_61 ?_
      exact rt_i (w := (wX cI cZ cC cJ cA P)) hx hb hr hlk hP hD hS h dX0_doWrites_64
    · have h := br_F hc h
      refine lv_aload_n hx hb dX0_doWrites_26 rfl (lv_at hl 0 rfl) ?_
      refine va_get (D := D) (ci := 0) (v := .ref (P 50)) (C := RX0) (T := TX0) (N := 9) hx hb hgt iwX0 hown hK hP 0 gX_0 rfl 4 (Nat.le_of_ble_eq_true rfl) (hgt _ wd_2_21) (fun _ h9 => h9) rfl dX0_doWrites_27 ?_
      refine lv_aload_n hx hb dX0_doWrites_30 rfl (lv_at hl 0 rfl) ?_
      refine va_get (D := D) (ci := 0) (v := .ref (P 60)) (C := RX0) (T := TX0) (N := 9) hx hb hgt iwX0 hown hK hP 0 gX_0 rfl 5 (Nat.le_of_ble_eq_true rfl) (hgt _ wd_2_22) (fun _ h9 => h9) rfl dX0_doWrites_31 ?_
      refine va_get (D := D) (ci := 9) (v := .ref (P 63)) (C := RX9) (T := TX9) (N := 6) hx hb hgt iwX9 hown hK hP 60 gX_60 rfl 3 (Nat.le_of_ble_eq_true rfl) (hgt _ wd_1_166) (fun _ h9 => h9) rfl dX0_doWrites_34 ?_
      refine lv_iload_n hx hb dX0_doWrites_37 rfl (lv_at hl 1 rfl) ?_
      refine va_iald hx hb hK hP 63 0 gX_63 rfl (ix_l h) dX0_doWrites_38 ?_
      have h := ix_r h
      refine lv_aload_n hx hb dX0_doWrites_39 rfl (lv_at hl 0 rfl) ?_
      refine va_get (D := D) (ci := 0) (v := .ref (P 60)) (C := RX0) (T := TX0) (N := 9) hx hb hgt iwX0 hown hK hP 0 gX_0 rfl 5 (Nat.le_of_ble_eq_true rfl) (hgt _ wd_2_22) (fun _ h9 => h9) rfl dX0_doWrites_40 ?_
      refine va_get (D := D) (ci := 9) (v := .ref (P 64)) (C := RX9) (T := TX9) (N := 6) hx hb hgt iwX9 hown hK hP 60 gX_60 rfl 4 (Nat.le_of_ble_eq_true rfl) (hgt _ wd_1_168) (fun _ h9 => h9) rfl dX0_doWrites_43 ?_
      refine lv_iload_n hx hb dX0_doWrites_46 rfl (lv_at hl 1 rfl) ?_
      refine va_iald hx hb hK hP 64 0 gX_64 rfl (ix_l h) dX0_doWrites_47 ?_
      have h := ix_r h
      obtain ⟨M1, r2, hq, h⟩ := cal_o h
      refine cx_v (va_runV (As := [.int (M.1 63 (v1 : Int32).toNatClampNeg), .int (M.1 64 (v1 : Int32).toNatClampNeg)]) (rest := []) ⟨hx, hb, hml, hown, hgt⟩ (z_Device_write l D cI cZ cC cJ cA P s0 hAO M (M.1 63 (v1 : Int32).toNatClampNeg) (M.1 64 (v1 : Int32).toNatClampNeg) M1 r2 hq) (cwV 2 hgt (gV wd_2_123 wd_2_124 wd_2_125 wd_0_9 wd_2_126) rfl rfl rfl (by decide +kernel) ⟨Nat.le_of_ble_eq_true rfl, Nat.le_of_ble_eq_true rfl⟩) (prV hP hK hD hO hAO hS (va_recv hK hP (ci := 3) (q0 := 50) rfl gX_50)) rfl rfl hl.1 rfl (lv_room (Nat.le_of_ble_eq_true rfl)) dX0_doWrites_48 ⟨Nat.le_of_ble_eq_true rfl, Nat.le_of_ble_eq_true rfl⟩) hS (fun H locs hP hD hS => ?_)
      refine lv_iinc (v := (v1 + 1)) hx hb dX0_doWrites_51 hl (k := 1) rfl rfl (Nat.le_of_ble_eq_true rfl) (lv' := [(1, .int (v1 + 1)), (0, .ref (P 0))]) rfl (fun ls hl => ?_)
      refine lv_goto hx hb dX0_doWrites_54 (tgt := 15) rfl ?_
      have hl := lv_sub hl [1, 0] (l' := [(0, .ref (P 0)), (1, .int (v1 + 1))]) rfl
      exact ih M1 (v1 + 1) H locs ls hl hP hD hS h
set_option maxHeartbeats 4000000 in
set_option maxRecDepth 20000 in
theorem b_ChipMap_doWrites_0 {p : Program} {l : Launch} {e : Env} {s s0 : State} {m : MethodId} {args : Array Value} {below : List Frame} {meth : Method} {c : Code} {D : va_G} {cI cZ cC cJ cA : ClassId} {P : Nat → Nat} {M' : Mm} {r' : Int32}  (hx : p.tables.exec = Jvm.exec) (hb : c.code = cX0_doWrites) (hml : c.maxLocals = 2) (hr : meth.sig.returnType = (some .int)) (hlk : meth.locks = false) (hgt : ∀ w ∈ GT, w.before args s = true) (hown : s.vm.findClass RX0 = some m.cls) (hK : va_K D vwCl [(cI, .int), (cZ, .boolean), (cC, .char), (cJ, .long), (cA, .array .int)] s) (hO : Old s0 s) (hAO : ∀ q, (aP P 77) q → s0.heap.size ≤ q)  : ∀ (M : Mm)  (H : Heap) (locs : List Loc) (ls : Array Slot), lv_has ls 2 [(0, .ref (P 0))] → va_P D vwCl ((wX cI cZ cC cJ cA P) M) H → va_D (aP P 77) ((wX cI cZ cC cJ cA P) M) → va_S (aP P 77) s.heap H locs → q_ChipMap_doWrites M = some (M', r') → W p l e ({ frames := 3, cells := 0, slots := 0, locals := 69 }) s m args below meth c H locs 0 0 (MQ below (gQi D (aP P 77) ((wX cI cZ cC cJ cA P) M') r') args s 0 0 (aP P 77)) (F0 m 0 ls []) := by
  intro M H locs ls hl hP hD hS h
  unfold q_ChipMap_doWrites at h
  refine lv_aload_n hx hb dX0_doWrites_0 rfl (lv_at hl 0 rfl) ?_
  refine va_get (D := D) (ci := 0) (v := .ref (P 60)) (C := RX0) (T := TX0) (N := 9) hx hb hgt iwX0 hown hK hP 0 gX_0 rfl 5 (Nat.le_of_ble_eq_true rfl) (hgt _ wd_2_22) (fun _ h9 => h9) rfl dX0_doWrites_1 ?_
  refine va_get (D := D) (ci := 9) (v := .int (M.1 60 5)) (C := RX9) (T := TX9) (N := 6) hx hb hgt iwX9 hown hK hP 60 gX_60 rfl 5 (Nat.le_of_ble_eq_true rfl) (hgt _ wd_1_171) (fun _ h9 => h9) rfl dX0_doWrites_4 ?_
  refine lv_if_eq hx hb dX0_doWrites_7 (tgt := 13) rfl (fun hc => ?_) (fun hc => ?_)
  · have h := br_T hc h
    refine lv_iconst (v := 0) hx hb dX0_doWrites_13 (by decide) ?_
    refine lv_istore_n hx hb dX0_doWrites_14 rfl hl (Nat.le_of_ble_eq_true rfl) (lv' := [(1, .int 0), (0, .ref (P 0))]) rfl (fun ls hl => ?_)
    have hl := lv_sub hl [1, 0] (l' := [(0, .ref (P 0)), (1, .int 0)]) rfl
    exact b_ChipMap_doWrites_15 hx hb hml hr hlk hgt hown hK hO hAO 4000 M 0 H _ ls hl hP hD hS h
  · have h := br_F hc h
    refine lv_bipush (v := (-2)) hx hb dX0_doWrites_10 (by decide) ?_
    exact rt_i (w := (wX cI cZ cC cJ cA P)) hx hb hr hlk hP hD hS h dX0_doWrites_12
set_option maxHeartbeats 4000000 in
set_option maxRecDepth 20000 in
theorem z_ChipMap_doWrites (l : Launch) (D : va_G) (cI cZ cC cJ cA : ClassId) (P : Nat → Nat) (s0 : State) (hAO : ∀ q, (aP P 77) q → s0.heap.size ≤ q) (M : Mm)  (M' : Mm) (r' : Int32) (h : q_ChipMap_doWrites M = some (M', r')) : Met l yX0_doWrites wsX0_doWrites ({ frames := 3, cells := 0, slots := 0, locals := 69 }) (va_Pc [.ref (P 0)] (gPre s0 D [(cI, .int), (cZ, .boolean), (cC, .char), (cJ, .long), (cA, .array .int)] (aP P 77) ((wX cI cZ cC cJ cA P) M))) (gQi D (aP P 77) ((wX cI cZ cC cJ cA P) M') r') 0 0 (aP P 77) := by
  refine Met.ofW (cc := cX0_doWrites) (maxL := 2) (ret := (some .int)) (by decide) rfl ?_
  intro p e s m args below meth c s₁ B hml hv
  obtain ⟨rfl, hP, hK, hD, hO⟩ := hv
  have hx := B.exec
  have hb := B.bytes
  have hr := B.returns
  have hlk := B.notSynchronized
  have hgt := fun w (h : w ∈ GT) => atoms_spec (ws := wsX0_doWrites) B.pre w (List.mem_cons_of_mem _ h)
  have hown : s.vm.findClass RX0 = some m.cls := findClass_of_methodNamed B.named
  have hS : va_S (aP P 77) s.heap s.heap [] := va_S.rf
  have hl := lv_entry ([.ref (P 0)]) (n := 2) (Nat.le_of_ble_eq_true rfl)
  rw [lg_entry_eq]
  generalize (lg_sl ([.ref (P 0)]) ++ List.replicate (2 - (lg_sl ([.ref (P 0)])).length) Slot.unset).toArray = ls at hl ⊢
  have hl : lv_has ls 2 [(0, .ref (P 0))] := hl
  exact b_ChipMap_doWrites_0 hx hb hml hr hlk hgt hown hK hO hAO M s.heap [] ls hl hP hD hS h
end
section
def q_ChipMap_put  (M : Mm) (a1 : Int32) (a2 : Int32) : Rs := cal (q_Layout_canPut M a1 a2) fun M1 r2 => if r2 = 0 then (some (M1, (-1))) else (if (M1.1 65 0) ≤ 0 then (cal (q_Plan_begin M1) fun M3 r4 => cal (q_Plan_addPut M3 a1 a2) fun M5 r6 => cal (q_ChipMap_doWrites M5) fun M7 r8 => some (M7, r8)) else (some (M1, (-1))))
set_option maxHeartbeats 4000000 in
set_option maxRecDepth 20000 in
theorem b_ChipMap_put_0 {p : Program} {l : Launch} {e : Env} {s s0 : State} {m : MethodId} {args : Array Value} {below : List Frame} {meth : Method} {c : Code} {D : va_G} {cI cZ cC cJ cA : ClassId} {P : Nat → Nat} {M' : Mm} {r' : Int32}  (hx : p.tables.exec = Jvm.exec) (hb : c.code = cX0_put) (hml : c.maxLocals = 3) (hr : meth.sig.returnType = (some .int)) (hlk : meth.locks = false) (hgt : ∀ w ∈ GT, w.before args s = true) (hown : s.vm.findClass RX0 = some m.cls) (hK : va_K D vwCl [(cI, .int), (cZ, .boolean), (cC, .char), (cJ, .long), (cA, .array .int)] s) (hO : Old s0 s) (hAO : ∀ q, (aP P 77) q → s0.heap.size ≤ q)  : ∀ (M : Mm) (a1 : Int32) (a2 : Int32) (H : Heap) (locs : List Loc) (ls : Array Slot), lv_has ls 3 [(0, .ref (P 0)), (1, .int a1), (2, .int a2)] → va_P D vwCl ((wX cI cZ cC cJ cA P) M) H → va_D (aP P 77) ((wX cI cZ cC cJ cA P) M) → va_S (aP P 77) s.heap H locs → q_ChipMap_put M a1 a2 = some (M', r') → W p l e ({ frames := 5, cells := 0, slots := 0, locals := 120 }) s m args below meth c H locs 0 0 (MQ below (gQi D (aP P 77) ((wX cI cZ cC cJ cA P) M') r') args s 0 0 (aP P 77)) (F0 m 0 ls []) := by
  intro M a1 a2 H locs ls hl hP hD hS h
  unfold q_ChipMap_put at h
  refine lv_aload_n hx hb dX0_put_0 rfl (lv_at hl 0 rfl) ?_
  refine va_get (D := D) (ci := 0) (v := .ref (P 24)) (C := RX0) (T := TX0) (N := 9) hx hb hgt iwX0 hown hK hP 0 gX_0 rfl 3 (Nat.le_of_ble_eq_true rfl) (hgt _ wd_2_20) (fun _ h9 => h9) rfl dX0_put_1 ?_
  refine lv_iload_n hx hb dX0_put_4 rfl (lv_at hl 1 rfl) ?_
  refine lv_iload_n hx hb dX0_put_5 rfl (lv_at hl 2 rfl) ?_
  obtain ⟨M1, r2, hq, h⟩ := cal_o h
  refine cx_i (va_runV (As := [.int a1, .int a2]) (rest := []) ⟨hx, hb, hml, hown, hgt⟩ (z_Layout_canPut l D cI cZ cC cJ cA P s0 hAO M a1 a2 M1 r2 hq) (cwV 2 hgt (gV wd_2_178 wd_2_179 wd_2_180 wd_0_6 wd_2_181) rfl rfl rfl (by decide +kernel) ⟨Nat.le_of_ble_eq_true rfl, Nat.le_of_ble_eq_true rfl⟩) (prV hP hK hD hO hAO hS (va_recv hK hP (ci := 6) (q0 := 24) rfl gX_24)) rfl rfl hl.1 rfl (lv_room (Nat.le_of_ble_eq_true rfl)) dX0_put_6 ⟨Nat.le_of_ble_eq_true rfl, Nat.le_of_ble_eq_true rfl⟩) hS (fun H locs hP hD hS => ?_)
  refine lv_if_eq hx hb dX0_put_9 (tgt := 22) rfl (fun hc => ?_) (fun hc => ?_)
  · have h := br_T hc h
    refine lv_iconst (v := (-1)) hx hb dX0_put_22 (by decide) ?_
    exact rt_i (w := (wX cI cZ cC cJ cA P)) hx hb hr hlk hP hD hS h dX0_put_23
  · have h := br_F hc h
    refine lv_aload_n hx hb dX0_put_12 rfl (lv_at hl 0 rfl) ?_
    refine va_get (D := D) (ci := 0) (v := .ref (P 65)) (C := RX0) (T := TX0) (N := 9) hx hb hgt iwX0 hown hK hP 0 gX_0 rfl 6 (Nat.le_of_ble_eq_true rfl) (hgt _ wd_2_23) (fun _ h9 => h9) rfl dX0_put_13 ?_
    refine va_get (D := D) (ci := 12) (v := .int (M1.1 65 0)) (C := RX12) (T := TX12) (N := 4) hx hb hgt iwX12 hown hK hP 65 gX_65 rfl 0 (Nat.le_of_ble_eq_true rfl) (hgt _ wd_1_193) (fun _ h9 => h9) rfl dX0_put_16 ?_
    refine lv_if_le hx hb dX0_put_19 (tgt := 24) rfl (fun hc => ?_) (fun hc => ?_)
    · have h := br_T hc h
      refine lv_aload_n hx hb dX0_put_24 rfl (lv_at hl 0 rfl) ?_
      refine va_get (D := D) (ci := 0) (v := .ref (P 60)) (C := RX0) (T := TX0) (N := 9) hx hb hgt iwX0 hown hK hP 0 gX_0 rfl 5 (Nat.le_of_ble_eq_true rfl) (hgt _ wd_2_22) (fun _ h9 => h9) rfl dX0_put_25 ?_
      refine lv_aload_n hx hb dX0_put_28 rfl (lv_at hl 0 rfl) ?_
      refine va_get (D := D) (ci := 0) (v := .ref (P 50)) (C := RX0) (T := TX0) (N := 9) hx hb hgt iwX0 hown hK hP 0 gX_0 rfl 4 (Nat.le_of_ble_eq_true rfl) (hgt _ wd_2_21) (fun _ h9 => h9) rfl dX0_put_29 ?_
      refine va_get (D := D) (ci := 3) (v := .ref (P 51)) (C := RX3) (T := TX3) (N := 7) hx hb hgt iwX3 hown hK hP 50 gX_50 rfl 1 (Nat.le_of_ble_eq_true rfl) (hgt _ wd_1_128) (fun _ h9 => h9) rfl dX0_put_32 ?_
      obtain ⟨M3, r4, hq, h⟩ := cal_o h
      refine cx_v (va_runV (As := [.ref (P 51)]) (rest := []) ⟨hx, hb, hml, hown, hgt⟩ (z_Plan_begin l D cI cZ cC cJ cA P s0 hAO M1 M3 r4 hq) (cwV 1 hgt (gV wd_2_184 wd_2_185 wd_2_186 wd_0_12 wd_2_187) rfl rfl rfl (by decide +kernel) ⟨Nat.le_of_ble_eq_true rfl, Nat.le_of_ble_eq_true rfl⟩) (prV hP hK hD hO hAO hS (va_recv hK hP (ci := 9) (q0 := 60) rfl gX_60)) rfl rfl hl.1 rfl (lv_room (Nat.le_of_ble_eq_true rfl)) dX0_put_35 ⟨Nat.le_of_ble_eq_true rfl, Nat.le_of_ble_eq_true rfl⟩) hS (fun H locs hP hD hS => ?_)
      refine lv_aload_n hx hb dX0_put_38 rfl (lv_at hl 0 rfl) ?_
      refine va_get (D := D) (ci := 0) (v := .ref (P 60)) (C := RX0) (T := TX0) (N := 9) hx hb hgt iwX0 hown hK hP 0 gX_0 rfl 5 (Nat.le_of_ble_eq_true rfl) (hgt _ wd_2_22) (fun _ h9 => h9) rfl dX0_put_39 ?_
      refine lv_iload_n hx hb dX0_put_42 rfl (lv_at hl 1 rfl) ?_
      refine lv_iload_n hx hb dX0_put_43 rfl (lv_at hl 2 rfl) ?_
      obtain ⟨M5, r6, hq, h⟩ := cal_o h
      refine cx_v (va_runV (As := [.int a1, .int a2]) (rest := []) ⟨hx, hb, hml, hown, hgt⟩ (z_Plan_addPut l D cI cZ cC cJ cA P s0 hAO M3 a1 a2 M5 r6 hq) (cwV 2 hgt (gV wd_2_199 wd_2_200 wd_2_201 wd_0_12 wd_2_202) rfl rfl rfl (by decide +kernel) ⟨Nat.le_of_ble_eq_true rfl, Nat.le_of_ble_eq_true rfl⟩) (prV hP hK hD hO hAO hS (va_recv hK hP (ci := 9) (q0 := 60) rfl gX_60)) rfl rfl hl.1 rfl (lv_room (Nat.le_of_ble_eq_true rfl)) dX0_put_44 ⟨Nat.le_of_ble_eq_true rfl, Nat.le_of_ble_eq_true rfl⟩) hS (fun H locs hP hD hS => ?_)
      refine lv_aload_n hx hb dX0_put_47 rfl (lv_at hl 0 rfl) ?_
      obtain ⟨M7, r8, hq, h⟩ := cal_o h
      refine cx_i (va_runV (As := []) (rest := []) ⟨hx, hb, hml, hown, hgt⟩ (z_ChipMap_doWrites l D cI cZ cC cJ cA P s0 hAO M5 M7 r8 hq) (cwV 0 hgt (gV wd_2_220 wd_2_222 sl__ChipMap____ChipMap___doWrites_____I_____ChipMap___doWrites_____I__ wd_0_1 wd_2_223) rfl rfl rfl (by decide +kernel) ⟨Nat.le_of_ble_eq_true rfl, Nat.le_of_ble_eq_true rfl⟩) (prV hP hK hD hO hAO hS (va_recv hK hP (ci := 0) (q0 := 0) rfl gX_0)) rfl rfl hl.1 rfl (lv_room (Nat.le_of_ble_eq_true rfl)) dX0_put_48 ⟨Nat.le_of_ble_eq_true rfl, Nat.le_of_ble_eq_true rfl⟩) hS (fun H locs hP hD hS => ?_)
      exact rt_i (w := (wX cI cZ cC cJ cA P)) hx hb hr hlk hP hD hS h dX0_put_51
    · have h := br_F hc h
      refine lv_iconst (v := (-1)) hx hb dX0_put_22 (by decide) ?_
      exact rt_i (w := (wX cI cZ cC cJ cA P)) hx hb hr hlk hP hD hS h dX0_put_23
set_option maxHeartbeats 4000000 in
set_option maxRecDepth 20000 in
theorem z_ChipMap_put (l : Launch) (D : va_G) (cI cZ cC cJ cA : ClassId) (P : Nat → Nat) (s0 : State) (hAO : ∀ q, (aP P 77) q → s0.heap.size ≤ q) (M : Mm) (a1 : Int32) (a2 : Int32) (M' : Mm) (r' : Int32) (h : q_ChipMap_put M a1 a2 = some (M', r')) : Met l yX0_put wsX0_put ({ frames := 5, cells := 0, slots := 0, locals := 120 }) (va_Pc [.ref (P 0), .int a1, .int a2] (gPre s0 D [(cI, .int), (cZ, .boolean), (cC, .char), (cJ, .long), (cA, .array .int)] (aP P 77) ((wX cI cZ cC cJ cA P) M))) (gQi D (aP P 77) ((wX cI cZ cC cJ cA P) M') r') 0 0 (aP P 77) := by
  refine Met.ofW (cc := cX0_put) (maxL := 3) (ret := (some .int)) (by decide) rfl ?_
  intro p e s m args below meth c s₁ B hml hv
  obtain ⟨rfl, hP, hK, hD, hO⟩ := hv
  have hx := B.exec
  have hb := B.bytes
  have hr := B.returns
  have hlk := B.notSynchronized
  have hgt := fun w (h : w ∈ GT) => atoms_spec (ws := wsX0_put) B.pre w (List.mem_cons_of_mem _ h)
  have hown : s.vm.findClass RX0 = some m.cls := findClass_of_methodNamed B.named
  have hS : va_S (aP P 77) s.heap s.heap [] := va_S.rf
  have hl := lv_entry ([.ref (P 0), .int a1, .int a2]) (n := 3) (Nat.le_of_ble_eq_true rfl)
  rw [lg_entry_eq]
  generalize (lg_sl ([.ref (P 0), .int a1, .int a2]) ++ List.replicate (3 - (lg_sl ([.ref (P 0), .int a1, .int a2])).length) Slot.unset).toArray = ls at hl ⊢
  have hl : lv_has ls 3 [(0, .ref (P 0)), (1, .int a1), (2, .int a2)] := hl
  exact b_ChipMap_put_0 hx hb hml hr hlk hgt hown hK hO hAO M a1 a2 s.heap [] ls hl hP hD hS h
def q_Layout_canFetch  (M : Mm) (a1 : Int32) : Rs := cal (q_Layout_has M a1) fun M1 r2 => if r2 = 0 then (some (M1, 0)) else (ix a1 26 <| if (M1.1 39 (a1 : Int32).toNatClampNeg) = 2 then (some (M1, 0)) else (some (M1, 1)))
set_option maxHeartbeats 4000000 in
set_option maxRecDepth 20000 in
theorem b_Layout_canFetch_0 {p : Program} {l : Launch} {e : Env} {s s0 : State} {m : MethodId} {args : Array Value} {below : List Frame} {meth : Method} {c : Code} {D : va_G} {cI cZ cC cJ cA : ClassId} {P : Nat → Nat} {M' : Mm} {r' : Int32}  (hx : p.tables.exec = Jvm.exec) (hb : c.code = cX6_canFetch) (hml : c.maxLocals = 2) (hr : meth.sig.returnType = (some .boolean)) (hlk : meth.locks = false) (hgt : ∀ w ∈ GT, w.before args s = true) (hown : s.vm.findClass RX6 = some m.cls) (hK : va_K D vwCl [(cI, .int), (cZ, .boolean), (cC, .char), (cJ, .long), (cA, .array .int)] s) (hO : Old s0 s) (hAO : ∀ q, (aP P 77) q → s0.heap.size ≤ q)  : ∀ (M : Mm) (a1 : Int32) (H : Heap) (locs : List Loc) (ls : Array Slot), lv_has ls 2 [(0, .ref (P 24)), (1, .int a1)] → va_P D vwCl ((wX cI cZ cC cJ cA P) M) H → va_D (aP P 77) ((wX cI cZ cC cJ cA P) M) → va_S (aP P 77) s.heap H locs → q_Layout_canFetch M a1 = some (M', r') → W p l e ({ frames := 1, cells := 0, slots := 0, locals := 21 }) s m args below meth c H locs 0 0 (MQ below (gQi D (aP P 77) ((wX cI cZ cC cJ cA P) M') r') args s 0 0 (aP P 77)) (F0 m 0 ls []) := by
  intro M a1 H locs ls hl hP hD hS h
  unfold q_Layout_canFetch at h
  refine lv_aload_n hx hb dX6_canFetch_0 rfl (lv_at hl 0 rfl) ?_
  refine lv_iload_n hx hb dX6_canFetch_1 rfl (lv_at hl 1 rfl) ?_
  obtain ⟨M1, r2, hq, h⟩ := cal_o h
  refine cx_i (va_runV (As := [.int a1]) (rest := []) ⟨hx, hb, hml, hown, hgt⟩ (z_Layout_has l D cI cZ cC cJ cA P s0 hAO M a1 M1 r2 hq) (cwV 1 hgt (gV wd_2_182 wd_2_65 wd_2_66 wd_0_6 wd_2_67) rfl rfl rfl (by decide +kernel) ⟨Nat.le_of_ble_eq_true rfl, Nat.le_of_ble_eq_true rfl⟩) (prV hP hK hD hO hAO hS (va_recv hK hP (ci := 6) (q0 := 24) rfl gX_24)) rfl rfl hl.1 rfl (lv_room (Nat.le_of_ble_eq_true rfl)) dX6_canFetch_2 ⟨Nat.le_of_ble_eq_true rfl, Nat.le_of_ble_eq_true rfl⟩) hS (fun H locs hP hD hS => ?_)
  refine lv_if_eq hx hb dX6_canFetch_5 (tgt := 22) rfl (fun hc => ?_) (fun hc => ?_)
  · have h := br_T hc h
    refine lv_iconst (v := 0) hx hb dX6_canFetch_22 (by decide) ?_
    exact rt_z (w := (wX cI cZ cC cJ cA P)) hx hb hr hlk rfl hP hD hS h dX6_canFetch_23
  · have h := br_F hc h
    refine lv_aload_n hx hb dX6_canFetch_8 rfl (lv_at hl 0 rfl) ?_
    refine va_get (D := D) (ci := 6) (v := .ref (P 39)) (C := RX6) (T := TX6) (N := 13) hx hb hgt iwX6 hown hK hP 24 gX_24 rfl 8 (Nat.le_of_ble_eq_true rfl) (hgt _ wd_1_30) (fun _ h9 => h9) rfl dX6_canFetch_9 ?_
    refine lv_iload_n hx hb dX6_canFetch_12 rfl (lv_at hl 1 rfl) ?_
    refine va_iald hx hb hK hP 39 0 gX_39 rfl (ix_l h) dX6_canFetch_13 ?_
    have h := ix_r h
    refine lv_iconst (v := 2) hx hb dX6_canFetch_14 (by decide) ?_
    refine lv_icmp_eq hx hb dX6_canFetch_15 (tgt := 22) rfl (fun hc => ?_) (fun hc => ?_)
    · have h := br_T hc h
      refine lv_iconst (v := 0) hx hb dX6_canFetch_22 (by decide) ?_
      exact rt_z (w := (wX cI cZ cC cJ cA P)) hx hb hr hlk rfl hP hD hS h dX6_canFetch_23
    · have h := br_F hc h
      refine lv_iconst (v := 1) hx hb dX6_canFetch_18 (by decide) ?_
      refine lv_goto hx hb dX6_canFetch_19 (tgt := 23) rfl ?_
      exact rt_z (w := (wX cI cZ cC cJ cA P)) hx hb hr hlk rfl hP hD hS h dX6_canFetch_23
set_option maxHeartbeats 4000000 in
set_option maxRecDepth 20000 in
theorem z_Layout_canFetch (l : Launch) (D : va_G) (cI cZ cC cJ cA : ClassId) (P : Nat → Nat) (s0 : State) (hAO : ∀ q, (aP P 77) q → s0.heap.size ≤ q) (M : Mm) (a1 : Int32) (M' : Mm) (r' : Int32) (h : q_Layout_canFetch M a1 = some (M', r')) : Met l yX6_canFetch wsX6_canFetch ({ frames := 1, cells := 0, slots := 0, locals := 21 }) (va_Pc [.ref (P 24), .int a1] (gPre s0 D [(cI, .int), (cZ, .boolean), (cC, .char), (cJ, .long), (cA, .array .int)] (aP P 77) ((wX cI cZ cC cJ cA P) M))) (gQi D (aP P 77) ((wX cI cZ cC cJ cA P) M') r') 0 0 (aP P 77) := by
  refine Met.ofW (cc := cX6_canFetch) (maxL := 2) (ret := (some .boolean)) (by decide) rfl ?_
  intro p e s m args below meth c s₁ B hml hv
  obtain ⟨rfl, hP, hK, hD, hO⟩ := hv
  have hx := B.exec
  have hb := B.bytes
  have hr := B.returns
  have hlk := B.notSynchronized
  have hgt := fun w (h : w ∈ GT) => atoms_spec (ws := wsX6_canFetch) B.pre w (List.mem_cons_of_mem _ h)
  have hown : s.vm.findClass RX6 = some m.cls := findClass_of_methodNamed B.named
  have hS : va_S (aP P 77) s.heap s.heap [] := va_S.rf
  have hl := lv_entry ([.ref (P 24), .int a1]) (n := 2) (Nat.le_of_ble_eq_true rfl)
  rw [lg_entry_eq]
  generalize (lg_sl ([.ref (P 24), .int a1]) ++ List.replicate (2 - (lg_sl ([.ref (P 24), .int a1])).length) Slot.unset).toArray = ls at hl ⊢
  have hl : lv_has ls 2 [(0, .ref (P 24)), (1, .int a1)] := hl
  exact b_Layout_canFetch_0 hx hb hml hr hlk hgt hown hK hO hAO M a1 s.heap [] ls hl hP hD hS h
def q_Plan_addFetch  (M : Mm) (a1 : Int32) : Rs := ix a1 26 <| if (M.1 39 (a1 : Int32).toNatClampNeg) = 0 then (some (M, 0)) else (ix a1 26 <| cal (q_Plan_addReach M (M.1 38 (a1 : Int32).toNatClampNeg)) fun M1 r2 => some (M1, 0))
set_option maxHeartbeats 4000000 in
set_option maxRecDepth 20000 in
theorem b_Plan_addFetch_0 {p : Program} {l : Launch} {e : Env} {s s0 : State} {m : MethodId} {args : Array Value} {below : List Frame} {meth : Method} {c : Code} {D : va_G} {cI cZ cC cJ cA : ClassId} {P : Nat → Nat} {M' : Mm} {r' : Int32}  (hx : p.tables.exec = Jvm.exec) (hb : c.code = cX9_addFetch) (hml : c.maxLocals = 2) (hr : meth.sig.returnType = none) (hlk : meth.locks = false) (hgt : ∀ w ∈ GT, w.before args s = true) (hown : s.vm.findClass RX9 = some m.cls) (hK : va_K D vwCl [(cI, .int), (cZ, .boolean), (cC, .char), (cJ, .long), (cA, .array .int)] s) (hO : Old s0 s) (hAO : ∀ q, (aP P 77) q → s0.heap.size ≤ q)  : ∀ (M : Mm) (a1 : Int32) (H : Heap) (locs : List Loc) (ls : Array Slot), lv_has ls 2 [(0, .ref (P 60)), (1, .int a1)] → va_P D vwCl ((wX cI cZ cC cJ cA P) M) H → va_D (aP P 77) ((wX cI cZ cC cJ cA P) M) → va_S (aP P 77) s.heap H locs → q_Plan_addFetch M a1 = some (M', r') → W p l e ({ frames := 4, cells := 0, slots := 0, locals := 97 }) s m args below meth c H locs 0 0 (MQ below (gQv D (aP P 77) ((wX cI cZ cC cJ cA P) M')) args s 0 0 (aP P 77)) (F0 m 0 ls []) := by
  intro M a1 H locs ls hl hP hD hS h
  unfold q_Plan_addFetch at h
  refine lv_aload_n hx hb dX9_addFetch_0 rfl (lv_at hl 0 rfl) ?_
  refine va_get (D := D) (ci := 9) (v := .ref (P 24)) (C := RX9) (T := TX9) (N := 6) hx hb hgt iwX9 hown hK hP 60 gX_60 rfl 0 (Nat.le_of_ble_eq_true rfl) (hgt _ wd_1_160) (fun _ h9 => h9) rfl dX9_addFetch_1 ?_
  refine va_get (D := D) (ci := 6) (v := .ref (P 39)) (C := RX6) (T := TX6) (N := 13) hx hb hgt iwX6 hown hK hP 24 gX_24 rfl 8 (Nat.le_of_ble_eq_true rfl) (hgt _ wd_1_31) (fun _ h9 => h9) rfl dX9_addFetch_4 ?_
  refine lv_iload_n hx hb dX9_addFetch_7 rfl (lv_at hl 1 rfl) ?_
  refine va_iald hx hb hK hP 39 0 gX_39 rfl (ix_l h) dX9_addFetch_8 ?_
  have h := ix_r h
  refine lv_if_eq hx hb dX9_addFetch_9 (tgt := 25) rfl (fun hc => ?_) (fun hc => ?_)
  · have h := br_T hc h
    exact rt_v (w := (wX cI cZ cC cJ cA P)) (r := r') hx hb hr hlk hP hD hS h dX9_addFetch_25
  · have h := br_F hc h
    refine lv_aload_n hx hb dX9_addFetch_12 rfl (lv_at hl 0 rfl) ?_
    refine lv_aload_n hx hb dX9_addFetch_13 rfl (lv_at hl 0 rfl) ?_
    refine va_get (D := D) (ci := 9) (v := .ref (P 24)) (C := RX9) (T := TX9) (N := 6) hx hb hgt iwX9 hown hK hP 60 gX_60 rfl 0 (Nat.le_of_ble_eq_true rfl) (hgt _ wd_1_160) (fun _ h9 => h9) rfl dX9_addFetch_14 ?_
    refine va_get (D := D) (ci := 6) (v := .ref (P 38)) (C := RX6) (T := TX6) (N := 13) hx hb hgt iwX6 hown hK hP 24 gX_24 rfl 7 (Nat.le_of_ble_eq_true rfl) (hgt _ wd_1_27) (fun _ h9 => h9) rfl dX9_addFetch_17 ?_
    refine lv_iload_n hx hb dX9_addFetch_20 rfl (lv_at hl 1 rfl) ?_
    refine va_iald hx hb hK hP 38 0 gX_38 rfl (ix_l h) dX9_addFetch_21 ?_
    have h := ix_r h
    obtain ⟨M1, r2, hq, h⟩ := cal_o h
    refine cx_v (va_runV (As := [.int (M.1 38 (a1 : Int32).toNatClampNeg)]) (rest := []) ⟨hx, hb, hml, hown, hgt⟩ (z_Plan_addReach l D cI cZ cC cJ cA P s0 hAO M (M.1 38 (a1 : Int32).toNatClampNeg) M1 r2 hq) (cwV 1 hgt (gV wd_2_208 wd_2_210 sl__ChipMap_Plan____ChipMap_Plan___addReach____I_V_____ChipMap_Plan___addReach____I_V__ wd_0_12 wd_2_211) rfl rfl rfl (by decide +kernel) ⟨Nat.le_of_ble_eq_true rfl, Nat.le_of_ble_eq_true rfl⟩) (prV hP hK hD hO hAO hS (va_recv hK hP (ci := 9) (q0 := 60) rfl gX_60)) rfl rfl hl.1 rfl (lv_room (Nat.le_of_ble_eq_true rfl)) dX9_addFetch_22 ⟨Nat.le_of_ble_eq_true rfl, Nat.le_of_ble_eq_true rfl⟩) hS (fun H locs hP hD hS => ?_)
    exact rt_v (w := (wX cI cZ cC cJ cA P)) (r := r') hx hb hr hlk hP hD hS h dX9_addFetch_25
set_option maxHeartbeats 4000000 in
set_option maxRecDepth 20000 in
theorem z_Plan_addFetch (l : Launch) (D : va_G) (cI cZ cC cJ cA : ClassId) (P : Nat → Nat) (s0 : State) (hAO : ∀ q, (aP P 77) q → s0.heap.size ≤ q) (M : Mm) (a1 : Int32) (M' : Mm) (r' : Int32) (h : q_Plan_addFetch M a1 = some (M', r')) : Met l yX9_addFetch wsX9_addFetch ({ frames := 4, cells := 0, slots := 0, locals := 97 }) (va_Pc [.ref (P 60), .int a1] (gPre s0 D [(cI, .int), (cZ, .boolean), (cC, .char), (cJ, .long), (cA, .array .int)] (aP P 77) ((wX cI cZ cC cJ cA P) M))) (gQv D (aP P 77) ((wX cI cZ cC cJ cA P) M')) 0 0 (aP P 77) := by
  refine Met.ofW (cc := cX9_addFetch) (maxL := 2) (ret := none) (by decide) rfl ?_
  intro p e s m args below meth c s₁ B hml hv
  obtain ⟨rfl, hP, hK, hD, hO⟩ := hv
  have hx := B.exec
  have hb := B.bytes
  have hr := B.returns
  have hlk := B.notSynchronized
  have hgt := fun w (h : w ∈ GT) => atoms_spec (ws := wsX9_addFetch) B.pre w (List.mem_cons_of_mem _ h)
  have hown : s.vm.findClass RX9 = some m.cls := findClass_of_methodNamed B.named
  have hS : va_S (aP P 77) s.heap s.heap [] := va_S.rf
  have hl := lv_entry ([.ref (P 60), .int a1]) (n := 2) (Nat.le_of_ble_eq_true rfl)
  rw [lg_entry_eq]
  generalize (lg_sl ([.ref (P 60), .int a1]) ++ List.replicate (2 - (lg_sl ([.ref (P 60), .int a1])).length) Slot.unset).toArray = ls at hl ⊢
  have hl : lv_has ls 2 [(0, .ref (P 60)), (1, .int a1)] := hl
  exact b_Plan_addFetch_0 hx hb hml hr hlk hgt hown hK hO hAO M a1 s.heap [] ls hl hP hD hS h
def q_ChipMap_reachForFetch  (M : Mm) (a1 : Int32) : Rs := cal (q_Plan_begin M) fun M1 r2 => cal (q_Plan_addFetch M1 a1) fun M3 r4 => cal (q_ChipMap_doWrites M3) fun M5 r6 => if r6 = (-2) then (some (M5, 0)) else (some (M5, 1))
set_option maxHeartbeats 4000000 in
set_option maxRecDepth 20000 in
theorem b_ChipMap_reachForFetch_0 {p : Program} {l : Launch} {e : Env} {s s0 : State} {m : MethodId} {args : Array Value} {below : List Frame} {meth : Method} {c : Code} {D : va_G} {cI cZ cC cJ cA : ClassId} {P : Nat → Nat} {M' : Mm} {r' : Int32}  (hx : p.tables.exec = Jvm.exec) (hb : c.code = cX0_reachForFetch) (hml : c.maxLocals = 2) (hr : meth.sig.returnType = (some .boolean)) (hlk : meth.locks = false) (hgt : ∀ w ∈ GT, w.before args s = true) (hown : s.vm.findClass RX0 = some m.cls) (hK : va_K D vwCl [(cI, .int), (cZ, .boolean), (cC, .char), (cJ, .long), (cA, .array .int)] s) (hO : Old s0 s) (hAO : ∀ q, (aP P 77) q → s0.heap.size ≤ q)  : ∀ (M : Mm) (a1 : Int32) (H : Heap) (locs : List Loc) (ls : Array Slot), lv_has ls 2 [(0, .ref (P 0)), (1, .int a1)] → va_P D vwCl ((wX cI cZ cC cJ cA P) M) H → va_D (aP P 77) ((wX cI cZ cC cJ cA P) M) → va_S (aP P 77) s.heap H locs → q_ChipMap_reachForFetch M a1 = some (M', r') → W p l e ({ frames := 5, cells := 0, slots := 0, locals := 118 }) s m args below meth c H locs 0 0 (MQ below (gQi D (aP P 77) ((wX cI cZ cC cJ cA P) M') r') args s 0 0 (aP P 77)) (F0 m 0 ls []) := by
  intro M a1 H locs ls hl hP hD hS h
  unfold q_ChipMap_reachForFetch at h
  refine lv_aload_n hx hb dX0_reachForFetch_0 rfl (lv_at hl 0 rfl) ?_
  refine va_get (D := D) (ci := 0) (v := .ref (P 60)) (C := RX0) (T := TX0) (N := 9) hx hb hgt iwX0 hown hK hP 0 gX_0 rfl 5 (Nat.le_of_ble_eq_true rfl) (hgt _ wd_2_22) (fun _ h9 => h9) rfl dX0_reachForFetch_1 ?_
  refine lv_aload_n hx hb dX0_reachForFetch_4 rfl (lv_at hl 0 rfl) ?_
  refine va_get (D := D) (ci := 0) (v := .ref (P 50)) (C := RX0) (T := TX0) (N := 9) hx hb hgt iwX0 hown hK hP 0 gX_0 rfl 4 (Nat.le_of_ble_eq_true rfl) (hgt _ wd_2_21) (fun _ h9 => h9) rfl dX0_reachForFetch_5 ?_
  refine va_get (D := D) (ci := 3) (v := .ref (P 51)) (C := RX3) (T := TX3) (N := 7) hx hb hgt iwX3 hown hK hP 50 gX_50 rfl 1 (Nat.le_of_ble_eq_true rfl) (hgt _ wd_1_128) (fun _ h9 => h9) rfl dX0_reachForFetch_8 ?_
  obtain ⟨M1, r2, hq, h⟩ := cal_o h
  refine cx_v (va_runV (As := [.ref (P 51)]) (rest := []) ⟨hx, hb, hml, hown, hgt⟩ (z_Plan_begin l D cI cZ cC cJ cA P s0 hAO M M1 r2 hq) (cwV 1 hgt (gV wd_2_184 wd_2_185 wd_2_186 wd_0_12 wd_2_187) rfl rfl rfl (by decide +kernel) ⟨Nat.le_of_ble_eq_true rfl, Nat.le_of_ble_eq_true rfl⟩) (prV hP hK hD hO hAO hS (va_recv hK hP (ci := 9) (q0 := 60) rfl gX_60)) rfl rfl hl.1 rfl (lv_room (Nat.le_of_ble_eq_true rfl)) dX0_reachForFetch_11 ⟨Nat.le_of_ble_eq_true rfl, Nat.le_of_ble_eq_true rfl⟩) hS (fun H locs hP hD hS => ?_)
  refine lv_aload_n hx hb dX0_reachForFetch_14 rfl (lv_at hl 0 rfl) ?_
  refine va_get (D := D) (ci := 0) (v := .ref (P 60)) (C := RX0) (T := TX0) (N := 9) hx hb hgt iwX0 hown hK hP 0 gX_0 rfl 5 (Nat.le_of_ble_eq_true rfl) (hgt _ wd_2_22) (fun _ h9 => h9) rfl dX0_reachForFetch_15 ?_
  refine lv_iload_n hx hb dX0_reachForFetch_18 rfl (lv_at hl 1 rfl) ?_
  obtain ⟨M3, r4, hq, h⟩ := cal_o h
  refine cx_v (va_runV (As := [.int a1]) (rest := []) ⟨hx, hb, hml, hown, hgt⟩ (z_Plan_addFetch l D cI cZ cC cJ cA P s0 hAO M1 a1 M3 r4 hq) (cwV 1 hgt (gV wd_3_117 wd_3_94 wd_3_95 wd_0_12 wd_3_96) rfl rfl rfl (by decide +kernel) ⟨Nat.le_of_ble_eq_true rfl, Nat.le_of_ble_eq_true rfl⟩) (prV hP hK hD hO hAO hS (va_recv hK hP (ci := 9) (q0 := 60) rfl gX_60)) rfl rfl hl.1 rfl (lv_room (Nat.le_of_ble_eq_true rfl)) dX0_reachForFetch_19 ⟨Nat.le_of_ble_eq_true rfl, Nat.le_of_ble_eq_true rfl⟩) hS (fun H locs hP hD hS => ?_)
  refine lv_aload_n hx hb dX0_reachForFetch_22 rfl (lv_at hl 0 rfl) ?_
  obtain ⟨M5, r6, hq, h⟩ := cal_o h
  refine cx_i (va_runV (As := []) (rest := []) ⟨hx, hb, hml, hown, hgt⟩ (z_ChipMap_doWrites l D cI cZ cC cJ cA P s0 hAO M3 M5 r6 hq) (cwV 0 hgt (gV wd_2_220 wd_2_222 sl__ChipMap____ChipMap___doWrites_____I_____ChipMap___doWrites_____I__ wd_0_1 wd_2_223) rfl rfl rfl (by decide +kernel) ⟨Nat.le_of_ble_eq_true rfl, Nat.le_of_ble_eq_true rfl⟩) (prV hP hK hD hO hAO hS (va_recv hK hP (ci := 0) (q0 := 0) rfl gX_0)) rfl rfl hl.1 rfl (lv_room (Nat.le_of_ble_eq_true rfl)) dX0_reachForFetch_23 ⟨Nat.le_of_ble_eq_true rfl, Nat.le_of_ble_eq_true rfl⟩) hS (fun H locs hP hD hS => ?_)
  refine lv_bipush (v := (-2)) hx hb dX0_reachForFetch_26 (by decide) ?_
  refine lv_icmp_eq hx hb dX0_reachForFetch_28 (tgt := 35) rfl (fun hc => ?_) (fun hc => ?_)
  · have h := br_T hc h
    refine lv_iconst (v := 0) hx hb dX0_reachForFetch_35 (by decide) ?_
    exact rt_z (w := (wX cI cZ cC cJ cA P)) hx hb hr hlk rfl hP hD hS h dX0_reachForFetch_36
  · have h := br_F hc h
    refine lv_iconst (v := 1) hx hb dX0_reachForFetch_31 (by decide) ?_
    refine lv_goto hx hb dX0_reachForFetch_32 (tgt := 36) rfl ?_
    exact rt_z (w := (wX cI cZ cC cJ cA P)) hx hb hr hlk rfl hP hD hS h dX0_reachForFetch_36
set_option maxHeartbeats 4000000 in
set_option maxRecDepth 20000 in
theorem z_ChipMap_reachForFetch (l : Launch) (D : va_G) (cI cZ cC cJ cA : ClassId) (P : Nat → Nat) (s0 : State) (hAO : ∀ q, (aP P 77) q → s0.heap.size ≤ q) (M : Mm) (a1 : Int32) (M' : Mm) (r' : Int32) (h : q_ChipMap_reachForFetch M a1 = some (M', r')) : Met l yX0_reachForFetch wsX0_reachForFetch ({ frames := 5, cells := 0, slots := 0, locals := 118 }) (va_Pc [.ref (P 0), .int a1] (gPre s0 D [(cI, .int), (cZ, .boolean), (cC, .char), (cJ, .long), (cA, .array .int)] (aP P 77) ((wX cI cZ cC cJ cA P) M))) (gQi D (aP P 77) ((wX cI cZ cC cJ cA P) M') r') 0 0 (aP P 77) := by
  refine Met.ofW (cc := cX0_reachForFetch) (maxL := 2) (ret := (some .boolean)) (by decide) rfl ?_
  intro p e s m args below meth c s₁ B hml hv
  obtain ⟨rfl, hP, hK, hD, hO⟩ := hv
  have hx := B.exec
  have hb := B.bytes
  have hr := B.returns
  have hlk := B.notSynchronized
  have hgt := fun w (h : w ∈ GT) => atoms_spec (ws := wsX0_reachForFetch) B.pre w (List.mem_cons_of_mem _ h)
  have hown : s.vm.findClass RX0 = some m.cls := findClass_of_methodNamed B.named
  have hS : va_S (aP P 77) s.heap s.heap [] := va_S.rf
  have hl := lv_entry ([.ref (P 0), .int a1]) (n := 2) (Nat.le_of_ble_eq_true rfl)
  rw [lg_entry_eq]
  generalize (lg_sl ([.ref (P 0), .int a1]) ++ List.replicate (2 - (lg_sl ([.ref (P 0), .int a1])).length) Slot.unset).toArray = ls at hl ⊢
  have hl : lv_has ls 2 [(0, .ref (P 0)), (1, .int a1)] := hl
  exact b_ChipMap_reachForFetch_0 hx hb hml hr hlk hgt hown hK hO hAO M a1 s.heap [] ls hl hP hD hS h
def q_Device_takeKept  (M : Mm) (a1 : Int32) : Rs := ix a1 26 <| lt' (M.1 38 (a1 : Int32).toNatClampNeg) fun x1 => ix x1 16 <| cal (q_Layout_bitsOf M a1 (M.1 58 (x1 : Int32).toNatClampNeg)) fun M2 r3 => ix x1 16 <| ix a1 26 <| ix x1 16 <| lt' (stI M2 58 (upd (M2.1 58) (x1 : Int32).toNatClampNeg ((M2.1 58 (x1 : Int32).toNatClampNeg) &&& ((M2.1 42 (a1 : Int32).toNatClampNeg) ^^^ (-1))))) fun M4 => some (M4, r3)
set_option maxHeartbeats 4000000 in
set_option maxRecDepth 20000 in
theorem b_Device_takeKept_0 {p : Program} {l : Launch} {e : Env} {s s0 : State} {m : MethodId} {args : Array Value} {below : List Frame} {meth : Method} {c : Code} {D : va_G} {cI cZ cC cJ cA : ClassId} {P : Nat → Nat} {M' : Mm} {r' : Int32}  (hx : p.tables.exec = Jvm.exec) (hb : c.code = cX3_takeKept) (hml : c.maxLocals = 4) (hr : meth.sig.returnType = (some .int)) (hlk : meth.locks = false) (hgt : ∀ w ∈ GT, w.before args s = true) (hown : s.vm.findClass RX3 = some m.cls) (hK : va_K D vwCl [(cI, .int), (cZ, .boolean), (cC, .char), (cJ, .long), (cA, .array .int)] s) (hO : Old s0 s) (hAO : ∀ q, (aP P 77) q → s0.heap.size ≤ q)  : ∀ (M : Mm) (a1 : Int32) (H : Heap) (locs : List Loc) (ls : Array Slot), lv_has ls 4 [(0, .ref (P 50)), (1, .int a1)] → va_P D vwCl ((wX cI cZ cC cJ cA P) M) H → va_D (aP P 77) ((wX cI cZ cC cJ cA P) M) → va_S (aP P 77) s.heap H locs → q_Device_takeKept M a1 = some (M', r') → W p l e ({ frames := 1, cells := 0, slots := 0, locals := 22 }) s m args below meth c H locs 0 0 (MQ below (gQi D (aP P 77) ((wX cI cZ cC cJ cA P) M') r') args s 0 0 (aP P 77)) (F0 m 0 ls []) := by
  intro M a1 H locs ls hl hP hD hS h
  unfold q_Device_takeKept at h
  refine lv_aload_n hx hb dX3_takeKept_0 rfl (lv_at hl 0 rfl) ?_
  refine va_get (D := D) (ci := 3) (v := .ref (P 24)) (C := RX3) (T := TX3) (N := 7) hx hb hgt iwX3 hown hK hP 50 gX_50 rfl 0 (Nat.le_of_ble_eq_true rfl) (hgt _ wd_1_126) (fun _ h9 => h9) rfl dX3_takeKept_1 ?_
  refine va_get (D := D) (ci := 6) (v := .ref (P 38)) (C := RX6) (T := TX6) (N := 13) hx hb hgt iwX6 hown hK hP 24 gX_24 rfl 7 (Nat.le_of_ble_eq_true rfl) (hgt _ wd_1_26) (fun _ h9 => h9) rfl dX3_takeKept_4 ?_
  refine lv_iload_n hx hb dX3_takeKept_7 rfl (lv_at hl 1 rfl) ?_
  refine va_iald hx hb hK hP 38 0 gX_38 rfl (ix_l h) dX3_takeKept_8 ?_
  have h := ix_r h
  refine lv_topi (fun x1 ex1 => ?_)
  have h := lt_o ex1 h
  refine lv_istore_n hx hb dX3_takeKept_9 rfl hl (Nat.le_of_ble_eq_true rfl) (lv' := [(2, .int x1), (0, .ref (P 50)), (1, .int a1)]) rfl (fun ls hl => ?_)
  refine lv_aload_n hx hb dX3_takeKept_10 rfl (lv_at hl 1 rfl) ?_
  refine va_get (D := D) (ci := 3) (v := .ref (P 24)) (C := RX3) (T := TX3) (N := 7) hx hb hgt iwX3 hown hK hP 50 gX_50 rfl 0 (Nat.le_of_ble_eq_true rfl) (hgt _ wd_1_126) (fun _ h9 => h9) rfl dX3_takeKept_11 ?_
  refine lv_iload_n hx hb dX3_takeKept_14 rfl (lv_at hl 2 rfl) ?_
  refine lv_aload_n hx hb dX3_takeKept_15 rfl (lv_at hl 1 rfl) ?_
  refine va_get (D := D) (ci := 3) (v := .ref (P 58)) (C := RX3) (T := TX3) (N := 7) hx hb hgt iwX3 hown hK hP 50 gX_50 rfl 5 (Nat.le_of_ble_eq_true rfl) (hgt _ wd_1_134) (fun _ h9 => h9) rfl dX3_takeKept_16 ?_
  refine lv_iload_n hx hb dX3_takeKept_19 rfl (lv_at hl 0 rfl) ?_
  refine va_iald hx hb hK hP 58 0 gX_58 rfl (ix_l h) dX3_takeKept_20 ?_
  have h := ix_r h
  obtain ⟨M2, r3, hq, h⟩ := cal_o h
  refine cx_i (va_runV (As := [.int a1, .int (M.1 58 (x1 : Int32).toNatClampNeg)]) (rest := []) ⟨hx, hb, hml, hown, hgt⟩ (z_Layout_bitsOf l D cI cZ cC cJ cA P s0 hAO M a1 (M.1 58 (x1 : Int32).toNatClampNeg) M2 r3 hq) (cwV 2 hgt (gV wd_2_72 wd_2_73 wd_2_74 wd_0_6 wd_2_75) rfl rfl rfl (by decide +kernel) ⟨Nat.le_of_ble_eq_true rfl, Nat.le_of_ble_eq_true rfl⟩) (prV hP hK hD hO hAO hS (va_recv hK hP (ci := 6) (q0 := 24) rfl gX_24)) rfl rfl hl.1 rfl (lv_room (Nat.le_of_ble_eq_true rfl)) dX3_takeKept_21 ⟨Nat.le_of_ble_eq_true rfl, Nat.le_of_ble_eq_true rfl⟩) hS (fun H locs hP hD hS => ?_)
  refine lv_istore_n hx hb dX3_takeKept_24 rfl hl (Nat.le_of_ble_eq_true rfl) (lv' := [(3, .int r3), (2, .int x1), (0, .ref (P 50)), (1, .int a1)]) rfl (fun ls hl => ?_)
  refine lv_aload_n hx hb dX3_takeKept_25 rfl (lv_at hl 2 rfl) ?_
  refine va_get (D := D) (ci := 3) (v := .ref (P 58)) (C := RX3) (T := TX3) (N := 7) hx hb hgt iwX3 hown hK hP 50 gX_50 rfl 5 (Nat.le_of_ble_eq_true rfl) (hgt _ wd_1_134) (fun _ h9 => h9) rfl dX3_takeKept_26 ?_
  refine lv_iload_n hx hb dX3_takeKept_29 rfl (lv_at hl 1 rfl) ?_
  refine lv_dup2_11 hx hb dX3_takeKept_30 rfl rfl ?_
  refine va_iald hx hb hK hP 58 0 gX_58 rfl (ix_l h) dX3_takeKept_31 ?_
  have h := ix_r h
  refine lv_aload_n hx hb dX3_takeKept_32 rfl (lv_at hl 2 rfl) ?_
  refine va_get (D := D) (ci := 3) (v := .ref (P 24)) (C := RX3) (T := TX3) (N := 7) hx hb hgt iwX3 hown hK hP 50 gX_50 rfl 0 (Nat.le_of_ble_eq_true rfl) (hgt _ wd_1_126) (fun _ h9 => h9) rfl dX3_takeKept_33 ?_
  refine va_get (D := D) (ci := 6) (v := .ref (P 42)) (C := RX6) (T := TX6) (N := 13) hx hb hgt iwX6 hown hK hP 24 gX_24 rfl 11 (Nat.le_of_ble_eq_true rfl) (hgt _ wd_1_44) (fun _ h9 => h9) rfl dX3_takeKept_36 ?_
  refine lv_iload_n hx hb dX3_takeKept_39 rfl (lv_at hl 3 rfl) ?_
  refine va_iald hx hb hK hP 42 0 gX_42 rfl (ix_l h) dX3_takeKept_40 ?_
  have h := ix_r h
  refine lv_iconst (v := (-1)) hx hb dX3_takeKept_41 (by decide) ?_
  refine lv_ixor hx hb dX3_takeKept_42 ?_
  refine lv_iand hx hb dX3_takeKept_43 ?_
  refine pm_iast (w := (wX cI cZ cC cJ cA P)) hx hb hK hP hD hS 58 0 gX_58 rfl sX_58 (ix_l h) dX3_takeKept_44 (fun M4 eM4 H locs hP hD hS => ?_)
  have h := ix_r h
  have h := lt_o eM4 h
  refine lv_iload_n hx hb dX3_takeKept_45 rfl (lv_at hl 0 rfl) ?_
  exact rt_i (w := (wX cI cZ cC cJ cA P)) hx hb hr hlk hP hD hS h dX3_takeKept_46
set_option maxHeartbeats 4000000 in
set_option maxRecDepth 20000 in
theorem z_Device_takeKept (l : Launch) (D : va_G) (cI cZ cC cJ cA : ClassId) (P : Nat → Nat) (s0 : State) (hAO : ∀ q, (aP P 77) q → s0.heap.size ≤ q) (M : Mm) (a1 : Int32) (M' : Mm) (r' : Int32) (h : q_Device_takeKept M a1 = some (M', r')) : Met l yX3_takeKept wsX3_takeKept ({ frames := 1, cells := 0, slots := 0, locals := 22 }) (va_Pc [.ref (P 50), .int a1] (gPre s0 D [(cI, .int), (cZ, .boolean), (cC, .char), (cJ, .long), (cA, .array .int)] (aP P 77) ((wX cI cZ cC cJ cA P) M))) (gQi D (aP P 77) ((wX cI cZ cC cJ cA P) M') r') 0 0 (aP P 77) := by
  refine Met.ofW (cc := cX3_takeKept) (maxL := 4) (ret := (some .int)) (by decide) rfl ?_
  intro p e s m args below meth c s₁ B hml hv
  obtain ⟨rfl, hP, hK, hD, hO⟩ := hv
  have hx := B.exec
  have hb := B.bytes
  have hr := B.returns
  have hlk := B.notSynchronized
  have hgt := fun w (h : w ∈ GT) => atoms_spec (ws := wsX3_takeKept) B.pre w (List.mem_cons_of_mem _ h)
  have hown : s.vm.findClass RX3 = some m.cls := findClass_of_methodNamed B.named
  have hS : va_S (aP P 77) s.heap s.heap [] := va_S.rf
  have hl := lv_entry ([.ref (P 50), .int a1]) (n := 4) (Nat.le_of_ble_eq_true rfl)
  rw [lg_entry_eq]
  generalize (lg_sl ([.ref (P 50), .int a1]) ++ List.replicate (4 - (lg_sl ([.ref (P 50), .int a1])).length) Slot.unset).toArray = ls at hl ⊢
  have hl : lv_has ls 4 [(0, .ref (P 50)), (1, .int a1)] := hl
  exact b_Device_takeKept_0 hx hb hml hr hlk hgt hown hK hO hAO M a1 s.heap [] ls hl hP hD hS h
def q_ChipMap_readOut  (M : Mm) (a1 : Int32) : Rs := ix a1 26 <| lt' (M.1 39 (a1 : Int32).toNatClampNeg) fun x1 => if x1 = 0 then (cal (q_Device_valueOf M a1) fun M2 r3 => some (M2, r3)) else (ix a1 26 <| lt' (M.1 38 (a1 : Int32).toNatClampNeg) fun x2 => cal (q_Device_read M x2) fun M3 r4 => if x1 = 3 then (cal (q_Device_takeKept M3 a1) fun M5 r6 => some (M5, r6)) else (cal (q_Layout_bitsOf M3 a1 r4) fun M5 r6 => some (M5, r6)))
set_option maxHeartbeats 4000000 in
set_option maxRecDepth 20000 in
theorem b_ChipMap_readOut_0 {p : Program} {l : Launch} {e : Env} {s s0 : State} {m : MethodId} {args : Array Value} {below : List Frame} {meth : Method} {c : Code} {D : va_G} {cI cZ cC cJ cA : ClassId} {P : Nat → Nat} {M' : Mm} {r' : Int32}  (hx : p.tables.exec = Jvm.exec) (hb : c.code = cX0_readOut) (hml : c.maxLocals = 5) (hr : meth.sig.returnType = (some .int)) (hlk : meth.locks = false) (hgt : ∀ w ∈ GT, w.before args s = true) (hown : s.vm.findClass RX0 = some m.cls) (hK : va_K D vwCl [(cI, .int), (cZ, .boolean), (cC, .char), (cJ, .long), (cA, .array .int)] s) (hO : Old s0 s) (hAO : ∀ q, (aP P 77) q → s0.heap.size ≤ q)  : ∀ (M : Mm) (a1 : Int32) (H : Heap) (locs : List Loc) (ls : Array Slot), lv_has ls 5 [(0, .ref (P 0)), (1, .int a1)] → va_P D vwCl ((wX cI cZ cC cJ cA P) M) H → va_D (aP P 77) ((wX cI cZ cC cJ cA P) M) → va_S (aP P 77) s.heap H locs → q_ChipMap_readOut M a1 = some (M', r') → W p l e ({ frames := 3, cells := 0, slots := 0, locals := 67 }) s m args below meth c H locs 0 0 (MQ below (gQi D (aP P 77) ((wX cI cZ cC cJ cA P) M') r') args s 0 0 (aP P 77)) (F0 m 0 ls []) := by
  intro M a1 H locs ls hl hP hD hS h
  unfold q_ChipMap_readOut at h
  refine lv_aload_n hx hb dX0_readOut_0 rfl (lv_at hl 0 rfl) ?_
  refine va_get (D := D) (ci := 0) (v := .ref (P 24)) (C := RX0) (T := TX0) (N := 9) hx hb hgt iwX0 hown hK hP 0 gX_0 rfl 3 (Nat.le_of_ble_eq_true rfl) (hgt _ wd_2_20) (fun _ h9 => h9) rfl dX0_readOut_1 ?_
  refine va_get (D := D) (ci := 6) (v := .ref (P 39)) (C := RX6) (T := TX6) (N := 13) hx hb hgt iwX6 hown hK hP 24 gX_24 rfl 8 (Nat.le_of_ble_eq_true rfl) (hgt _ wd_1_33) (fun _ h9 => h9) rfl dX0_readOut_4 ?_
  refine lv_iload_n hx hb dX0_readOut_7 rfl (lv_at hl 1 rfl) ?_
  refine va_iald hx hb hK hP 39 0 gX_39 rfl (ix_l h) dX0_readOut_8 ?_
  have h := ix_r h
  refine lv_topi (fun x1 ex1 => ?_)
  have h := lt_o ex1 h
  refine lv_istore_n hx hb dX0_readOut_9 rfl hl (Nat.le_of_ble_eq_true rfl) (lv' := [(2, .int x1), (0, .ref (P 0)), (1, .int a1)]) rfl (fun ls hl => ?_)
  refine lv_iload_n hx hb dX0_readOut_10 rfl (lv_at hl 0 rfl) ?_
  refine lv_if_ne hx hb dX0_readOut_11 (tgt := 23) rfl (fun hc => ?_) (fun hc => ?_)
  · have h := br_F hc h
    refine lv_aload_n hx hb dX0_readOut_23 rfl (lv_at hl 1 rfl) ?_
    refine va_get (D := D) (ci := 0) (v := .ref (P 24)) (C := RX0) (T := TX0) (N := 9) hx hb hgt iwX0 hown hK hP 0 gX_0 rfl 3 (Nat.le_of_ble_eq_true rfl) (hgt _ wd_2_20) (fun _ h9 => h9) rfl dX0_readOut_24 ?_
    refine va_get (D := D) (ci := 6) (v := .ref (P 38)) (C := RX6) (T := TX6) (N := 13) hx hb hgt iwX6 hown hK hP 24 gX_24 rfl 7 (Nat.le_of_ble_eq_true rfl) (hgt _ wd_1_29) (fun _ h9 => h9) rfl dX0_readOut_27 ?_
    refine lv_iload_n hx hb dX0_readOut_30 rfl (lv_at hl 2 rfl) ?_
    refine va_iald hx hb hK hP 38 0 gX_38 rfl (ix_l h) dX0_readOut_31 ?_
    have h := ix_r h
    refine lv_topi (fun x2 ex2 => ?_)
    have h := lt_o ex2 h
    refine lv_istore_n hx hb dX0_readOut_32 rfl hl (Nat.le_of_ble_eq_true rfl) (lv' := [(3, .int x2), (2, .int x1), (0, .ref (P 0)), (1, .int a1)]) rfl (fun ls hl => ?_)
    refine lv_aload_n hx hb dX0_readOut_33 rfl (lv_at hl 2 rfl) ?_
    refine va_get (D := D) (ci := 0) (v := .ref (P 50)) (C := RX0) (T := TX0) (N := 9) hx hb hgt iwX0 hown hK hP 0 gX_0 rfl 4 (Nat.le_of_ble_eq_true rfl) (hgt _ wd_2_21) (fun _ h9 => h9) rfl dX0_readOut_34 ?_
    refine lv_iload_n hx hb dX0_readOut_37 rfl (lv_at hl 0 rfl) ?_
    obtain ⟨M3, r4, hq, h⟩ := cal_o h
    refine cx_i (va_runV (As := [.int x2]) (rest := []) ⟨hx, hb, hml, hown, hgt⟩ (z_Device_read l D cI cZ cC cJ cA P s0 hAO M x2 M3 r4 hq) (cwV 1 hgt (gV wd_2_157 wd_2_158 wd_2_159 wd_0_9 wd_2_160) rfl rfl rfl (by decide +kernel) ⟨Nat.le_of_ble_eq_true rfl, Nat.le_of_ble_eq_true rfl⟩) (prV hP hK hD hO hAO hS (va_recv hK hP (ci := 3) (q0 := 50) rfl gX_50)) rfl rfl hl.1 rfl (lv_room (Nat.le_of_ble_eq_true rfl)) dX0_readOut_38 ⟨Nat.le_of_ble_eq_true rfl, Nat.le_of_ble_eq_true rfl⟩) hS (fun H locs hP hD hS => ?_)
    refine lv_istore hx hb dX0_readOut_41 hl (Nat.le_of_ble_eq_true rfl) (lv' := [(4, .int r4), (3, .int x2), (2, .int x1), (0, .ref (P 0)), (1, .int a1)]) rfl (fun ls hl => ?_)
    refine lv_iload_n hx hb dX0_readOut_43 rfl (lv_at hl 2 rfl) ?_
    refine lv_iconst (v := 3) hx hb dX0_readOut_44 (by decide) ?_
    refine lv_icmp_ne hx hb dX0_readOut_45 (tgt := 59) rfl (fun hc => ?_) (fun hc => ?_)
    · have h := br_F hc h
      refine lv_aload_n hx hb dX0_readOut_59 rfl (lv_at hl 3 rfl) ?_
      refine va_get (D := D) (ci := 0) (v := .ref (P 24)) (C := RX0) (T := TX0) (N := 9) hx hb hgt iwX0 hown hK hP 0 gX_0 rfl 3 (Nat.le_of_ble_eq_true rfl) (hgt _ wd_2_20) (fun _ h9 => h9) rfl dX0_readOut_60 ?_
      refine lv_iload_n hx hb dX0_readOut_63 rfl (lv_at hl 4 rfl) ?_
      refine lv_iload hx hb dX0_readOut_64 (lv_at hl 0 rfl) ?_
      obtain ⟨M5, r6, hq, h⟩ := cal_o h
      refine cx_i (va_runV (As := [.int a1, .int r4]) (rest := []) ⟨hx, hb, hml, hown, hgt⟩ (z_Layout_bitsOf l D cI cZ cC cJ cA P s0 hAO M3 a1 r4 M5 r6 hq) (cwV 2 hgt (gV wd_2_76 wd_2_73 wd_2_74 wd_0_6 wd_2_75) rfl rfl rfl (by decide +kernel) ⟨Nat.le_of_ble_eq_true rfl, Nat.le_of_ble_eq_true rfl⟩) (prV hP hK hD hO hAO hS (va_recv hK hP (ci := 6) (q0 := 24) rfl gX_24)) rfl rfl hl.1 rfl (lv_room (Nat.le_of_ble_eq_true rfl)) dX0_readOut_66 ⟨Nat.le_of_ble_eq_true rfl, Nat.le_of_ble_eq_true rfl⟩) hS (fun H locs hP hD hS => ?_)
      exact rt_i (w := (wX cI cZ cC cJ cA P)) hx hb hr hlk hP hD hS h dX0_readOut_69
    · have h := br_T hc h
      refine lv_aload_n hx hb dX0_readOut_48 rfl (lv_at hl 3 rfl) ?_
      refine va_get (D := D) (ci := 0) (v := .ref (P 50)) (C := RX0) (T := TX0) (N := 9) hx hb hgt iwX0 hown hK hP 0 gX_0 rfl 4 (Nat.le_of_ble_eq_true rfl) (hgt _ wd_2_21) (fun _ h9 => h9) rfl dX0_readOut_49 ?_
      refine lv_iload_n hx hb dX0_readOut_52 rfl (lv_at hl 4 rfl) ?_
      obtain ⟨M5, r6, hq, h⟩ := cal_o h
      refine cx_i (va_runV (As := [.int a1]) (rest := []) ⟨hx, hb, hml, hown, hgt⟩ (z_Device_takeKept l D cI cZ cC cJ cA P s0 hAO M3 a1 M5 r6 hq) (cwV 1 hgt (gV wd_3_122 wd_3_123 wd_3_124 wd_0_9 wd_3_125) rfl rfl rfl (by decide +kernel) ⟨Nat.le_of_ble_eq_true rfl, Nat.le_of_ble_eq_true rfl⟩) (prV hP hK hD hO hAO hS (va_recv hK hP (ci := 3) (q0 := 50) rfl gX_50)) rfl rfl hl.1 rfl (lv_room (Nat.le_of_ble_eq_true rfl)) dX0_readOut_53 ⟨Nat.le_of_ble_eq_true rfl, Nat.le_of_ble_eq_true rfl⟩) hS (fun H locs hP hD hS => ?_)
      refine lv_goto hx hb dX0_readOut_56 (tgt := 69) rfl ?_
      exact rt_i (w := (wX cI cZ cC cJ cA P)) hx hb hr hlk hP hD hS h dX0_readOut_69
  · have h := br_T hc h
    refine lv_aload_n hx hb dX0_readOut_14 rfl (lv_at hl 1 rfl) ?_
    refine va_get (D := D) (ci := 0) (v := .ref (P 50)) (C := RX0) (T := TX0) (N := 9) hx hb hgt iwX0 hown hK hP 0 gX_0 rfl 4 (Nat.le_of_ble_eq_true rfl) (hgt _ wd_2_21) (fun _ h9 => h9) rfl dX0_readOut_15 ?_
    refine lv_iload_n hx hb dX0_readOut_18 rfl (lv_at hl 2 rfl) ?_
    obtain ⟨M2, r3, hq, h⟩ := cal_o h
    refine cx_i (va_runV (As := [.int a1]) (rest := []) ⟨hx, hb, hml, hown, hgt⟩ (z_Device_valueOf l D cI cZ cC cJ cA P s0 hAO M a1 M2 r3 hq) (cwV 1 hgt (gV wd_2_68 wd_2_69 wd_2_70 wd_0_9 wd_2_71) rfl rfl rfl (by decide +kernel) ⟨Nat.le_of_ble_eq_true rfl, Nat.le_of_ble_eq_true rfl⟩) (prV hP hK hD hO hAO hS (va_recv hK hP (ci := 3) (q0 := 50) rfl gX_50)) rfl rfl hl.1 rfl (lv_room (Nat.le_of_ble_eq_true rfl)) dX0_readOut_19 ⟨Nat.le_of_ble_eq_true rfl, Nat.le_of_ble_eq_true rfl⟩) hS (fun H locs hP hD hS => ?_)
    exact rt_i (w := (wX cI cZ cC cJ cA P)) hx hb hr hlk hP hD hS h dX0_readOut_22
set_option maxHeartbeats 4000000 in
set_option maxRecDepth 20000 in
theorem z_ChipMap_readOut (l : Launch) (D : va_G) (cI cZ cC cJ cA : ClassId) (P : Nat → Nat) (s0 : State) (hAO : ∀ q, (aP P 77) q → s0.heap.size ≤ q) (M : Mm) (a1 : Int32) (M' : Mm) (r' : Int32) (h : q_ChipMap_readOut M a1 = some (M', r')) : Met l yX0_readOut wsX0_readOut ({ frames := 3, cells := 0, slots := 0, locals := 67 }) (va_Pc [.ref (P 0), .int a1] (gPre s0 D [(cI, .int), (cZ, .boolean), (cC, .char), (cJ, .long), (cA, .array .int)] (aP P 77) ((wX cI cZ cC cJ cA P) M))) (gQi D (aP P 77) ((wX cI cZ cC cJ cA P) M') r') 0 0 (aP P 77) := by
  refine Met.ofW (cc := cX0_readOut) (maxL := 5) (ret := (some .int)) (by decide) rfl ?_
  intro p e s m args below meth c s₁ B hml hv
  obtain ⟨rfl, hP, hK, hD, hO⟩ := hv
  have hx := B.exec
  have hb := B.bytes
  have hr := B.returns
  have hlk := B.notSynchronized
  have hgt := fun w (h : w ∈ GT) => atoms_spec (ws := wsX0_readOut) B.pre w (List.mem_cons_of_mem _ h)
  have hown : s.vm.findClass RX0 = some m.cls := findClass_of_methodNamed B.named
  have hS : va_S (aP P 77) s.heap s.heap [] := va_S.rf
  have hl := lv_entry ([.ref (P 0), .int a1]) (n := 5) (Nat.le_of_ble_eq_true rfl)
  rw [lg_entry_eq]
  generalize (lg_sl ([.ref (P 0), .int a1]) ++ List.replicate (5 - (lg_sl ([.ref (P 0), .int a1])).length) Slot.unset).toArray = ls at hl ⊢
  have hl : lv_has ls 5 [(0, .ref (P 0)), (1, .int a1)] := hl
  exact b_ChipMap_readOut_0 hx hb hml hr hlk hgt hown hK hO hAO M a1 s.heap [] ls hl hP hD hS h
def q_ChipMap_fetch_37  (M : Mm)  : Rs := none
def q_ChipMap_fetch  (M : Mm) (a1 : Int32) : Rs := cal (q_Layout_canFetch M a1) fun M1 r2 => if r2 = 0 then (none) else (if 0 < (M1.1 65 0) then (q_ChipMap_fetch_37 M1) else (cal (q_ChipMap_reachForFetch M1 a1) fun M3 r4 => if r4 = 0 then (q_ChipMap_fetch_37 M3) else (cal (q_ChipMap_readOut M3 a1) fun M5 r6 => some (M5, r6))))
set_option maxHeartbeats 4000000 in
set_option maxRecDepth 20000 in
theorem b_ChipMap_fetch_37 {p : Program} {l : Launch} {e : Env} {s s0 : State} {m : MethodId} {args : Array Value} {below : List Frame} {meth : Method} {c : Code} {D : va_G} {cI cZ cC cJ cA : ClassId} {P : Nat → Nat} {M' : Mm} {r' : Int32}  (hx : p.tables.exec = Jvm.exec) (hb : c.code = cX0_fetch) (hml : c.maxLocals = 2) (hr : meth.sig.returnType = (some .int)) (hlk : meth.locks = false) (hgt : ∀ w ∈ GT, w.before args s = true) (hown : s.vm.findClass RX0 = some m.cls) (hK : va_K D vwCl [(cI, .int), (cZ, .boolean), (cC, .char), (cJ, .long), (cA, .array .int)] s) (hO : Old s0 s) (hAO : ∀ q, (aP P 77) q → s0.heap.size ≤ q)  : ∀ (M : Mm)  (H : Heap) (locs : List Loc) (ls : Array Slot), lv_has ls 2 [] → va_P D vwCl ((wX cI cZ cC cJ cA P) M) H → va_D (aP P 77) ((wX cI cZ cC cJ cA P) M) → va_S (aP P 77) s.heap H locs → q_ChipMap_fetch_37 M = some (M', r') → W p l e ({ frames := 6, cells := 0, slots := 0, locals := 139 }) s m args below meth c H locs 0 0 (MQ below (gQi D (aP P 77) ((wX cI cZ cC cJ cA P) M') r') args s 0 0 (aP P 77)) (F0 m 37 ls []) := by
  intro M H locs ls hl hP hD hS h
  unfold q_ChipMap_fetch_37 at h
  exact (rs_n h).elim
set_option maxHeartbeats 4000000 in
set_option maxRecDepth 20000 in
theorem b_ChipMap_fetch_0 {p : Program} {l : Launch} {e : Env} {s s0 : State} {m : MethodId} {args : Array Value} {below : List Frame} {meth : Method} {c : Code} {D : va_G} {cI cZ cC cJ cA : ClassId} {P : Nat → Nat} {M' : Mm} {r' : Int32}  (hx : p.tables.exec = Jvm.exec) (hb : c.code = cX0_fetch) (hml : c.maxLocals = 2) (hr : meth.sig.returnType = (some .int)) (hlk : meth.locks = false) (hgt : ∀ w ∈ GT, w.before args s = true) (hown : s.vm.findClass RX0 = some m.cls) (hK : va_K D vwCl [(cI, .int), (cZ, .boolean), (cC, .char), (cJ, .long), (cA, .array .int)] s) (hO : Old s0 s) (hAO : ∀ q, (aP P 77) q → s0.heap.size ≤ q)  : ∀ (M : Mm) (a1 : Int32) (H : Heap) (locs : List Loc) (ls : Array Slot), lv_has ls 2 [(0, .ref (P 0)), (1, .int a1)] → va_P D vwCl ((wX cI cZ cC cJ cA P) M) H → va_D (aP P 77) ((wX cI cZ cC cJ cA P) M) → va_S (aP P 77) s.heap H locs → q_ChipMap_fetch M a1 = some (M', r') → W p l e ({ frames := 6, cells := 0, slots := 0, locals := 139 }) s m args below meth c H locs 0 0 (MQ below (gQi D (aP P 77) ((wX cI cZ cC cJ cA P) M') r') args s 0 0 (aP P 77)) (F0 m 0 ls []) := by
  intro M a1 H locs ls hl hP hD hS h
  unfold q_ChipMap_fetch at h
  refine lv_aload_n hx hb dX0_fetch_0 rfl (lv_at hl 0 rfl) ?_
  refine va_get (D := D) (ci := 0) (v := .ref (P 24)) (C := RX0) (T := TX0) (N := 9) hx hb hgt iwX0 hown hK hP 0 gX_0 rfl 3 (Nat.le_of_ble_eq_true rfl) (hgt _ wd_2_20) (fun _ h9 => h9) rfl dX0_fetch_1 ?_
  refine lv_iload_n hx hb dX0_fetch_4 rfl (lv_at hl 1 rfl) ?_
  obtain ⟨M1, r2, hq, h⟩ := cal_o h
  refine cx_i (va_runV (As := [.int a1]) (rest := []) ⟨hx, hb, hml, hown, hgt⟩ (z_Layout_canFetch l D cI cZ cC cJ cA P s0 hAO M a1 M1 r2 hq) (cwV 1 hgt (gV wd_3_36 wd_3_37 wd_3_38 wd_0_6 wd_3_39) rfl rfl rfl (by decide +kernel) ⟨Nat.le_of_ble_eq_true rfl, Nat.le_of_ble_eq_true rfl⟩) (prV hP hK hD hO hAO hS (va_recv hK hP (ci := 6) (q0 := 24) rfl gX_24)) rfl rfl hl.1 rfl (lv_room (Nat.le_of_ble_eq_true rfl)) dX0_fetch_5 ⟨Nat.le_of_ble_eq_true rfl, Nat.le_of_ble_eq_true rfl⟩) hS (fun H locs hP hD hS => ?_)
  refine lv_if_ne hx hb dX0_fetch_8 (tgt := 19) rfl (fun hc => ?_) (fun hc => ?_)
  · have h := br_F hc h
    refine lv_aload_n hx hb dX0_fetch_19 rfl (lv_at hl 0 rfl) ?_
    refine va_get (D := D) (ci := 0) (v := .ref (P 65)) (C := RX0) (T := TX0) (N := 9) hx hb hgt iwX0 hown hK hP 0 gX_0 rfl 6 (Nat.le_of_ble_eq_true rfl) (hgt _ wd_2_23) (fun _ h9 => h9) rfl dX0_fetch_20 ?_
    refine va_get (D := D) (ci := 12) (v := .int (M1.1 65 0)) (C := RX12) (T := TX12) (N := 4) hx hb hgt iwX12 hown hK hP 65 gX_65 rfl 0 (Nat.le_of_ble_eq_true rfl) (hgt _ wd_1_193) (fun _ h9 => h9) rfl dX0_fetch_23 ?_
    refine lv_if_gt hx hb dX0_fetch_26 (tgt := 37) rfl (fun hc => ?_) (fun hc => ?_)
    · have h := br_T hc h
      have hl := lv_sub hl [] (l' := []) rfl
      exact b_ChipMap_fetch_37 hx hb hml hr hlk hgt hown hK hO hAO M1 H _ ls hl hP hD hS h
    · have h := br_F hc h
      refine lv_aload_n hx hb dX0_fetch_29 rfl (lv_at hl 0 rfl) ?_
      refine lv_iload_n hx hb dX0_fetch_30 rfl (lv_at hl 1 rfl) ?_
      obtain ⟨M3, r4, hq, h⟩ := cal_o h
      refine cx_i (va_runV (As := [.int a1]) (rest := []) ⟨hx, hb, hml, hown, hgt⟩ (z_ChipMap_reachForFetch l D cI cZ cC cJ cA P s0 hAO M1 a1 M3 r4 hq) (cwV 1 hgt (gV wd_3_113 wd_3_115 sl__ChipMap____ChipMap___reachForFetch____I_Z_____ChipMap___reachForFetch____I_Z__ wd_0_1 wd_3_116) rfl rfl rfl (by decide +kernel) ⟨Nat.le_of_ble_eq_true rfl, Nat.le_of_ble_eq_true rfl⟩) (prV hP hK hD hO hAO hS (va_recv hK hP (ci := 0) (q0 := 0) rfl gX_0)) rfl rfl hl.1 rfl (lv_room (Nat.le_of_ble_eq_true rfl)) dX0_fetch_31 ⟨Nat.le_of_ble_eq_true rfl, Nat.le_of_ble_eq_true rfl⟩) hS (fun H locs hP hD hS => ?_)
      refine lv_if_ne hx hb dX0_fetch_34 (tgt := 45) rfl (fun hc => ?_) (fun hc => ?_)
      · have h := br_F hc h
        refine lv_aload_n hx hb dX0_fetch_45 rfl (lv_at hl 0 rfl) ?_
        refine lv_iload_n hx hb dX0_fetch_46 rfl (lv_at hl 1 rfl) ?_
        obtain ⟨M5, r6, hq, h⟩ := cal_o h
        refine cx_i (va_runV (As := [.int a1]) (rest := []) ⟨hx, hb, hml, hown, hgt⟩ (z_ChipMap_readOut l D cI cZ cC cJ cA P s0 hAO M3 a1 M5 r6 hq) (cwV 1 hgt (gV wd_3_118 wd_3_120 sl__ChipMap____ChipMap___readOut____I_I_____ChipMap___readOut____I_I__ wd_0_1 wd_3_121) rfl rfl rfl (by decide +kernel) ⟨Nat.le_of_ble_eq_true rfl, Nat.le_of_ble_eq_true rfl⟩) (prV hP hK hD hO hAO hS (va_recv hK hP (ci := 0) (q0 := 0) rfl gX_0)) rfl rfl hl.1 rfl (lv_room (Nat.le_of_ble_eq_true rfl)) dX0_fetch_47 ⟨Nat.le_of_ble_eq_true rfl, Nat.le_of_ble_eq_true rfl⟩) hS (fun H locs hP hD hS => ?_)
        exact rt_i (w := (wX cI cZ cC cJ cA P)) hx hb hr hlk hP hD hS h dX0_fetch_50
      · have h := br_T hc h
        have hl := lv_sub hl [] (l' := []) rfl
        exact b_ChipMap_fetch_37 hx hb hml hr hlk hgt hown hK hO hAO M3 H _ ls hl hP hD hS h
  · have h := br_T hc h
    exact (rs_n h).elim
set_option maxHeartbeats 4000000 in
set_option maxRecDepth 20000 in
theorem z_ChipMap_fetch (l : Launch) (D : va_G) (cI cZ cC cJ cA : ClassId) (P : Nat → Nat) (s0 : State) (hAO : ∀ q, (aP P 77) q → s0.heap.size ≤ q) (M : Mm) (a1 : Int32) (M' : Mm) (r' : Int32) (h : q_ChipMap_fetch M a1 = some (M', r')) : Met l yX0_fetch wsX0_fetch ({ frames := 6, cells := 0, slots := 0, locals := 139 }) (va_Pc [.ref (P 0), .int a1] (gPre s0 D [(cI, .int), (cZ, .boolean), (cC, .char), (cJ, .long), (cA, .array .int)] (aP P 77) ((wX cI cZ cC cJ cA P) M))) (gQi D (aP P 77) ((wX cI cZ cC cJ cA P) M') r') 0 0 (aP P 77) := by
  refine Met.ofW (cc := cX0_fetch) (maxL := 2) (ret := (some .int)) (by decide) rfl ?_
  intro p e s m args below meth c s₁ B hml hv
  obtain ⟨rfl, hP, hK, hD, hO⟩ := hv
  have hx := B.exec
  have hb := B.bytes
  have hr := B.returns
  have hlk := B.notSynchronized
  have hgt := fun w (h : w ∈ GT) => atoms_spec (ws := wsX0_fetch) B.pre w (List.mem_cons_of_mem _ h)
  have hown : s.vm.findClass RX0 = some m.cls := findClass_of_methodNamed B.named
  have hS : va_S (aP P 77) s.heap s.heap [] := va_S.rf
  have hl := lv_entry ([.ref (P 0), .int a1]) (n := 2) (Nat.le_of_ble_eq_true rfl)
  rw [lg_entry_eq]
  generalize (lg_sl ([.ref (P 0), .int a1]) ++ List.replicate (2 - (lg_sl ([.ref (P 0), .int a1])).length) Slot.unset).toArray = ls at hl ⊢
  have hl : lv_has ls 2 [(0, .ref (P 0)), (1, .int a1)] := hl
  exact b_ChipMap_fetch_0 hx hb hml hr hlk hgt hown hK hO hAO M a1 s.heap [] ls hl hP hD hS h
def q_Steps_isFull  (M : Mm)  : Rs := if (M.1 65 0) < 8 then (some (M, 0)) else (some (M, 1))
set_option maxHeartbeats 4000000 in
set_option maxRecDepth 20000 in
theorem b_Steps_isFull_0 {p : Program} {l : Launch} {e : Env} {s s0 : State} {m : MethodId} {args : Array Value} {below : List Frame} {meth : Method} {c : Code} {D : va_G} {cI cZ cC cJ cA : ClassId} {P : Nat → Nat} {M' : Mm} {r' : Int32}  (hx : p.tables.exec = Jvm.exec) (hb : c.code = cX12_isFull) (hml : c.maxLocals = 1) (hr : meth.sig.returnType = (some .boolean)) (hlk : meth.locks = false) (hgt : ∀ w ∈ GT, w.before args s = true) (hown : s.vm.findClass RX12 = some m.cls) (hK : va_K D vwCl [(cI, .int), (cZ, .boolean), (cC, .char), (cJ, .long), (cA, .array .int)] s) (hO : Old s0 s) (hAO : ∀ q, (aP P 77) q → s0.heap.size ≤ q)  : ∀ (M : Mm)  (H : Heap) (locs : List Loc) (ls : Array Slot), lv_has ls 1 [(0, .ref (P 65))] → va_P D vwCl ((wX cI cZ cC cJ cA P) M) H → va_D (aP P 77) ((wX cI cZ cC cJ cA P) M) → va_S (aP P 77) s.heap H locs → q_Steps_isFull M = some (M', r') → W p l e ({ frames := 0, cells := 0, slots := 0, locals := 0 }) s m args below meth c H locs 0 0 (MQ below (gQi D (aP P 77) ((wX cI cZ cC cJ cA P) M') r') args s 0 0 (aP P 77)) (F0 m 0 ls []) := by
  intro M H locs ls hl hP hD hS h
  unfold q_Steps_isFull at h
  refine lv_aload_n hx hb dX12_isFull_0 rfl (lv_at hl 0 rfl) ?_
  refine va_get (D := D) (ci := 12) (v := .int (M.1 65 0)) (C := RX12) (T := TX12) (N := 4) hx hb hgt iwX12 hown hK hP 65 gX_65 rfl 0 (Nat.le_of_ble_eq_true rfl) (hgt _ wd_1_191) (fun _ h9 => h9) rfl dX12_isFull_1 ?_
  refine lv_aload_n hx hb dX12_isFull_4 rfl (lv_at hl 0 rfl) ?_
  refine va_get (D := D) (ci := 12) (v := .ref (P 66)) (C := RX12) (T := TX12) (N := 4) hx hb hgt iwX12 hown hK hP 65 gX_65 rfl 1 (Nat.le_of_ble_eq_true rfl) (hgt _ wd_1_195) (fun _ h9 => h9) rfl dX12_isFull_5 ?_
  refine va_alen (v := 8) hx hb hK hP 66 0 gX_66 rfl rfl dX12_isFull_8 ?_
  refine lv_icmp_lt hx hb dX12_isFull_9 (tgt := 16) rfl (fun hc => ?_) (fun hc => ?_)
  · have h := br_T hc h
    refine lv_iconst (v := 0) hx hb dX12_isFull_16 (by decide) ?_
    exact rt_z (w := (wX cI cZ cC cJ cA P)) hx hb hr hlk rfl hP hD hS h dX12_isFull_17
  · have h := br_F hc h
    refine lv_iconst (v := 1) hx hb dX12_isFull_12 (by decide) ?_
    refine lv_goto hx hb dX12_isFull_13 (tgt := 17) rfl ?_
    exact rt_z (w := (wX cI cZ cC cJ cA P)) hx hb hr hlk rfl hP hD hS h dX12_isFull_17
set_option maxHeartbeats 4000000 in
set_option maxRecDepth 20000 in
theorem z_Steps_isFull (l : Launch) (D : va_G) (cI cZ cC cJ cA : ClassId) (P : Nat → Nat) (s0 : State) (hAO : ∀ q, (aP P 77) q → s0.heap.size ≤ q) (M : Mm)  (M' : Mm) (r' : Int32) (h : q_Steps_isFull M = some (M', r')) : Met l yX12_isFull wsX12_isFull ({ frames := 0, cells := 0, slots := 0, locals := 0 }) (va_Pc [.ref (P 65)] (gPre s0 D [(cI, .int), (cZ, .boolean), (cC, .char), (cJ, .long), (cA, .array .int)] (aP P 77) ((wX cI cZ cC cJ cA P) M))) (gQi D (aP P 77) ((wX cI cZ cC cJ cA P) M') r') 0 0 (aP P 77) := by
  refine Met.ofW (cc := cX12_isFull) (maxL := 1) (ret := (some .boolean)) (by decide) rfl ?_
  intro p e s m args below meth c s₁ B hml hv
  obtain ⟨rfl, hP, hK, hD, hO⟩ := hv
  have hx := B.exec
  have hb := B.bytes
  have hr := B.returns
  have hlk := B.notSynchronized
  have hgt := fun w (h : w ∈ GT) => atoms_spec (ws := wsX12_isFull) B.pre w (List.mem_cons_of_mem _ h)
  have hown : s.vm.findClass RX12 = some m.cls := findClass_of_methodNamed B.named
  have hS : va_S (aP P 77) s.heap s.heap [] := va_S.rf
  have hl := lv_entry ([.ref (P 65)]) (n := 1) (Nat.le_of_ble_eq_true rfl)
  rw [lg_entry_eq]
  generalize (lg_sl ([.ref (P 65)]) ++ List.replicate (1 - (lg_sl ([.ref (P 65)])).length) Slot.unset).toArray = ls at hl ⊢
  have hl : lv_has ls 1 [(0, .ref (P 65))] := hl
  exact b_Steps_isFull_0 hx hb hml hr hlk hgt hown hK hO hAO M s.heap [] ls hl hP hD hS h
def q_Steps_append  (M : Mm) (a1 : Int32) (a2 : Int32) (a3 : Int32) : Rs := ix (M.1 65 0) 8 <| lt' (stI M 66 (upd (M.1 66) ((M.1 65 0) : Int32).toNatClampNeg a1)) fun M1 => ix (M1.1 65 0) 8 <| lt' (stI M1 67 (upd (M1.1 67) ((M1.1 65 0) : Int32).toNatClampNeg a2)) fun M2 => ix (M2.1 65 0) 8 <| lt' (stI M2 68 (upd (M2.1 68) ((M2.1 65 0) : Int32).toNatClampNeg a3)) fun M3 => lt' (stI M3 65 (upd (M3.1 65) 0 ((M3.1 65 0) + 1))) fun M4 => some (M4, 0)
set_option maxHeartbeats 4000000 in
set_option maxRecDepth 20000 in
theorem b_Steps_append_0 {p : Program} {l : Launch} {e : Env} {s s0 : State} {m : MethodId} {args : Array Value} {below : List Frame} {meth : Method} {c : Code} {D : va_G} {cI cZ cC cJ cA : ClassId} {P : Nat → Nat} {M' : Mm} {r' : Int32}  (hx : p.tables.exec = Jvm.exec) (hb : c.code = cX12_append) (hml : c.maxLocals = 4) (hr : meth.sig.returnType = none) (hlk : meth.locks = false) (hgt : ∀ w ∈ GT, w.before args s = true) (hown : s.vm.findClass RX12 = some m.cls) (hK : va_K D vwCl [(cI, .int), (cZ, .boolean), (cC, .char), (cJ, .long), (cA, .array .int)] s) (hO : Old s0 s) (hAO : ∀ q, (aP P 77) q → s0.heap.size ≤ q)  : ∀ (M : Mm) (a1 : Int32) (a2 : Int32) (a3 : Int32) (H : Heap) (locs : List Loc) (ls : Array Slot), lv_has ls 4 [(0, .ref (P 65)), (1, .int a1), (2, .int a2), (3, .int a3)] → va_P D vwCl ((wX cI cZ cC cJ cA P) M) H → va_D (aP P 77) ((wX cI cZ cC cJ cA P) M) → va_S (aP P 77) s.heap H locs → q_Steps_append M a1 a2 a3 = some (M', r') → W p l e ({ frames := 0, cells := 0, slots := 0, locals := 0 }) s m args below meth c H locs 0 0 (MQ below (gQv D (aP P 77) ((wX cI cZ cC cJ cA P) M')) args s 0 0 (aP P 77)) (F0 m 0 ls []) := by
  intro M a1 a2 a3 H locs ls hl hP hD hS h
  unfold q_Steps_append at h
  refine lv_aload_n hx hb dX12_append_0 rfl (lv_at hl 0 rfl) ?_
  refine va_get (D := D) (ci := 12) (v := .ref (P 66)) (C := RX12) (T := TX12) (N := 4) hx hb hgt iwX12 hown hK hP 65 gX_65 rfl 1 (Nat.le_of_ble_eq_true rfl) (hgt _ wd_1_195) (fun _ h9 => h9) rfl dX12_append_1 ?_
  refine lv_aload_n hx hb dX12_append_4 rfl (lv_at hl 0 rfl) ?_
  refine va_get (D := D) (ci := 12) (v := .int (M.1 65 0)) (C := RX12) (T := TX12) (N := 4) hx hb hgt iwX12 hown hK hP 65 gX_65 rfl 0 (Nat.le_of_ble_eq_true rfl) (hgt _ wd_1_191) (fun _ h9 => h9) rfl dX12_append_5 ?_
  refine lv_iload_n hx hb dX12_append_8 rfl (lv_at hl 1 rfl) ?_
  refine pm_iast (w := (wX cI cZ cC cJ cA P)) hx hb hK hP hD hS 66 0 gX_66 rfl sX_66 (ix_l h) dX12_append_9 (fun M1 eM1 H locs hP hD hS => ?_)
  have h := ix_r h
  have h := lt_o eM1 h
  refine lv_aload_n hx hb dX12_append_10 rfl (lv_at hl 0 rfl) ?_
  refine va_get (D := D) (ci := 12) (v := .ref (P 67)) (C := RX12) (T := TX12) (N := 4) hx hb hgt iwX12 hown hK hP 65 gX_65 rfl 2 (Nat.le_of_ble_eq_true rfl) (hgt _ wd_1_198) (fun _ h9 => h9) rfl dX12_append_11 ?_
  refine lv_aload_n hx hb dX12_append_14 rfl (lv_at hl 0 rfl) ?_
  refine va_get (D := D) (ci := 12) (v := .int (M1.1 65 0)) (C := RX12) (T := TX12) (N := 4) hx hb hgt iwX12 hown hK hP 65 gX_65 rfl 0 (Nat.le_of_ble_eq_true rfl) (hgt _ wd_1_191) (fun _ h9 => h9) rfl dX12_append_15 ?_
  refine lv_iload_n hx hb dX12_append_18 rfl (lv_at hl 2 rfl) ?_
  refine pm_iast (w := (wX cI cZ cC cJ cA P)) hx hb hK hP hD hS 67 0 gX_67 rfl sX_67 (ix_l h) dX12_append_19 (fun M2 eM2 H locs hP hD hS => ?_)
  have h := ix_r h
  have h := lt_o eM2 h
  refine lv_aload_n hx hb dX12_append_20 rfl (lv_at hl 0 rfl) ?_
  refine va_get (D := D) (ci := 12) (v := .ref (P 68)) (C := RX12) (T := TX12) (N := 4) hx hb hgt iwX12 hown hK hP 65 gX_65 rfl 3 (Nat.le_of_ble_eq_true rfl) (hgt _ wd_1_202) (fun _ h9 => h9) rfl dX12_append_21 ?_
  refine lv_aload_n hx hb dX12_append_24 rfl (lv_at hl 0 rfl) ?_
  refine va_get (D := D) (ci := 12) (v := .int (M2.1 65 0)) (C := RX12) (T := TX12) (N := 4) hx hb hgt iwX12 hown hK hP 65 gX_65 rfl 0 (Nat.le_of_ble_eq_true rfl) (hgt _ wd_1_191) (fun _ h9 => h9) rfl dX12_append_25 ?_
  refine lv_iload_n hx hb dX12_append_28 rfl (lv_at hl 3 rfl) ?_
  refine pm_iast (w := (wX cI cZ cC cJ cA P)) hx hb hK hP hD hS 68 0 gX_68 rfl sX_68 (ix_l h) dX12_append_29 (fun M3 eM3 H locs hP hD hS => ?_)
  have h := ix_r h
  have h := lt_o eM3 h
  refine lv_aload_n hx hb dX12_append_30 rfl (lv_at hl 0 rfl) ?_
  refine lv_dup hx hb dX12_append_31 rfl ?_
  refine va_get (D := D) (ci := 12) (v := .int (M3.1 65 0)) (C := RX12) (T := TX12) (N := 4) hx hb hgt iwX12 hown hK hP 65 gX_65 rfl 0 (Nat.le_of_ble_eq_true rfl) (hgt _ wd_1_191) (fun _ h9 => h9) rfl dX12_append_32 ?_
  refine lv_iconst (v := 1) hx hb dX12_append_35 (by decide) ?_
  refine lv_iadd hx hb dX12_append_36 ?_
  refine pm_put (w := (wX cI cZ cC cJ cA P)) (D := D) (ci := 12) (x := ((M3.1 65 0) + 1)) (ty := .int) (C := RX12) (T := TX12) (N := 4) hx hb hgt iwX12 tyX12 tyX12_ok nmX12 hown hK hP hD hS 65 gX_65 rfl 0 (Nat.le_of_ble_eq_true rfl) (hgt _ wd_1_191) (fun _ h9 => h9) rfl (by decide +kernel) rfl rfl (Nat.le_of_ble_eq_true rfl) (sX_65_0 _) dX12_append_37 (fun M4 eM4 H locs hP hD hS => ?_)
  have h := lt_o eM4 h
  exact rt_v (w := (wX cI cZ cC cJ cA P)) (r := r') hx hb hr hlk hP hD hS h dX12_append_40
set_option maxHeartbeats 4000000 in
set_option maxRecDepth 20000 in
theorem z_Steps_append (l : Launch) (D : va_G) (cI cZ cC cJ cA : ClassId) (P : Nat → Nat) (s0 : State) (hAO : ∀ q, (aP P 77) q → s0.heap.size ≤ q) (M : Mm) (a1 : Int32) (a2 : Int32) (a3 : Int32) (M' : Mm) (r' : Int32) (h : q_Steps_append M a1 a2 a3 = some (M', r')) : Met l yX12_append wsX12_append ({ frames := 0, cells := 0, slots := 0, locals := 0 }) (va_Pc [.ref (P 65), .int a1, .int a2, .int a3] (gPre s0 D [(cI, .int), (cZ, .boolean), (cC, .char), (cJ, .long), (cA, .array .int)] (aP P 77) ((wX cI cZ cC cJ cA P) M))) (gQv D (aP P 77) ((wX cI cZ cC cJ cA P) M')) 0 0 (aP P 77) := by
  refine Met.ofW (cc := cX12_append) (maxL := 4) (ret := none) (by decide) rfl ?_
  intro p e s m args below meth c s₁ B hml hv
  obtain ⟨rfl, hP, hK, hD, hO⟩ := hv
  have hx := B.exec
  have hb := B.bytes
  have hr := B.returns
  have hlk := B.notSynchronized
  have hgt := fun w (h : w ∈ GT) => atoms_spec (ws := wsX12_append) B.pre w (List.mem_cons_of_mem _ h)
  have hown : s.vm.findClass RX12 = some m.cls := findClass_of_methodNamed B.named
  have hS : va_S (aP P 77) s.heap s.heap [] := va_S.rf
  have hl := lv_entry ([.ref (P 65), .int a1, .int a2, .int a3]) (n := 4) (Nat.le_of_ble_eq_true rfl)
  rw [lg_entry_eq]
  generalize (lg_sl ([.ref (P 65), .int a1, .int a2, .int a3]) ++ List.replicate (4 - (lg_sl ([.ref (P 65), .int a1, .int a2, .int a3])).length) Slot.unset).toArray = ls at hl ⊢
  have hl : lv_has ls 4 [(0, .ref (P 65)), (1, .int a1), (2, .int a2), (3, .int a3)] := hl
  exact b_Steps_append_0 hx hb hml hr hlk hgt hown hK hO hAO M a1 a2 a3 s.heap [] ls hl hP hD hS h
end
