set_option maxHeartbeats 4000000 in
set_option maxRecDepth 20000 in
theorem lc_14 {p : Program} {l : Launch} {e : Env} {R : Room} {s : State} {m : MethodId} {args : Array Value} {below : List Frame} {meth : Method} {c : Code} {cells slots : Nat} {Q : State → Prop} {D : va_G} {cI cZ cC cJ cA : ClassId} {P P' : Nat → Nat} {lo b L : Nat} {A : Nat → Prop} {xs : Nat → Int32} (hx : p.tables.exec = Jvm.exec) (hb : c.code = cL_law) (hml : c.maxLocals = 7) (hgt : ∀ w ∈ GT, w.before args s = true) (hown : s.vm.findClass RL = some m.cls) (hK : va_K D vwCl [(cI, .int), (cZ, .boolean), (cC, .char), (cJ, .long), (cA, .array .int)] s) (X : LXt P P' lo A s) (hX : va_X b L xs s s.heap) (hbl : b < s.heap.size) (hbA : ¬ A b) (hRf : 4 ≤ R.frames) (hRl : 90 ≤ R.locals) (hcR : cells + 1 ≤ R.cells) (hsR : slots + 6 ≤ R.slots) (v : Int32) (i1 : vp_in (v + 1) L) (i2 : vp_in (v + 2) L) (i3 : vp_in (v + 3) L) {Mx My : Mm} {Lt : Nat} {K : Int} (hLt : Lt ≤ 480) (hKb : K + 5100 ≤ 2000000000) (rr : RR Lt K Mx My) {H : Heap} {locs : List Loc} {ls : Array Slot} (hl : lv_has ls 7 [(4, .int v), (0, .ref b), (1, .ref (P 0)), (2, .ref (P' 0)), (3, .ref lo)]) (h : LSt D cI cZ cC cJ cA P P' lo A s Mx My H locs) (kk : ∀ (Mx' My' : Mm) (Lt' : Nat) (H : Heap) (locs : List Loc) (ls : Array Slot) (k n : Nat), k ≤ cells + 1 → n ≤ slots + 6 → Lt' ≤ 480 → RR Lt' (K + 5100) Mx' My' → lv_has ls 7 [(4, .int v), (0, .ref b), (1, .ref (P 0)), (2, .ref (P' 0)), (3, .ref lo)] → LSt D cI cZ cC cJ cA P P' lo A s Mx' My' H locs → W p l e R s m args below meth c H locs k n Q (F0 m 706 ls [])) : W p l e R s m args below meth c H locs cells slots Q (F0 m 556 ls []) := by
  refine lv_aload_n hx hb dL_law_556 rfl (lv_at hl 2 rfl) ?_
  refine lv_aload_n hx hb dL_law_557 rfl (lv_at hl 1 rfl) ?_
  refine lv_iload hx hb dL_law_558 (lv_at hl 0 rfl) ?_
  refine lv_iconst (v := 1) hx hb dL_law_560 (by decide) ?_
  refine lv_iadd hx hb dL_law_561 ?_
  refine va_sld hx hb hX hbl hbA h.S i1 dL_law_562 ?_
  refine W.eq (g2 := F0 m 563 ls [.int (xs (v + 1).toNatClampNeg), .ref (P 0)]) rfl ?_
  refine lv_aload_n hx hb dL_law_563 rfl (lv_at hl 1 rfl) ?_
  refine lv_iload hx hb dL_law_564 (lv_at hl 0 rfl) ?_
  refine lv_iconst (v := 2) hx hb dL_law_566 (by decide) ?_
  refine lv_iadd hx hb dL_law_567 ?_
  refine va_sld hx hb hX hbl hbA h.S i2 dL_law_568 ?_
  refine W.eq (g2 := F0 m 569 ls [.int (xs (v + 2).toNatClampNeg), .int (xs (v + 1).toNatClampNeg), .ref (P 0)]) rfl ?_
  refine lv_aload_n hx hb dL_law_569 rfl (lv_at hl 1 rfl) ?_
  refine lv_iload hx hb dL_law_570 (lv_at hl 0 rfl) ?_
  refine lv_iconst (v := 3) hx hb dL_law_572 (by decide) ?_
  refine lv_iadd hx hb dL_law_573 ?_
  refine va_sld hx hb hX hbl hbA h.S i3 dL_law_574 ?_
  refine W.eq (g2 := F0 m 575 ls [.int (xs (v + 3).toNatClampNeg), .int (xs (v + 2).toNatClampNeg), .int (xs (v + 1).toNatClampNeg), .ref (P 0)]) rfl ?_
  obtain ⟨Mx1, r1, My1, r2, q1, q2, rr⟩ := rr_step rr hKb (xs (v + 1).toNatClampNeg) (xs (v + 2).toNatClampNeg) (xs (v + 3).toNatClampNeg)
  refine lwX X h (va_runV (As := [.int (xs (v + 1).toNatClampNeg), .int (xs (v + 2).toNatClampNeg), .int (xs (v + 3).toNatClampNeg)]) (rest := []) ⟨hx, hb, hml, hown, hgt⟩ (z_ChipMap_step l D cI cZ cC cJ cA P s (fun q hq => X.AO q (X.xA q hq)) Mx (xs (v + 1).toNatClampNeg) (xs (v + 2).toNatClampNeg) (xs (v + 3).toNatClampNeg) Mx1 r1 q1) (cwV 3 hgt (gV wd_3_28 wd_3_29 wd_3_30 wd_0_1 wd_3_31) rfl rfl rfl (by decide +kernel) ⟨Nat.le_trans (by decide) hRf, Nat.le_trans (by decide) hRl⟩) (prL h.x hK h.dx (Old.rf s) X.AO h.S (va_recv hK h.x (ci := 0) (q0 := 0) rfl gX_0)) rfl rfl hl.1 rfl (lv_room (Nat.le_of_ble_eq_true rfl)) dL_law_575 ⟨Nat.le_of_succ_le hcR, Nat.le_trans (Nat.le_add_right _ _) hsR⟩) (fun H locs h => ?_)
  refine lv_pop hx hb dL_law_578 rfl ?_
  refine lv_aload_n hx hb dL_law_579 rfl (lv_at hl 3 rfl) ?_
  refine lv_aload_n hx hb dL_law_580 rfl (lv_at hl 1 rfl) ?_
  refine lv_iload hx hb dL_law_581 (lv_at hl 0 rfl) ?_
  refine lv_iconst (v := 1) hx hb dL_law_583 (by decide) ?_
  refine lv_iadd hx hb dL_law_584 ?_
  refine va_sld hx hb hX hbl hbA h.S i1 dL_law_585 ?_
  refine W.eq (g2 := F0 m 586 ls [.int (xs (v + 1).toNatClampNeg), .ref (P' 0)]) rfl ?_
  refine lv_aload_n hx hb dL_law_586 rfl (lv_at hl 1 rfl) ?_
  refine lv_iload hx hb dL_law_587 (lv_at hl 0 rfl) ?_
  refine lv_iconst (v := 2) hx hb dL_law_589 (by decide) ?_
  refine lv_iadd hx hb dL_law_590 ?_
  refine va_sld hx hb hX hbl hbA h.S i2 dL_law_591 ?_
  refine W.eq (g2 := F0 m 592 ls [.int (xs (v + 2).toNatClampNeg), .int (xs (v + 1).toNatClampNeg), .ref (P' 0)]) rfl ?_
  refine lv_aload_n hx hb dL_law_592 rfl (lv_at hl 1 rfl) ?_
  refine lv_iload hx hb dL_law_593 (lv_at hl 0 rfl) ?_
  refine lv_iconst (v := 3) hx hb dL_law_595 (by decide) ?_
  refine lv_iadd hx hb dL_law_596 ?_
  refine va_sld hx hb hX hbl hbA h.S i3 dL_law_597 ?_
  refine W.eq (g2 := F0 m 598 ls [.int (xs (v + 3).toNatClampNeg), .int (xs (v + 2).toNatClampNeg), .int (xs (v + 1).toNatClampNeg), .ref (P' 0)]) rfl ?_
  refine lwY X h (va_runV (As := [.int (xs (v + 1).toNatClampNeg), .int (xs (v + 2).toNatClampNeg), .int (xs (v + 3).toNatClampNeg)]) (rest := []) ⟨hx, hb, hml, hown, hgt⟩ (z_ChipMapModel_step l D cI cZ cC cJ cA P' s (fun q hq => X.AO q (X.yA q hq)) My (xs (v + 1).toNatClampNeg) (xs (v + 2).toNatClampNeg) (xs (v + 3).toNatClampNeg) My1 r2 q2) (cwV 3 hgt (gV wd_6_194 wd_6_195 wd_6_196 wd_0_15 wd_6_197) rfl rfl rfl (by decide +kernel) ⟨Nat.le_trans (by decide) hRf, Nat.le_trans (by decide) hRl⟩) (prL h.y hK h.dy (Old.rf s) X.AO h.S (va_recv hK h.y (ci := 1) (q0 := 0) rfl gY_0)) rfl rfl hl.1 rfl (lv_room (Nat.le_of_ble_eq_true rfl)) dL_law_598 ⟨Nat.le_of_succ_le hcR, Nat.le_trans (Nat.le_add_right _ _) hsR⟩) (fun H locs h => ?_)
  refine lv_pop hx hb dL_law_601 rfl ?_
  refine lv_goto hx hb dL_law_602 (tgt := 706) rfl ?_
  exact kk Mx1 My1 Lt H locs ls cells slots (Nat.le_succ _) (Nat.le_add_right _ _) hLt rr (lv_sub hl [0, 1, 2, 3, 4] (l' := [(4, .int v), (0, .ref b), (1, .ref (P 0)), (2, .ref (P' 0)), (3, .ref lo)]) rfl) h
set_option maxHeartbeats 4000000 in
set_option maxRecDepth 20000 in
theorem lc_15 {p : Program} {l : Launch} {e : Env} {R : Room} {s : State} {m : MethodId} {args : Array Value} {below : List Frame} {meth : Method} {c : Code} {cells slots : Nat} {Q : State → Prop} {D : va_G} {cI cZ cC cJ cA : ClassId} {P P' : Nat → Nat} {lo b L : Nat} {A : Nat → Prop} {xs : Nat → Int32} (hx : p.tables.exec = Jvm.exec) (hb : c.code = cL_law) (hml : c.maxLocals = 7) (hgt : ∀ w ∈ GT, w.before args s = true) (hown : s.vm.findClass RL = some m.cls) (hK : va_K D vwCl [(cI, .int), (cZ, .boolean), (cC, .char), (cJ, .long), (cA, .array .int)] s) (X : LXt P P' lo A s) (hX : va_X b L xs s s.heap) (hbl : b < s.heap.size) (hbA : ¬ A b) (hRf : 2 ≤ R.frames) (hRl : 41 ≤ R.locals) (hcR : cells + 1 ≤ R.cells) (hsR : slots + 6 ≤ R.slots) (v : Int32) (i1 : vp_in (v + 1) L) (i2 : vp_in (v + 2) L) (i3 : vp_in (v + 3) L) {Mx My : Mm} {Lt : Nat} {K : Int} (hLt : Lt ≤ 480) (hKb : K + 5100 ≤ 2000000000) (rr : RR Lt K Mx My) {H : Heap} {locs : List Loc} {ls : Array Slot} (hl : lv_has ls 7 [(4, .int v), (0, .ref b), (1, .ref (P 0)), (2, .ref (P' 0)), (3, .ref lo)]) (h : LSt D cI cZ cC cJ cA P P' lo A s Mx My H locs) (kk : ∀ (Mx' My' : Mm) (Lt' : Nat) (H : Heap) (locs : List Loc) (ls : Array Slot) (k n : Nat), k ≤ cells + 1 → n ≤ slots + 6 → Lt' ≤ 480 → RR Lt' (K + 5100) Mx' My' → lv_has ls 7 [(4, .int v), (0, .ref b), (1, .ref (P 0)), (2, .ref (P' 0)), (3, .ref lo)] → LSt D cI cZ cC cJ cA P P' lo A s Mx' My' H locs → W p l e R s m args below meth c H locs k n Q (F0 m 706 ls [])) : W p l e R s m args below meth c H locs cells slots Q (F0 m 605 ls []) := by
  refine lv_aload_n hx hb dL_law_605 rfl (lv_at hl 2 rfl) ?_
  obtain ⟨Mx1, r1, My1, r2, q1, q2, rr⟩ := rr_erase rr hKb
  refine lwX X h (va_runV (As := []) (rest := []) ⟨hx, hb, hml, hown, hgt⟩ (z_ChipMap_erase l D cI cZ cC cJ cA P s (fun q hq => X.AO q (X.xA q hq)) Mx Mx1 r1 q1) (cwV 0 hgt (gV wd_3_40 wd_3_41 wd_3_42 wd_0_1 wd_3_43) rfl rfl rfl (by decide +kernel) ⟨Nat.le_trans (by decide) hRf, Nat.le_trans (by decide) hRl⟩) (prL h.x hK h.dx (Old.rf s) X.AO h.S (va_recv hK h.x (ci := 0) (q0 := 0) rfl gX_0)) rfl rfl hl.1 rfl (lv_room (Nat.le_of_ble_eq_true rfl)) dL_law_606 ⟨Nat.le_of_succ_le hcR, Nat.le_trans (Nat.le_add_right _ _) hsR⟩) (fun H locs h => ?_)
  refine lv_pop hx hb dL_law_609 rfl ?_
  refine lv_aload_n hx hb dL_law_610 rfl (lv_at hl 3 rfl) ?_
  refine lwY X h (va_runV (As := []) (rest := []) ⟨hx, hb, hml, hown, hgt⟩ (z_ChipMapModel_erase l D cI cZ cC cJ cA P' s (fun q hq => X.AO q (X.yA q hq)) My My1 r2 q2) (cwV 0 hgt (gV wd_6_198 wd_6_199 wd_6_200 wd_0_15 wd_6_201) rfl rfl rfl (by decide +kernel) ⟨Nat.le_trans (by decide) hRf, Nat.le_trans (by decide) hRl⟩) (prL h.y hK h.dy (Old.rf s) X.AO h.S (va_recv hK h.y (ci := 1) (q0 := 0) rfl gY_0)) rfl rfl hl.1 rfl (lv_room (Nat.le_of_ble_eq_true rfl)) dL_law_611 ⟨Nat.le_of_succ_le hcR, Nat.le_trans (Nat.le_add_right _ _) hsR⟩) (fun H locs h => ?_)
  refine lv_pop hx hb dL_law_614 rfl ?_
  refine lv_goto hx hb dL_law_615 (tgt := 706) rfl ?_
  exact kk Mx1 My1 Lt H locs ls cells slots (Nat.le_succ _) (Nat.le_add_right _ _) hLt rr (lv_sub hl [0, 1, 2, 3, 4] (l' := [(4, .int v), (0, .ref b), (1, .ref (P 0)), (2, .ref (P' 0)), (3, .ref lo)]) rfl) h
set_option maxHeartbeats 4000000 in
set_option maxRecDepth 20000 in
theorem lc_16 {p : Program} {l : Launch} {e : Env} {R : Room} {s : State} {m : MethodId} {args : Array Value} {below : List Frame} {meth : Method} {c : Code} {cells slots : Nat} {Q : State → Prop} {D : va_G} {cI cZ cC cJ cA : ClassId} {P P' : Nat → Nat} {lo b L : Nat} {A : Nat → Prop} {xs : Nat → Int32} (hx : p.tables.exec = Jvm.exec) (hb : c.code = cL_law) (hml : c.maxLocals = 7) (hgt : ∀ w ∈ GT, w.before args s = true) (hown : s.vm.findClass RL = some m.cls) (hK : va_K D vwCl [(cI, .int), (cZ, .boolean), (cC, .char), (cJ, .long), (cA, .array .int)] s) (X : LXt P P' lo A s) (hX : va_X b L xs s s.heap) (hbl : b < s.heap.size) (hbA : ¬ A b) (hRf : 9 ≤ R.frames) (hRl : 204 ≤ R.locals) (hcR : cells + 1 ≤ R.cells) (hsR : slots + 6 ≤ R.slots) (v : Int32) (i1 : vp_in (v + 1) L) (i2 : vp_in (v + 2) L) (i3 : vp_in (v + 3) L) {Mx My : Mm} {Lt : Nat} {K : Int} (hLt : Lt ≤ 480) (hKb : K + 5100 ≤ 2000000000) (rr : RR Lt K Mx My) {H : Heap} {locs : List Loc} {ls : Array Slot} (hl : lv_has ls 7 [(4, .int v), (0, .ref b), (1, .ref (P 0)), (2, .ref (P' 0)), (3, .ref lo)]) (h : LSt D cI cZ cC cJ cA P P' lo A s Mx My H locs) (kk : ∀ (Mx' My' : Mm) (Lt' : Nat) (H : Heap) (locs : List Loc) (ls : Array Slot) (k n : Nat), k ≤ cells + 1 → n ≤ slots + 6 → Lt' ≤ 480 → RR Lt' (K + 5100) Mx' My' → lv_has ls 7 [(4, .int v), (0, .ref b), (1, .ref (P 0)), (2, .ref (P' 0)), (3, .ref lo)] → LSt D cI cZ cC cJ cA P P' lo A s Mx' My' H locs → W p l e R s m args below meth c H locs k n Q (F0 m 706 ls [])) : W p l e R s m args below meth c H locs cells slots Q (F0 m 618 ls []) := by
  refine lv_aload_n hx hb dL_law_618 rfl (lv_at hl 2 rfl) ?_
  obtain ⟨Mx1, r1, My1, r2, q1, q2, rr⟩ := rr_check rr hKb
  refine lwX X h (va_runV (As := []) (rest := []) ⟨hx, hb, hml, hown, hgt⟩ (z_ChipMap_check l D cI cZ cC cJ cA P s (fun q hq => X.AO q (X.xA q hq)) Mx Mx1 r1 q1) (cwV 0 hgt (gV wd_3_44 wd_3_45 wd_3_46 wd_0_1 wd_3_47) rfl rfl rfl (by decide +kernel) ⟨Nat.le_trans (by decide) hRf, Nat.le_trans (by decide) hRl⟩) (prL h.x hK h.dx (Old.rf s) X.AO h.S (va_recv hK h.x (ci := 0) (q0 := 0) rfl gX_0)) rfl rfl hl.1 rfl (lv_room (Nat.le_of_ble_eq_true rfl)) dL_law_619 ⟨Nat.le_of_succ_le hcR, Nat.le_trans (Nat.le_add_right _ _) hsR⟩) (fun H locs h => ?_)
  refine lv_pop hx hb dL_law_622 rfl ?_
  refine lv_aload_n hx hb dL_law_623 rfl (lv_at hl 3 rfl) ?_
  refine lwY X h (va_runV (As := []) (rest := []) ⟨hx, hb, hml, hown, hgt⟩ (z_ChipMapModel_check l D cI cZ cC cJ cA P' s (fun q hq => X.AO q (X.yA q hq)) My My1 r2 q2) (cwV 0 hgt (gV wd_6_202 wd_6_203 wd_6_204 wd_0_15 wd_6_205) rfl rfl rfl (by decide +kernel) ⟨Nat.le_trans (by decide) hRf, Nat.le_trans (by decide) hRl⟩) (prL h.y hK h.dy (Old.rf s) X.AO h.S (va_recv hK h.y (ci := 1) (q0 := 0) rfl gY_0)) rfl rfl hl.1 rfl (lv_room (Nat.le_of_ble_eq_true rfl)) dL_law_624 ⟨Nat.le_of_succ_le hcR, Nat.le_trans (Nat.le_add_right _ _) hsR⟩) (fun H locs h => ?_)
  refine lv_pop hx hb dL_law_627 rfl ?_
  refine lv_goto hx hb dL_law_628 (tgt := 706) rfl ?_
  exact kk Mx1 My1 Lt H locs ls cells slots (Nat.le_succ _) (Nat.le_add_right _ _) hLt rr (lv_sub hl [0, 1, 2, 3, 4] (l' := [(4, .int v), (0, .ref b), (1, .ref (P 0)), (2, .ref (P' 0)), (3, .ref lo)]) rfl) h
set_option maxHeartbeats 4000000 in
set_option maxRecDepth 20000 in
theorem lc_17 {p : Program} {l : Launch} {e : Env} {R : Room} {s : State} {m : MethodId} {args : Array Value} {below : List Frame} {meth : Method} {c : Code} {cells slots : Nat} {Q : State → Prop} {D : va_G} {cI cZ cC cJ cA : ClassId} {P P' : Nat → Nat} {lo b L : Nat} {A : Nat → Prop} {xs : Nat → Int32} (hx : p.tables.exec = Jvm.exec) (hb : c.code = cL_law) (hml : c.maxLocals = 7) (hgt : ∀ w ∈ GT, w.before args s = true) (hown : s.vm.findClass RL = some m.cls) (hK : va_K D vwCl [(cI, .int), (cZ, .boolean), (cC, .char), (cJ, .long), (cA, .array .int)] s) (X : LXt P P' lo A s) (hX : va_X b L xs s s.heap) (hbl : b < s.heap.size) (hbA : ¬ A b) (hRf : 1 ≤ R.frames) (hRl : 21 ≤ R.locals) (hcR : cells + 1 ≤ R.cells) (hsR : slots + 6 ≤ R.slots) (v : Int32) (i1 : vp_in (v + 1) L) (i2 : vp_in (v + 2) L) (i3 : vp_in (v + 3) L) {Mx My : Mm} {Lt : Nat} {K : Int} (hLt : Lt ≤ 480) (hKb : K + 5100 ≤ 2000000000) (rr : RR Lt K Mx My) {H : Heap} {locs : List Loc} {ls : Array Slot} (hl : lv_has ls 7 [(4, .int v), (0, .ref b), (1, .ref (P 0)), (2, .ref (P' 0)), (3, .ref lo)]) (h : LSt D cI cZ cC cJ cA P P' lo A s Mx My H locs) (kk : ∀ (Mx' My' : Mm) (Lt' : Nat) (H : Heap) (locs : List Loc) (ls : Array Slot) (k n : Nat), k ≤ cells + 1 → n ≤ slots + 6 → Lt' ≤ 480 → RR Lt' (K + 5100) Mx' My' → lv_has ls 7 [(4, .int v), (0, .ref b), (1, .ref (P 0)), (2, .ref (P' 0)), (3, .ref lo)] → LSt D cI cZ cC cJ cA P P' lo A s Mx' My' H locs → W p l e R s m args below meth c H locs k n Q (F0 m 706 ls [])) : W p l e R s m args below meth c H locs cells slots Q (F0 m 631 ls []) := by
  refine lv_aload_n hx hb dL_law_631 rfl (lv_at hl 2 rfl) ?_
  refine lv_aload_n hx hb dL_law_632 rfl (lv_at hl 1 rfl) ?_
  refine lv_iload hx hb dL_law_633 (lv_at hl 0 rfl) ?_
  refine lv_iconst (v := 1) hx hb dL_law_635 (by decide) ?_
  refine lv_iadd hx hb dL_law_636 ?_
  refine va_sld hx hb hX hbl hbA h.S i1 dL_law_637 ?_
  refine W.eq (g2 := F0 m 638 ls [.int (xs (v + 1).toNatClampNeg), .ref (P 0)]) rfl ?_
  obtain ⟨Mx1, r1, My1, r2, q1, q2, rr⟩ := rr_found rr hKb (xs (v + 1).toNatClampNeg)
  refine lwX X h (va_runV (As := [.int (xs (v + 1).toNatClampNeg)]) (rest := []) ⟨hx, hb, hml, hown, hgt⟩ (z_ChipMap_found l D cI cZ cC cJ cA P s (fun q hq => X.AO q (X.xA q hq)) Mx (xs (v + 1).toNatClampNeg) Mx1 r1 q1) (cwV 1 hgt (gV wd_3_101 wd_3_102 wd_3_103 wd_0_1 wd_3_104) rfl rfl rfl (by decide +kernel) ⟨Nat.le_trans (by decide) hRf, Nat.le_trans (by decide) hRl⟩) (prL h.x hK h.dx (Old.rf s) X.AO h.S (va_recv hK h.x (ci := 0) (q0 := 0) rfl gX_0)) rfl rfl hl.1 rfl (lv_room (Nat.le_of_ble_eq_true rfl)) dL_law_638 ⟨Nat.le_of_succ_le hcR, Nat.le_trans (Nat.le_add_right _ _) hsR⟩) (fun H locs h => ?_)
  refine lv_pop hx hb dL_law_641 rfl ?_
  refine lv_aload_n hx hb dL_law_642 rfl (lv_at hl 3 rfl) ?_
  refine lv_aload_n hx hb dL_law_643 rfl (lv_at hl 1 rfl) ?_
  refine lv_iload hx hb dL_law_644 (lv_at hl 0 rfl) ?_
  refine lv_iconst (v := 1) hx hb dL_law_646 (by decide) ?_
  refine lv_iadd hx hb dL_law_647 ?_
  refine va_sld hx hb hX hbl hbA h.S i1 dL_law_648 ?_
  refine W.eq (g2 := F0 m 649 ls [.int (xs (v + 1).toNatClampNeg), .ref (P' 0)]) rfl ?_
  refine lwY X h (va_runV (As := [.int (xs (v + 1).toNatClampNeg)]) (rest := []) ⟨hx, hb, hml, hown, hgt⟩ (z_ChipMapModel_found l D cI cZ cC cJ cA P' s (fun q hq => X.AO q (X.yA q hq)) My (xs (v + 1).toNatClampNeg) My1 r2 q2) (cwV 1 hgt (gV wd_6_226 wd_6_227 wd_6_228 wd_0_15 wd_6_229) rfl rfl rfl (by decide +kernel) ⟨Nat.le_trans (by decide) hRf, Nat.le_trans (by decide) hRl⟩) (prL h.y hK h.dy (Old.rf s) X.AO h.S (va_recv hK h.y (ci := 1) (q0 := 0) rfl gY_0)) rfl rfl hl.1 rfl (lv_room (Nat.le_of_ble_eq_true rfl)) dL_law_649 ⟨Nat.le_of_succ_le hcR, Nat.le_trans (Nat.le_add_right _ _) hsR⟩) (fun H locs h => ?_)
  refine lv_pop hx hb dL_law_652 rfl ?_
  refine lv_goto hx hb dL_law_653 (tgt := 706) rfl ?_
  exact kk Mx1 My1 Lt H locs ls cells slots (Nat.le_succ _) (Nat.le_add_right _ _) hLt rr (lv_sub hl [0, 1, 2, 3, 4] (l' := [(4, .int v), (0, .ref b), (1, .ref (P 0)), (2, .ref (P' 0)), (3, .ref lo)]) rfl) h
set_option maxHeartbeats 4000000 in
set_option maxRecDepth 20000 in
theorem lc_18 {p : Program} {l : Launch} {e : Env} {R : Room} {s : State} {m : MethodId} {args : Array Value} {below : List Frame} {meth : Method} {c : Code} {cells slots : Nat} {Q : State → Prop} {D : va_G} {cI cZ cC cJ cA : ClassId} {P P' : Nat → Nat} {lo b L : Nat} {A : Nat → Prop} {xs : Nat → Int32} (hx : p.tables.exec = Jvm.exec) (hb : c.code = cL_law) (hml : c.maxLocals = 7) (hgt : ∀ w ∈ GT, w.before args s = true) (hown : s.vm.findClass RL = some m.cls) (hK : va_K D vwCl [(cI, .int), (cZ, .boolean), (cC, .char), (cJ, .long), (cA, .array .int)] s) (X : LXt P P' lo A s) (hX : va_X b L xs s s.heap) (hbl : b < s.heap.size) (hbA : ¬ A b) (hRf : 8 ≤ R.frames) (hRl : 186 ≤ R.locals) (hcR : cells + 1 ≤ R.cells) (hsR : slots + 6 ≤ R.slots) (v : Int32) (i1 : vp_in (v + 1) L) (i2 : vp_in (v + 2) L) (i3 : vp_in (v + 3) L) {Mx My : Mm} {Lt : Nat} {K : Int} (hLt : Lt ≤ 480) (hKb : K + 5100 ≤ 2000000000) (rr : RR Lt K Mx My) {H : Heap} {locs : List Loc} {ls : Array Slot} (hl : lv_has ls 7 [(4, .int v), (0, .ref b), (1, .ref (P 0)), (2, .ref (P' 0)), (3, .ref lo)]) (h : LSt D cI cZ cC cJ cA P P' lo A s Mx My H locs) (kk : ∀ (Mx' My' : Mm) (Lt' : Nat) (H : Heap) (locs : List Loc) (ls : Array Slot) (k n : Nat), k ≤ cells + 1 → n ≤ slots + 6 → Lt' ≤ 480 → RR Lt' (K + 5100) Mx' My' → lv_has ls 7 [(4, .int v), (0, .ref b), (1, .ref (P 0)), (2, .ref (P' 0)), (3, .ref lo)] → LSt D cI cZ cC cJ cA P P' lo A s Mx' My' H locs → W p l e R s m args below meth c H locs k n Q (F0 m 706 ls [])) : W p l e R s m args below meth c H locs cells slots Q (F0 m 656 ls []) := by
  refine lv_aload_n hx hb dL_law_656 rfl (lv_at hl 2 rfl) ?_
  refine lv_aload_n hx hb dL_law_657 rfl (lv_at hl 1 rfl) ?_
  refine lv_iload hx hb dL_law_658 (lv_at hl 0 rfl) ?_
  refine lv_iconst (v := 1) hx hb dL_law_660 (by decide) ?_
  refine lv_iadd hx hb dL_law_661 ?_
  refine va_sld hx hb hX hbl hbA h.S i1 dL_law_662 ?_
  refine W.eq (g2 := F0 m 663 ls [.int (xs (v + 1).toNatClampNeg), .ref (P 0)]) rfl ?_
  obtain ⟨Mx1, r1, My1, r2, q1, q2, rr⟩ := rr_run rr hKb (xs (v + 1).toNatClampNeg)
  refine lwX X h (va_runV (As := [.int (xs (v + 1).toNatClampNeg)]) (rest := []) ⟨hx, hb, hml, hown, hgt⟩ (z_ChipMap_run l D cI cZ cC cJ cA P s (fun q hq => X.AO q (X.xA q hq)) Mx (xs (v + 1).toNatClampNeg) Mx1 r1 q1) (cwV 1 hgt (gV wd_3_105 wd_3_106 wd_3_107 wd_0_1 wd_3_108) rfl rfl rfl (by decide +kernel) ⟨Nat.le_trans (by decide) hRf, Nat.le_trans (by decide) hRl⟩) (prL h.x hK h.dx (Old.rf s) X.AO h.S (va_recv hK h.x (ci := 0) (q0 := 0) rfl gX_0)) rfl rfl hl.1 rfl (lv_room (Nat.le_of_ble_eq_true rfl)) dL_law_663 ⟨Nat.le_of_succ_le hcR, Nat.le_trans (Nat.le_add_right _ _) hsR⟩) (fun H locs h => ?_)
  refine lv_pop hx hb dL_law_666 rfl ?_
  refine lv_aload_n hx hb dL_law_667 rfl (lv_at hl 3 rfl) ?_
  refine lv_aload_n hx hb dL_law_668 rfl (lv_at hl 1 rfl) ?_
  refine lv_iload hx hb dL_law_669 (lv_at hl 0 rfl) ?_
  refine lv_iconst (v := 1) hx hb dL_law_671 (by decide) ?_
  refine lv_iadd hx hb dL_law_672 ?_
  refine va_sld hx hb hX hbl hbA h.S i1 dL_law_673 ?_
  refine W.eq (g2 := F0 m 674 ls [.int (xs (v + 1).toNatClampNeg), .ref (P' 0)]) rfl ?_
  refine lwY X h (va_runV (As := [.int (xs (v + 1).toNatClampNeg)]) (rest := []) ⟨hx, hb, hml, hown, hgt⟩ (z_ChipMapModel_run l D cI cZ cC cJ cA P' s (fun q hq => X.AO q (X.yA q hq)) My (xs (v + 1).toNatClampNeg) My1 r2 q2) (cwV 1 hgt (gV wd_6_230 wd_6_231 wd_6_232 wd_0_15 wd_6_233) rfl rfl rfl (by decide +kernel) ⟨Nat.le_trans (by decide) hRf, Nat.le_trans (by decide) hRl⟩) (prL h.y hK h.dy (Old.rf s) X.AO h.S (va_recv hK h.y (ci := 1) (q0 := 0) rfl gY_0)) rfl rfl hl.1 rfl (lv_room (Nat.le_of_ble_eq_true rfl)) dL_law_674 ⟨Nat.le_of_succ_le hcR, Nat.le_trans (Nat.le_add_right _ _) hsR⟩) (fun H locs h => ?_)
  refine lv_pop hx hb dL_law_677 rfl ?_
  refine lv_goto hx hb dL_law_678 (tgt := 706) rfl ?_
  exact kk Mx1 My1 Lt H locs ls cells slots (Nat.le_succ _) (Nat.le_add_right _ _) hLt rr (lv_sub hl [0, 1, 2, 3, 4] (l' := [(4, .int v), (0, .ref b), (1, .ref (P 0)), (2, .ref (P' 0)), (3, .ref lo)]) rfl) h
set_option maxHeartbeats 4000000 in
set_option maxRecDepth 20000 in
theorem lc_19 {p : Program} {l : Launch} {e : Env} {R : Room} {s : State} {m : MethodId} {args : Array Value} {below : List Frame} {meth : Method} {c : Code} {cells slots : Nat} {Q : State → Prop} {D : va_G} {cI cZ cC cJ cA : ClassId} {P P' : Nat → Nat} {lo b L : Nat} {A : Nat → Prop} {xs : Nat → Int32} (hx : p.tables.exec = Jvm.exec) (hb : c.code = cL_law) (hml : c.maxLocals = 7) (hgt : ∀ w ∈ GT, w.before args s = true) (hown : s.vm.findClass RL = some m.cls) (hK : va_K D vwCl [(cI, .int), (cZ, .boolean), (cC, .char), (cJ, .long), (cA, .array .int)] s) (X : LXt P P' lo A s) (hX : va_X b L xs s s.heap) (hbl : b < s.heap.size) (hbA : ¬ A b) (hRf : 1 ≤ R.frames) (hRl : 21 ≤ R.locals) (hcR : cells + 1 ≤ R.cells) (hsR : slots + 6 ≤ R.slots) (v : Int32) (i1 : vp_in (v + 1) L) (i2 : vp_in (v + 2) L) (i3 : vp_in (v + 3) L) {Mx My : Mm} {Lt : Nat} {K : Int} (hLt : Lt ≤ 480) (hKb : K + 5100 ≤ 2000000000) (rr : RR Lt K Mx My) {H : Heap} {locs : List Loc} {ls : Array Slot} (hl : lv_has ls 7 [(4, .int v), (0, .ref b), (1, .ref (P 0)), (2, .ref (P' 0)), (3, .ref lo)]) (h : LSt D cI cZ cC cJ cA P P' lo A s Mx My H locs) (kk : ∀ (Mx' My' : Mm) (Lt' : Nat) (H : Heap) (locs : List Loc) (ls : Array Slot) (k n : Nat), k ≤ cells + 1 → n ≤ slots + 6 → Lt' ≤ 480 → RR Lt' (K + 5100) Mx' My' → lv_has ls 7 [(4, .int v), (0, .ref b), (1, .ref (P 0)), (2, .ref (P' 0)), (3, .ref lo)] → LSt D cI cZ cC cJ cA P P' lo A s Mx' My' H locs → W p l e R s m args below meth c H locs k n Q (F0 m 706 ls [])) : W p l e R s m args below meth c H locs cells slots Q (F0 m 681 ls []) := by
  refine lv_aload_n hx hb dL_law_681 rfl (lv_at hl 2 rfl) ?_
  refine lv_aload_n hx hb dL_law_682 rfl (lv_at hl 1 rfl) ?_
  refine lv_iload hx hb dL_law_683 (lv_at hl 0 rfl) ?_
  refine lv_iconst (v := 1) hx hb dL_law_685 (by decide) ?_
  refine lv_iadd hx hb dL_law_686 ?_
  refine va_sld hx hb hX hbl hbA h.S i1 dL_law_687 ?_
  refine W.eq (g2 := F0 m 688 ls [.int (xs (v + 1).toNatClampNeg), .ref (P 0)]) rfl ?_
  obtain ⟨Mx1, r1, My1, r2, q1, q2, rr, hr⟩ := rr_state rr hKb (xs (v + 1).toNatClampNeg)
  refine lwX X h (va_runV (As := [.int (xs (v + 1).toNatClampNeg)]) (rest := []) ⟨hx, hb, hml, hown, hgt⟩ (z_ChipMap_state l D cI cZ cC cJ cA P s (fun q hq => X.AO q (X.xA q hq)) Mx (xs (v + 1).toNatClampNeg) Mx1 r1 q1) (cwV 1 hgt (gV wd_3_126 wd_3_127 wd_3_128 wd_0_1 wd_3_129) rfl rfl rfl (by decide +kernel) ⟨Nat.le_trans (by decide) hRf, Nat.le_trans (by decide) hRl⟩) (prL h.x hK h.dx (Old.rf s) X.AO h.S (va_recv hK h.x (ci := 0) (q0 := 0) rfl gX_0)) rfl rfl hl.1 rfl (lv_room (Nat.le_of_ble_eq_true rfl)) dL_law_688 ⟨Nat.le_of_succ_le hcR, Nat.le_trans (Nat.le_add_right _ _) hsR⟩) (fun H locs h => ?_)
  refine lv_aload_n hx hb dL_law_691 rfl (lv_at hl 3 rfl) ?_
  refine lv_aload_n hx hb dL_law_692 rfl (lv_at hl 1 rfl) ?_
  refine lv_iload hx hb dL_law_693 (lv_at hl 0 rfl) ?_
  refine lv_iconst (v := 1) hx hb dL_law_695 (by decide) ?_
  refine lv_iadd hx hb dL_law_696 ?_
  refine va_sld hx hb hX hbl hbA h.S i1 dL_law_697 ?_
  refine W.eq (g2 := F0 m 698 ls [.int (xs (v + 1).toNatClampNeg), .ref (P' 0), .int r1]) rfl ?_
  refine lwY X h (va_runV (As := [.int (xs (v + 1).toNatClampNeg)]) (rest := [.int r1]) ⟨hx, hb, hml, hown, hgt⟩ (z_ChipMapModel_state l D cI cZ cC cJ cA P' s (fun q hq => X.AO q (X.yA q hq)) My (xs (v + 1).toNatClampNeg) My1 r2 q2) (cwV 1 hgt (gV wd_6_234 wd_6_235 wd_6_236 wd_0_15 wd_6_237) rfl rfl rfl (by decide +kernel) ⟨Nat.le_trans (by decide) hRf, Nat.le_trans (by decide) hRl⟩) (prL h.y hK h.dy (Old.rf s) X.AO h.S (va_recv hK h.y (ci := 1) (q0 := 0) rfl gY_0)) rfl rfl hl.1 rfl (lv_room (Nat.le_of_ble_eq_true rfl)) dL_law_698 ⟨Nat.le_of_succ_le hcR, Nat.le_trans (Nat.le_add_right _ _) hsR⟩) (fun H locs h => ?_)
  refine lv_icmp_eq hx hb dL_law_701 (tgt := 706) rfl (fun _ => ?_) (fun hc => absurd hr hc)
  exact kk Mx1 My1 Lt H locs ls cells slots (Nat.le_succ _) (Nat.le_add_right _ _) hLt rr (lv_sub hl [0, 1, 2, 3, 4] (l' := [(4, .int v), (0, .ref b), (1, .ref (P 0)), (2, .ref (P' 0)), (3, .ref lo)]) rfl) h
