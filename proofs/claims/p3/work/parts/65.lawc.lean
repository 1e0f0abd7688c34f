set_option maxHeartbeats 4000000 in
set_option maxRecDepth 20000 in
theorem lc_14 {p : Program} {l : Launch} {e : Env} {R : Room} {s : State} {m : MethodId} {args : Array Value} {below : List Frame} {meth : Method} {c : Code} {cells slots : Nat} {Q : State → Prop} {D : va_G} {cI cZ cC cJ cA : ClassId} {P P' : Nat → Nat} {lo b L : Nat} {A : Nat → Prop} {xs : Nat → Int32} (hx : p.tables.exec = Jvm.exec) (hb : c.code = cL_law) (hml : c.maxLocals = 7) (hgt : ∀ w ∈ GT, w.before args s = true) (hown : s.vm.findClass RL = some m.cls) (hK : va_K D vwCl [(cI, .int), (cZ, .boolean), (cC, .char), (cJ, .long), (cA, .array .int)] s) (X : LXt P P' lo A s) (hX : va_X b L xs s s.heap) (hbl : b < s.heap.size) (hbA : ¬ A b) (hRf : 4 ≤ R.frames) (hRl : 90 ≤ R.locals) (hcR : cells + 1 ≤ R.cells) (hsR : slots + 6 ≤ R.slots) (v : Int32) (i1 : vp_in (v + 1) L) (i2 : vp_in (v + 2) L) (i3 : vp_in (v + 3) L) {Mx My : Mm} {Lt : Nat} {K : Int} (hLt : Lt ≤ 480) (hKb : K + 5100 ≤ 2000000000) (rr : RR Lt K Mx My) {H : Heap} {locs : List Loc} {ls : Array Slot} (hl : lv_has ls 7 [(4, .int v), (0, .ref b), (1, .ref (P 0)), (2, .ref (P' 0)), (3, .ref lo)]) (h : LSt D cI cZ cC cJ cA P P' lo A s Mx My H locs) (kk : ∀ (Mx' My' : Mm) (Lt' : Nat) (H : Heap) (locs : List Loc) (ls : Array Slot) (k n : Nat), k ≤ cells + 1 → n ≤ slots + 6 → Lt' ≤ 480 → RR Lt' (K + 5100) Mx' My' → lv_has ls 7 [(4, .int v), (0, .ref b), (1, .ref (P 0)), (2, .ref (P' 0)), (3, .ref lo)] → LSt D cI cZ cC cJ cA P P' lo A s Mx' My' H locs → W p l e R s m args below meth c H locs k n Q (F0 m 734 ls [])) : W p l e R s m args below meth c H locs cells slots Q (F0 m 584 ls []) := by
  refine lv_aload_n hx hb dL_law_584 rfl (lv_at hl 2 rfl) ?_
  refine lv_aload_n hx hb dL_law_585 rfl (lv_at hl 1 rfl) ?_
  refine lv_iload hx hb dL_law_586 (lv_at hl 0 rfl) ?_
  refine lv_iconst (v := 1) hx hb dL_law_588 (by decide) ?_
  refine lv_iadd hx hb dL_law_589 ?_
  refine va_sld hx hb hX hbl hbA h.S i1 dL_law_590 ?_
  refine W.eq (g2 := F0 m 591 ls [.int (xs (v + 1).toNatClampNeg), .ref (P 0)]) rfl ?_
  refine lv_aload_n hx hb dL_law_591 rfl (lv_at hl 1 rfl) ?_
  refine lv_iload hx hb dL_law_592 (lv_at hl 0 rfl) ?_
  refine lv_iconst (v := 2) hx hb dL_law_594 (by decide) ?_
  refine lv_iadd hx hb dL_law_595 ?_
  refine va_sld hx hb hX hbl hbA h.S i2 dL_law_596 ?_
  refine W.eq (g2 := F0 m 597 ls [.int (xs (v + 2).toNatClampNeg), .int (xs (v + 1).toNatClampNeg), .ref (P 0)]) rfl ?_
  refine lv_aload_n hx hb dL_law_597 rfl (lv_at hl 1 rfl) ?_
  refine lv_iload hx hb dL_law_598 (lv_at hl 0 rfl) ?_
  refine lv_iconst (v := 3) hx hb dL_law_600 (by decide) ?_
  refine lv_iadd hx hb dL_law_601 ?_
  refine va_sld hx hb hX hbl hbA h.S i3 dL_law_602 ?_
  refine W.eq (g2 := F0 m 603 ls [.int (xs (v + 3).toNatClampNeg), .int (xs (v + 2).toNatClampNeg), .int (xs (v + 1).toNatClampNeg), .ref (P 0)]) rfl ?_
  obtain ⟨Mx1, r1, My1, r2, q1, q2, rr⟩ := rr_step rr hKb (xs (v + 1).toNatClampNeg) (xs (v + 2).toNatClampNeg) (xs (v + 3).toNatClampNeg)
  refine lwX X h (va_runV (As := [.int (xs (v + 1).toNatClampNeg), .int (xs (v + 2).toNatClampNeg), .int (xs (v + 3).toNatClampNeg)]) (rest := []) ⟨hx, hb, hml, hown, hgt⟩ (z_ChipMap_step l D cI cZ cC cJ cA P s (fun q hq => X.AO q (X.xA q hq)) Mx (xs (v + 1).toNatClampNeg) (xs (v + 2).toNatClampNeg) (xs (v + 3).toNatClampNeg) Mx1 r1 q1) (cwV 3 hgt (gV wd_3_28 wd_3_29 wd_3_30 wd_0_1 wd_3_31) rfl rfl rfl (by decide +kernel) ⟨Nat.le_trans (by decide) hRf, Nat.le_trans (by decide) hRl⟩) (prL h.x hK h.dx (Old.rf s) X.AO h.S (va_recv hK h.x (ci := 0) (q0 := 0) rfl gX_0)) rfl rfl hl.1 rfl (lv_room (Nat.le_of_ble_eq_true rfl)) dL_law_603 ⟨Nat.le_of_succ_le hcR, Nat.le_trans (Nat.le_add_right _ _) hsR⟩) (fun H locs h => ?_)
  refine lv_pop hx hb dL_law_606 rfl ?_
  refine lv_aload_n hx hb dL_law_607 rfl (lv_at hl 3 rfl) ?_
  refine lv_aload_n hx hb dL_law_608 rfl (lv_at hl 1 rfl) ?_
  refine lv_iload hx hb dL_law_609 (lv_at hl 0 rfl) ?_
  refine lv_iconst (v := 1) hx hb dL_law_611 (by decide) ?_
  refine lv_iadd hx hb dL_law_612 ?_
  refine va_sld hx hb hX hbl hbA h.S i1 dL_law_613 ?_
  refine W.eq (g2 := F0 m 614 ls [.int (xs (v + 1).toNatClampNeg), .ref (P' 0)]) rfl ?_
  refine lv_aload_n hx hb dL_law_614 rfl (lv_at hl 1 rfl) ?_
  refine lv_iload hx hb dL_law_615 (lv_at hl 0 rfl) ?_
  refine lv_iconst (v := 2) hx hb dL_law_617 (by decide) ?_
  refine lv_iadd hx hb dL_law_618 ?_
  refine va_sld hx hb hX hbl hbA h.S i2 dL_law_619 ?_
  refine W.eq (g2 := F0 m 620 ls [.int (xs (v + 2).toNatClampNeg), .int (xs (v + 1).toNatClampNeg), .ref (P' 0)]) rfl ?_
  refine lv_aload_n hx hb dL_law_620 rfl (lv_at hl 1 rfl) ?_
  refine lv_iload hx hb dL_law_621 (lv_at hl 0 rfl) ?_
  refine lv_iconst (v := 3) hx hb dL_law_623 (by decide) ?_
  refine lv_iadd hx hb dL_law_624 ?_
  refine va_sld hx hb hX hbl hbA h.S i3 dL_law_625 ?_
  refine W.eq (g2 := F0 m 626 ls [.int (xs (v + 3).toNatClampNeg), .int (xs (v + 2).toNatClampNeg), .int (xs (v + 1).toNatClampNeg), .ref (P' 0)]) rfl ?_
  refine lwY X h (va_runV (As := [.int (xs (v + 1).toNatClampNeg), .int (xs (v + 2).toNatClampNeg), .int (xs (v + 3).toNatClampNeg)]) (rest := []) ⟨hx, hb, hml, hown, hgt⟩ (z_ChipMapModel_step l D cI cZ cC cJ cA P' s (fun q hq => X.AO q (X.yA q hq)) My (xs (v + 1).toNatClampNeg) (xs (v + 2).toNatClampNeg) (xs (v + 3).toNatClampNeg) My1 r2 q2) (cwV 3 hgt (gV wd_6_198 wd_6_199 wd_6_200 wd_0_15 wd_6_201) rfl rfl rfl (by decide +kernel) ⟨Nat.le_trans (by decide) hRf, Nat.le_trans (by decide) hRl⟩) (prL h.y hK h.dy (Old.rf s) X.AO h.S (va_recv hK h.y (ci := 1) (q0 := 0) rfl gY_0)) rfl rfl hl.1 rfl (lv_room (Nat.le_of_ble_eq_true rfl)) dL_law_626 ⟨Nat.le_of_succ_le hcR, Nat.le_trans (Nat.le_add_right _ _) hsR⟩) (fun H locs h => ?_)
  refine lv_pop hx hb dL_law_629 rfl ?_
  refine lv_goto hx hb dL_law_630 (tgt := 734) rfl ?_
  exact kk Mx1 My1 Lt H locs ls cells slots (Nat.le_succ _) (Nat.le_add_right _ _) hLt rr (lv_sub hl [0, 1, 2, 3, 4] (l' := [(4, .int v), (0, .ref b), (1, .ref (P 0)), (2, .ref (P' 0)), (3, .ref lo)]) rfl) h
set_option maxHeartbeats 4000000 in
set_option maxRecDepth 20000 in
theorem lc_15 {p : Program} {l : Launch} {e : Env} {R : Room} {s : State} {m : MethodId} {args : Array Value} {below : List Frame} {meth : Method} {c : Code} {cells slots : Nat} {Q : State → Prop} {D : va_G} {cI cZ cC cJ cA : ClassId} {P P' : Nat → Nat} {lo b L : Nat} {A : Nat → Prop} {xs : Nat → Int32} (hx : p.tables.exec = Jvm.exec) (hb : c.code = cL_law) (hml : c.maxLocals = 7) (hgt : ∀ w ∈ GT, w.before args s = true) (hown : s.vm.findClass RL = some m.cls) (hK : va_K D vwCl [(cI, .int), (cZ, .boolean), (cC, .char), (cJ, .long), (cA, .array .int)] s) (X : LXt P P' lo A s) (hX : va_X b L xs s s.heap) (hbl : b < s.heap.size) (hbA : ¬ A b) (hRf : 2 ≤ R.frames) (hRl : 41 ≤ R.locals) (hcR : cells + 1 ≤ R.cells) (hsR : slots + 6 ≤ R.slots) (v : Int32) (i1 : vp_in (v + 1) L) (i2 : vp_in (v + 2) L) (i3 : vp_in (v + 3) L) {Mx My : Mm} {Lt : Nat} {K : Int} (hLt : Lt ≤ 480) (hKb : K + 5100 ≤ 2000000000) (rr : RR Lt K Mx My) {H : Heap} {locs : List Loc} {ls : Array Slot} (hl : lv_has ls 7 [(4, .int v), (0, .ref b), (1, .ref (P 0)), (2, .ref (P' 0)), (3, .ref lo)]) (h : LSt D cI cZ cC cJ cA P P' lo A s Mx My H locs) (kk : ∀ (Mx' My' : Mm) (Lt' : Nat) (H : Heap) (locs : List Loc) (ls : Array Slot) (k n : Nat), k ≤ cells + 1 → n ≤ slots + 6 → Lt' ≤ 480 → RR Lt' (K + 5100) Mx' My' → lv_has ls 7 [(4, .int v), (0, .ref b), (1, .ref (P 0)), (2, .ref (P' 0)), (3, .ref lo)] → LSt D cI cZ cC cJ cA P P' lo A s Mx' My' H locs → W p l e R s m args below meth c H locs k n Q (F0 m 734 ls [])) : W p l e R s m args below meth c H locs cells slots Q (F0 m 633 ls []) := by
  refine lv_aload_n hx hb dL_law_633 rfl (lv_at hl 2 rfl) ?_
  obtain ⟨Mx1, r1, My1, r2, q1, q2, rr⟩ := rr_erase rr hKb
  refine lwX X h (va_runV (As := []) (rest := []) ⟨hx, hb, hml, hown, hgt⟩ (z_ChipMap_erase l D cI cZ cC cJ cA P s (fun q hq => X.AO q (X.xA q hq)) Mx Mx1 r1 q1) (cwV 0 hgt (gV wd_3_40 wd_3_41 wd_3_42 wd_0_1 wd_3_43) rfl rfl rfl (by decide +kernel) ⟨Nat.le_trans (by decide) hRf, Nat.le_trans (by decide) hRl⟩) (prL h.x hK h.dx (Old.rf s) X.AO h.S (va_recv hK h.x (ci := 0) (q0 := 0) rfl gX_0)) rfl rfl hl.1 rfl (lv_room (Nat.le_of_ble_eq_true rfl)) dL_law_634 ⟨Nat.le_of_succ_le hcR, Nat.le_trans (Nat.le_add_right _ _) hsR⟩) (fun H locs h => ?_)
  refine lv_pop hx hb dL_law_637 rfl ?_
  refine lv_aload_n hx hb dL_law_638 rfl (lv_at hl 3 rfl) ?_
  refine lwY X h (va_runV (As := []) (rest := []) ⟨hx, hb, hml, hown, hgt⟩ (z_ChipMapModel_erase l D cI cZ cC cJ cA P' s (fun q hq => X.AO q (X.yA q hq)) My My1 r2 q2) (cwV 0 hgt (gV wd_6_202 wd_6_203 wd_6_204 wd_0_15 wd_6_205) rfl rfl rfl (by decide +kernel) ⟨Nat.le_trans (by decide) hRf, Nat.le_trans (by decide) hRl⟩) (prL h.y hK h.dy (Old.rf s) X.AO h.S (va_recv hK h.y (ci := 1) (q0 := 0) rfl gY_0)) rfl rfl hl.1 rfl (lv_room (Nat.le_of_ble_eq_true rfl)) dL_law_639 ⟨Nat.le_of_succ_le hcR, Nat.le_trans (Nat.le_add_right _ _) hsR⟩) (fun H locs h => ?_)
  refine lv_pop hx hb dL_law_642 rfl ?_
  refine lv_goto hx hb dL_law_643 (tgt := 734) rfl ?_
  exact kk Mx1 My1 Lt H locs ls cells slots (Nat.le_succ _) (Nat.le_add_right _ _) hLt rr (lv_sub hl [0, 1, 2, 3, 4] (l' := [(4, .int v), (0, .ref b), (1, .ref (P 0)), (2, .ref (P' 0)), (3, .ref lo)]) rfl) h
set_option maxHeartbeats 4000000 in
set_option maxRecDepth 20000 in
theorem lc_16 {p : Program} {l : Launch} {e : Env} {R : Room} {s : State} {m : MethodId} {args : Array Value} {below : List Frame} {meth : Method} {c : Code} {cells slots : Nat} {Q : State → Prop} {D : va_G} {cI cZ cC cJ cA : ClassId} {P P' : Nat → Nat} {lo b L : Nat} {A : Nat → Prop} {xs : Nat → Int32} (hx : p.tables.exec = Jvm.exec) (hb : c.code = cL_law) (hml : c.maxLocals = 7) (hgt : ∀ w ∈ GT, w.before args s = true) (hown : s.vm.findClass RL = some m.cls) (hK : va_K D vwCl [(cI, .int), (cZ, .boolean), (cC, .char), (cJ, .long), (cA, .array .int)] s) (X : LXt P P' lo A s) (hX : va_X b L xs s s.heap) (hbl : b < s.heap.size) (hbA : ¬ A b) (hRf : 9 ≤ R.frames) (hRl : 204 ≤ R.locals) (hcR : cells + 1 ≤ R.cells) (hsR : slots + 6 ≤ R.slots) (v : Int32) (i1 : vp_in (v + 1) L) (i2 : vp_in (v + 2) L) (i3 : vp_in (v + 3) L) {Mx My : Mm} {Lt : Nat} {K : Int} (hLt : Lt ≤ 480) (hKb : K + 5100 ≤ 2000000000) (rr : RR Lt K Mx My) {H : Heap} {locs : List Loc} {ls : Array Slot} (hl : lv_has ls 7 [(4, .int v), (0, .ref b), (1, .ref (P 0)), (2, .ref (P' 0)), (3, .ref lo)]) (h : LSt D cI cZ cC cJ cA P P' lo A s Mx My H locs) (kk : ∀ (Mx' My' : Mm) (Lt' : Nat) (H : Heap) (locs : List Loc) (ls : Array Slot) (k n : Nat), k ≤ cells + 1 → n ≤ slots + 6 → Lt' ≤ 480 → RR Lt' (K + 5100) Mx' My' → lv_has ls 7 [(4, .int v), (0, .ref b), (1, .ref (P 0)), (2, .ref (P' 0)), (3, .ref lo)] → LSt D cI cZ cC cJ cA P P' lo A s Mx' My' H locs → W p l e R s m args below meth c H locs k n Q (F0 m 734 ls [])) : W p l e R s m args below meth c H locs cells slots Q (F0 m 646 ls []) := by
  refine lv_aload_n hx hb dL_law_646 rfl (lv_at hl 2 rfl) ?_
  obtain ⟨Mx1, r1, My1, r2, q1, q2, rr⟩ := rr_check rr hKb
  refine lwX X h (va_runV (As := []) (rest := []) ⟨hx, hb, hml, hown, hgt⟩ (z_ChipMap_check l D cI cZ cC cJ cA P s (fun q hq => X.AO q (X.xA q hq)) Mx Mx1 r1 q1) (cwV 0 hgt (gV wd_3_44 wd_3_45 wd_3_46 wd_0_1 wd_3_47) rfl rfl rfl (by decide +kernel) ⟨Nat.le_trans (by decide) hRf, Nat.le_trans (by decide) hRl⟩) (prL h.x hK h.dx (Old.rf s) X.AO h.S (va_recv hK h.x (ci := 0) (q0 := 0) rfl gX_0)) rfl rfl hl.1 rfl (lv_room (Nat.le_of_ble_eq_true rfl)) dL_law_647 ⟨Nat.le_of_succ_le hcR, Nat.le_trans (Nat.le_add_right _ _) hsR⟩) (fun H locs h => ?_)
  refine lv_pop hx hb dL_law_650 rfl ?_
  refine lv_aload_n hx hb dL_law_651 rfl (lv_at hl 3 rfl) ?_
  refine lwY X h (va_runV (As := []) (rest := []) ⟨hx, hb, hml, hown, hgt⟩ (z_ChipMapModel_check l D cI cZ cC cJ cA P' s (fun q hq => X.AO q (X.yA q hq)) My My1 r2 q2) (cwV 0 hgt (gV wd_6_206 wd_6_207 wd_6_208 wd_0_15 wd_6_209) rfl rfl rfl (by decide +kernel) ⟨Nat.le_trans (by decide) hRf, Nat.le_trans (by decide) hRl⟩) (prL h.y hK h.dy (Old.rf s) X.AO h.S (va_recv hK h.y (ci := 1) (q0 := 0) rfl gY_0)) rfl rfl hl.1 rfl (lv_room (Nat.le_of_ble_eq_true rfl)) dL_law_652 ⟨Nat.le_of_succ_le hcR, Nat.le_trans (Nat.le_add_right _ _) hsR⟩) (fun H locs h => ?_)
  refine lv_pop hx hb dL_law_655 rfl ?_
  refine lv_goto hx hb dL_law_656 (tgt := 734) rfl ?_
  exact kk Mx1 My1 Lt H locs ls cells slots (Nat.le_succ _) (Nat.le_add_right _ _) hLt rr (lv_sub hl [0, 1, 2, 3, 4] (l' := [(4, .int v), (0, .ref b), (1, .ref (P 0)), (2, .ref (P' 0)), (3, .ref lo)]) rfl) h
set_option maxHeartbeats 4000000 in
set_option maxRecDepth 20000 in
theorem lc_17 {p : Program} {l : Launch} {e : Env} {R : Room} {s : State} {m : MethodId} {args : Array Value} {below : List Frame} {meth : Method} {c : Code} {cells slots : Nat} {Q : State → Prop} {D : va_G} {cI cZ cC cJ cA : ClassId} {P P' : Nat → Nat} {lo b L : Nat} {A : Nat → Prop} {xs : Nat → Int32} (hx : p.tables.exec = Jvm.exec) (hb : c.code = cL_law) (hml : c.maxLocals = 7) (hgt : ∀ w ∈ GT, w.before args s = true) (hown : s.vm.findClass RL = some m.cls) (hK : va_K D vwCl [(cI, .int), (cZ, .boolean), (cC, .char), (cJ, .long), (cA, .array .int)] s) (X : LXt P P' lo A s) (hX : va_X b L xs s s.heap) (hbl : b < s.heap.size) (hbA : ¬ A b) (hRf : 1 ≤ R.frames) (hRl : 21 ≤ R.locals) (hcR : cells + 1 ≤ R.cells) (hsR : slots + 6 ≤ R.slots) (v : Int32) (i1 : vp_in (v + 1) L) (i2 : vp_in (v + 2) L) (i3 : vp_in (v + 3) L) {Mx My : Mm} {Lt : Nat} {K : Int} (hLt : Lt ≤ 480) (hKb : K + 5100 ≤ 2000000000) (rr : RR Lt K Mx My) {H : Heap} {locs : List Loc} {ls : Array Slot} (hl : lv_has ls 7 [(4, .int v), (0, .ref b), (1, .ref (P 0)), (2, .ref (P' 0)), (3, .ref lo)]) (h : LSt D cI cZ cC cJ cA P P' lo A s Mx My H locs) (kk : ∀ (Mx' My' : Mm) (Lt' : Nat) (H : Heap) (locs : List Loc) (ls : Array Slot) (k n : Nat), k ≤ cells + 1 → n ≤ slots + 6 → Lt' ≤ 480 → RR Lt' (K + 5100) Mx' My' → lv_has ls 7 [(4, .int v), (0, .ref b), (1, .ref (P 0)), (2, .ref (P' 0)), (3, .ref lo)] → LSt D cI cZ cC cJ cA P P' lo A s Mx' My' H locs → W p l e R s m args below meth c H locs k n Q (F0 m 734 ls [])) : W p l e R s m args below meth c H locs cells slots Q (F0 m 659 ls []) := by
  refine lv_aload_n hx hb dL_law_659 rfl (lv_at hl 2 rfl) ?_
  refine lv_aload_n hx hb dL_law_660 rfl (lv_at hl 1 rfl) ?_
  refine lv_iload hx hb dL_law_661 (lv_at hl 0 rfl) ?_
  refine lv_iconst (v := 1) hx hb dL_law_663 (by decide) ?_
  refine lv_iadd hx hb dL_law_664 ?_
  refine va_sld hx hb hX hbl hbA h.S i1 dL_law_665 ?_
  refine W.eq (g2 := F0 m 666 ls [.int (xs (v + 1).toNatClampNeg), .ref (P 0)]) rfl ?_
  obtain ⟨Mx1, r1, My1, r2, q1, q2, rr⟩ := rr_found rr hKb (xs (v + 1).toNatClampNeg)
  refine lwX X h (va_runV (As := [.int (xs (v + 1).toNatClampNeg)]) (rest := []) ⟨hx, hb, hml, hown, hgt⟩ (z_ChipMap_found l D cI cZ cC cJ cA P s (fun q hq => X.AO q (X.xA q hq)) Mx (xs (v + 1).toNatClampNeg) Mx1 r1 q1) (cwV 1 hgt (gV wd_3_101 wd_3_102 wd_3_103 wd_0_1 wd_3_104) rfl rfl rfl (by decide +kernel) ⟨Nat.le_trans (by decide) hRf, Nat.le_trans (by decide) hRl⟩) (prL h.x hK h.dx (Old.rf s) X.AO h.S (va_recv hK h.x (ci := 0) (q0 := 0) rfl gX_0)) rfl rfl hl.1 rfl (lv_room (Nat.le_of_ble_eq_true rfl)) dL_law_666 ⟨Nat.le_of_succ_le hcR, Nat.le_trans (Nat.le_add_right _ _) hsR⟩) (fun H locs h => ?_)
  refine lv_pop hx hb dL_law_669 rfl ?_
  refine lv_aload_n hx hb dL_law_670 rfl (lv_at hl 3 rfl) ?_
  refine lv_aload_n hx hb dL_law_671 rfl (lv_at hl 1 rfl) ?_
  refine lv_iload hx hb dL_law_672 (lv_at hl 0 rfl) ?_
  refine lv_iconst (v := 1) hx hb dL_law_674 (by decide) ?_
  refine lv_iadd hx hb dL_law_675 ?_
  refine va_sld hx hb hX hbl hbA h.S i1 dL_law_676 ?_
  refine W.eq (g2 := F0 m 677 ls [.int (xs (v + 1).toNatClampNeg), .ref (P' 0)]) rfl ?_
  refine lwY X h (va_runV (As := [.int (xs (v + 1).toNatClampNeg)]) (rest := []) ⟨hx, hb, hml, hown, hgt⟩ (z_ChipMapModel_found l D cI cZ cC cJ cA P' s (fun q hq => X.AO q (X.yA q hq)) My (xs (v + 1).toNatClampNeg) My1 r2 q2) (cwV 1 hgt (gV wd_6_230 wd_6_231 wd_6_232 wd_0_15 wd_6_233) rfl rfl rfl (by decide +kernel) ⟨Nat.le_trans (by decide) hRf, Nat.le_trans (by decide) hRl⟩) (prL h.y hK h.dy (Old.rf s) X.AO h.S (va_recv hK h.y (ci := 1) (q0 := 0) rfl gY_0)) rfl rfl hl.1 rfl (lv_room (Nat.le_of_ble_eq_true rfl)) dL_law_677 ⟨Nat.le_of_succ_le hcR, Nat.le_trans (Nat.le_add_right _ _) hsR⟩) (fun H locs h => ?_)
  refine lv_pop hx hb dL_law_680 rfl ?_
  refine lv_goto hx hb dL_law_681 (tgt := 734) rfl ?_
  exact kk Mx1 My1 Lt H locs ls cells slots (Nat.le_succ _) (Nat.le_add_right _ _) hLt rr (lv_sub hl [0, 1, 2, 3, 4] (l' := [(4, .int v), (0, .ref b), (1, .ref (P 0)), (2, .ref (P' 0)), (3, .ref lo)]) rfl) h
set_option maxHeartbeats 4000000 in
set_option maxRecDepth 20000 in
theorem lc_18 {p : Program} {l : Launch} {e : Env} {R : Room} {s : State} {m : MethodId} {args : Array Value} {below : List Frame} {meth : Method} {c : Code} {cells slots : Nat} {Q : State → Prop} {D : va_G} {cI cZ cC cJ cA : ClassId} {P P' : Nat → Nat} {lo b L : Nat} {A : Nat → Prop} {xs : Nat → Int32} (hx : p.tables.exec = Jvm.exec) (hb : c.code = cL_law) (hml : c.maxLocals = 7) (hgt : ∀ w ∈ GT, w.before args s = true) (hown : s.vm.findClass RL = some m.cls) (hK : va_K D vwCl [(cI, .int), (cZ, .boolean), (cC, .char), (cJ, .long), (cA, .array .int)] s) (X : LXt P P' lo A s) (hX : va_X b L xs s s.heap) (hbl : b < s.heap.size) (hbA : ¬ A b) (hRf : 8 ≤ R.frames) (hRl : 186 ≤ R.locals) (hcR : cells + 1 ≤ R.cells) (hsR : slots + 6 ≤ R.slots) (v : Int32) (i1 : vp_in (v + 1) L) (i2 : vp_in (v + 2) L) (i3 : vp_in (v + 3) L) {Mx My : Mm} {Lt : Nat} {K : Int} (hLt : Lt ≤ 480) (hKb : K + 5100 ≤ 2000000000) (rr : RR Lt K Mx My) {H : Heap} {locs : List Loc} {ls : Array Slot} (hl : lv_has ls 7 [(4, .int v), (0, .ref b), (1, .ref (P 0)), (2, .ref (P' 0)), (3, .ref lo)]) (h : LSt D cI cZ cC cJ cA P P' lo A s Mx My H locs) (kk : ∀ (Mx' My' : Mm) (Lt' : Nat) (H : Heap) (locs : List Loc) (ls : Array Slot) (k n : Nat), k ≤ cells + 1 → n ≤ slots + 6 → Lt' ≤ 480 → RR Lt' (K + 5100) Mx' My' → lv_has ls 7 [(4, .int v), (0, .ref b), (1, .ref (P 0)), (2, .ref (P' 0)), (3, .ref lo)] → LSt D cI cZ cC cJ cA P P' lo A s Mx' My' H locs → W p l e R s m args below meth c H locs k n Q (F0 m 734 ls [])) : W p l e R s m args below meth c H locs cells slots Q (F0 m 684 ls []) := by
  refine lv_aload_n hx hb dL_law_684 rfl (lv_at hl 2 rfl) ?_
  refine lv_aload_n hx hb dL_law_685 rfl (lv_at hl 1 rfl) ?_
  refine lv_iload hx hb dL_law_686 (lv_at hl 0 rfl) ?_
  refine lv_iconst (v := 1) hx hb dL_law_688 (by decide) ?_
  refine lv_iadd hx hb dL_law_689 ?_
  refine va_sld hx hb hX hbl hbA h.S i1 dL_law_690 ?_
  refine W.eq (g2 := F0 m 691 ls [.int (xs (v + 1).toNatClampNeg), .ref (P 0)]) rfl ?_
  obtain ⟨Mx1, r1, My1, r2, q1, q2, rr⟩ := rr_run rr hKb (xs (v + 1).toNatClampNeg)
  refine lwX X h (va_runV (As := [.int (xs (v + 1).toNatClampNeg)]) (rest := []) ⟨hx, hb, hml, hown, hgt⟩ (z_ChipMap_run l D cI cZ cC cJ cA P s (fun q hq => X.AO q (X.xA q hq)) Mx (xs (v + 1).toNatClampNeg) Mx1 r1 q1) (cwV 1 hgt (gV wd_3_105 wd_3_106 wd_3_107 wd_0_1 wd_3_108) rfl rfl rfl (by decide +kernel) ⟨Nat.le_trans (by decide) hRf, Nat.le_trans (by decide) hRl⟩) (prL h.x hK h.dx (Old.rf s) X.AO h.S (va_recv hK h.x (ci := 0) (q0 := 0) rfl gX_0)) rfl rfl hl.1 rfl (lv_room (Nat.le_of_ble_eq_true rfl)) dL_law_691 ⟨Nat.le_of_succ_le hcR, Nat.le_trans (Nat.le_add_right _ _) hsR⟩) (fun H locs h => ?_)
  refine lv_pop hx hb dL_law_694 rfl ?_
  refine lv_aload_n hx hb dL_law_695 rfl (lv_at hl 3 rfl) ?_
  refine lv_aload_n hx hb dL_law_696 rfl (lv_at hl 1 rfl) ?_
  refine lv_iload hx hb dL_law_697 (lv_at hl 0 rfl) ?_
  refine lv_iconst (v := 1) hx hb dL_law_699 (by decide) ?_
  refine lv_iadd hx hb dL_law_700 ?_
  refine va_sld hx hb hX hbl hbA h.S i1 dL_law_701 ?_
  refine W.eq (g2 := F0 m 702 ls [.int (xs (v + 1).toNatClampNeg), .ref (P' 0)]) rfl ?_
  refine lwY X h (va_runV (As := [.int (xs (v + 1).toNatClampNeg)]) (rest := []) ⟨hx, hb, hml, hown, hgt⟩ (z_ChipMapModel_run l D cI cZ cC cJ cA P' s (fun q hq => X.AO q (X.yA q hq)) My (xs (v + 1).toNatClampNeg) My1 r2 q2) (cwV 1 hgt (gV wd_6_234 wd_6_235 wd_6_236 wd_0_15 wd_6_237) rfl rfl rfl (by decide +kernel) ⟨Nat.le_trans (by decide) hRf, Nat.le_trans (by decide) hRl⟩) (prL h.y hK h.dy (Old.rf s) X.AO h.S (va_recv hK h.y (ci := 1) (q0 := 0) rfl gY_0)) rfl rfl hl.1 rfl (lv_room (Nat.le_of_ble_eq_true rfl)) dL_law_702 ⟨Nat.le_of_succ_le hcR, Nat.le_trans (Nat.le_add_right _ _) hsR⟩) (fun H locs h => ?_)
  refine lv_pop hx hb dL_law_705 rfl ?_
  refine lv_goto hx hb dL_law_706 (tgt := 734) rfl ?_
  exact kk Mx1 My1 Lt H locs ls cells slots (Nat.le_succ _) (Nat.le_add_right _ _) hLt rr (lv_sub hl [0, 1, 2, 3, 4] (l' := [(4, .int v), (0, .ref b), (1, .ref (P 0)), (2, .ref (P' 0)), (3, .ref lo)]) rfl) h
set_option maxHeartbeats 4000000 in
set_option maxRecDepth 20000 in
theorem lc_19 {p : Program} {l : Launch} {e : Env} {R : Room} {s : State} {m : MethodId} {args : Array Value} {below : List Frame} {meth : Method} {c : Code} {cells slots : Nat} {Q : State → Prop} {D : va_G} {cI cZ cC cJ cA : ClassId} {P P' : Nat → Nat} {lo b L : Nat} {A : Nat → Prop} {xs : Nat → Int32} (hx : p.tables.exec = Jvm.exec) (hb : c.code = cL_law) (hml : c.maxLocals = 7) (hgt : ∀ w ∈ GT, w.before args s = true) (hown : s.vm.findClass RL = some m.cls) (hK : va_K D vwCl [(cI, .int), (cZ, .boolean), (cC, .char), (cJ, .long), (cA, .array .int)] s) (X : LXt P P' lo A s) (hX : va_X b L xs s s.heap) (hbl : b < s.heap.size) (hbA : ¬ A b) (hRf : 1 ≤ R.frames) (hRl : 21 ≤ R.locals) (hcR : cells + 1 ≤ R.cells) (hsR : slots + 6 ≤ R.slots) (v : Int32) (i1 : vp_in (v + 1) L) (i2 : vp_in (v + 2) L) (i3 : vp_in (v + 3) L) {Mx My : Mm} {Lt : Nat} {K : Int} (hLt : Lt ≤ 480) (hKb : K + 5100 ≤ 2000000000) (rr : RR Lt K Mx My) {H : Heap} {locs : List Loc} {ls : Array Slot} (hl : lv_has ls 7 [(4, .int v), (0, .ref b), (1, .ref (P 0)), (2, .ref (P' 0)), (3, .ref lo)]) (h : LSt D cI cZ cC cJ cA P P' lo A s Mx My H locs) (kk : ∀ (Mx' My' : Mm) (Lt' : Nat) (H : Heap) (locs : List Loc) (ls : Array Slot) (k n : Nat), k ≤ cells + 1 → n ≤ slots + 6 → Lt' ≤ 480 → RR Lt' (K + 5100) Mx' My' → lv_has ls 7 [(4, .int v), (0, .ref b), (1, .ref (P 0)), (2, .ref (P' 0)), (3, .ref lo)] → LSt D cI cZ cC cJ cA P P' lo A s Mx' My' H locs → W p l e R s m args below meth c H locs k n Q (F0 m 734 ls [])) : W p l e R s m args below meth c H locs cells slots Q (F0 m 709 ls []) := by
  refine lv_aload_n hx hb dL_law_709 rfl (lv_at hl 2 rfl) ?_
  refine lv_aload_n hx hb dL_law_710 rfl (lv_at hl 1 rfl) ?_
  refine lv_iload hx hb dL_law_711 (lv_at hl 0 rfl) ?_
  refine lv_iconst (v := 1) hx hb dL_law_713 (by decide) ?_
  refine lv_iadd hx hb dL_law_714 ?_
  refine va_sld hx hb hX hbl hbA h.S i1 dL_law_715 ?_
  refine W.eq (g2 := F0 m 716 ls [.int (xs (v + 1).toNatClampNeg), .ref (P 0)]) rfl ?_
  obtain ⟨Mx1, r1, My1, r2, q1, q2, rr⟩ := rr_state rr hKb (xs (v + 1).toNatClampNeg)
  refine lwX X h (va_runV (As := [.int (xs (v + 1).toNatClampNeg)]) (rest := []) ⟨hx, hb, hml, hown, hgt⟩ (z_ChipMap_state l D cI cZ cC cJ cA P s (fun q hq => X.AO q (X.xA q hq)) Mx (xs (v + 1).toNatClampNeg) Mx1 r1 q1) (cwV 1 hgt (gV wd_3_126 wd_3_127 wd_3_128 wd_0_1 wd_3_129) rfl rfl rfl (by decide +kernel) ⟨Nat.le_trans (by decide) hRf, Nat.le_trans (by decide) hRl⟩) (prL h.x hK h.dx (Old.rf s) X.AO h.S (va_recv hK h.x (ci := 0) (q0 := 0) rfl gX_0)) rfl rfl hl.1 rfl (lv_room (Nat.le_of_ble_eq_true rfl)) dL_law_716 ⟨Nat.le_of_succ_le hcR, Nat.le_trans (Nat.le_add_right _ _) hsR⟩) (fun H locs h => ?_)
  refine lv_pop hx hb dL_law_719 rfl ?_
  refine lv_aload_n hx hb dL_law_720 rfl (lv_at hl 3 rfl) ?_
  refine lv_aload_n hx hb dL_law_721 rfl (lv_at hl 1 rfl) ?_
  refine lv_iload hx hb dL_law_722 (lv_at hl 0 rfl) ?_
  refine lv_iconst (v := 1) hx hb dL_law_724 (by decide) ?_
  refine lv_iadd hx hb dL_law_725 ?_
  refine va_sld hx hb hX hbl hbA h.S i1 dL_law_726 ?_
  refine W.eq (g2 := F0 m 727 ls [.int (xs (v + 1).toNatClampNeg), .ref (P' 0)]) rfl ?_
  refine lwY X h (va_runV (As := [.int (xs (v + 1).toNatClampNeg)]) (rest := []) ⟨hx, hb, hml, hown, hgt⟩ (z_ChipMapModel_state l D cI cZ cC cJ cA P' s (fun q hq => X.AO q (X.yA q hq)) My (xs (v + 1).toNatClampNeg) My1 r2 q2) (cwV 1 hgt (gV wd_6_238 wd_6_239 wd_7_0 wd_0_15 wd_7_1) rfl rfl rfl (by decide +kernel) ⟨Nat.le_trans (by decide) hRf, Nat.le_trans (by decide) hRl⟩) (prL h.y hK h.dy (Old.rf s) X.AO h.S (va_recv hK h.y (ci := 1) (q0 := 0) rfl gY_0)) rfl rfl hl.1 rfl (lv_room (Nat.le_of_ble_eq_true rfl)) dL_law_727 ⟨Nat.le_of_succ_le hcR, Nat.le_trans (Nat.le_add_right _ _) hsR⟩) (fun H locs h => ?_)
  refine lv_pop hx hb dL_law_730 rfl ?_
  refine lv_goto hx hb dL_law_731 (tgt := 734) rfl ?_
  exact kk Mx1 My1 Lt H locs ls cells slots (Nat.le_succ _) (Nat.le_add_right _ _) hLt rr (lv_sub hl [0, 1, 2, 3, 4] (l' := [(4, .int v), (0, .ref b), (1, .ref (P 0)), (2, .ref (P' 0)), (3, .ref lo)]) rfl) h
