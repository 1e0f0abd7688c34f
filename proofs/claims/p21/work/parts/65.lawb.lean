set_option maxHeartbeats 4000000 in
set_option maxRecDepth 20000 in
theorem lc_7 {p : Program} {l : Launch} {e : Env} {R : Room} {s : State} {m : MethodId} {args : Array Value} {below : List Frame} {meth : Method} {c : Code} {cells slots : Nat} {Q : State → Prop} {D : va_G} {cI cZ cC cJ cA : ClassId} {P P' : Nat → Nat} {lo b L : Nat} {A : Nat → Prop} {xs : Nat → Int32} (hx : p.tables.exec = Jvm.exec) (hb : c.code = cL_law) (hml : c.maxLocals = 7) (hgt : ∀ w ∈ GT, w.before args s = true) (hown : s.vm.findClass RL = some m.cls) (hK : va_K D vwCl [(cI, .int), (cZ, .boolean), (cC, .char), (cJ, .long), (cA, .array .int)] s) (X : LXt P P' lo A s) (hX : va_X b L xs s s.heap) (hbl : b < s.heap.size) (hbA : ¬ A b) (hRf : 2 ≤ R.frames) (hRl : 46 ≤ R.locals) (hcR : cells + 1 ≤ R.cells) (hsR : slots + 6 ≤ R.slots) (v : Int32) (i1 : vp_in (v + 1) L) (i2 : vp_in (v + 2) L) (i3 : vp_in (v + 3) L) {Mx My : Mm} {Lt : Nat} {K : Int} (hLt : Lt ≤ 480) (hKb : K + 5100 ≤ 2000000000) (rr : RR Lt K Mx My) {H : Heap} {locs : List Loc} {ls : Array Slot} (hl : lv_has ls 7 [(4, .int v), (0, .ref b), (1, .ref (P 0)), (2, .ref (P' 0)), (3, .ref lo)]) (h : LSt D cI cZ cC cJ cA P P' lo A s Mx My H locs) (kk : ∀ (Mx' My' : Mm) (Lt' : Nat) (H : Heap) (locs : List Loc) (ls : Array Slot) (k n : Nat), k ≤ cells + 1 → n ≤ slots + 6 → Lt' ≤ 480 → RR Lt' (K + 5100) Mx' My' → lv_has ls 7 [(4, .int v), (0, .ref b), (1, .ref (P 0)), (2, .ref (P' 0)), (3, .ref lo)] → LSt D cI cZ cC cJ cA P P' lo A s Mx' My' H locs → W p l e R s m args below meth c H locs k n Q (F0 m 706 ls [])) : W p l e R s m args below meth c H locs cells slots Q (F0 m 354 ls []) := by
  refine lv_aload_n hx hb dL_law_354 rfl (lv_at hl 2 rfl) ?_
  refine lv_aload_n hx hb dL_law_355 rfl (lv_at hl 1 rfl) ?_
  refine lv_iload hx hb dL_law_356 (lv_at hl 0 rfl) ?_
  refine lv_iconst (v := 1) hx hb dL_law_358 (by decide) ?_
  refine lv_iadd hx hb dL_law_359 ?_
  refine va_sld hx hb hX hbl hbA h.S i1 dL_law_360 ?_
  refine W.eq (g2 := F0 m 361 ls [.int (xs (v + 1).toNatClampNeg), .ref (P 0)]) rfl ?_
  refine lv_aload_n hx hb dL_law_361 rfl (lv_at hl 1 rfl) ?_
  refine lv_iload hx hb dL_law_362 (lv_at hl 0 rfl) ?_
  refine lv_iconst (v := 2) hx hb dL_law_364 (by decide) ?_
  refine lv_iadd hx hb dL_law_365 ?_
  refine va_sld hx hb hX hbl hbA h.S i2 dL_law_366 ?_
  refine W.eq (g2 := F0 m 367 ls [.int (xs (v + 2).toNatClampNeg), .int (xs (v + 1).toNatClampNeg), .ref (P 0)]) rfl ?_
  obtain ⟨Mx1, r1, My1, r2, q1, q2, rr⟩ := rr_poke rr hKb (xs (v + 1).toNatClampNeg) (xs (v + 2).toNatClampNeg)
  refine lwX X h (va_runV (As := [.int (xs (v + 1).toNatClampNeg), .int (xs (v + 2).toNatClampNeg)]) (rest := []) ⟨hx, hb, hml, hown, hgt⟩ (z_ChipMap_poke l D cI cZ cC cJ cA P s (fun q hq => X.AO q (X.xA q hq)) Mx (xs (v + 1).toNatClampNeg) (xs (v + 2).toNatClampNeg) Mx1 r1 q1) (cwV 2 hgt (gV wd_2_165 wd_2_166 wd_2_167 wd_0_1 wd_2_168) rfl rfl rfl (by decide +kernel) ⟨Nat.le_trans (by decide) hRf, Nat.le_trans (by decide) hRl⟩) (prL h.x hK h.dx (Old.rf s) X.AO h.S (va_recv hK h.x (ci := 0) (q0 := 0) rfl gX_0)) rfl rfl hl.1 rfl (lv_room (Nat.le_of_ble_eq_true rfl)) dL_law_367 ⟨Nat.le_of_succ_le hcR, Nat.le_trans (Nat.le_add_right _ _) hsR⟩) (fun H locs h => ?_)
  refine lv_pop hx hb dL_law_370 rfl ?_
  refine lv_aload_n hx hb dL_law_371 rfl (lv_at hl 3 rfl) ?_
  refine lv_aload_n hx hb dL_law_372 rfl (lv_at hl 1 rfl) ?_
  refine lv_iload hx hb dL_law_373 (lv_at hl 0 rfl) ?_
  refine lv_iconst (v := 1) hx hb dL_law_375 (by decide) ?_
  refine lv_iadd hx hb dL_law_376 ?_
  refine va_sld hx hb hX hbl hbA h.S i1 dL_law_377 ?_
  refine W.eq (g2 := F0 m 378 ls [.int (xs (v + 1).toNatClampNeg), .ref (P' 0)]) rfl ?_
  refine lv_aload_n hx hb dL_law_378 rfl (lv_at hl 1 rfl) ?_
  refine lv_iload hx hb dL_law_379 (lv_at hl 0 rfl) ?_
  refine lv_iconst (v := 2) hx hb dL_law_381 (by decide) ?_
  refine lv_iadd hx hb dL_law_382 ?_
  refine va_sld hx hb hX hbl hbA h.S i2 dL_law_383 ?_
  refine W.eq (g2 := F0 m 384 ls [.int (xs (v + 2).toNatClampNeg), .int (xs (v + 1).toNatClampNeg), .ref (P' 0)]) rfl ?_
  refine lwY X h (va_runV (As := [.int (xs (v + 1).toNatClampNeg), .int (xs (v + 2).toNatClampNeg)]) (rest := []) ⟨hx, hb, hml, hown, hgt⟩ (z_ChipMapModel_poke l D cI cZ cC cJ cA P' s (fun q hq => X.AO q (X.yA q hq)) My (xs (v + 1).toNatClampNeg) (xs (v + 2).toNatClampNeg) My1 r2 q2) (cwV 2 hgt (gV wd_6_114 wd_6_115 wd_6_116 wd_0_15 wd_6_117) rfl rfl rfl (by decide +kernel) ⟨Nat.le_trans (by decide) hRf, Nat.le_trans (by decide) hRl⟩) (prL h.y hK h.dy (Old.rf s) X.AO h.S (va_recv hK h.y (ci := 1) (q0 := 0) rfl gY_0)) rfl rfl hl.1 rfl (lv_room (Nat.le_of_ble_eq_true rfl)) dL_law_384 ⟨Nat.le_of_succ_le hcR, Nat.le_trans (Nat.le_add_right _ _) hsR⟩) (fun H locs h => ?_)
  refine lv_pop hx hb dL_law_387 rfl ?_
  refine lv_goto hx hb dL_law_388 (tgt := 706) rfl ?_
  exact kk Mx1 My1 Lt H locs ls cells slots (Nat.le_succ _) (Nat.le_add_right _ _) hLt rr (lv_sub hl [0, 1, 2, 3, 4] (l' := [(4, .int v), (0, .ref b), (1, .ref (P 0)), (2, .ref (P' 0)), (3, .ref lo)]) rfl) h
set_option maxHeartbeats 4000000 in
set_option maxRecDepth 20000 in
theorem lc_8 {p : Program} {l : Launch} {e : Env} {R : Room} {s : State} {m : MethodId} {args : Array Value} {below : List Frame} {meth : Method} {c : Code} {cells slots : Nat} {Q : State → Prop} {D : va_G} {cI cZ cC cJ cA : ClassId} {P P' : Nat → Nat} {lo b L : Nat} {A : Nat → Prop} {xs : Nat → Int32} (hx : p.tables.exec = Jvm.exec) (hb : c.code = cL_law) (hml : c.maxLocals = 7) (hgt : ∀ w ∈ GT, w.before args s = true) (hown : s.vm.findClass RL = some m.cls) (hK : va_K D vwCl [(cI, .int), (cZ, .boolean), (cC, .char), (cJ, .long), (cA, .array .int)] s) (X : LXt P P' lo A s) (hX : va_X b L xs s s.heap) (hbl : b < s.heap.size) (hbA : ¬ A b) (hRf : 8 ≤ R.frames) (hRl : 183 ≤ R.locals) (hcR : cells + 1 ≤ R.cells) (hsR : slots + 6 ≤ R.slots) (v : Int32) (i1 : vp_in (v + 1) L) (i2 : vp_in (v + 2) L) (i3 : vp_in (v + 3) L) {Mx My : Mm} {Lt : Nat} {K : Int} (hLt : Lt ≤ 480) (hKb : K + 5100 ≤ 2000000000) (rr : RR Lt K Mx My) {H : Heap} {locs : List Loc} {ls : Array Slot} (hl : lv_has ls 7 [(4, .int v), (0, .ref b), (1, .ref (P 0)), (2, .ref (P' 0)), (3, .ref lo)]) (h : LSt D cI cZ cC cJ cA P P' lo A s Mx My H locs) (kk : ∀ (Mx' My' : Mm) (Lt' : Nat) (H : Heap) (locs : List Loc) (ls : Array Slot) (k n : Nat), k ≤ cells + 1 → n ≤ slots + 6 → Lt' ≤ 480 → RR Lt' (K + 5100) Mx' My' → lv_has ls 7 [(4, .int v), (0, .ref b), (1, .ref (P 0)), (2, .ref (P' 0)), (3, .ref lo)] → LSt D cI cZ cC cJ cA P P' lo A s Mx' My' H locs → W p l e R s m args below meth c H locs k n Q (F0 m 706 ls [])) : W p l e R s m args below meth c H locs cells slots Q (F0 m 391 ls []) := by
  refine lv_aload_n hx hb dL_law_391 rfl (lv_at hl 2 rfl) ?_
  refine lv_aload_n hx hb dL_law_392 rfl (lv_at hl 1 rfl) ?_
  refine lv_iload hx hb dL_law_393 (lv_at hl 0 rfl) ?_
  refine lv_iconst (v := 1) hx hb dL_law_395 (by decide) ?_
  refine lv_iadd hx hb dL_law_396 ?_
  refine va_sld hx hb hX hbl hbA h.S i1 dL_law_397 ?_
  refine W.eq (g2 := F0 m 398 ls [.int (xs (v + 1).toNatClampNeg), .ref (P 0)]) rfl ?_
  refine lv_aload_n hx hb dL_law_398 rfl (lv_at hl 1 rfl) ?_
  refine lv_iload hx hb dL_law_399 (lv_at hl 0 rfl) ?_
  refine lv_iconst (v := 2) hx hb dL_law_401 (by decide) ?_
  refine lv_iadd hx hb dL_law_402 ?_
  refine va_sld hx hb hX hbl hbA h.S i2 dL_law_403 ?_
  refine W.eq (g2 := F0 m 404 ls [.int (xs (v + 2).toNatClampNeg), .int (xs (v + 1).toNatClampNeg), .ref (P 0)]) rfl ?_
  obtain ⟨Mx1, r1, My1, r2, q1, q2, rr⟩ := rr_put rr hKb (xs (v + 1).toNatClampNeg) (xs (v + 2).toNatClampNeg)
  refine lwX X h (va_runV (As := [.int (xs (v + 1).toNatClampNeg), .int (xs (v + 2).toNatClampNeg)]) (rest := []) ⟨hx, hb, hml, hown, hgt⟩ (z_ChipMap_put l D cI cZ cC cJ cA P s (fun q hq => X.AO q (X.xA q hq)) Mx (xs (v + 1).toNatClampNeg) (xs (v + 2).toNatClampNeg) Mx1 r1 q1) (cwV 2 hgt (gV wd_2_174 wd_2_175 wd_2_176 wd_0_1 wd_2_177) rfl rfl rfl (by decide +kernel) ⟨Nat.le_trans (by decide) hRf, Nat.le_trans (by decide) hRl⟩) (prL h.x hK h.dx (Old.rf s) X.AO h.S (va_recv hK h.x (ci := 0) (q0 := 0) rfl gX_0)) rfl rfl hl.1 rfl (lv_room (Nat.le_of_ble_eq_true rfl)) dL_law_404 ⟨Nat.le_of_succ_le hcR, Nat.le_trans (Nat.le_add_right _ _) hsR⟩) (fun H locs h => ?_)
  refine lv_pop hx hb dL_law_407 rfl ?_
  refine lv_aload_n hx hb dL_law_408 rfl (lv_at hl 3 rfl) ?_
  refine lv_aload_n hx hb dL_law_409 rfl (lv_at hl 1 rfl) ?_
  refine lv_iload hx hb dL_law_410 (lv_at hl 0 rfl) ?_
  refine lv_iconst (v := 1) hx hb dL_law_412 (by decide) ?_
  refine lv_iadd hx hb dL_law_413 ?_
  refine va_sld hx hb hX hbl hbA h.S i1 dL_law_414 ?_
  refine W.eq (g2 := F0 m 415 ls [.int (xs (v + 1).toNatClampNeg), .ref (P' 0)]) rfl ?_
  refine lv_aload_n hx hb dL_law_415 rfl (lv_at hl 1 rfl) ?_
  refine lv_iload hx hb dL_law_416 (lv_at hl 0 rfl) ?_
  refine lv_iconst (v := 2) hx hb dL_law_418 (by decide) ?_
  refine lv_iadd hx hb dL_law_419 ?_
  refine va_sld hx hb hX hbl hbA h.S i2 dL_law_420 ?_
  refine W.eq (g2 := F0 m 421 ls [.int (xs (v + 2).toNatClampNeg), .int (xs (v + 1).toNatClampNeg), .ref (P' 0)]) rfl ?_
  refine lwY X h (va_runV (As := [.int (xs (v + 1).toNatClampNeg), .int (xs (v + 2).toNatClampNeg)]) (rest := []) ⟨hx, hb, hml, hown, hgt⟩ (z_ChipMapModel_put l D cI cZ cC cJ cA P' s (fun q hq => X.AO q (X.yA q hq)) My (xs (v + 1).toNatClampNeg) (xs (v + 2).toNatClampNeg) My1 r2 q2) (cwV 2 hgt (gV wd_6_122 wd_6_123 wd_6_124 wd_0_15 wd_6_125) rfl rfl rfl (by decide +kernel) ⟨Nat.le_trans (by decide) hRf, Nat.le_trans (by decide) hRl⟩) (prL h.y hK h.dy (Old.rf s) X.AO h.S (va_recv hK h.y (ci := 1) (q0 := 0) rfl gY_0)) rfl rfl hl.1 rfl (lv_room (Nat.le_of_ble_eq_true rfl)) dL_law_421 ⟨Nat.le_of_succ_le hcR, Nat.le_trans (Nat.le_add_right _ _) hsR⟩) (fun H locs h => ?_)
  refine lv_pop hx hb dL_law_424 rfl ?_
  refine lv_goto hx hb dL_law_425 (tgt := 706) rfl ?_
  exact kk Mx1 My1 Lt H locs ls cells slots (Nat.le_succ _) (Nat.le_add_right _ _) hLt rr (lv_sub hl [0, 1, 2, 3, 4] (l' := [(4, .int v), (0, .ref b), (1, .ref (P 0)), (2, .ref (P' 0)), (3, .ref lo)]) rfl) h
set_option maxHeartbeats 4000000 in
set_option maxRecDepth 20000 in
theorem lc_9 {p : Program} {l : Launch} {e : Env} {R : Room} {s : State} {m : MethodId} {args : Array Value} {below : List Frame} {meth : Method} {c : Code} {cells slots : Nat} {Q : State → Prop} {D : va_G} {cI cZ cC cJ cA : ClassId} {P P' : Nat → Nat} {lo b L : Nat} {A : Nat → Prop} {xs : Nat → Int32} (hx : p.tables.exec = Jvm.exec) (hb : c.code = cL_law) (hml : c.maxLocals = 7) (hgt : ∀ w ∈ GT, w.before args s = true) (hown : s.vm.findClass RL = some m.cls) (hK : va_K D vwCl [(cI, .int), (cZ, .boolean), (cC, .char), (cJ, .long), (cA, .array .int)] s) (X : LXt P P' lo A s) (hX : va_X b L xs s s.heap) (hbl : b < s.heap.size) (hbA : ¬ A b) (hRf : 8 ≤ R.frames) (hRl : 183 ≤ R.locals) (hcR : cells + 1 ≤ R.cells) (hsR : slots + 6 ≤ R.slots) {c1 c2 : ClassId} (hlt : l.stackTraces = false) (hT1 : ThrF "java/lang/IndexOutOfBoundsException" s) (hF1 : s.vm.findClass "java/lang/IndexOutOfBoundsException" = some c1) (hT2 : ThrF "java/lang/IllegalStateException" s) (hF2 : s.vm.findClass "java/lang/IllegalStateException" = some c2) (hNc : va_Nc "java/lang/IllegalStateException" "java/lang/IndexOutOfBoundsException" s) (v : Int32) (i1 : vp_in (v + 1) L) (i2 : vp_in (v + 2) L) (i3 : vp_in (v + 3) L) {Mx My : Mm} {Lt : Nat} {K : Int} (hLt : Lt ≤ 480) (hKb : K + 5100 ≤ 2000000000) (rr : RR Lt K Mx My) {H : Heap} {locs : List Loc} {ls : Array Slot} (hl : lv_has ls 7 [(4, .int v), (0, .ref b), (1, .ref (P 0)), (2, .ref (P' 0)), (3, .ref lo)]) (h : LSt D cI cZ cC cJ cA P P' lo A s Mx My H locs) (kk : ∀ (Mx' My' : Mm) (Lt' : Nat) (H : Heap) (locs : List Loc) (ls : Array Slot) (k n : Nat), k ≤ cells + 1 → n ≤ slots + 6 → Lt' ≤ 480 → RR Lt' (K + 5100) Mx' My' → lv_has ls 7 [(4, .int v), (0, .ref b), (1, .ref (P 0)), (2, .ref (P' 0)), (3, .ref lo)] → LSt D cI cZ cC cJ cA P P' lo A s Mx' My' H locs → W p l e R s m args below meth c H locs k n Q (F0 m 706 ls [])) : W p l e R s m args below meth c H locs cells slots Q (F0 m 428 ls []) := by
  refine lv_aload_n hx hb dL_law_428 rfl (lv_at hl 2 rfl) ?_
  refine lv_aload_n hx hb dL_law_429 rfl (lv_at hl 1 rfl) ?_
  refine lv_iload hx hb dL_law_430 (lv_at hl 0 rfl) ?_
  refine lv_iconst (v := 1) hx hb dL_law_432 (by decide) ?_
  refine lv_iadd hx hb dL_law_433 ?_
  refine va_sld hx hb hX hbl hbA h.S i1 dL_law_434 ?_
  refine W.eq (g2 := F0 m 435 ls [.int (xs (v + 1).toNatClampNeg), .ref (P 0)]) rfl ?_
  refine lv_aload_n hx hb dL_law_435 rfl (lv_at hl 4 rfl) ?_
  obtain ⟨Mx1, My1, r2, q2, rr, hc⟩ := rr_fetch rr hKb (xs (v + 1).toNatClampNeg)
  rcases hc with ⟨r1, q1⟩ | ⟨r1, q1, hr1⟩
  · skip
    refine lwH (M' := Mx1) X h (vD_f (w1 := wX cI cZ cC cJ cA P Mx) (w2 := wX cI cZ cC cJ cA P Mx1) rfl h.dx) (in_S (R' := { frames := 7, cells := 1, slots := 6, locals := 160 }) (own := "ChipMapLaw") (y := yL_fetch) (bytes := cL_fetch) (maxL := 4) (ret := some .int) (hs := [(0, 9, 12, 19), (0, 9, 15, 21)]) (As := [.ref (P 0), .int (xs (v + 1).toNatClampNeg), .ref lo]) (rest := []) hx hb hml hown (hgt _ wd_4_156) (hgt _ wd_4_157) (hgt _ wd_0_0) (hgt _ wd_4_158) (by decide) (by decide +kernel) (fun sig h => by cases h; rfl) rfl hl.1 rfl (lv_room (Nat.le_of_ble_eq_true rfl)) dL_law_436 ⟨hcR, hsR⟩ ⟨Nat.le_trans (by decide) hRf, Nat.le_trans (by decide) hRl, rfl, rfl⟩ (fun s' mk methk ck bel hH hW hfc hcb hcl hct hcr hck hcc hcm => by
      obtain ⟨fo, hPo⟩ := h.o
      have hB := hn_fetch (p := p) (l := l) (e := e) (below := bel) (lo := lo) (f := (xs (v + 1).toNatClampNeg)) hx hcb hcl hcr hck (fun w h => word_at hW (gt_g h).2 (hgt w h)) hfc (va_K.moved hW.alike hK) (Old.step (Old.rf s) X.AO h.S hH hW) (fun q hq => X.AO q (X.xA q hq)) (X.AO _ X.oA) X.xo Mx Mx1 r1 q1 (by rw [hH]; exact h.x) (by rw [hH]; exact hPo) h.dx
      rw [hH] at hB
      exact hB)) (fun r f H locs hw ho h => ?_)
    refine lv_istore hx hb dL_law_439 hl (Nat.le_of_ble_eq_true rfl) (lv' := [(5, .int r), (4, .int v), (0, .ref b), (1, .ref (P 0)), (2, .ref (P' 0)), (3, .ref lo)]) rfl (fun ls hl => ?_)
    refine lv_aload_n hx hb dL_law_441 rfl (lv_at hl 4 rfl) ?_
    refine lv_aload_n hx hb dL_law_442 rfl (lv_at hl 2 rfl) ?_
    refine lv_iload hx hb dL_law_443 (lv_at hl 1 rfl) ?_
    refine lv_iconst (v := 1) hx hb dL_law_445 (by decide) ?_
    refine lv_iadd hx hb dL_law_446 ?_
    refine va_sld hx hb hX hbl hbA h.S i1 dL_law_447 ?_
    refine W.eq (g2 := F0 m 448 ls [.int (xs (v + 1).toNatClampNeg), .ref (P' 0)]) rfl ?_
    refine lwYo X h ho (va_runV (As := [.int (xs (v + 1).toNatClampNeg)]) (rest := []) ⟨hx, hb, hml, hown, hgt⟩ (z_ChipMapModel_fetch l D cI cZ cC cJ cA P' s (fun q hq => X.AO q (X.yA q hq)) My (xs (v + 1).toNatClampNeg) My1 r2 q2) (cwV 1 hgt (gV wd_6_162 wd_6_163 wd_6_164 wd_0_15 wd_6_165) rfl rfl rfl (by decide +kernel) ⟨Nat.le_trans (by decide) hRf, Nat.le_trans (by decide) hRl⟩) (prL h.y hK h.dy (Old.rf s) X.AO h.S (va_recv hK h.y (ci := 1) (q0 := 0) rfl gY_0)) rfl rfl hl.1 rfl (lv_room (Nat.le_of_ble_eq_true rfl)) dL_law_448 ⟨hcR, hsR⟩) (fun H locs ho h => ?_)
    refine lv_istore hx hb dL_law_451 hl (Nat.le_of_ble_eq_true rfl) (lv' := [(6, .int r2), (5, .int r), (4, .int v), (0, .ref b), (1, .ref (P 0)), (2, .ref (P' 0)), (3, .ref lo)]) rfl (fun ls hl => ?_)
    refine lv_goto hx hb dL_law_453 (tgt := 706) rfl ?_
    exact kk Mx1 My1 Lt H locs ls (cells + 1) (slots + 6) (Nat.le_refl _) (Nat.le_refl _) hLt rr (lv_sub hl [2, 3, 4, 5, 6] (l' := [(4, .int v), (0, .ref b), (1, .ref (P 0)), (2, .ref (P' 0)), (3, .ref lo)]) rfl) h
  · rcases hr1 with rfl | rfl
    · skip
      refine lwH (M' := Mx1) X h (vD_f (w1 := wX cI cZ cC cJ cA P Mx) (w2 := wX cI cZ cC cJ cA P Mx1) rfl h.dx) (in_S (R' := { frames := 7, cells := 1, slots := 6, locals := 160 }) (own := "ChipMapLaw") (y := yL_fetch) (bytes := cL_fetch) (maxL := 4) (ret := some .int) (hs := [(0, 9, 12, 19), (0, 9, 15, 21)]) (As := [.ref (P 0), .int (xs (v + 1).toNatClampNeg), .ref lo]) (rest := []) hx hb hml hown (hgt _ wd_4_156) (hgt _ wd_4_157) (hgt _ wd_0_0) (hgt _ wd_4_158) (by decide) (by decide +kernel) (fun sig h => by cases h; rfl) rfl hl.1 rfl (lv_room (Nat.le_of_ble_eq_true rfl)) dL_law_436 ⟨hcR, hsR⟩ ⟨Nat.le_trans (by decide) hRf, Nat.le_trans (by decide) hRl, rfl, rfl⟩ (fun s' mk methk ck bel hH hW hfc hcb hcl hct hcr hck hcc hcm => by
        obtain ⟨fo, hPo⟩ := h.o
        have hB := ht_fetch1 (p := p) (l := l) (e := e) (below := bel) (lo := lo) (f := (xs (v + 1).toNatClampNeg)) hx hcb hcl hcr hck (fun w h => word_at hW (gt_g h).2 (hgt w h)) hfc (va_K.moved hW.alike hK) (Old.step (Old.rf s) X.AO h.S hH hW) (fun q hq => X.AO q (X.xA q hq)) (X.AO _ X.oA) X.xo Mx Mx1 1 hlt hct hT1 hF1 hT2 hF2 hNc q1 (by rw [hH]; exact h.x) (by rw [hH]; exact hPo) h.dx
        rw [hH] at hB
        exact hB)) (fun r f H locs hw ho h => ?_)
      refine lv_istore hx hb dL_law_439 hl (Nat.le_of_ble_eq_true rfl) (lv' := [(5, .int r), (4, .int v), (0, .ref b), (1, .ref (P 0)), (2, .ref (P' 0)), (3, .ref lo)]) rfl (fun ls hl => ?_)
      refine lv_aload_n hx hb dL_law_441 rfl (lv_at hl 4 rfl) ?_
      refine lv_aload_n hx hb dL_law_442 rfl (lv_at hl 2 rfl) ?_
      refine lv_iload hx hb dL_law_443 (lv_at hl 1 rfl) ?_
      refine lv_iconst (v := 1) hx hb dL_law_445 (by decide) ?_
      refine lv_iadd hx hb dL_law_446 ?_
      refine va_sld hx hb hX hbl hbA h.S i1 dL_law_447 ?_
      refine W.eq (g2 := F0 m 448 ls [.int (xs (v + 1).toNatClampNeg), .ref (P' 0)]) rfl ?_
      refine lwYo X h ho (va_runV (As := [.int (xs (v + 1).toNatClampNeg)]) (rest := []) ⟨hx, hb, hml, hown, hgt⟩ (z_ChipMapModel_fetch l D cI cZ cC cJ cA P' s (fun q hq => X.AO q (X.yA q hq)) My (xs (v + 1).toNatClampNeg) My1 r2 q2) (cwV 1 hgt (gV wd_6_162 wd_6_163 wd_6_164 wd_0_15 wd_6_165) rfl rfl rfl (by decide +kernel) ⟨Nat.le_trans (by decide) hRf, Nat.le_trans (by decide) hRl⟩) (prL h.y hK h.dy (Old.rf s) X.AO h.S (va_recv hK h.y (ci := 1) (q0 := 0) rfl gY_0)) rfl rfl hl.1 rfl (lv_room (Nat.le_of_ble_eq_true rfl)) dL_law_448 ⟨hcR, hsR⟩) (fun H locs ho h => ?_)
      refine lv_istore hx hb dL_law_451 hl (Nat.le_of_ble_eq_true rfl) (lv' := [(6, .int r2), (5, .int r), (4, .int v), (0, .ref b), (1, .ref (P 0)), (2, .ref (P' 0)), (3, .ref lo)]) rfl (fun ls hl => ?_)
      refine lv_goto hx hb dL_law_453 (tgt := 706) rfl ?_
      exact kk Mx1 My1 Lt H locs ls (cells + 1) (slots + 6) (Nat.le_refl _) (Nat.le_refl _) hLt rr (lv_sub hl [2, 3, 4, 5, 6] (l' := [(4, .int v), (0, .ref b), (1, .ref (P 0)), (2, .ref (P' 0)), (3, .ref lo)]) rfl) h
    · skip
      refine lwH (M' := Mx1) X h (vD_f (w1 := wX cI cZ cC cJ cA P Mx) (w2 := wX cI cZ cC cJ cA P Mx1) rfl h.dx) (in_S (R' := { frames := 7, cells := 1, slots := 6, locals := 160 }) (own := "ChipMapLaw") (y := yL_fetch) (bytes := cL_fetch) (maxL := 4) (ret := some .int) (hs := [(0, 9, 12, 19), (0, 9, 15, 21)]) (As := [.ref (P 0), .int (xs (v + 1).toNatClampNeg), .ref lo]) (rest := []) hx hb hml hown (hgt _ wd_4_156) (hgt _ wd_4_157) (hgt _ wd_0_0) (hgt _ wd_4_158) (by decide) (by decide +kernel) (fun sig h => by cases h; rfl) rfl hl.1 rfl (lv_room (Nat.le_of_ble_eq_true rfl)) dL_law_436 ⟨hcR, hsR⟩ ⟨Nat.le_trans (by decide) hRf, Nat.le_trans (by decide) hRl, rfl, rfl⟩ (fun s' mk methk ck bel hH hW hfc hcb hcl hct hcr hck hcc hcm => by
        obtain ⟨fo, hPo⟩ := h.o
        have hB := ht_fetch2 (p := p) (l := l) (e := e) (below := bel) (lo := lo) (f := (xs (v + 1).toNatClampNeg)) hx hcb hcl hcr hck (fun w h => word_at hW (gt_g h).2 (hgt w h)) hfc (va_K.moved hW.alike hK) (Old.step (Old.rf s) X.AO h.S hH hW) (fun q hq => X.AO q (X.xA q hq)) (X.AO _ X.oA) X.xo Mx Mx1 2 hlt hct hT1 hF1 hT2 hF2 hNc q1 (by rw [hH]; exact h.x) (by rw [hH]; exact hPo) h.dx
        rw [hH] at hB
        exact hB)) (fun r f H locs hw ho h => ?_)
      refine lv_istore hx hb dL_law_439 hl (Nat.le_of_ble_eq_true rfl) (lv' := [(5, .int r), (4, .int v), (0, .ref b), (1, .ref (P 0)), (2, .ref (P' 0)), (3, .ref lo)]) rfl (fun ls hl => ?_)
      refine lv_aload_n hx hb dL_law_441 rfl (lv_at hl 4 rfl) ?_
      refine lv_aload_n hx hb dL_law_442 rfl (lv_at hl 2 rfl) ?_
      refine lv_iload hx hb dL_law_443 (lv_at hl 1 rfl) ?_
      refine lv_iconst (v := 1) hx hb dL_law_445 (by decide) ?_
      refine lv_iadd hx hb dL_law_446 ?_
      refine va_sld hx hb hX hbl hbA h.S i1 dL_law_447 ?_
      refine W.eq (g2 := F0 m 448 ls [.int (xs (v + 1).toNatClampNeg), .ref (P' 0)]) rfl ?_
      refine lwYo X h ho (va_runV (As := [.int (xs (v + 1).toNatClampNeg)]) (rest := []) ⟨hx, hb, hml, hown, hgt⟩ (z_ChipMapModel_fetch l D cI cZ cC cJ cA P' s (fun q hq => X.AO q (X.yA q hq)) My (xs (v + 1).toNatClampNeg) My1 r2 q2) (cwV 1 hgt (gV wd_6_162 wd_6_163 wd_6_164 wd_0_15 wd_6_165) rfl rfl rfl (by decide +kernel) ⟨Nat.le_trans (by decide) hRf, Nat.le_trans (by decide) hRl⟩) (prL h.y hK h.dy (Old.rf s) X.AO h.S (va_recv hK h.y (ci := 1) (q0 := 0) rfl gY_0)) rfl rfl hl.1 rfl (lv_room (Nat.le_of_ble_eq_true rfl)) dL_law_448 ⟨hcR, hsR⟩) (fun H locs ho h => ?_)
      refine lv_istore hx hb dL_law_451 hl (Nat.le_of_ble_eq_true rfl) (lv' := [(6, .int r2), (5, .int r), (4, .int v), (0, .ref b), (1, .ref (P 0)), (2, .ref (P' 0)), (3, .ref lo)]) rfl (fun ls hl => ?_)
      refine lv_goto hx hb dL_law_453 (tgt := 706) rfl ?_
      exact kk Mx1 My1 Lt H locs ls (cells + 1) (slots + 6) (Nat.le_refl _) (Nat.le_refl _) hLt rr (lv_sub hl [2, 3, 4, 5, 6] (l' := [(4, .int v), (0, .ref b), (1, .ref (P 0)), (2, .ref (P' 0)), (3, .ref lo)]) rfl) h
set_option maxHeartbeats 4000000 in
set_option maxRecDepth 20000 in
theorem lc_10 {p : Program} {l : Launch} {e : Env} {R : Room} {s : State} {m : MethodId} {args : Array Value} {below : List Frame} {meth : Method} {c : Code} {cells slots : Nat} {Q : State → Prop} {D : va_G} {cI cZ cC cJ cA : ClassId} {P P' : Nat → Nat} {lo b L : Nat} {A : Nat → Prop} {xs : Nat → Int32} (hx : p.tables.exec = Jvm.exec) (hb : c.code = cL_law) (hml : c.maxLocals = 7) (hgt : ∀ w ∈ GT, w.before args s = true) (hown : s.vm.findClass RL = some m.cls) (hK : va_K D vwCl [(cI, .int), (cZ, .boolean), (cC, .char), (cJ, .long), (cA, .array .int)] s) (X : LXt P P' lo A s) (hX : va_X b L xs s s.heap) (hbl : b < s.heap.size) (hbA : ¬ A b) (hRf : 3 ≤ R.frames) (hRl : 66 ≤ R.locals) (hcR : cells + 1 ≤ R.cells) (hsR : slots + 6 ≤ R.slots) (v : Int32) (i1 : vp_in (v + 1) L) (i2 : vp_in (v + 2) L) (i3 : vp_in (v + 3) L) {Mx My : Mm} {Lt : Nat} {K : Int} (hLt : Lt ≤ 480) (hKb : K + 5100 ≤ 2000000000) (rr : RR Lt K Mx My) {H : Heap} {locs : List Loc} {ls : Array Slot} (hl : lv_has ls 7 [(4, .int v), (0, .ref b), (1, .ref (P 0)), (2, .ref (P' 0)), (3, .ref lo)]) (h : LSt D cI cZ cC cJ cA P P' lo A s Mx My H locs) (kk : ∀ (Mx' My' : Mm) (Lt' : Nat) (H : Heap) (locs : List Loc) (ls : Array Slot) (k n : Nat), k ≤ cells + 1 → n ≤ slots + 6 → Lt' ≤ 480 → RR Lt' (K + 5100) Mx' My' → lv_has ls 7 [(4, .int v), (0, .ref b), (1, .ref (P 0)), (2, .ref (P' 0)), (3, .ref lo)] → LSt D cI cZ cC cJ cA P P' lo A s Mx' My' H locs → W p l e R s m args below meth c H locs k n Q (F0 m 706 ls [])) : W p l e R s m args below meth c H locs cells slots Q (F0 m 456 ls []) := by
  refine lv_aload_n hx hb dL_law_456 rfl (lv_at hl 2 rfl) ?_
  refine lv_aload_n hx hb dL_law_457 rfl (lv_at hl 1 rfl) ?_
  refine lv_iload hx hb dL_law_458 (lv_at hl 0 rfl) ?_
  refine lv_iconst (v := 1) hx hb dL_law_460 (by decide) ?_
  refine lv_iadd hx hb dL_law_461 ?_
  refine va_sld hx hb hX hbl hbA h.S i1 dL_law_462 ?_
  refine W.eq (g2 := F0 m 463 ls [.int (xs (v + 1).toNatClampNeg), .ref (P 0)]) rfl ?_
  refine lv_aload_n hx hb dL_law_463 rfl (lv_at hl 1 rfl) ?_
  refine lv_iload hx hb dL_law_464 (lv_at hl 0 rfl) ?_
  refine lv_iconst (v := 2) hx hb dL_law_466 (by decide) ?_
  refine lv_iadd hx hb dL_law_467 ?_
  refine va_sld hx hb hX hbl hbA h.S i2 dL_law_468 ?_
  refine W.eq (g2 := F0 m 469 ls [.int (xs (v + 2).toNatClampNeg), .int (xs (v + 1).toNatClampNeg), .ref (P 0)]) rfl ?_
  obtain ⟨Mx1, r1, My1, r2, q1, q2, rr⟩ := rr_join rr hKb (xs (v + 1).toNatClampNeg) (xs (v + 2).toNatClampNeg)
  refine lwX X h (va_runV (As := [.int (xs (v + 1).toNatClampNeg), .int (xs (v + 2).toNatClampNeg)]) (rest := []) ⟨hx, hb, hml, hown, hgt⟩ (z_ChipMap_join l D cI cZ cC cJ cA P s (fun q hq => X.AO q (X.xA q hq)) Mx (xs (v + 1).toNatClampNeg) (xs (v + 2).toNatClampNeg) Mx1 r1 q1) (cwV 2 hgt (gV wd_2_224 wd_2_225 wd_2_226 wd_0_1 wd_2_227) rfl rfl rfl (by decide +kernel) ⟨Nat.le_trans (by decide) hRf, Nat.le_trans (by decide) hRl⟩) (prL h.x hK h.dx (Old.rf s) X.AO h.S (va_recv hK h.x (ci := 0) (q0 := 0) rfl gX_0)) rfl rfl hl.1 rfl (lv_room (Nat.le_of_ble_eq_true rfl)) dL_law_469 ⟨Nat.le_of_succ_le hcR, Nat.le_trans (Nat.le_add_right _ _) hsR⟩) (fun H locs h => ?_)
  refine lv_pop hx hb dL_law_472 rfl ?_
  refine lv_aload_n hx hb dL_law_473 rfl (lv_at hl 3 rfl) ?_
  refine lv_aload_n hx hb dL_law_474 rfl (lv_at hl 1 rfl) ?_
  refine lv_iload hx hb dL_law_475 (lv_at hl 0 rfl) ?_
  refine lv_iconst (v := 1) hx hb dL_law_477 (by decide) ?_
  refine lv_iadd hx hb dL_law_478 ?_
  refine va_sld hx hb hX hbl hbA h.S i1 dL_law_479 ?_
  refine W.eq (g2 := F0 m 480 ls [.int (xs (v + 1).toNatClampNeg), .ref (P' 0)]) rfl ?_
  refine lv_aload_n hx hb dL_law_480 rfl (lv_at hl 1 rfl) ?_
  refine lv_iload hx hb dL_law_481 (lv_at hl 0 rfl) ?_
  refine lv_iconst (v := 2) hx hb dL_law_483 (by decide) ?_
  refine lv_iadd hx hb dL_law_484 ?_
  refine va_sld hx hb hX hbl hbA h.S i2 dL_law_485 ?_
  refine W.eq (g2 := F0 m 486 ls [.int (xs (v + 2).toNatClampNeg), .int (xs (v + 1).toNatClampNeg), .ref (P' 0)]) rfl ?_
  refine lwY X h (va_runV (As := [.int (xs (v + 1).toNatClampNeg), .int (xs (v + 2).toNatClampNeg)]) (rest := []) ⟨hx, hb, hml, hown, hgt⟩ (z_ChipMapModel_join l D cI cZ cC cJ cA P' s (fun q hq => X.AO q (X.yA q hq)) My (xs (v + 1).toNatClampNeg) (xs (v + 2).toNatClampNeg) My1 r2 q2) (cwV 2 hgt (gV wd_6_174 wd_6_175 wd_6_176 wd_0_15 wd_6_177) rfl rfl rfl (by decide +kernel) ⟨Nat.le_trans (by decide) hRf, Nat.le_trans (by decide) hRl⟩) (prL h.y hK h.dy (Old.rf s) X.AO h.S (va_recv hK h.y (ci := 1) (q0 := 0) rfl gY_0)) rfl rfl hl.1 rfl (lv_room (Nat.le_of_ble_eq_true rfl)) dL_law_486 ⟨Nat.le_of_succ_le hcR, Nat.le_trans (Nat.le_add_right _ _) hsR⟩) (fun H locs h => ?_)
  refine lv_pop hx hb dL_law_489 rfl ?_
  refine lv_goto hx hb dL_law_490 (tgt := 706) rfl ?_
  exact kk Mx1 My1 Lt H locs ls cells slots (Nat.le_succ _) (Nat.le_add_right _ _) hLt rr (lv_sub hl [0, 1, 2, 3, 4] (l' := [(4, .int v), (0, .ref b), (1, .ref (P 0)), (2, .ref (P' 0)), (3, .ref lo)]) rfl) h
set_option maxHeartbeats 4000000 in
set_option maxRecDepth 20000 in
theorem lc_11 {p : Program} {l : Launch} {e : Env} {R : Room} {s : State} {m : MethodId} {args : Array Value} {below : List Frame} {meth : Method} {c : Code} {cells slots : Nat} {Q : State → Prop} {D : va_G} {cI cZ cC cJ cA : ClassId} {P P' : Nat → Nat} {lo b L : Nat} {A : Nat → Prop} {xs : Nat → Int32} (hx : p.tables.exec = Jvm.exec) (hb : c.code = cL_law) (hml : c.maxLocals = 7) (hgt : ∀ w ∈ GT, w.before args s = true) (hown : s.vm.findClass RL = some m.cls) (hK : va_K D vwCl [(cI, .int), (cZ, .boolean), (cC, .char), (cJ, .long), (cA, .array .int)] s) (X : LXt P P' lo A s) (hX : va_X b L xs s s.heap) (hbl : b < s.heap.size) (hbA : ¬ A b) (hRf : 8 ≤ R.frames) (hRl : 187 ≤ R.locals) (hcR : cells + 1 ≤ R.cells) (hsR : slots + 6 ≤ R.slots) (v : Int32) (i1 : vp_in (v + 1) L) (i2 : vp_in (v + 2) L) (i3 : vp_in (v + 3) L) {Mx My : Mm} {Lt : Nat} {K : Int} (hLt : Lt ≤ 480) (hKb : K + 5100 ≤ 2000000000) (rr : RR Lt K Mx My) {H : Heap} {locs : List Loc} {ls : Array Slot} (hl : lv_has ls 7 [(4, .int v), (0, .ref b), (1, .ref (P 0)), (2, .ref (P' 0)), (3, .ref lo)]) (h : LSt D cI cZ cC cJ cA P P' lo A s Mx My H locs) (kk : ∀ (Mx' My' : Mm) (Lt' : Nat) (H : Heap) (locs : List Loc) (ls : Array Slot) (k n : Nat), k ≤ cells + 1 → n ≤ slots + 6 → Lt' ≤ 480 → RR Lt' (K + 5100) Mx' My' → lv_has ls 7 [(4, .int v), (0, .ref b), (1, .ref (P 0)), (2, .ref (P' 0)), (3, .ref lo)] → LSt D cI cZ cC cJ cA P P' lo A s Mx' My' H locs → W p l e R s m args below meth c H locs k n Q (F0 m 706 ls [])) : W p l e R s m args below meth c H locs cells slots Q (F0 m 493 ls []) := by
  refine lv_aload_n hx hb dL_law_493 rfl (lv_at hl 2 rfl) ?_
  obtain ⟨Mx1, r1, My1, r2, q1, q2, rr⟩ := rr_flush rr hKb
  refine lwX X h (va_runV (As := []) (rest := []) ⟨hx, hb, hml, hown, hgt⟩ (z_ChipMap_flush l D cI cZ cC cJ cA P s (fun q hq => X.AO q (X.xA q hq)) Mx Mx1 r1 q1) (cwV 0 hgt (gV wd_2_236 wd_2_237 wd_2_238 wd_0_1 wd_2_239) rfl rfl rfl (by decide +kernel) ⟨Nat.le_trans (by decide) hRf, Nat.le_trans (by decide) hRl⟩) (prL h.x hK h.dx (Old.rf s) X.AO h.S (va_recv hK h.x (ci := 0) (q0 := 0) rfl gX_0)) rfl rfl hl.1 rfl (lv_room (Nat.le_of_ble_eq_true rfl)) dL_law_494 ⟨Nat.le_of_succ_le hcR, Nat.le_trans (Nat.le_add_right _ _) hsR⟩) (fun H locs h => ?_)
  refine lv_pop hx hb dL_law_497 rfl ?_
  refine lv_aload_n hx hb dL_law_498 rfl (lv_at hl 3 rfl) ?_
  refine lwY X h (va_runV (As := []) (rest := []) ⟨hx, hb, hml, hown, hgt⟩ (z_ChipMapModel_flush l D cI cZ cC cJ cA P' s (fun q hq => X.AO q (X.yA q hq)) My My1 r2 q2) (cwV 0 hgt (gV wd_6_178 wd_6_179 wd_6_180 wd_0_15 wd_6_181) rfl rfl rfl (by decide +kernel) ⟨Nat.le_trans (by decide) hRf, Nat.le_trans (by decide) hRl⟩) (prL h.y hK h.dy (Old.rf s) X.AO h.S (va_recv hK h.y (ci := 1) (q0 := 0) rfl gY_0)) rfl rfl hl.1 rfl (lv_room (Nat.le_of_ble_eq_true rfl)) dL_law_499 ⟨Nat.le_of_succ_le hcR, Nat.le_trans (Nat.le_add_right _ _) hsR⟩) (fun H locs h => ?_)
  refine lv_pop hx hb dL_law_502 rfl ?_
  refine lv_goto hx hb dL_law_503 (tgt := 706) rfl ?_
  exact kk Mx1 My1 Lt H locs ls cells slots (Nat.le_succ _) (Nat.le_add_right _ _) hLt rr (lv_sub hl [0, 1, 2, 3, 4] (l' := [(4, .int v), (0, .ref b), (1, .ref (P 0)), (2, .ref (P' 0)), (3, .ref lo)]) rfl) h
set_option maxHeartbeats 4000000 in
set_option maxRecDepth 20000 in
theorem lc_12 {p : Program} {l : Launch} {e : Env} {R : Room} {s : State} {m : MethodId} {args : Array Value} {below : List Frame} {meth : Method} {c : Code} {cells slots : Nat} {Q : State → Prop} {D : va_G} {cI cZ cC cJ cA : ClassId} {P P' : Nat → Nat} {lo b L : Nat} {A : Nat → Prop} {xs : Nat → Int32} (hx : p.tables.exec = Jvm.exec) (hb : c.code = cL_law) (hml : c.maxLocals = 7) (hgt : ∀ w ∈ GT, w.before args s = true) (hown : s.vm.findClass RL = some m.cls) (hK : va_K D vwCl [(cI, .int), (cZ, .boolean), (cC, .char), (cJ, .long), (cA, .array .int)] s) (X : LXt P P' lo A s) (hX : va_X b L xs s s.heap) (hbl : b < s.heap.size) (hbA : ¬ A b) (hRf : 2 ≤ R.frames) (hRl : 41 ≤ R.locals) (hcR : cells + 1 ≤ R.cells) (hsR : slots + 6 ≤ R.slots) (v : Int32) (i1 : vp_in (v + 1) L) (i2 : vp_in (v + 2) L) (i3 : vp_in (v + 3) L) {Mx My : Mm} {Lt : Nat} {K : Int} (hLt : Lt ≤ 480) (hKb : K + 5100 ≤ 2000000000) (rr : RR Lt K Mx My) {H : Heap} {locs : List Loc} {ls : Array Slot} (hl : lv_has ls 7 [(4, .int v), (0, .ref b), (1, .ref (P 0)), (2, .ref (P' 0)), (3, .ref lo)]) (h : LSt D cI cZ cC cJ cA P P' lo A s Mx My H locs) (kk : ∀ (Mx' My' : Mm) (Lt' : Nat) (H : Heap) (locs : List Loc) (ls : Array Slot) (k n : Nat), k ≤ cells + 1 → n ≤ slots + 6 → Lt' ≤ 480 → RR Lt' (K + 5100) Mx' My' → lv_has ls 7 [(4, .int v), (0, .ref b), (1, .ref (P 0)), (2, .ref (P' 0)), (3, .ref lo)] → LSt D cI cZ cC cJ cA P P' lo A s Mx' My' H locs → W p l e R s m args below meth c H locs k n Q (F0 m 706 ls [])) : W p l e R s m args below meth c H locs cells slots Q (F0 m 506 ls []) := by
  refine lv_aload_n hx hb dL_law_506 rfl (lv_at hl 2 rfl) ?_
  obtain ⟨Mx1, r1, My1, r2, q1, q2, rr⟩ := rr_drop rr hKb
  refine lwX X h (va_runV (As := []) (rest := []) ⟨hx, hb, hml, hown, hgt⟩ (z_ChipMap_drop l D cI cZ cC cJ cA P s (fun q hq => X.AO q (X.xA q hq)) Mx Mx1 r1 q1) (cwV 0 hgt (gV wd_3_12 wd_3_13 wd_3_14 wd_0_1 wd_3_15) rfl rfl rfl (by decide +kernel) ⟨Nat.le_trans (by decide) hRf, Nat.le_trans (by decide) hRl⟩) (prL h.x hK h.dx (Old.rf s) X.AO h.S (va_recv hK h.x (ci := 0) (q0 := 0) rfl gX_0)) rfl rfl hl.1 rfl (lv_room (Nat.le_of_ble_eq_true rfl)) dL_law_507 ⟨Nat.le_of_succ_le hcR, Nat.le_trans (Nat.le_add_right _ _) hsR⟩) (fun H locs h => ?_)
  refine lv_pop hx hb dL_law_510 rfl ?_
  refine lv_aload_n hx hb dL_law_511 rfl (lv_at hl 3 rfl) ?_
  refine lwY X h (va_runV (As := []) (rest := []) ⟨hx, hb, hml, hown, hgt⟩ (z_ChipMapModel_drop l D cI cZ cC cJ cA P' s (fun q hq => X.AO q (X.yA q hq)) My My1 r2 q2) (cwV 0 hgt (gV wd_6_186 wd_6_187 wd_6_188 wd_0_15 wd_6_189) rfl rfl rfl (by decide +kernel) ⟨Nat.le_trans (by decide) hRf, Nat.le_trans (by decide) hRl⟩) (prL h.y hK h.dy (Old.rf s) X.AO h.S (va_recv hK h.y (ci := 1) (q0 := 0) rfl gY_0)) rfl rfl hl.1 rfl (lv_room (Nat.le_of_ble_eq_true rfl)) dL_law_512 ⟨Nat.le_of_succ_le hcR, Nat.le_trans (Nat.le_add_right _ _) hsR⟩) (fun H locs h => ?_)
  refine lv_pop hx hb dL_law_515 rfl ?_
  refine lv_goto hx hb dL_law_516 (tgt := 706) rfl ?_
  exact kk Mx1 My1 Lt H locs ls cells slots (Nat.le_succ _) (Nat.le_add_right _ _) hLt rr (lv_sub hl [0, 1, 2, 3, 4] (l' := [(4, .int v), (0, .ref b), (1, .ref (P 0)), (2, .ref (P' 0)), (3, .ref lo)]) rfl) h
set_option maxHeartbeats 4000000 in
set_option maxRecDepth 20000 in
theorem lc_13 {p : Program} {l : Launch} {e : Env} {R : Room} {s : State} {m : MethodId} {args : Array Value} {below : List Frame} {meth : Method} {c : Code} {cells slots : Nat} {Q : State → Prop} {D : va_G} {cI cZ cC cJ cA : ClassId} {P P' : Nat → Nat} {lo b L : Nat} {A : Nat → Prop} {xs : Nat → Int32} (hx : p.tables.exec = Jvm.exec) (hb : c.code = cL_law) (hml : c.maxLocals = 7) (hgt : ∀ w ∈ GT, w.before args s = true) (hown : s.vm.findClass RL = some m.cls) (hK : va_K D vwCl [(cI, .int), (cZ, .boolean), (cC, .char), (cJ, .long), (cA, .array .int)] s) (X : LXt P P' lo A s) (hX : va_X b L xs s s.heap) (hbl : b < s.heap.size) (hbA : ¬ A b) (hRf : 2 ≤ R.frames) (hRl : 45 ≤ R.locals) (hcR : cells + 1 ≤ R.cells) (hsR : slots + 6 ≤ R.slots) (v : Int32) (i1 : vp_in (v + 1) L) (i2 : vp_in (v + 2) L) (i3 : vp_in (v + 3) L) {Mx My : Mm} {Lt : Nat} {K : Int} (hLt : Lt ≤ 480) (hKb : K + 5100 ≤ 2000000000) (rr : RR Lt K Mx My) {H : Heap} {locs : List Loc} {ls : Array Slot} (hl : lv_has ls 7 [(4, .int v), (0, .ref b), (1, .ref (P 0)), (2, .ref (P' 0)), (3, .ref lo)]) (h : LSt D cI cZ cC cJ cA P P' lo A s Mx My H locs) (kk : ∀ (Mx' My' : Mm) (Lt' : Nat) (H : Heap) (locs : List Loc) (ls : Array Slot) (k n : Nat), k ≤ cells + 1 → n ≤ slots + 6 → Lt' ≤ 480 → RR Lt' (K + 5100) Mx' My' → lv_has ls 7 [(4, .int v), (0, .ref b), (1, .ref (P 0)), (2, .ref (P' 0)), (3, .ref lo)] → LSt D cI cZ cC cJ cA P P' lo A s Mx' My' H locs → W p l e R s m args below meth c H locs k n Q (F0 m 706 ls [])) : W p l e R s m args below meth c H locs cells slots Q (F0 m 519 ls []) := by
  refine lv_aload_n hx hb dL_law_519 rfl (lv_at hl 2 rfl) ?_
  refine lv_aload_n hx hb dL_law_520 rfl (lv_at hl 1 rfl) ?_
  refine lv_iload hx hb dL_law_521 (lv_at hl 0 rfl) ?_
  refine lv_iconst (v := 1) hx hb dL_law_523 (by decide) ?_
  refine lv_iadd hx hb dL_law_524 ?_
  refine va_sld hx hb hX hbl hbA h.S i1 dL_law_525 ?_
  refine W.eq (g2 := F0 m 526 ls [.int (xs (v + 1).toNatClampNeg), .ref (P 0)]) rfl ?_
  refine lv_aload_n hx hb dL_law_526 rfl (lv_at hl 1 rfl) ?_
  refine lv_iload hx hb dL_law_527 (lv_at hl 0 rfl) ?_
  refine lv_iconst (v := 2) hx hb dL_law_529 (by decide) ?_
  refine lv_iadd hx hb dL_law_530 ?_
  refine va_sld hx hb hX hbl hbA h.S i2 dL_law_531 ?_
  refine W.eq (g2 := F0 m 532 ls [.int (xs (v + 2).toNatClampNeg), .int (xs (v + 1).toNatClampNeg), .ref (P 0)]) rfl ?_
  obtain ⟨Mx1, r1, My1, r2, q1, q2, rr⟩ := rr_trace rr hKb (xs (v + 1).toNatClampNeg) (xs (v + 2).toNatClampNeg)
  refine lwX X h (va_runV (As := [.int (xs (v + 1).toNatClampNeg), .int (xs (v + 2).toNatClampNeg)]) (rest := []) ⟨hx, hb, hml, hown, hgt⟩ (z_ChipMap_trace l D cI cZ cC cJ cA P s (fun q hq => X.AO q (X.xA q hq)) Mx (xs (v + 1).toNatClampNeg) (xs (v + 2).toNatClampNeg) Mx1 r1 q1) (cwV 2 hgt (gV wd_3_20 wd_3_21 wd_3_22 wd_0_1 wd_3_23) rfl rfl rfl (by decide +kernel) ⟨Nat.le_trans (by decide) hRf, Nat.le_trans (by decide) hRl⟩) (prL h.x hK h.dx (Old.rf s) X.AO h.S (va_recv hK h.x (ci := 0) (q0 := 0) rfl gX_0)) rfl rfl hl.1 rfl (lv_room (Nat.le_of_ble_eq_true rfl)) dL_law_532 ⟨Nat.le_of_succ_le hcR, Nat.le_trans (Nat.le_add_right _ _) hsR⟩) (fun H locs h => ?_)
  refine lv_pop hx hb dL_law_535 rfl ?_
  refine lv_aload_n hx hb dL_law_536 rfl (lv_at hl 3 rfl) ?_
  refine lv_aload_n hx hb dL_law_537 rfl (lv_at hl 1 rfl) ?_
  refine lv_iload hx hb dL_law_538 (lv_at hl 0 rfl) ?_
  refine lv_iconst (v := 1) hx hb dL_law_540 (by decide) ?_
  refine lv_iadd hx hb dL_law_541 ?_
  refine va_sld hx hb hX hbl hbA h.S i1 dL_law_542 ?_
  refine W.eq (g2 := F0 m 543 ls [.int (xs (v + 1).toNatClampNeg), .ref (P' 0)]) rfl ?_
  refine lv_aload_n hx hb dL_law_543 rfl (lv_at hl 1 rfl) ?_
  refine lv_iload hx hb dL_law_544 (lv_at hl 0 rfl) ?_
  refine lv_iconst (v := 2) hx hb dL_law_546 (by decide) ?_
  refine lv_iadd hx hb dL_law_547 ?_
  refine va_sld hx hb hX hbl hbA h.S i2 dL_law_548 ?_
  refine W.eq (g2 := F0 m 549 ls [.int (xs (v + 2).toNatClampNeg), .int (xs (v + 1).toNatClampNeg), .ref (P' 0)]) rfl ?_
  refine lwY X h (va_runV (As := [.int (xs (v + 1).toNatClampNeg), .int (xs (v + 2).toNatClampNeg)]) (rest := []) ⟨hx, hb, hml, hown, hgt⟩ (z_ChipMapModel_trace_1 l D cI cZ cC cJ cA P' s (fun q hq => X.AO q (X.yA q hq)) My (xs (v + 1).toNatClampNeg) (xs (v + 2).toNatClampNeg) My1 r2 q2) (cwV 2 hgt (gV wd_6_190 wd_6_191 wd_6_192 wd_0_15 wd_6_193) rfl rfl rfl (by decide +kernel) ⟨Nat.le_trans (by decide) hRf, Nat.le_trans (by decide) hRl⟩) (prL h.y hK h.dy (Old.rf s) X.AO h.S (va_recv hK h.y (ci := 1) (q0 := 0) rfl gY_0)) rfl rfl hl.1 rfl (lv_room (Nat.le_of_ble_eq_true rfl)) dL_law_549 ⟨Nat.le_of_succ_le hcR, Nat.le_trans (Nat.le_add_right _ _) hsR⟩) (fun H locs h => ?_)
  refine lv_pop hx hb dL_law_552 rfl ?_
  refine lv_goto hx hb dL_law_553 (tgt := 706) rfl ?_
  exact kk Mx1 My1 Lt H locs ls cells slots (Nat.le_succ _) (Nat.le_add_right _ _) hLt rr (lv_sub hl [0, 1, 2, 3, 4] (l' := [(4, .int v), (0, .ref b), (1, .ref (P 0)), (2, .ref (P' 0)), (3, .ref lo)]) rfl) h
