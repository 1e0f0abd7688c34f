set_option maxHeartbeats 4000000 in
set_option maxRecDepth 20000 in
theorem lc_0 {p : Program} {l : Launch} {e : Env} {R : Room} {s : State} {m : MethodId} {args : Array Value} {below : List Frame} {meth : Method} {c : Code} {cells slots : Nat} {Q : State → Prop} {D : va_G} {cI cZ cC cJ cA : ClassId} {P P' : Nat → Nat} {lo b L : Nat} {A : Nat → Prop} {xs : Nat → Int32} (hx : p.tables.exec = Jvm.exec) (hb : c.code = cL_law) (hml : c.maxLocals = 7) (hgt : ∀ w ∈ GT, w.before args s = true) (hown : s.vm.findClass RL = some m.cls) (hK : va_K D vwCl [(cI, .int), (cZ, .boolean), (cC, .char), (cJ, .long), (cA, .array .int)] s) (X : LXt P P' lo A s) (hX : va_X b L xs s s.heap) (hbl : b < s.heap.size) (hbA : ¬ A b) (hRf : 3 ≤ R.frames) (hRl : 70 ≤ R.locals) (hcR : cells + 1 ≤ R.cells) (hsR : slots + 6 ≤ R.slots) (v : Int32) (i1 : vp_in (v + 1) L) (i2 : vp_in (v + 2) L) (i3 : vp_in (v + 3) L) {Mx My : Mm} {Lt : Nat} {K : Int} (hLt : Lt ≤ 480) (hKb : K + 5100 ≤ 2000000000) (rr : RR Lt K Mx My) {H : Heap} {locs : List Loc} {ls : Array Slot} (hl : lv_has ls 7 [(4, .int v), (0, .ref b), (1, .ref (P 0)), (2, .ref (P' 0)), (3, .ref lo)]) (h : LSt D cI cZ cC cJ cA P P' lo A s Mx My H locs) (kk : ∀ (Mx' My' : Mm) (Lt' : Nat) (H : Heap) (locs : List Loc) (ls : Array Slot) (k n : Nat), k ≤ cells + 1 → n ≤ slots + 6 → Lt' ≤ 480 → RR Lt' (K + 5100) Mx' My' → lv_has ls 7 [(4, .int v), (0, .ref b), (1, .ref (P 0)), (2, .ref (P' 0)), (3, .ref lo)] → LSt D cI cZ cC cJ cA P P' lo A s Mx' My' H locs → W p l e R s m args below meth c H locs k n Q (F0 m 706 ls [])) : W p l e R s m args below meth c H locs cells slots Q (F0 m 132 ls []) := by
  obtain ⟨Mx1, My1, r, Lt1, q1, q2, hLt1, rr⟩ := rr_type rr hLt hKb (((((xs (v + 1).toNatClampNeg) : Int32).toInt64) <<< ((32 : Int32).toInt64 &&& 63)) ||| ((((xs (v + 2).toNatClampNeg) : Int32).toInt64) &&& 4294967295)) (xs (v + 3).toNatClampNeg)
  refine lv_aload_n hx hb dL_law_132 rfl (lv_at hl 2 rfl) ?_
  refine lv_aload_n hx hb dL_law_133 rfl (lv_at hl 1 rfl) ?_
  refine lv_iload hx hb dL_law_134 (lv_at hl 0 rfl) ?_
  refine lv_iconst (v := 1) hx hb dL_law_136 (by decide) ?_
  refine lv_iadd hx hb dL_law_137 ?_
  refine va_sld hx hb hX hbl hbA h.S i1 dL_law_138 ?_
  refine W.eq (g2 := F0 m 139 ls [.int (xs (v + 1).toNatClampNeg), .ref (P 0)]) rfl ?_
  refine lv_i2l (v := ((xs (v + 1).toNatClampNeg) : Int32).toInt64) hx hb dL_law_139 rfl ?_
  refine lv_bipush (v := 32) hx hb dL_law_140 (by decide) ?_
  refine lv_lshl (v := ((((xs (v + 1).toNatClampNeg) : Int32).toInt64) <<< ((32 : Int32).toInt64 &&& 63))) hx hb dL_law_142 rfl ?_
  refine lv_aload_n hx hb dL_law_143 rfl (lv_at hl 1 rfl) ?_
  refine lv_iload hx hb dL_law_144 (lv_at hl 0 rfl) ?_
  refine lv_iconst (v := 2) hx hb dL_law_146 (by decide) ?_
  refine lv_iadd hx hb dL_law_147 ?_
  refine va_sld hx hb hX hbl hbA h.S i2 dL_law_148 ?_
  refine W.eq (g2 := F0 m 149 ls [.int (xs (v + 2).toNatClampNeg), .long ((((xs (v + 1).toNatClampNeg) : Int32).toInt64) <<< ((32 : Int32).toInt64 &&& 63)), .ref (P 0)]) rfl ?_
  refine lv_i2l (v := ((xs (v + 2).toNatClampNeg) : Int32).toInt64) hx hb dL_law_149 rfl ?_
  refine lv_ldc2 (v := 4294967295) hx hb hown (hgt _ wd_6_238) dL_law_150 ?_
  refine lv_land hx hb dL_law_153 ?_
  refine lv_lor hx hb dL_law_154 ?_
  refine lv_aload_n hx hb dL_law_155 rfl (lv_at hl 1 rfl) ?_
  refine lv_iload hx hb dL_law_156 (lv_at hl 0 rfl) ?_
  refine lv_iconst (v := 3) hx hb dL_law_158 (by decide) ?_
  refine lv_iadd hx hb dL_law_159 ?_
  refine va_sld hx hb hX hbl hbA h.S i3 dL_law_160 ?_
  refine W.eq (g2 := F0 m 161 ls [.int (xs (v + 3).toNatClampNeg), .long (((((xs (v + 1).toNatClampNeg) : Int32).toInt64) <<< ((32 : Int32).toInt64 &&& 63)) ||| ((((xs (v + 2).toNatClampNeg) : Int32).toInt64) &&& 4294967295)), .ref (P 0)]) rfl ?_
  refine lwX X h (va_runV (As := [.long (((((xs (v + 1).toNatClampNeg) : Int32).toInt64) <<< ((32 : Int32).toInt64 &&& 63)) ||| ((((xs (v + 2).toNatClampNeg) : Int32).toInt64) &&& 4294967295)), .int (xs (v + 3).toNatClampNeg)]) (rest := []) ⟨hx, hb, hml, hown, hgt⟩ (z_ChipMap_type l D cI cZ cC cJ cA P s (fun q hq => X.AO q (X.xA q hq)) Mx (((((xs (v + 1).toNatClampNeg) : Int32).toInt64) <<< ((32 : Int32).toInt64 &&& 63)) ||| ((((xs (v + 2).toNatClampNeg) : Int32).toInt64) &&& 4294967295)) (xs (v + 3).toNatClampNeg) Mx1 r q1) (cwV 2 hgt (gV wd_2_45 wd_2_46 wd_2_47 wd_0_1 wd_2_48) rfl rfl rfl (by decide +kernel) ⟨Nat.le_trans (by decide) hRf, Nat.le_trans (by decide) hRl⟩) (prL h.x hK h.dx (Old.rf s) X.AO h.S (va_recv hK h.x (ci := 0) (q0 := 0) rfl gX_0)) rfl rfl hl.1 rfl (lv_room (Nat.le_of_ble_eq_true rfl)) dL_law_161 ⟨Nat.le_of_succ_le hcR, Nat.le_trans (Nat.le_add_right _ _) hsR⟩) (fun H locs h => ?_)
  refine lv_pop hx hb dL_law_164 rfl ?_
  refine lv_aload_n hx hb dL_law_165 rfl (lv_at hl 3 rfl) ?_
  refine lv_aload_n hx hb dL_law_166 rfl (lv_at hl 1 rfl) ?_
  refine lv_iload hx hb dL_law_167 (lv_at hl 0 rfl) ?_
  refine lv_iconst (v := 1) hx hb dL_law_169 (by decide) ?_
  refine lv_iadd hx hb dL_law_170 ?_
  refine va_sld hx hb hX hbl hbA h.S i1 dL_law_171 ?_
  refine W.eq (g2 := F0 m 172 ls [.int (xs (v + 1).toNatClampNeg), .ref (P' 0)]) rfl ?_
  refine lv_i2l (v := ((xs (v + 1).toNatClampNeg) : Int32).toInt64) hx hb dL_law_172 rfl ?_
  refine lv_bipush (v := 32) hx hb dL_law_173 (by decide) ?_
  refine lv_lshl (v := ((((xs (v + 1).toNatClampNeg) : Int32).toInt64) <<< ((32 : Int32).toInt64 &&& 63))) hx hb dL_law_175 rfl ?_
  refine lv_aload_n hx hb dL_law_176 rfl (lv_at hl 1 rfl) ?_
  refine lv_iload hx hb dL_law_177 (lv_at hl 0 rfl) ?_
  refine lv_iconst (v := 2) hx hb dL_law_179 (by decide) ?_
  refine lv_iadd hx hb dL_law_180 ?_
  refine va_sld hx hb hX hbl hbA h.S i2 dL_law_181 ?_
  refine W.eq (g2 := F0 m 182 ls [.int (xs (v + 2).toNatClampNeg), .long ((((xs (v + 1).toNatClampNeg) : Int32).toInt64) <<< ((32 : Int32).toInt64 &&& 63)), .ref (P' 0)]) rfl ?_
  refine lv_i2l (v := ((xs (v + 2).toNatClampNeg) : Int32).toInt64) hx hb dL_law_182 rfl ?_
  refine lv_ldc2 (v := 4294967295) hx hb hown (hgt _ wd_6_238) dL_law_183 ?_
  refine lv_land hx hb dL_law_186 ?_
  refine lv_lor hx hb dL_law_187 ?_
  refine lv_aload_n hx hb dL_law_188 rfl (lv_at hl 1 rfl) ?_
  refine lv_iload hx hb dL_law_189 (lv_at hl 0 rfl) ?_
  refine lv_iconst (v := 3) hx hb dL_law_191 (by decide) ?_
  refine lv_iadd hx hb dL_law_192 ?_
  refine va_sld hx hb hX hbl hbA h.S i3 dL_law_193 ?_
  refine W.eq (g2 := F0 m 194 ls [.int (xs (v + 3).toNatClampNeg), .long (((((xs (v + 1).toNatClampNeg) : Int32).toInt64) <<< ((32 : Int32).toInt64 &&& 63)) ||| ((((xs (v + 2).toNatClampNeg) : Int32).toInt64) &&& 4294967295)), .ref (P' 0)]) rfl ?_
  refine lwY X h (va_runV (As := [.long (((((xs (v + 1).toNatClampNeg) : Int32).toInt64) <<< ((32 : Int32).toInt64 &&& 63)) ||| ((((xs (v + 2).toNatClampNeg) : Int32).toInt64) &&& 4294967295)), .int (xs (v + 3).toNatClampNeg)]) (rest := []) ⟨hx, hb, hml, hown, hgt⟩ (z_ChipMapModel_type l D cI cZ cC cJ cA P' s (fun q hq => X.AO q (X.yA q hq)) My (((((xs (v + 1).toNatClampNeg) : Int32).toInt64) <<< ((32 : Int32).toInt64 &&& 63)) ||| ((((xs (v + 2).toNatClampNeg) : Int32).toInt64) &&& 4294967295)) (xs (v + 3).toNatClampNeg) My1 r q2) (cwV 2 hgt (gV wd_5_191 wd_5_192 wd_5_193 wd_0_15 wd_5_194) rfl rfl rfl (by decide +kernel) ⟨Nat.le_trans (by decide) hRf, Nat.le_trans (by decide) hRl⟩) (prL h.y hK h.dy (Old.rf s) X.AO h.S (va_recv hK h.y (ci := 1) (q0 := 0) rfl gY_0)) rfl rfl hl.1 rfl (lv_room (Nat.le_of_ble_eq_true rfl)) dL_law_194 ⟨Nat.le_of_succ_le hcR, Nat.le_trans (Nat.le_add_right _ _) hsR⟩) (fun H locs h => ?_)
  refine lv_pop hx hb dL_law_197 rfl ?_
  refine lv_goto hx hb dL_law_198 (tgt := 706) rfl ?_
  exact kk Mx1 My1 Lt1 H locs ls cells slots (Nat.le_succ _) (Nat.le_add_right _ _) hLt1 rr (lv_sub hl [0, 1, 2, 3, 4] (l' := [(4, .int v), (0, .ref b), (1, .ref (P 0)), (2, .ref (P' 0)), (3, .ref lo)]) rfl) h
set_option maxHeartbeats 4000000 in
set_option maxRecDepth 20000 in
theorem lc_1 {p : Program} {l : Launch} {e : Env} {R : Room} {s : State} {m : MethodId} {args : Array Value} {below : List Frame} {meth : Method} {c : Code} {cells slots : Nat} {Q : State → Prop} {D : va_G} {cI cZ cC cJ cA : ClassId} {P P' : Nat → Nat} {lo b L : Nat} {A : Nat → Prop} {xs : Nat → Int32} (hx : p.tables.exec = Jvm.exec) (hb : c.code = cL_law) (hml : c.maxLocals = 7) (hgt : ∀ w ∈ GT, w.before args s = true) (hown : s.vm.findClass RL = some m.cls) (hK : va_K D vwCl [(cI, .int), (cZ, .boolean), (cC, .char), (cJ, .long), (cA, .array .int)] s) (X : LXt P P' lo A s) (hX : va_X b L xs s s.heap) (hbl : b < s.heap.size) (hbA : ¬ A b) (hRf : 11 ≤ R.frames) (hRl : 242 ≤ R.locals) (hcR : cells + 1 ≤ R.cells) (hsR : slots + 6 ≤ R.slots) {qS : Nat → Nat} {c1 : ClassId} (hlt : l.stackTraces = false) (hE : xE s qS) (hT1 : ThrF "java/lang/IllegalArgumentException" s) (hF1 : s.vm.findClass "java/lang/IllegalArgumentException" = some c1) (v : Int32) (i1 : vp_in (v + 1) L) (i2 : vp_in (v + 2) L) (i3 : vp_in (v + 3) L) {Mx My : Mm} {Lt : Nat} {K : Int} (hLt : Lt ≤ 480) (hKb : K + 5100 ≤ 2000000000) (rr : RR Lt K Mx My) {H : Heap} {locs : List Loc} {ls : Array Slot} (hl : lv_has ls 7 [(4, .int v), (0, .ref b), (1, .ref (P 0)), (2, .ref (P' 0)), (3, .ref lo)]) (h : LSt D cI cZ cC cJ cA P P' lo A s Mx My H locs) (kk : ∀ (Mx' My' : Mm) (Lt' : Nat) (H : Heap) (locs : List Loc) (ls : Array Slot) (k n : Nat), k ≤ cells + 1 → n ≤ slots + 6 → Lt' ≤ 480 → RR Lt' (K + 5100) Mx' My' → lv_has ls 7 [(4, .int v), (0, .ref b), (1, .ref (P 0)), (2, .ref (P' 0)), (3, .ref lo)] → LSt D cI cZ cC cJ cA P P' lo A s Mx' My' H locs → W p l e R s m args below meth c H locs k n Q (F0 m 706 ls [])) : W p l e R s m args below meth c H locs cells slots Q (F0 m 201 ls []) := by
  refine lv_aload_n hx hb dL_law_201 rfl (lv_at hl 2 rfl) ?_
  refine lv_aload_n hx hb dL_law_202 rfl (lv_at hl 4 rfl) ?_
  obtain ⟨Mx1, My1, r2, q2, rr, hc⟩ := rr_compile rr hKb
  rcases hc with ⟨q1, w0⟩ | ⟨q1, w0⟩
  · skip
    refine lwH (M' := Mx1) X h (vD_f (w1 := wX cI cZ cC cJ cA P Mx) (w2 := wX cI cZ cC cJ cA P Mx1) rfl h.dx) (in_S (R' := { frames := 10, cells := 1, slots := 6, locals := 220 }) (own := "ChipMapLaw") (y := yL_compile) (bytes := cL_compile) (maxL := 3) (ret := some .int) (hs := [(0, 8, 11, 13)]) (As := [.ref (P 0), .ref lo]) (rest := []) hx hb hml hown (hgt _ wd_3_130) (hgt _ wd_3_131) (hgt _ wd_0_0) (hgt _ wd_3_132) (by decide) (by decide +kernel) (fun sig h => by cases h; rfl) rfl hl.1 rfl (lv_room (Nat.le_of_ble_eq_true rfl)) dL_law_203 ⟨hcR, hsR⟩ ⟨Nat.le_trans (by decide) hRf, Nat.le_trans (by decide) hRl, rfl, rfl⟩ (fun s' mk methk ck bel hH hW hfc hcb hcl hct hcr hck hcc hcm => by
      obtain ⟨fo, hPo⟩ := h.o
      have hB := hn_compile (p := p) (l := l) (e := e) (below := bel) (lo := lo) hx hcb hcl hcr hck (fun w h => word_at hW (gt_g h).2 (hgt w h)) hfc (va_K.moved hW.alike hK) (Old.step (Old.rf s) X.AO h.S hH hW) (fun q hq => X.AO q (X.xA q hq)) (X.AO _ X.oA) X.xo hE Mx Mx1 r2 q1 (by rw [hH]; exact h.x) (by rw [hH]; exact hPo) h.dx
      rw [hH] at hB
      exact hB)) (fun r f H locs hw ho h => ?_)
    refine lv_istore hx hb dL_law_206 hl (Nat.le_of_ble_eq_true rfl) (lv' := [(5, .int r), (4, .int v), (0, .ref b), (1, .ref (P 0)), (2, .ref (P' 0)), (3, .ref lo)]) rfl (fun ls hl => ?_)
    refine lv_aload_n hx hb dL_law_208 rfl (lv_at hl 4 rfl) ?_
    refine lwYo X h ho (va_runV (As := []) (rest := []) ⟨hx, hb, hml, hown, hgt⟩ (z_ChipMapModel_compile l D cI cZ cC cJ cA P' s (fun q hq => X.AO q (X.yA q hq)) My My1 r2 q2) (cwV 0 hgt (gV wd_5_196 wd_5_197 wd_5_198 wd_0_15 wd_5_199) rfl rfl rfl (by decide +kernel) ⟨Nat.le_trans (by decide) hRf, Nat.le_trans (by decide) hRl⟩) (prL h.y hK h.dy (Old.rf s) X.AO h.S (va_recv hK h.y (ci := 1) (q0 := 0) rfl gY_0)) rfl rfl hl.1 rfl (lv_room (Nat.le_of_ble_eq_true rfl)) dL_law_209 ⟨hcR, hsR⟩) (fun H locs ho h => ?_)
    refine lv_istore hx hb dL_law_212 hl (Nat.le_of_ble_eq_true rfl) (lv' := [(6, .int r2), (5, .int r), (4, .int v), (0, .ref b), (1, .ref (P 0)), (2, .ref (P' 0)), (3, .ref lo)]) rfl (fun ls hl => ?_)
    refine lv_goto hx hb dL_law_214 (tgt := 706) rfl ?_
    exact kk Mx1 My1 0 H locs ls (cells + 1) (slots + 6) (Nat.le_refl _) (Nat.le_refl _) (by decide) rr (lv_sub hl [2, 3, 4, 5, 6] (l' := [(4, .int v), (0, .ref b), (1, .ref (P 0)), (2, .ref (P' 0)), (3, .ref lo)]) rfl) h
  · skip
    refine lwH (M' := Mx1) X h (vD_f (w1 := wX cI cZ cC cJ cA P Mx) (w2 := wX cI cZ cC cJ cA P Mx1) rfl h.dx) (in_S (R' := { frames := 10, cells := 1, slots := 6, locals := 220 }) (own := "ChipMapLaw") (y := yL_compile) (bytes := cL_compile) (maxL := 3) (ret := some .int) (hs := [(0, 8, 11, 13)]) (As := [.ref (P 0), .ref lo]) (rest := []) hx hb hml hown (hgt _ wd_3_130) (hgt _ wd_3_131) (hgt _ wd_0_0) (hgt _ wd_3_132) (by decide) (by decide +kernel) (fun sig h => by cases h; rfl) rfl hl.1 rfl (lv_room (Nat.le_of_ble_eq_true rfl)) dL_law_203 ⟨hcR, hsR⟩ ⟨Nat.le_trans (by decide) hRf, Nat.le_trans (by decide) hRl, rfl, rfl⟩ (fun s' mk methk ck bel hH hW hfc hcb hcl hct hcr hck hcc hcm => by
      obtain ⟨fo, hPo⟩ := h.o
      have hB := ht_compile1 (p := p) (l := l) (e := e) (below := bel) (lo := lo) (c2 := 0) hx hcb hcl hcr hck (fun w h => word_at hW (gt_g h).2 (hgt w h)) hfc (va_K.moved hW.alike hK) (Old.step (Old.rf s) X.AO h.S hH hW) (fun q hq => X.AO q (X.xA q hq)) (X.AO _ X.oA) X.xo hE Mx Mx1 1 hlt hct hT1 hF1 q1 (by rw [hH]; exact h.x) (by rw [hH]; exact hPo) h.dx
      rw [hH] at hB
      exact hB)) (fun r f H locs hw ho h => ?_)
    refine lv_istore hx hb dL_law_206 hl (Nat.le_of_ble_eq_true rfl) (lv' := [(5, .int r), (4, .int v), (0, .ref b), (1, .ref (P 0)), (2, .ref (P' 0)), (3, .ref lo)]) rfl (fun ls hl => ?_)
    refine lv_aload_n hx hb dL_law_208 rfl (lv_at hl 4 rfl) ?_
    refine lwYo X h ho (va_runV (As := []) (rest := []) ⟨hx, hb, hml, hown, hgt⟩ (z_ChipMapModel_compile l D cI cZ cC cJ cA P' s (fun q hq => X.AO q (X.yA q hq)) My My1 r2 q2) (cwV 0 hgt (gV wd_5_196 wd_5_197 wd_5_198 wd_0_15 wd_5_199) rfl rfl rfl (by decide +kernel) ⟨Nat.le_trans (by decide) hRf, Nat.le_trans (by decide) hRl⟩) (prL h.y hK h.dy (Old.rf s) X.AO h.S (va_recv hK h.y (ci := 1) (q0 := 0) rfl gY_0)) rfl rfl hl.1 rfl (lv_room (Nat.le_of_ble_eq_true rfl)) dL_law_209 ⟨hcR, hsR⟩) (fun H locs ho h => ?_)
    refine lv_istore hx hb dL_law_212 hl (Nat.le_of_ble_eq_true rfl) (lv' := [(6, .int r2), (5, .int r), (4, .int v), (0, .ref b), (1, .ref (P 0)), (2, .ref (P' 0)), (3, .ref lo)]) rfl (fun ls hl => ?_)
    refine lv_goto hx hb dL_law_214 (tgt := 706) rfl ?_
    exact kk Mx1 My1 0 H locs ls (cells + 1) (slots + 6) (Nat.le_refl _) (Nat.le_refl _) (by decide) rr (lv_sub hl [2, 3, 4, 5, 6] (l' := [(4, .int v), (0, .ref b), (1, .ref (P 0)), (2, .ref (P' 0)), (3, .ref lo)]) rfl) h
set_option maxHeartbeats 4000000 in
set_option maxRecDepth 20000 in
theorem lc_2 {p : Program} {l : Launch} {e : Env} {R : Room} {s : State} {m : MethodId} {args : Array Value} {below : List Frame} {meth : Method} {c : Code} {cells slots : Nat} {Q : State → Prop} {D : va_G} {cI cZ cC cJ cA : ClassId} {P P' : Nat → Nat} {lo b L : Nat} {A : Nat → Prop} {xs : Nat → Int32} (hx : p.tables.exec = Jvm.exec) (hb : c.code = cL_law) (hml : c.maxLocals = 7) (hgt : ∀ w ∈ GT, w.before args s = true) (hown : s.vm.findClass RL = some m.cls) (hK : va_K D vwCl [(cI, .int), (cZ, .boolean), (cC, .char), (cJ, .long), (cA, .array .int)] s) (X : LXt P P' lo A s) (hX : va_X b L xs s s.heap) (hbl : b < s.heap.size) (hbA : ¬ A b) (hRf : 1 ≤ R.frames) (hRl : 21 ≤ R.locals) (hcR : cells + 1 ≤ R.cells) (hsR : slots + 6 ≤ R.slots) (v : Int32) (i1 : vp_in (v + 1) L) (i2 : vp_in (v + 2) L) (i3 : vp_in (v + 3) L) {Mx My : Mm} {Lt : Nat} {K : Int} (hLt : Lt ≤ 480) (hKb : K + 5100 ≤ 2000000000) (rr : RR Lt K Mx My) {H : Heap} {locs : List Loc} {ls : Array Slot} (hl : lv_has ls 7 [(4, .int v), (0, .ref b), (1, .ref (P 0)), (2, .ref (P' 0)), (3, .ref lo)]) (h : LSt D cI cZ cC cJ cA P P' lo A s Mx My H locs) (kk : ∀ (Mx' My' : Mm) (Lt' : Nat) (H : Heap) (locs : List Loc) (ls : Array Slot) (k n : Nat), k ≤ cells + 1 → n ≤ slots + 6 → Lt' ≤ 480 → RR Lt' (K + 5100) Mx' My' → lv_has ls 7 [(4, .int v), (0, .ref b), (1, .ref (P 0)), (2, .ref (P' 0)), (3, .ref lo)] → LSt D cI cZ cC cJ cA P P' lo A s Mx' My' H locs → W p l e R s m args below meth c H locs k n Q (F0 m 706 ls [])) : W p l e R s m args below meth c H locs cells slots Q (F0 m 217 ls []) := by
  refine lv_aload_n hx hb dL_law_217 rfl (lv_at hl 2 rfl) ?_
  refine lv_aload_n hx hb dL_law_218 rfl (lv_at hl 1 rfl) ?_
  refine lv_iload hx hb dL_law_219 (lv_at hl 0 rfl) ?_
  refine lv_iconst (v := 1) hx hb dL_law_221 (by decide) ?_
  refine lv_iadd hx hb dL_law_222 ?_
  refine va_sld hx hb hX hbl hbA h.S i1 dL_law_223 ?_
  refine W.eq (g2 := F0 m 224 ls [.int (xs (v + 1).toNatClampNeg), .ref (P 0)]) rfl ?_
  obtain ⟨Mx1, r1, My1, r2, q1, q2, rr⟩ := rr_fault rr hKb (xs (v + 1).toNatClampNeg)
  refine lwX X h (va_runV (As := [.int (xs (v + 1).toNatClampNeg)]) (rest := []) ⟨hx, hb, hml, hown, hgt⟩ (z_ChipMap_fault l D cI cZ cC cJ cA P s (fun q hq => X.AO q (X.xA q hq)) Mx (xs (v + 1).toNatClampNeg) Mx1 r1 q1) (cwV 1 hgt (gV wd_2_56 wd_2_57 wd_2_58 wd_0_1 wd_2_59) rfl rfl rfl (by decide +kernel) ⟨Nat.le_trans (by decide) hRf, Nat.le_trans (by decide) hRl⟩) (prL h.x hK h.dx (Old.rf s) X.AO h.S (va_recv hK h.x (ci := 0) (q0 := 0) rfl gX_0)) rfl rfl hl.1 rfl (lv_room (Nat.le_of_ble_eq_true rfl)) dL_law_224 ⟨Nat.le_of_succ_le hcR, Nat.le_trans (Nat.le_add_right _ _) hsR⟩) (fun H locs h => ?_)
  refine lv_pop hx hb dL_law_227 rfl ?_
  refine lv_aload_n hx hb dL_law_228 rfl (lv_at hl 3 rfl) ?_
  refine lv_aload_n hx hb dL_law_229 rfl (lv_at hl 1 rfl) ?_
  refine lv_iload hx hb dL_law_230 (lv_at hl 0 rfl) ?_
  refine lv_iconst (v := 1) hx hb dL_law_232 (by decide) ?_
  refine lv_iadd hx hb dL_law_233 ?_
  refine va_sld hx hb hX hbl hbA h.S i1 dL_law_234 ?_
  refine W.eq (g2 := F0 m 235 ls [.int (xs (v + 1).toNatClampNeg), .ref (P' 0)]) rfl ?_
  refine lwY X h (va_runV (As := [.int (xs (v + 1).toNatClampNeg)]) (rest := []) ⟨hx, hb, hml, hown, hgt⟩ (z_ChipMapModel_fault l D cI cZ cC cJ cA P' s (fun q hq => X.AO q (X.yA q hq)) My (xs (v + 1).toNatClampNeg) My1 r2 q2) (cwV 1 hgt (gV wd_6_45 wd_6_46 wd_6_47 wd_0_15 wd_6_48) rfl rfl rfl (by decide +kernel) ⟨Nat.le_trans (by decide) hRf, Nat.le_trans (by decide) hRl⟩) (prL h.y hK h.dy (Old.rf s) X.AO h.S (va_recv hK h.y (ci := 1) (q0 := 0) rfl gY_0)) rfl rfl hl.1 rfl (lv_room (Nat.le_of_ble_eq_true rfl)) dL_law_235 ⟨Nat.le_of_succ_le hcR, Nat.le_trans (Nat.le_add_right _ _) hsR⟩) (fun H locs h => ?_)
  refine lv_pop hx hb dL_law_238 rfl ?_
  refine lv_goto hx hb dL_law_239 (tgt := 706) rfl ?_
  exact kk Mx1 My1 Lt H locs ls cells slots (Nat.le_succ _) (Nat.le_add_right _ _) hLt rr (lv_sub hl [0, 1, 2, 3, 4] (l' := [(4, .int v), (0, .ref b), (1, .ref (P 0)), (2, .ref (P' 0)), (3, .ref lo)]) rfl) h
set_option maxHeartbeats 4000000 in
set_option maxRecDepth 20000 in
theorem lc_3 {p : Program} {l : Launch} {e : Env} {R : Room} {s : State} {m : MethodId} {args : Array Value} {below : List Frame} {meth : Method} {c : Code} {cells slots : Nat} {Q : State → Prop} {D : va_G} {cI cZ cC cJ cA : ClassId} {P P' : Nat → Nat} {lo b L : Nat} {A : Nat → Prop} {xs : Nat → Int32} (hx : p.tables.exec = Jvm.exec) (hb : c.code = cL_law) (hml : c.maxLocals = 7) (hgt : ∀ w ∈ GT, w.before args s = true) (hown : s.vm.findClass RL = some m.cls) (hK : va_K D vwCl [(cI, .int), (cZ, .boolean), (cC, .char), (cJ, .long), (cA, .array .int)] s) (X : LXt P P' lo A s) (hX : va_X b L xs s s.heap) (hbl : b < s.heap.size) (hbA : ¬ A b) (hRf : 3 ≤ R.frames) (hRl : 66 ≤ R.locals) (hcR : cells + 1 ≤ R.cells) (hsR : slots + 6 ≤ R.slots) (v : Int32) (i1 : vp_in (v + 1) L) (i2 : vp_in (v + 2) L) (i3 : vp_in (v + 3) L) {Mx My : Mm} {Lt : Nat} {K : Int} (hLt : Lt ≤ 480) (hKb : K + 5100 ≤ 2000000000) (rr : RR Lt K Mx My) {H : Heap} {locs : List Loc} {ls : Array Slot} (hl : lv_has ls 7 [(4, .int v), (0, .ref b), (1, .ref (P 0)), (2, .ref (P' 0)), (3, .ref lo)]) (h : LSt D cI cZ cC cJ cA P P' lo A s Mx My H locs) (kk : ∀ (Mx' My' : Mm) (Lt' : Nat) (H : Heap) (locs : List Loc) (ls : Array Slot) (k n : Nat), k ≤ cells + 1 → n ≤ slots + 6 → Lt' ≤ 480 → RR Lt' (K + 5100) Mx' My' → lv_has ls 7 [(4, .int v), (0, .ref b), (1, .ref (P 0)), (2, .ref (P' 0)), (3, .ref lo)] → LSt D cI cZ cC cJ cA P P' lo A s Mx' My' H locs → W p l e R s m args below meth c H locs k n Q (F0 m 706 ls [])) : W p l e R s m args below meth c H locs cells slots Q (F0 m 242 ls []) := by
  refine lv_aload_n hx hb dL_law_242 rfl (lv_at hl 2 rfl) ?_
  refine lv_aload_n hx hb dL_law_243 rfl (lv_at hl 1 rfl) ?_
  refine lv_iload hx hb dL_law_244 (lv_at hl 0 rfl) ?_
  refine lv_iconst (v := 1) hx hb dL_law_246 (by decide) ?_
  refine lv_iadd hx hb dL_law_247 ?_
  refine va_sld hx hb hX hbl hbA h.S i1 dL_law_248 ?_
  refine W.eq (g2 := F0 m 249 ls [.int (xs (v + 1).toNatClampNeg), .ref (P 0)]) rfl ?_
  refine lv_aload_n hx hb dL_law_249 rfl (lv_at hl 1 rfl) ?_
  refine lv_iload hx hb dL_law_250 (lv_at hl 0 rfl) ?_
  refine lv_iconst (v := 2) hx hb dL_law_252 (by decide) ?_
  refine lv_iadd hx hb dL_law_253 ?_
  refine va_sld hx hb hX hbl hbA h.S i2 dL_law_254 ?_
  refine W.eq (g2 := F0 m 255 ls [.int (xs (v + 2).toNatClampNeg), .int (xs (v + 1).toNatClampNeg), .ref (P 0)]) rfl ?_
  obtain ⟨Mx1, r1, My1, r2, q1, q2, rr⟩ := rr_field rr hKb (xs (v + 1).toNatClampNeg) (xs (v + 2).toNatClampNeg)
  refine lwX X h (va_runV (As := [.int (xs (v + 1).toNatClampNeg), .int (xs (v + 2).toNatClampNeg)]) (rest := []) ⟨hx, hb, hml, hown, hgt⟩ (z_ChipMap_field l D cI cZ cC cJ cA P s (fun q hq => X.AO q (X.xA q hq)) Mx (xs (v + 1).toNatClampNeg) (xs (v + 2).toNatClampNeg) Mx1 r1 q1) (cwV 2 hgt (gV wd_2_60 wd_2_61 wd_2_62 wd_0_1 wd_2_63) rfl rfl rfl (by decide +kernel) ⟨Nat.le_trans (by decide) hRf, Nat.le_trans (by decide) hRl⟩) (prL h.x hK h.dx (Old.rf s) X.AO h.S (va_recv hK h.x (ci := 0) (q0 := 0) rfl gX_0)) rfl rfl hl.1 rfl (lv_room (Nat.le_of_ble_eq_true rfl)) dL_law_255 ⟨Nat.le_of_succ_le hcR, Nat.le_trans (Nat.le_add_right _ _) hsR⟩) (fun H locs h => ?_)
  refine lv_pop hx hb dL_law_258 rfl ?_
  refine lv_aload_n hx hb dL_law_259 rfl (lv_at hl 3 rfl) ?_
  refine lv_aload_n hx hb dL_law_260 rfl (lv_at hl 1 rfl) ?_
  refine lv_iload hx hb dL_law_261 (lv_at hl 0 rfl) ?_
  refine lv_iconst (v := 1) hx hb dL_law_263 (by decide) ?_
  refine lv_iadd hx hb dL_law_264 ?_
  refine va_sld hx hb hX hbl hbA h.S i1 dL_law_265 ?_
  refine W.eq (g2 := F0 m 266 ls [.int (xs (v + 1).toNatClampNeg), .ref (P' 0)]) rfl ?_
  refine lv_aload_n hx hb dL_law_266 rfl (lv_at hl 1 rfl) ?_
  refine lv_iload hx hb dL_law_267 (lv_at hl 0 rfl) ?_
  refine lv_iconst (v := 2) hx hb dL_law_269 (by decide) ?_
  refine lv_iadd hx hb dL_law_270 ?_
  refine va_sld hx hb hX hbl hbA h.S i2 dL_law_271 ?_
  refine W.eq (g2 := F0 m 272 ls [.int (xs (v + 2).toNatClampNeg), .int (xs (v + 1).toNatClampNeg), .ref (P' 0)]) rfl ?_
  refine lwY X h (va_runV (As := [.int (xs (v + 1).toNatClampNeg), .int (xs (v + 2).toNatClampNeg)]) (rest := []) ⟨hx, hb, hml, hown, hgt⟩ (z_ChipMapModel_field l D cI cZ cC cJ cA P' s (fun q hq => X.AO q (X.yA q hq)) My (xs (v + 1).toNatClampNeg) (xs (v + 2).toNatClampNeg) My1 r2 q2) (cwV 2 hgt (gV wd_6_49 wd_6_50 wd_6_51 wd_0_15 wd_6_52) rfl rfl rfl (by decide +kernel) ⟨Nat.le_trans (by decide) hRf, Nat.le_trans (by decide) hRl⟩) (prL h.y hK h.dy (Old.rf s) X.AO h.S (va_recv hK h.y (ci := 1) (q0 := 0) rfl gY_0)) rfl rfl hl.1 rfl (lv_room (Nat.le_of_ble_eq_true rfl)) dL_law_272 ⟨Nat.le_of_succ_le hcR, Nat.le_trans (Nat.le_add_right _ _) hsR⟩) (fun H locs h => ?_)
  refine lv_pop hx hb dL_law_275 rfl ?_
  refine lv_goto hx hb dL_law_276 (tgt := 706) rfl ?_
  exact kk Mx1 My1 Lt H locs ls cells slots (Nat.le_succ _) (Nat.le_add_right _ _) hLt rr (lv_sub hl [0, 1, 2, 3, 4] (l' := [(4, .int v), (0, .ref b), (1, .ref (P 0)), (2, .ref (P' 0)), (3, .ref lo)]) rfl) h
set_option maxHeartbeats 4000000 in
set_option maxRecDepth 20000 in
theorem lc_4 {p : Program} {l : Launch} {e : Env} {R : Room} {s : State} {m : MethodId} {args : Array Value} {below : List Frame} {meth : Method} {c : Code} {cells slots : Nat} {Q : State → Prop} {D : va_G} {cI cZ cC cJ cA : ClassId} {P P' : Nat → Nat} {lo b L : Nat} {A : Nat → Prop} {xs : Nat → Int32} (hx : p.tables.exec = Jvm.exec) (hb : c.code = cL_law) (hml : c.maxLocals = 7) (hgt : ∀ w ∈ GT, w.before args s = true) (hown : s.vm.findClass RL = some m.cls) (hK : va_K D vwCl [(cI, .int), (cZ, .boolean), (cC, .char), (cJ, .long), (cA, .array .int)] s) (X : LXt P P' lo A s) (hX : va_X b L xs s s.heap) (hbl : b < s.heap.size) (hbA : ¬ A b) (hRf : 4 ≤ R.frames) (hRl : 84 ≤ R.locals) (hcR : cells + 1 ≤ R.cells) (hsR : slots + 6 ≤ R.slots) (v : Int32) (i1 : vp_in (v + 1) L) (i2 : vp_in (v + 2) L) (i3 : vp_in (v + 3) L) {Mx My : Mm} {Lt : Nat} {K : Int} (hLt : Lt ≤ 480) (hKb : K + 5100 ≤ 2000000000) (rr : RR Lt K Mx My) {H : Heap} {locs : List Loc} {ls : Array Slot} (hl : lv_has ls 7 [(4, .int v), (0, .ref b), (1, .ref (P 0)), (2, .ref (P' 0)), (3, .ref lo)]) (h : LSt D cI cZ cC cJ cA P P' lo A s Mx My H locs) (kk : ∀ (Mx' My' : Mm) (Lt' : Nat) (H : Heap) (locs : List Loc) (ls : Array Slot) (k n : Nat), k ≤ cells + 1 → n ≤ slots + 6 → Lt' ≤ 480 → RR Lt' (K + 5100) Mx' My' → lv_has ls 7 [(4, .int v), (0, .ref b), (1, .ref (P 0)), (2, .ref (P' 0)), (3, .ref lo)] → LSt D cI cZ cC cJ cA P P' lo A s Mx' My' H locs → W p l e R s m args below meth c H locs k n Q (F0 m 706 ls [])) : W p l e R s m args below meth c H locs cells slots Q (F0 m 279 ls []) := by
  refine lv_aload_n hx hb dL_law_279 rfl (lv_at hl 2 rfl) ?_
  obtain ⟨Mx1, r1, My1, r2, q1, q2, rr⟩ := rr_reset rr hKb
  refine lwX X h (va_runV (As := []) (rest := []) ⟨hx, hb, hml, hown, hgt⟩ (z_ChipMap_reset l D cI cZ cC cJ cA P s (fun q hq => X.AO q (X.xA q hq)) Mx Mx1 r1 q1) (cwV 0 hgt (gV wd_2_77 wd_2_78 wd_2_79 wd_0_1 wd_2_80) rfl rfl rfl (by decide +kernel) ⟨Nat.le_trans (by decide) hRf, Nat.le_trans (by decide) hRl⟩) (prL h.x hK h.dx (Old.rf s) X.AO h.S (va_recv hK h.x (ci := 0) (q0 := 0) rfl gX_0)) rfl rfl hl.1 rfl (lv_room (Nat.le_of_ble_eq_true rfl)) dL_law_280 ⟨Nat.le_of_succ_le hcR, Nat.le_trans (Nat.le_add_right _ _) hsR⟩) (fun H locs h => ?_)
  refine lv_pop hx hb dL_law_283 rfl ?_
  refine lv_aload_n hx hb dL_law_284 rfl (lv_at hl 3 rfl) ?_
  refine lwY X h (va_runV (As := []) (rest := []) ⟨hx, hb, hml, hown, hgt⟩ (z_ChipMapModel_reset l D cI cZ cC cJ cA P' s (fun q hq => X.AO q (X.yA q hq)) My My1 r2 q2) (cwV 0 hgt (gV wd_6_57 wd_6_58 wd_6_59 wd_0_15 wd_6_60) rfl rfl rfl (by decide +kernel) ⟨Nat.le_trans (by decide) hRf, Nat.le_trans (by decide) hRl⟩) (prL h.y hK h.dy (Old.rf s) X.AO h.S (va_recv hK h.y (ci := 1) (q0 := 0) rfl gY_0)) rfl rfl hl.1 rfl (lv_room (Nat.le_of_ble_eq_true rfl)) dL_law_285 ⟨Nat.le_of_succ_le hcR, Nat.le_trans (Nat.le_add_right _ _) hsR⟩) (fun H locs h => ?_)
  refine lv_pop hx hb dL_law_288 rfl ?_
  refine lv_goto hx hb dL_law_289 (tgt := 706) rfl ?_
  exact kk Mx1 My1 Lt H locs ls cells slots (Nat.le_succ _) (Nat.le_add_right _ _) hLt rr (lv_sub hl [0, 1, 2, 3, 4] (l' := [(4, .int v), (0, .ref b), (1, .ref (P 0)), (2, .ref (P' 0)), (3, .ref lo)]) rfl) h
set_option maxHeartbeats 4000000 in
set_option maxRecDepth 20000 in
theorem lc_5 {p : Program} {l : Launch} {e : Env} {R : Room} {s : State} {m : MethodId} {args : Array Value} {below : List Frame} {meth : Method} {c : Code} {cells slots : Nat} {Q : State → Prop} {D : va_G} {cI cZ cC cJ cA : ClassId} {P P' : Nat → Nat} {lo b L : Nat} {A : Nat → Prop} {xs : Nat → Int32} (hx : p.tables.exec = Jvm.exec) (hb : c.code = cL_law) (hml : c.maxLocals = 7) (hgt : ∀ w ∈ GT, w.before args s = true) (hown : s.vm.findClass RL = some m.cls) (hK : va_K D vwCl [(cI, .int), (cZ, .boolean), (cC, .char), (cJ, .long), (cA, .array .int)] s) (X : LXt P P' lo A s) (hX : va_X b L xs s s.heap) (hbl : b < s.heap.size) (hbA : ¬ A b) (hRf : 5 ≤ R.frames) (hRl : 120 ≤ R.locals) (hcR : cells + 1 ≤ R.cells) (hsR : slots + 6 ≤ R.slots) (v : Int32) (i1 : vp_in (v + 1) L) (i2 : vp_in (v + 2) L) (i3 : vp_in (v + 3) L) {Mx My : Mm} {Lt : Nat} {K : Int} (hLt : Lt ≤ 480) (hKb : K + 5100 ≤ 2000000000) (rr : RR Lt K Mx My) {H : Heap} {locs : List Loc} {ls : Array Slot} (hl : lv_has ls 7 [(4, .int v), (0, .ref b), (1, .ref (P 0)), (2, .ref (P' 0)), (3, .ref lo)]) (h : LSt D cI cZ cC cJ cA P P' lo A s Mx My H locs) (kk : ∀ (Mx' My' : Mm) (Lt' : Nat) (H : Heap) (locs : List Loc) (ls : Array Slot) (k n : Nat), k ≤ cells + 1 → n ≤ slots + 6 → Lt' ≤ 480 → RR Lt' (K + 5100) Mx' My' → lv_has ls 7 [(4, .int v), (0, .ref b), (1, .ref (P 0)), (2, .ref (P' 0)), (3, .ref lo)] → LSt D cI cZ cC cJ cA P P' lo A s Mx' My' H locs → W p l e R s m args below meth c H locs k n Q (F0 m 706 ls [])) : W p l e R s m args below meth c H locs cells slots Q (F0 m 292 ls []) := by
  refine lv_aload_n hx hb dL_law_292 rfl (lv_at hl 2 rfl) ?_
  refine lv_aload_n hx hb dL_law_293 rfl (lv_at hl 1 rfl) ?_
  refine lv_iload hx hb dL_law_294 (lv_at hl 0 rfl) ?_
  refine lv_iconst (v := 1) hx hb dL_law_296 (by decide) ?_
  refine lv_iadd hx hb dL_law_297 ?_
  refine va_sld hx hb hX hbl hbA h.S i1 dL_law_298 ?_
  refine W.eq (g2 := F0 m 299 ls [.int (xs (v + 1).toNatClampNeg), .ref (P 0)]) rfl ?_
  refine lv_aload_n hx hb dL_law_299 rfl (lv_at hl 1 rfl) ?_
  refine lv_iload hx hb dL_law_300 (lv_at hl 0 rfl) ?_
  refine lv_iconst (v := 2) hx hb dL_law_302 (by decide) ?_
  refine lv_iadd hx hb dL_law_303 ?_
  refine va_sld hx hb hX hbl hbA h.S i2 dL_law_304 ?_
  refine W.eq (g2 := F0 m 305 ls [.int (xs (v + 2).toNatClampNeg), .int (xs (v + 1).toNatClampNeg), .ref (P 0)]) rfl ?_
  obtain ⟨Mx1, r1, My1, r2, q1, q2, rr⟩ := rr_busWrite rr hKb (xs (v + 1).toNatClampNeg) (xs (v + 2).toNatClampNeg)
  refine lwX X h (va_runV (As := [.int (xs (v + 1).toNatClampNeg), .int (xs (v + 2).toNatClampNeg)]) (rest := []) ⟨hx, hb, hml, hown, hgt⟩ (z_ChipMap_busWrite l D cI cZ cC cJ cA P s (fun q hq => X.AO q (X.xA q hq)) Mx (xs (v + 1).toNatClampNeg) (xs (v + 2).toNatClampNeg) Mx1 r1 q1) (cwV 2 hgt (gV wd_2_98 wd_2_99 wd_2_100 wd_0_1 wd_2_101) rfl rfl rfl (by decide +kernel) ⟨Nat.le_trans (by decide) hRf, Nat.le_trans (by decide) hRl⟩) (prL h.x hK h.dx (Old.rf s) X.AO h.S (va_recv hK h.x (ci := 0) (q0 := 0) rfl gX_0)) rfl rfl hl.1 rfl (lv_room (Nat.le_of_ble_eq_true rfl)) dL_law_305 ⟨Nat.le_of_succ_le hcR, Nat.le_trans (Nat.le_add_right _ _) hsR⟩) (fun H locs h => ?_)
  refine lv_pop hx hb dL_law_308 rfl ?_
  refine lv_aload_n hx hb dL_law_309 rfl (lv_at hl 3 rfl) ?_
  refine lv_aload_n hx hb dL_law_310 rfl (lv_at hl 1 rfl) ?_
  refine lv_iload hx hb dL_law_311 (lv_at hl 0 rfl) ?_
  refine lv_iconst (v := 1) hx hb dL_law_313 (by decide) ?_
  refine lv_iadd hx hb dL_law_314 ?_
  refine va_sld hx hb hX hbl hbA h.S i1 dL_law_315 ?_
  refine W.eq (g2 := F0 m 316 ls [.int (xs (v + 1).toNatClampNeg), .ref (P' 0)]) rfl ?_
  refine lv_aload_n hx hb dL_law_316 rfl (lv_at hl 1 rfl) ?_
  refine lv_iload hx hb dL_law_317 (lv_at hl 0 rfl) ?_
  refine lv_iconst (v := 2) hx hb dL_law_319 (by decide) ?_
  refine lv_iadd hx hb dL_law_320 ?_
  refine va_sld hx hb hX hbl hbA h.S i2 dL_law_321 ?_
  refine W.eq (g2 := F0 m 322 ls [.int (xs (v + 2).toNatClampNeg), .int (xs (v + 1).toNatClampNeg), .ref (P' 0)]) rfl ?_
  refine lwY X h (va_runV (As := [.int (xs (v + 1).toNatClampNeg), .int (xs (v + 2).toNatClampNeg)]) (rest := []) ⟨hx, hb, hml, hown, hgt⟩ (z_ChipMapModel_busWrite l D cI cZ cC cJ cA P' s (fun q hq => X.AO q (X.yA q hq)) My (xs (v + 1).toNatClampNeg) (xs (v + 2).toNatClampNeg) My1 r2 q2) (cwV 2 hgt (gV wd_6_61 wd_6_62 wd_6_63 wd_0_15 wd_6_64) rfl rfl rfl (by decide +kernel) ⟨Nat.le_trans (by decide) hRf, Nat.le_trans (by decide) hRl⟩) (prL h.y hK h.dy (Old.rf s) X.AO h.S (va_recv hK h.y (ci := 1) (q0 := 0) rfl gY_0)) rfl rfl hl.1 rfl (lv_room (Nat.le_of_ble_eq_true rfl)) dL_law_322 ⟨Nat.le_of_succ_le hcR, Nat.le_trans (Nat.le_add_right _ _) hsR⟩) (fun H locs h => ?_)
  refine lv_pop hx hb dL_law_325 rfl ?_
  refine lv_goto hx hb dL_law_326 (tgt := 706) rfl ?_
  exact kk Mx1 My1 Lt H locs ls cells slots (Nat.le_succ _) (Nat.le_add_right _ _) hLt rr (lv_sub hl [0, 1, 2, 3, 4] (l' := [(4, .int v), (0, .ref b), (1, .ref (P 0)), (2, .ref (P' 0)), (3, .ref lo)]) rfl) h
set_option maxHeartbeats 4000000 in
set_option maxRecDepth 20000 in
theorem lc_6 {p : Program} {l : Launch} {e : Env} {R : Room} {s : State} {m : MethodId} {args : Array Value} {below : List Frame} {meth : Method} {c : Code} {cells slots : Nat} {Q : State → Prop} {D : va_G} {cI cZ cC cJ cA : ClassId} {P P' : Nat → Nat} {lo b L : Nat} {A : Nat → Prop} {xs : Nat → Int32} (hx : p.tables.exec = Jvm.exec) (hb : c.code = cL_law) (hml : c.maxLocals = 7) (hgt : ∀ w ∈ GT, w.before args s = true) (hown : s.vm.findClass RL = some m.cls) (hK : va_K D vwCl [(cI, .int), (cZ, .boolean), (cC, .char), (cJ, .long), (cA, .array .int)] s) (X : LXt P P' lo A s) (hX : va_X b L xs s s.heap) (hbl : b < s.heap.size) (hbA : ¬ A b) (hRf : 4 ≤ R.frames) (hRl : 89 ≤ R.locals) (hcR : cells + 1 ≤ R.cells) (hsR : slots + 6 ≤ R.slots) (v : Int32) (i1 : vp_in (v + 1) L) (i2 : vp_in (v + 2) L) (i3 : vp_in (v + 3) L) {Mx My : Mm} {Lt : Nat} {K : Int} (hLt : Lt ≤ 480) (hKb : K + 5100 ≤ 2000000000) (rr : RR Lt K Mx My) {H : Heap} {locs : List Loc} {ls : Array Slot} (hl : lv_has ls 7 [(4, .int v), (0, .ref b), (1, .ref (P 0)), (2, .ref (P' 0)), (3, .ref lo)]) (h : LSt D cI cZ cC cJ cA P P' lo A s Mx My H locs) (kk : ∀ (Mx' My' : Mm) (Lt' : Nat) (H : Heap) (locs : List Loc) (ls : Array Slot) (k n : Nat), k ≤ cells + 1 → n ≤ slots + 6 → Lt' ≤ 480 → RR Lt' (K + 5100) Mx' My' → lv_has ls 7 [(4, .int v), (0, .ref b), (1, .ref (P 0)), (2, .ref (P' 0)), (3, .ref lo)] → LSt D cI cZ cC cJ cA P P' lo A s Mx' My' H locs → W p l e R s m args below meth c H locs k n Q (F0 m 706 ls [])) : W p l e R s m args below meth c H locs cells slots Q (F0 m 329 ls []) := by
  refine lv_aload_n hx hb dL_law_329 rfl (lv_at hl 2 rfl) ?_
  refine lv_aload_n hx hb dL_law_330 rfl (lv_at hl 1 rfl) ?_
  refine lv_iload hx hb dL_law_331 (lv_at hl 0 rfl) ?_
  refine lv_iconst (v := 1) hx hb dL_law_333 (by decide) ?_
  refine lv_iadd hx hb dL_law_334 ?_
  refine va_sld hx hb hX hbl hbA h.S i1 dL_law_335 ?_
  refine W.eq (g2 := F0 m 336 ls [.int (xs (v + 1).toNatClampNeg), .ref (P 0)]) rfl ?_
  obtain ⟨Mx1, r1, My1, r2, q1, q2, rr⟩ := rr_busRead rr hKb (xs (v + 1).toNatClampNeg)
  refine lwX X h (va_runV (As := [.int (xs (v + 1).toNatClampNeg)]) (rest := []) ⟨hx, hb, hml, hown, hgt⟩ (z_ChipMap_busRead l D cI cZ cC cJ cA P s (fun q hq => X.AO q (X.xA q hq)) Mx (xs (v + 1).toNatClampNeg) Mx1 r1 q1) (cwV 1 hgt (gV wd_2_153 wd_2_154 wd_2_155 wd_0_1 wd_2_156) rfl rfl rfl (by decide +kernel) ⟨Nat.le_trans (by decide) hRf, Nat.le_trans (by decide) hRl⟩) (prL h.x hK h.dx (Old.rf s) X.AO h.S (va_recv hK h.x (ci := 0) (q0 := 0) rfl gX_0)) rfl rfl hl.1 rfl (lv_room (Nat.le_of_ble_eq_true rfl)) dL_law_336 ⟨Nat.le_of_succ_le hcR, Nat.le_trans (Nat.le_add_right _ _) hsR⟩) (fun H locs h => ?_)
  refine lv_pop hx hb dL_law_339 rfl ?_
  refine lv_aload_n hx hb dL_law_340 rfl (lv_at hl 3 rfl) ?_
  refine lv_aload_n hx hb dL_law_341 rfl (lv_at hl 1 rfl) ?_
  refine lv_iload hx hb dL_law_342 (lv_at hl 0 rfl) ?_
  refine lv_iconst (v := 1) hx hb dL_law_344 (by decide) ?_
  refine lv_iadd hx hb dL_law_345 ?_
  refine va_sld hx hb hX hbl hbA h.S i1 dL_law_346 ?_
  refine W.eq (g2 := F0 m 347 ls [.int (xs (v + 1).toNatClampNeg), .ref (P' 0)]) rfl ?_
  refine lwY X h (va_runV (As := [.int (xs (v + 1).toNatClampNeg)]) (rest := []) ⟨hx, hb, hml, hown, hgt⟩ (z_ChipMapModel_busRead l D cI cZ cC cJ cA P' s (fun q hq => X.AO q (X.yA q hq)) My (xs (v + 1).toNatClampNeg) My1 r2 q2) (cwV 1 hgt (gV wd_6_106 wd_6_107 wd_6_108 wd_0_15 wd_6_109) rfl rfl rfl (by decide +kernel) ⟨Nat.le_trans (by decide) hRf, Nat.le_trans (by decide) hRl⟩) (prL h.y hK h.dy (Old.rf s) X.AO h.S (va_recv hK h.y (ci := 1) (q0 := 0) rfl gY_0)) rfl rfl hl.1 rfl (lv_room (Nat.le_of_ble_eq_true rfl)) dL_law_347 ⟨Nat.le_of_succ_le hcR, Nat.le_trans (Nat.le_add_right _ _) hsR⟩) (fun H locs h => ?_)
  refine lv_pop hx hb dL_law_350 rfl ?_
  refine lv_goto hx hb dL_law_351 (tgt := 706) rfl ?_
  exact kk Mx1 My1 Lt H locs ls cells slots (Nat.le_succ _) (Nat.le_add_right _ _) hLt rr (lv_sub hl [0, 1, 2, 3, 4] (l' := [(4, .int v), (0, .ref b), (1, .ref (P 0)), (2, .ref (P' 0)), (3, .ref lo)]) rfl) h
