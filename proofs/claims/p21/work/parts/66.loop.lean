theorem cmp_out {i L : Nat} (h : L < i + 4) (hi : i ≤ 2048) (hL : L ≤ 2048) : Int32.ofNat L - 4 < nI i := by
  have e1 : (Int32.ofNat L).toInt = (L : Int) := nI_toInt (by omega)
  have e2 : (Int32.ofNat L - 4).toInt = (L : Int) - 4 := isub e1 (rfl : (4 : Int32).toInt = 4) (by omega) (by omega)
  have e3 : (nI i).toInt = (i : Int) := nI_toInt (by omega)
  exact Int32.lt_iff_toInt_lt.mpr (by omega)
theorem cmp_in {i L : Nat} (h : i + 4 ≤ L) (hL : L ≤ 2048) : ¬ Int32.ofNat L - 4 < nI i := by
  have e1 : (Int32.ofNat L).toInt = (L : Int) := nI_toInt (by omega)
  have e2 : (Int32.ofNat L - 4).toInt = (L : Int) - 4 := isub e1 (rfl : (4 : Int32).toInt = 4) (by omega) (by omega)
  have e3 : (nI i).toInt = (i : Int) := nI_toInt (by omega)
  intro hc
  have := Int32.lt_iff_toInt_lt.mp hc
  omega
theorem and31 (x : Int32) : ∃ k : Nat, k < 32 ∧ x &&& 31 = nI k := by
  refine ⟨(x &&& 31).toBitVec.toNat, ?_, Int32.toBitVec_inj.mp (by show _ = BitVec.ofNat 32 _; simp)⟩
  rw [Int32.toBitVec_and]
  show (x.toBitVec &&& 31#32).toNat < 32
  rw [BitVec.toNat_and]
  exact Nat.lt_of_le_of_lt Nat.and_le_right (by decide)
theorem lw_end {p : Program} {l : Launch} {e : Env} {s : State} {m : MethodId} {below : List Frame} {meth : Method} {c : Code} {A : Nat → Prop} {b : Nat} (hx : p.tables.exec = Jvm.exec) (hb : c.code = cL_law) (hr : meth.sig.returnType = ret) (hlk : meth.locks = false) (hAO : ∀ q, A q → s.heap.size ≤ q) {k n : Nat} (hk : k ≤ 601024) (hn : n ≤ 7293033) {H : Heap} {locs : List Loc} {ls : Array Slot} (hS : va_S A s.heap H locs) : W p l e room_1 s m #[Value.ref b] below meth c H locs k n (lw_Z below #[Value.ref b] s) (F0 m 712 ls []) := by
  refine lv_iconst (v := 1) hx hb dL_law_712 (by decide) ?_
  refine va_forget (fun q hq => hAO _ (hS.2.2 q hq)) ?_
  refine W.widen (k := 601024) (n := 7293033) hk hn ?_
  exact lw_ret hx hb hr hlk dL_law_713
set_option maxHeartbeats 40000000 in
set_option maxRecDepth 100000 in
theorem lw_loop {p : Program} {l : Launch} {e : Env} {s : State} {m : MethodId} {below : List Frame} {meth : Method} {c : Code} {D : va_G} {cI cZ cC cJ cA : ClassId} {P P' : Nat → Nat} {lo b L : Nat} {A : Nat → Prop} {xs : Nat → Int32} {qS : Nat → Nat} {c1 c2 c3 : ClassId} (hx : p.tables.exec = Jvm.exec) (hb : c.code = cL_law) (hml : c.maxLocals = 7) (hr : meth.sig.returnType = ret) (hlk : meth.locks = false) (hgt : ∀ w ∈ GT, w.before #[Value.ref b] s = true) (hown : s.vm.findClass RL = some m.cls) (hK : va_K D vwCl [(cI, .int), (cZ, .boolean), (cC, .char), (cJ, .long), (cA, .array .int)] s) (X : LXt P P' lo A s) (hX : va_X b L xs s s.heap) (hbl : b < s.heap.size) (hbA : ¬ A b) (hL : L ≤ 2048) (hlt : l.stackTraces = false) (hE : xE s qS) (hT1 : ThrF "java/lang/IllegalArgumentException" s) (hF1 : s.vm.findClass "java/lang/IllegalArgumentException" = some c1) (hT2 : ThrF "java/lang/IndexOutOfBoundsException" s) (hF2 : s.vm.findClass "java/lang/IndexOutOfBoundsException" = some c2) (hT3 : ThrF "java/lang/IllegalStateException" s) (hF3 : s.vm.findClass "java/lang/IllegalStateException" = some c3) (hNc : va_Nc "java/lang/IllegalStateException" "java/lang/IndexOutOfBoundsException" s) {c0 n0 : Nat} (hc0 : c0 ≤ 500000) (hn0 : n0 ≤ 7000000) : ∀ (n i : Nat) (Mx My : Mm) (Lt : Nat) (H : Heap) (locs : List Loc) (ls : Array Slot) (k2 n2 : Nat), L ≤ i + 4 * n + 3 → i ≤ 2048 → k2 ≤ c0 + i → n2 ≤ n0 + 6 * i → Lt ≤ 480 → RR Lt (5100 * (i : Int)) Mx My → lv_has ls 7 [(4, .int (nI i)), (0, .ref b), (1, .ref (P 0)), (2, .ref (P' 0)), (3, .ref lo)] → LSt D cI cZ cC cJ cA P P' lo A s Mx My H locs → W p l e room_1 s m #[Value.ref b] below meth c H locs k2 n2 (lw_Z below #[Value.ref b] s) (F0 m 23 ls []) := by
  intro n
  induction n with
  | zero =>
    intro i Mx My Lt H locs ls k2 n2 hn hi hk hs hLt rr hl h
    refine lv_iload hx hb dL_law_23 (lv_at hl 0 rfl) ?_
    refine lv_aload_n hx hb dL_law_25 rfl (lv_at hl 1 rfl) ?_
    refine va_slen hx hb hX hbl hbA h.S dL_law_26 ?_
    refine lv_iconst (v := 4) hx hb dL_law_27 (by decide) ?_
    refine lv_isub hx hb dL_law_28 ?_
    refine lv_icmp_gt hx hb dL_law_29 (tgt := 712) rfl (fun _ => lw_end hx hb hr hlk X.AO (by omega) (by omega) h.S) (fun hc => absurd (cmp_out (by omega) hi hL) hc)
  | succ n ih =>
    intro i Mx My Lt H locs ls k2 n2 hn hi hk hs hLt rr hl h
    refine lv_iload hx hb dL_law_23 (lv_at hl 0 rfl) ?_
    refine lv_aload_n hx hb dL_law_25 rfl (lv_at hl 1 rfl) ?_
    refine va_slen hx hb hX hbl hbA h.S dL_law_26 ?_
    refine lv_iconst (v := 4) hx hb dL_law_27 (by decide) ?_
    refine lv_isub hx hb dL_law_28 ?_
    by_cases h4 : L < i + 4
    · refine lv_icmp_gt hx hb dL_law_29 (tgt := 712) rfl (fun _ => lw_end hx hb hr hlk X.AO (by omega) (by omega) h.S) (fun hc => absurd (cmp_out (by omega) hi hL) hc)
    · have h4 : i + 4 ≤ L := by omega
      refine lv_icmp_gt hx hb dL_law_29 (tgt := 712) rfl (fun hc => absurd hc (cmp_in h4 hL)) (fun _ => ?_)
      have e1 : nI i + 1 = nI (i + 1) := nI_add i 1
      have e2 : nI i + 2 = nI (i + 2) := nI_add i 2
      have e3 : nI i + 3 = nI (i + 3) := nI_add i 3
      have t0 : (nI (i + 0)).toInt = ((i + 0 : Nat) : Int) := nI_toInt (by omega)
      have t1 : (nI (i + 1)).toInt = ((i + 1 : Nat) : Int) := nI_toInt (by omega)
      have t2 : (nI (i + 2)).toInt = ((i + 2 : Nat) : Int) := nI_toInt (by omega)
      have t3 : (nI (i + 3)).toInt = ((i + 3 : Nat) : Int) := nI_toInt (by omega)
      have i0 : vp_in (nI i) L := vI (by have t0 : (nI i).toInt = (i : Int) := t0; omega)
      have i1 : vp_in (nI i + 1) L := by rw [e1]; exact vI (by omega)
      have i2 : vp_in (nI i + 2) L := by rw [e2]; exact vI (by omega)
      have i3 : vp_in (nI i + 3) L := by rw [e3]; exact vI (by omega)
      refine lv_aload_n hx hb dL_law_32 rfl (lv_at hl 1 rfl) ?_
      refine lv_iload hx hb dL_law_33 (lv_at hl 0 rfl) ?_
      refine va_sld hx hb hX hbl hbA h.S i0 dL_law_35 ?_
      refine lv_bipush (v := 31) hx hb dL_law_36 (by decide) ?_
      refine lv_iand hx hb dL_law_38 ?_
      refine lv_topi (fun z ez => ?_)
      obtain ⟨k, hk31, hkx⟩ := and31 (xs (nI i).toNatClampNeg)
      obtain rfl : z = nI k := ez.trans hkx
      have tail : ∀ (Mx' My' : Mm) (Lt' : Nat) (H : Heap) (locs : List Loc) (ls : Array Slot) (k n : Nat), k ≤ k2 + 1 → n ≤ n2 + 6 → Lt' ≤ 480 → RR Lt' (5100 * (i : Int) + 5100) Mx' My' → lv_has ls 7 [(4, .int (nI i)), (0, .ref b), (1, .ref (P 0)), (2, .ref (P' 0)), (3, .ref lo)] → LSt D cI cZ cC cJ cA P P' lo A s Mx' My' H locs → W p l e room_1 s m #[Value.ref b] below meth c H locs k n (lw_Z below #[Value.ref b] s) (F0 m 706 ls []) := by
        intro Mx' My' Lt' H locs ls k n hk1 hn1 hL1 rr hl h
        refine lv_iinc (v := nI (i + 4)) hx hb dL_law_706 hl (k := 0) rfl (nI_add i 4) (Nat.le_of_ble_eq_true rfl) (lv' := [(4, .int (nI (i + 4))), (0, .ref b), (1, .ref (P 0)), (2, .ref (P' 0)), (3, .ref lo)]) rfl (fun ls hl => ?_)
        refine lv_goto hx hb dL_law_709 (tgt := 23) rfl ?_
        exact ih (i + 4) Mx' My' Lt' H locs ls k n (by omega) (by omega) (by omega) (by omega) hL1 (rr.mono (by omega)) hl h
      have hcR : k2 + 1 ≤ room_1.cells := by have : room_1.cells = 601024 := rfl; omega
      have hsR : n2 + 6 ≤ room_1.slots := by have : room_1.slots = 7293033 := rfl; omega
      have hKb : 5100 * (i : Int) + 5100 ≤ 2000000000 := by omega
      have hc : k = 0 ∨ k = 1 ∨ k = 2 ∨ k = 3 ∨ k = 4 ∨ k = 5 ∨ k = 6 ∨ k = 7 ∨ k = 8 ∨ k = 9 ∨ k = 10 ∨ k = 11 ∨ k = 12 ∨ k = 13 ∨ k = 14 ∨ k = 15 ∨ k = 16 ∨ k = 17 ∨ k = 18 ∨ k = 19 ∨ 20 ≤ k := by omega
      rcases hc with rfl | rfl | rfl | rfl | rfl | rfl | rfl | rfl | rfl | rfl | rfl | rfl | rfl | rfl | rfl | rfl | rfl | rfl | rfl | rfl | hc
      · refine lv_tableIn hx hb dL_law_39 (off := 93) (tgt := 132) (by decide) (by decide) (by decide) (by decide) ?_
        exact lc_0 hx hb hml hgt hown hK X hX hbl hbA (by decide) (by decide) hcR hsR (nI i) i1 i2 i3 hLt hKb rr hl h tail
      · refine lv_tableIn hx hb dL_law_39 (off := 162) (tgt := 201) (by decide) (by decide) (by decide) (by decide) ?_
        exact lc_1 hx hb hml hgt hown hK X hX hbl hbA (by decide) (by decide) hcR hsR hlt hE hT1 hF1 (nI i) i1 i2 i3 hLt hKb rr hl h tail
      · refine lv_tableIn hx hb dL_law_39 (off := 178) (tgt := 217) (by decide) (by decide) (by decide) (by decide) ?_
        exact lc_2 hx hb hml hgt hown hK X hX hbl hbA (by decide) (by decide) hcR hsR (nI i) i1 i2 i3 hLt hKb rr hl h tail
      · refine lv_tableIn hx hb dL_law_39 (off := 203) (tgt := 242) (by decide) (by decide) (by decide) (by decide) ?_
        exact lc_3 hx hb hml hgt hown hK X hX hbl hbA (by decide) (by decide) hcR hsR (nI i) i1 i2 i3 hLt hKb rr hl h tail
      · refine lv_tableIn hx hb dL_law_39 (off := 240) (tgt := 279) (by decide) (by decide) (by decide) (by decide) ?_
        exact lc_4 hx hb hml hgt hown hK X hX hbl hbA (by decide) (by decide) hcR hsR (nI i) i1 i2 i3 hLt hKb rr hl h tail
      · refine lv_tableIn hx hb dL_law_39 (off := 253) (tgt := 292) (by decide) (by decide) (by decide) (by decide) ?_
        exact lc_5 hx hb hml hgt hown hK X hX hbl hbA (by decide) (by decide) hcR hsR (nI i) i1 i2 i3 hLt hKb rr hl h tail
      · refine lv_tableIn hx hb dL_law_39 (off := 290) (tgt := 329) (by decide) (by decide) (by decide) (by decide) ?_
        exact lc_6 hx hb hml hgt hown hK X hX hbl hbA (by decide) (by decide) hcR hsR (nI i) i1 i2 i3 hLt hKb rr hl h tail
      · refine lv_tableIn hx hb dL_law_39 (off := 315) (tgt := 354) (by decide) (by decide) (by decide) (by decide) ?_
        exact lc_7 hx hb hml hgt hown hK X hX hbl hbA (by decide) (by decide) hcR hsR (nI i) i1 i2 i3 hLt hKb rr hl h tail
      · refine lv_tableIn hx hb dL_law_39 (off := 352) (tgt := 391) (by decide) (by decide) (by decide) (by decide) ?_
        exact lc_8 hx hb hml hgt hown hK X hX hbl hbA (by decide) (by decide) hcR hsR (nI i) i1 i2 i3 hLt hKb rr hl h tail
      · refine lv_tableIn hx hb dL_law_39 (off := 389) (tgt := 428) (by decide) (by decide) (by decide) (by decide) ?_
        exact lc_9 hx hb hml hgt hown hK X hX hbl hbA (by decide) (by decide) hcR hsR hlt hT2 hF2 hT3 hF3 hNc (nI i) i1 i2 i3 hLt hKb rr hl h tail
      · refine lv_tableIn hx hb dL_law_39 (off := 417) (tgt := 456) (by decide) (by decide) (by decide) (by decide) ?_
        exact lc_10 hx hb hml hgt hown hK X hX hbl hbA (by decide) (by decide) hcR hsR (nI i) i1 i2 i3 hLt hKb rr hl h tail
      · refine lv_tableIn hx hb dL_law_39 (off := 454) (tgt := 493) (by decide) (by decide) (by decide) (by decide) ?_
        exact lc_11 hx hb hml hgt hown hK X hX hbl hbA (by decide) (by decide) hcR hsR (nI i) i1 i2 i3 hLt hKb rr hl h tail
      · refine lv_tableIn hx hb dL_law_39 (off := 467) (tgt := 506) (by decide) (by decide) (by decide) (by decide) ?_
        exact lc_12 hx hb hml hgt hown hK X hX hbl hbA (by decide) (by decide) hcR hsR (nI i) i1 i2 i3 hLt hKb rr hl h tail
      · refine lv_tableIn hx hb dL_law_39 (off := 480) (tgt := 519) (by decide) (by decide) (by decide) (by decide) ?_
        exact lc_13 hx hb hml hgt hown hK X hX hbl hbA (by decide) (by decide) hcR hsR (nI i) i1 i2 i3 hLt hKb rr hl h tail
      · refine lv_tableIn hx hb dL_law_39 (off := 517) (tgt := 556) (by decide) (by decide) (by decide) (by decide) ?_
        exact lc_14 hx hb hml hgt hown hK X hX hbl hbA (by decide) (by decide) hcR hsR (nI i) i1 i2 i3 hLt hKb rr hl h tail
      · refine lv_tableIn hx hb dL_law_39 (off := 566) (tgt := 605) (by decide) (by decide) (by decide) (by decide) ?_
        exact lc_15 hx hb hml hgt hown hK X hX hbl hbA (by decide) (by decide) hcR hsR (nI i) i1 i2 i3 hLt hKb rr hl h tail
      · refine lv_tableIn hx hb dL_law_39 (off := 579) (tgt := 618) (by decide) (by decide) (by decide) (by decide) ?_
        exact lc_16 hx hb hml hgt hown hK X hX hbl hbA (by decide) (by decide) hcR hsR (nI i) i1 i2 i3 hLt hKb rr hl h tail
      · refine lv_tableIn hx hb dL_law_39 (off := 592) (tgt := 631) (by decide) (by decide) (by decide) (by decide) ?_
        exact lc_17 hx hb hml hgt hown hK X hX hbl hbA (by decide) (by decide) hcR hsR (nI i) i1 i2 i3 hLt hKb rr hl h tail
      · refine lv_tableIn hx hb dL_law_39 (off := 617) (tgt := 656) (by decide) (by decide) (by decide) (by decide) ?_
        exact lc_18 hx hb hml hgt hown hK X hX hbl hbA (by decide) (by decide) hcR hsR (nI i) i1 i2 i3 hLt hKb rr hl h tail
      · refine lv_tableIn hx hb dL_law_39 (off := 642) (tgt := 681) (by decide) (by decide) (by decide) (by decide) ?_
        exact lc_19 hx hb hml hgt hown hK X hX hbl hbA (by decide) (by decide) hcR hsR (nI i) i1 i2 i3 hLt hKb rr hl h tail
      · refine lv_tableOut hx hb dL_law_39 (tgt := 706) (Or.inr (by rw [nI_toInt (by omega)]; omega)) (by decide) ?_
        exact tail Mx My Lt H locs ls k2 n2 (Nat.le_succ _) (Nat.le_add_right _ _) hLt (rr.mono (by omega)) hl h
