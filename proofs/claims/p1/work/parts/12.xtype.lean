theorem tyF_nar (f : Int32 → Int32) (n : Int32) : narrow .boolean (.int (tyF f n)) = .int (tyF f n) := by
  by_cases hc : ¬ n < 1 ∧ ¬ 8 < n ∧ ∀ j, j < n.toNatClampNeg → okB (f (nI j))
  · rw [← tyF_1 hc]; rfl
  · rw [← tyF_0 hc]; rfl
set_option maxHeartbeats 4000000 in
set_option maxRecDepth 100000 in
theorem x_byteOf (l : Launch) (D : va_G) (cI cZ cC cJ : ClassId) (w : Int64) (i : Int32) (sz : Nat) : Met l yX8_byteOf wsX8_byteOf ({ frames := 0, cells := 0, slots := 0, locals := 0 }) (va_Pc [.long w, .int i] (fun U => U.heap.size = sz ∧ va_P D vwCl [] U.heap ∧ va_K D vwCl [(cI, .int), (cZ, .boolean), (cC, .char), (cJ, .long)] U ∧ va_D (fun _ => True) [])) (va_Qi (fun (r : Int32) (_ : Unit) => r = (bX w i)) (fun _ _ => True) (va_A [] sz)) 0 0 (va_A [] sz) := by
  refine Met.ofW (cc := cX8_byteOf) (maxL := 3) (ret := (some .int)) (by decide) rfl ?_
  intro p e s m args below meth c s₁ B hml hv
  obtain ⟨rfl, hsz, hP, hK, hD0⟩ := hv
  have hx := B.exec
  have hb := B.bytes
  have hr := B.returns
  have hgt := fun w (h : w ∈ GT) => atoms_spec (ws := wsX8_byteOf) B.pre w (List.mem_cons_of_mem _ h)
  have hown : s.vm.findClass RX8 = some m.cls := findClass_of_methodNamed B.named
  have hlocks := B.notSynchronized
  subst hsz
  have hD := hD0.self (sz := s.heap.size)
  generalize hAe : va_A [] s.heap.size = A at hD ⊢
  have hA : ∀ q : Nat, s.heap.size ≤ q → A q := fun q h => by rw [← hAe]; exact Or.inr h
  have hS : va_S A s.heap s.heap [] := va_S.rf
  have hP : va_P D vwCl [] s.heap := hP
  have hl := lv_entry ([.long w, .int i]) (n := 3) (Nat.le_of_ble_eq_true rfl)
  rw [lg_entry_eq]
  generalize (lg_sl ([.long w, .int i]) ++ List.replicate (3 - (lg_sl ([.long w, .int i])).length) Slot.unset).toArray = ls at hl ⊢
  have hl : lv_has ls 3 [(0, .long w), (2, .int i)] := hl
  refine lv_lload_n hx hb dX8_byteOf_0 rfl (lv_at hl 0 rfl) ?_
  refine lv_bipush (v := 8) hx hb dX8_byteOf_1 (by decide) ?_
  refine lv_iload_n hx hb dX8_byteOf_3 rfl (lv_at hl 1 rfl) ?_
  refine lv_imul hx hb dX8_byteOf_4 ?_
  refine lv_lushr (v := ((w.toUInt64 >>> ((8 * i).toInt64.toUInt64 &&& Int64.toUInt64 63)).toInt64)) hx hb dX8_byteOf_5 rfl ?_
  refine lv_l2i (v := ((w.toUInt64 >>> ((8 * i).toInt64.toUInt64 &&& Int64.toUInt64 63)).toInt64).toInt32) hx hb dX8_byteOf_6 rfl ?_
  refine lv_sipush (v := 255) hx hb dX8_byteOf_7 (by decide) ?_
  refine lv_iand hx hb dX8_byteOf_10 ?_
  refine W.widen (k := 0) (n := 0) (Nat.le_of_ble_eq_true rfl) (Nat.le_of_ble_eq_true rfl) ?_
  exact W.iret (v := (((w.toUInt64 >>> ((8 * i).toInt64.toUInt64 &&& Int64.toUInt64 63)).toInt64).toInt32 &&& 255)) hx hb hr (fun t ht hW => ⟨⟨(((w.toUInt64 >>> ((8 * i).toInt64.toUInt64 &&& Int64.toUInt64 63)).toInt64).toInt32 &&& 255), (), rfl, rfl, trivial⟩, hS.F ht⟩) hS.2.2 dX8_byteOf_11
set_option maxHeartbeats 4000000 in
set_option maxRecDepth 100000 in
theorem x_append_l1 {p : Program} {l : Launch} {e : Env} {R : Room} {s : State} {m : MethodId} {args : Array Value} {below : List Frame} {meth : Method} {c : Code} {cells slots : Nat} {Q : State → Prop} {D : va_G} {cI cZ cC cJ : ClassId} {A : Nat → Prop} {rd : Nat} {dr : Nat} {tp : Nat} {w : Int64} {N : Nat} (hN : N ≤ 8) (hx : p.tables.exec = Jvm.exec) (hb : c.code = cX8_append) (hml : c.maxLocals = 6) (hgt : ∀ w ∈ GT, w.before args s = true) (hown : s.vm.findClass RX8 = some m.cls) (hK : va_K D vwCl [(cI, .int), (cZ, .boolean), (cC, .char), (cJ, .long)] s) (hA : ∀ q : Nat, s.heap.size ≤ q → A q) (hRf : 1 ≤ R.frames) (hRl : 32 ≤ R.locals) (hcR : cells ≤ R.cells) (hsR : slots ≤ R.slots) (kk : (∀ j, j < N → okB (bX w (nI j))) → ∀ (H : Heap) (locs : List Loc) (ls : Array Slot), lv_has ls 6 [(4, .int ((nI N))), (0, .ref rd), (1, .long w), (3, .int ((nI N)))] → va_P D vwCl [(rd, .inr (8, [.ref dr, .ref tp, .int 0, .int 0])), (tp, .inl (cC, 480, .inl (fun _ => 0)))] H → va_D A [(rd, .inr (8, [.ref dr, .ref tp, .int 0, .int 0])), (tp, .inl (cC, 480, .inl (fun _ => 0)))] → va_S A s.heap H locs → W p l e R s m args below meth c H locs cells slots Q (F0 m 64 ls [])) (kb : ∀ j, j < N → ¬ okB (bX w (nI j)) → ∀ (H : Heap) (locs : List Loc) (ls : Array Slot), va_S A s.heap H locs → W p l e R s m args below meth c H locs cells slots Q (F0 m 56 ls [])) : ∀ (k i : Nat) (H : Heap) (locs : List Loc) (ls : Array Slot), i + k = N → (∀ j, j < i → okB (bX w (nI j))) → lv_has ls 6 [(4, .int ((nI i))), (0, .ref rd), (1, .long w), (3, .int ((nI N)))] → va_P D vwCl [(rd, .inr (8, [.ref dr, .ref tp, .int 0, .int 0])), (tp, .inl (cC, 480, .inl (fun _ => 0)))] H → va_D A [(rd, .inr (8, [.ref dr, .ref tp, .int 0, .int 0])), (tp, .inl (cC, 480, .inl (fun _ => 0)))] → va_S A s.heap H locs → W p l e R s m args below meth c H locs cells slots Q (F0 m 28 ls []) := by
  intro k
  induction k with
  | zero =>
    intro i H locs ls hi hok hl hP hD hS
    obtain rfl : i = N := by omega
    refine lv_iload hx hb dX8_append_28 (lv_at hl 0 rfl) ?_
    refine lv_iload_n hx hb dX8_append_30 rfl (lv_at hl 3 rfl) ?_
    refine lv_icmp_ge hx hb dX8_append_31 (tgt := 64) rfl (fun _ => ?_) (fun h_31 => absurd (nI_le (Nat.le_refl _) (by omega)) h_31)
    exact kk hok H locs ls hl hP hD hS
  | succ k ih =>
    intro i H locs ls hi hok hl hP hD hS
    refine lv_iload hx hb dX8_append_28 (lv_at hl 0 rfl) ?_
    refine lv_iload_n hx hb dX8_append_30 rfl (lv_at hl 3 rfl) ?_
    refine lv_icmp_ge hx hb dX8_append_31 (tgt := 64) rfl (fun h_31 => absurd h_31 (nI_ge (a := i) (b := N) (by omega) (by omega))) (fun _ => ?_)
    refine lv_lload_n hx hb dX8_append_34 rfl (lv_at hl 2 rfl) ?_
    refine lv_iload hx hb dX8_append_35 (lv_at hl 0 rfl) ?_
    have hPc := hP.sub (ws' := []) [] rfl
    have hDc := hD.sub (ws' := []) [] (by decide) rfl
    have hFc := va_free (wc := []) hD hS hA [] rfl
    refine va_calli (va_runS (As := [.long w, .int ((nI i))]) (rest := []) ⟨hx, hb, hml, hown, hgt⟩ (x_byteOf l D cI cZ cC cJ w (nI i) H.size) (va_cwS 2 hgt (gS wd_2_53 wd_2_54 wd_0_4 wd_2_55) rfl rfl rfl (by decide +kernel) ⟨Nat.le_trans (by decide) hRf, Nat.le_trans (by decide) hRl⟩) ⟨fun a U g mk q => by obtain ⟨q0, q1, qP, qK, qD⟩ := q; exact ⟨q0, q1, qP, va_K.moved (u := U) (U := U.calling g mk a) (Vm.Alike.refl U.vm) qK, qD⟩, fun U hU hW => ⟨rfl, by rw [hU], by rw [hU]; exact hPc, va_K.moved hW.alike hK, hDc.weaken (fun _ _ _ _ => trivial)⟩⟩ rfl rfl hl.1 rfl (lv_room (Nat.le_of_ble_eq_true rfl)) dX8_append_37 ⟨hcR, hsR⟩) hS (fun q _ h => hFc q h) hFc (fun r u t H1 locs ht hvm hw hB hz1 hk1 hS => ?_)
    have hP1 : va_P D vwCl [] H1 := fun k q h => by simp at h
    have hD1 : va_D (va_A [] H.size) [] := ⟨fun i j p q h => by simp at h, fun k q h => by simp at h⟩
    obtain ⟨hP, hD⟩ := va_join (wr := [(rd, .inr (8, [.ref dr, .ref tp, .int 0, .int 0])), (tp, .inl (cC, 480, .inl (fun _ => 0)))]) (w1 := []) hP hD [] [0, 1] rfl rfl (by decide) (by decide) hk1 hFc hP1 hD1
    generalize H1 = H at hP hS ⊢
    have hP : va_P D vwCl [(rd, .inr (8, [.ref dr, .ref tp, .int 0, .int 0])), (tp, .inl (cC, 480, .inl (fun _ => 0)))] H := hP
    have hD : va_D A [(rd, .inr (8, [.ref dr, .ref tp, .int 0, .int 0])), (tp, .inl (cC, 480, .inl (fun _ => 0)))] := hD
    obtain rfl : r = (bX w (nI i)) := hw
    refine lv_istore hx hb dX8_append_40 hl (Nat.le_of_ble_eq_true rfl) (lv' := [(5, .int ((bX w (nI i)))), (4, .int ((nI i))), (0, .ref rd), (1, .long w), (3, .int ((nI N)))]) rfl (fun ls hl => ?_)
    refine lv_iload hx hb dX8_append_42 (lv_at hl 0 rfl) ?_
    refine lv_bipush (v := 33) hx hb dX8_append_44 (by decide) ?_
    refine lv_icmp_lt hx hb dX8_append_46 (tgt := 56) rfl (fun h_46 => ?_) (fun h_46 => ?_)
    · skip
      exact kb i (by omega) (fun h => h.1 h_46) _ _ ls hS
    · skip
      refine lv_iload hx hb dX8_append_49 (lv_at hl 0 rfl) ?_
      refine lv_bipush (v := 126) hx hb dX8_append_51 (by decide) ?_
      refine lv_icmp_le hx hb dX8_append_53 (tgt := 58) rfl (fun h_53 => ?_) (fun h_53 => ?_)
      · skip
        refine lv_iinc (v := (nI (i + 1))) hx hb dX8_append_58 hl (k := 1) rfl (nI_1 i) (Nat.le_of_ble_eq_true rfl) (lv' := [(4, .int ((nI (i + 1)))), (5, .int ((bX w (nI i)))), (0, .ref rd), (1, .long w), (3, .int ((nI N)))]) rfl (fun ls hl => ?_)
        refine lv_goto hx hb dX8_append_61 (tgt := 28) rfl ?_
        have hl := lv_sub hl [0, 2, 3, 4] (l' := [(4, .int ((nI (i + 1)))), (0, .ref rd), (1, .long w), (3, .int ((nI N)))]) rfl
        exact ih (i + 1) _ _ ls (by omega) (lt_s hok ⟨h_46, h_53⟩) hl hP hD hS
      · skip
        exact kb i (by omega) (fun h => h_53 h.2) _ _ ls hS

set_option maxHeartbeats 4000000 in
set_option maxRecDepth 100000 in
theorem x_append_l2 {p : Program} {l : Launch} {e : Env} {R : Room} {s : State} {m : MethodId} {args : Array Value} {below : List Frame} {meth : Method} {c : Code} {cells slots : Nat} {Q : State → Prop} {D : va_G} {cI cZ cC cJ : ClassId} {A : Nat → Prop} {rd : Nat} {dr : Nat} {tp : Nat} {w : Int64} {N : Nat} (hN : N ≤ 8) (hx : p.tables.exec = Jvm.exec) (hb : c.code = cX8_append) (hml : c.maxLocals = 6) (hgt : ∀ w ∈ GT, w.before args s = true) (hown : s.vm.findClass RX8 = some m.cls) (hK : va_K D vwCl [(cI, .int), (cZ, .boolean), (cC, .char), (cJ, .long)] s) (hA : ∀ q : Nat, s.heap.size ≤ q → A q) (hRf : 1 ≤ R.frames) (hRl : 32 ≤ R.locals) (hcR : cells ≤ R.cells) (hsR : slots ≤ R.slots) (kk : ∀ (H : Heap) (locs : List Loc) (ls : Array Slot), va_S A s.heap H locs → W p l e R s m args below meth c H locs cells slots Q (F0 m 106 ls [])) : ∀ (k j : Nat) (f : Nat → Int32) (H : Heap) (locs : List Loc) (ls : Array Slot), j + k = N → lv_has ls 6 [(4, .int ((nI k - 1))), (0, .ref rd), (1, .long w), (3, .int ((nI N)))] → va_P D vwCl [(rd, .inr (8, [.ref dr, .ref tp, .int ((nI j)), .int 0])), (tp, .inl (cC, 480, .inl f))] H → va_D A [(rd, .inr (8, [.ref dr, .ref tp, .int ((nI j)), .int 0])), (tp, .inl (cC, 480, .inl f))] → va_S A s.heap H locs → W p l e R s m args below meth c H locs cells slots Q (F0 m 69 ls []) := by
  intro k
  induction k with
  | zero =>
    intro j f H locs ls hi hl hP hD hS
    refine lv_iload hx hb dX8_append_69 (lv_at hl 0 rfl) ?_
    refine lv_if_lt hx hb dX8_append_71 (tgt := 106) rfl (fun _ => ?_) (fun h_71 => absurd (by decide) h_71)
    exact kk _ _ ls hS
  | succ k ih =>
    intro j f H locs ls hi hl hP hD hS
    rw [nI_pred] at hl
    refine lv_iload hx hb dX8_append_69 (lv_at hl 0 rfl) ?_
    refine lv_if_lt hx hb dX8_append_71 (tgt := 106) rfl (fun h_71 => absurd h_71 (nI_pos (by omega))) (fun _ => ?_)
    refine lv_aload_n hx hb dX8_append_74 rfl (lv_at hl 1 rfl) ?_
    refine va_get (D := D) (ci := 8) (v := .ref tp) (C := RX8) (T := TX8) (N := 4) hx hb hgt iwX8 hown hK hP 0 rfl rfl 1 (Nat.le_of_ble_eq_true rfl) (hgt _ wd_0_188) (fun _ h9 => h9) rfl dX8_append_75 ?_
    refine lv_aload_n hx hb dX8_append_78 rfl (lv_at hl 1 rfl) ?_
    refine va_get (D := D) (ci := 8) (v := .int ((nI j))) (C := RX8) (T := TX8) (N := 4) hx hb hgt iwX8 hown hK hP 0 rfl rfl 2 (Nat.le_of_ble_eq_true rfl) (hgt _ wd_0_189) (fun _ h9 => h9) rfl dX8_append_79 ?_
    refine lv_lload_n hx hb dX8_append_82 rfl (lv_at hl 2 rfl) ?_
    refine lv_iload hx hb dX8_append_83 (lv_at hl 0 rfl) ?_
    have hPc := hP.sub (ws' := []) [] rfl
    have hDc := hD.sub (ws' := []) [] (by decide) rfl
    have hFc := va_free (wc := []) hD hS hA [] rfl
    refine va_calli (va_runS (As := [.long w, .int ((nI k))]) (rest := [.int ((nI j)), .ref tp]) ⟨hx, hb, hml, hown, hgt⟩ (x_byteOf l D cI cZ cC cJ w (nI k) H.size) (va_cwS 2 hgt (gS wd_2_53 wd_2_54 wd_0_4 wd_2_55) rfl rfl rfl (by decide +kernel) ⟨Nat.le_trans (by decide) hRf, Nat.le_trans (by decide) hRl⟩) ⟨fun a U g mk q => by obtain ⟨q0, q1, qP, qK, qD⟩ := q; exact ⟨q0, q1, qP, va_K.moved (u := U) (U := U.calling g mk a) (Vm.Alike.refl U.vm) qK, qD⟩, fun U hU hW => ⟨rfl, by rw [hU], by rw [hU]; exact hPc, va_K.moved hW.alike hK, hDc.weaken (fun _ _ _ _ => trivial)⟩⟩ rfl rfl hl.1 rfl (lv_room (Nat.le_of_ble_eq_true rfl)) dX8_append_85 ⟨hcR, hsR⟩) hS (fun q _ h => hFc q h) hFc (fun r u t H1 locs ht hvm hw hB hz1 hk1 hS => ?_)
    have hP1 : va_P D vwCl [] H1 := fun k q h => by simp at h
    have hD1 : va_D (va_A [] H.size) [] := ⟨fun i j p q h => by simp at h, fun k q h => by simp at h⟩
    obtain ⟨hP, hD⟩ := va_join (wr := [(rd, .inr (8, [.ref dr, .ref tp, .int ((nI j)), .int 0])), (tp, .inl (cC, 480, .inl f))]) (w1 := []) hP hD [] [0, 1] rfl rfl (by decide) (by decide) hk1 hFc hP1 hD1
    generalize H1 = H at hP hS ⊢
    have hP : va_P D vwCl [(rd, .inr (8, [.ref dr, .ref tp, .int ((nI j)), .int 0])), (tp, .inl (cC, 480, .inl f))] H := hP
    have hD : va_D A [(rd, .inr (8, [.ref dr, .ref tp, .int ((nI j)), .int 0])), (tp, .inl (cC, 480, .inl f))] := hD
    obtain rfl : r = (bX w (nI k)) := hw
    refine lv_i2c (v := ((bX w (nI k)).toUInt32 % 65536).toInt32) hx hb dX8_append_88 rfl ?_
    refine va_cast hx hb hK hP hD hS 1 2 rfl rfl (vp_in_nI (by omega) (by omega)) dX8_append_89 (fun H locs hP hD hS => ?_)
    have hP : va_P D vwCl [(rd, .inr (8, [.ref dr, .ref tp, .int ((nI j)), .int 0])), (tp, .inl (cC, 480, .inl (upd f ((nI j) : Int32).toNatClampNeg (vp_nar .char ((bX w (nI k)).toUInt32 % 65536).toInt32))))] H := hP
    have hD : va_D A [(rd, .inr (8, [.ref dr, .ref tp, .int ((nI j)), .int 0])), (tp, .inl (cC, 480, .inl (upd f ((nI j) : Int32).toNatClampNeg (vp_nar .char ((bX w (nI k)).toUInt32 % 65536).toInt32))))] := hD
    refine lv_aload_n hx hb dX8_append_90 rfl (lv_at hl 1 rfl) ?_
    refine lv_dup hx hb dX8_append_91 rfl ?_
    refine va_get (D := D) (ci := 8) (v := .int ((nI j))) (C := RX8) (T := TX8) (N := 4) hx hb hgt iwX8 hown hK hP 0 rfl rfl 2 (Nat.le_of_ble_eq_true rfl) (hgt _ wd_0_189) (fun _ h9 => h9) rfl dX8_append_92 ?_
    refine lv_iconst (v := 1) hx hb dX8_append_95 (by decide) ?_
    refine lv_iadd hx hb dX8_append_96 ?_
    refine lv_topi (fun z_96 e_96 => ?_)
    obtain rfl : z_96 = nI (j + 1) := e_96.trans (nI_1 j)
    refine va_put (D := D) (ci := 8) (v := .int ((nI (j + 1)))) (ty := .int) (C := RX8) (T := TX8) (N := 4) hx hb hgt iwX8 tyX8 tyX8_ok nmX8 hown hK hP hD hS 0 rfl rfl 2 (Nat.le_of_ble_eq_true rfl) (hgt _ wd_0_189) (fun _ h9 => h9) rfl (by decide +kernel) rfl rfl (Nat.le_of_ble_eq_true rfl) dX8_append_97 (fun H locs hP hD hS => ?_)
    have hP : va_P D vwCl [(rd, .inr (8, [.ref dr, .ref tp, .int ((nI (j + 1))), .int 0])), (tp, .inl (cC, 480, .inl (upd f ((nI j) : Int32).toNatClampNeg (vp_nar .char ((bX w (nI k)).toUInt32 % 65536).toInt32))))] H := hP
    have hD : va_D A [(rd, .inr (8, [.ref dr, .ref tp, .int ((nI (j + 1))), .int 0])), (tp, .inl (cC, 480, .inl (upd f ((nI j) : Int32).toNatClampNeg (vp_nar .char ((bX w (nI k)).toUInt32 % 65536).toInt32))))] := hD
    refine lv_iinc (v := (nI k - 1)) hx hb dX8_append_100 hl (k := 0) rfl (i_m1 _) (Nat.le_of_ble_eq_true rfl) (lv' := [(4, .int ((nI k - 1))), (0, .ref rd), (1, .long w), (3, .int ((nI N)))]) rfl (fun ls hl => ?_)
    refine lv_goto hx hb dX8_append_103 (tgt := 69) rfl ?_
    have hl := lv_sub hl [0, 1, 2, 3] (l' := [(4, .int ((nI k - 1))), (0, .ref rd), (1, .long w), (3, .int ((nI N)))]) rfl
    exact ih (j + 1) (upd f ((nI j) : Int32).toNatClampNeg (vp_nar .char ((bX w (nI k)).toUInt32 % 65536).toInt32)) _ _ ls (by omega) hl hP hD hS
set_option maxHeartbeats 4000000 in
set_option maxRecDepth 100000 in
theorem x_append (l : Launch) (D : va_G) (cI cZ cC cJ : ClassId) (rd : Nat) (dr : Nat) (tp : Nat) (w : Int64) (n : Int32) (sz : Nat) : Met l yX8_append wsX8_append ({ frames := 1, cells := 0, slots := 0, locals := 32 }) (va_Pc [.ref rd, .long w, .int n] (fun U => U.heap.size = sz ∧ va_P D vwCl [(rd, .inr (8, [.ref dr, .ref tp, .int 0, .int 0])), (tp, .inl (cC, 480, .inl (fun _ => 0)))] U.heap ∧ va_K D vwCl [(cI, .int), (cZ, .boolean), (cC, .char), (cJ, .long)] U ∧ va_D (fun _ => True) [(rd, .inr (8, [.ref dr, .ref tp, .int 0, .int 0])), (tp, .inl (cC, 480, .inl (fun _ => 0)))])) (va_Qi (fun (r : Int32) (_ : Unit) => r = (tyF (bX w) n)) (fun _ _ => True) (va_A [(rd, .inr (8, [.ref dr, .ref tp, .int 0, .int 0])), (tp, .inl (cC, 480, .inl (fun _ => 0)))] sz)) 0 0 (va_A [(rd, .inr (8, [.ref dr, .ref tp, .int 0, .int 0])), (tp, .inl (cC, 480, .inl (fun _ => 0)))] sz) := by
  refine Met.ofW (cc := cX8_append) (maxL := 6) (ret := (some .boolean)) (by decide) rfl ?_
  intro p e s m args below meth c s₁ B hml hv
  obtain ⟨rfl, hsz, hP, hK, hD0⟩ := hv
  have hx := B.exec
  have hb := B.bytes
  have hr := B.returns
  have hgt := fun w (h : w ∈ GT) => atoms_spec (ws := wsX8_append) B.pre w (List.mem_cons_of_mem _ h)
  have hown : s.vm.findClass RX8 = some m.cls := findClass_of_methodNamed B.named
  have hlocks := B.notSynchronized
  subst hsz
  have hD := hD0.self (sz := s.heap.size)
  generalize hAe : va_A [(rd, .inr (8, [.ref dr, .ref tp, .int 0, .int 0])), (tp, .inl (cC, 480, .inl (fun _ => 0)))] s.heap.size = A at hD ⊢
  have hA : ∀ q : Nat, s.heap.size ≤ q → A q := fun q h => by rw [← hAe]; exact Or.inr h
  have hS : va_S A s.heap s.heap [] := va_S.rf
  have hP : va_P D vwCl [(rd, .inr (8, [.ref dr, .ref tp, .int 0, .int 0])), (tp, .inl (cC, 480, .inl (fun _ => 0)))] s.heap := hP
  have hl := lv_entry ([.ref rd, .long w, .int n]) (n := 6) (Nat.le_of_ble_eq_true rfl)
  rw [lg_entry_eq]
  generalize (lg_sl ([.ref rd, .long w, .int n]) ++ List.replicate (6 - (lg_sl ([.ref rd, .long w, .int n])).length) Slot.unset).toArray = ls at hl ⊢
  have hl : lv_has ls 6 [(0, .ref rd), (1, .long w), (3, .int n)] := hl
  refine lv_iload_n hx hb dX8_append_0 rfl (lv_at hl 2 rfl) ?_
  refine lv_iconst (v := 1) hx hb dX8_append_1 (by decide) ?_
  refine lv_icmp_lt hx hb dX8_append_2 (tgt := 23) rfl (fun h_2 => ?_) (fun h_2 => ?_)
  · skip
    refine lv_iconst (v := 0) hx hb dX8_append_23 (by decide) ?_
    refine W.widen (k := 0) (n := 0) (Nat.le_of_ble_eq_true rfl) (Nat.le_of_ble_eq_true rfl) ?_
    exact W.zret (v := 0) (ty := .boolean) hx hb hr (by decide) (fun t ht hW => ⟨⟨0, (), rfl, (tyF_out (Or.inl h_2)), trivial⟩, hS.F ht⟩) hS.2.2 dX8_append_24
  · skip
    refine lv_iload_n hx hb dX8_append_5 rfl (lv_at hl 2 rfl) ?_
    refine lv_bipush (v := 8) hx hb dX8_append_6 (by decide) ?_
    refine lv_icmp_gt hx hb dX8_append_8 (tgt := 23) rfl (fun h_8 => ?_) (fun h_8 => ?_)
    · skip
      refine lv_iconst (v := 0) hx hb dX8_append_23 (by decide) ?_
      refine W.widen (k := 0) (n := 0) (Nat.le_of_ble_eq_true rfl) (Nat.le_of_ble_eq_true rfl) ?_
      exact W.zret (v := 0) (ty := .boolean) hx hb hr (by decide) (fun t ht hW => ⟨⟨0, (), rfl, (tyF_out (Or.inr h_8)), trivial⟩, hS.F ht⟩) hS.2.2 dX8_append_24
    · skip
      obtain ⟨N, hN1, hN8, rfl⟩ := nI_18 h_2 h_8
      refine lv_aload_n hx hb dX8_append_11 rfl (lv_at hl 0 rfl) ?_
      refine va_get (D := D) (ci := 8) (v := .int 0) (C := RX8) (T := TX8) (N := 4) hx hb hgt iwX8 hown hK hP 0 rfl rfl 2 (Nat.le_of_ble_eq_true rfl) (hgt _ wd_0_189) (fun _ h9 => h9) rfl dX8_append_12 ?_
      refine lv_iload_n hx hb dX8_append_15 rfl (lv_at hl 2 rfl) ?_
      refine lv_iadd hx hb dX8_append_16 ?_
      refine lv_sipush (v := 480) hx hb dX8_append_17 (by decide) ?_
      refine lv_icmp_le hx hb dX8_append_20 (tgt := 25) rfl (fun _ => ?_) (fun h_20 => absurd (le480 hN8) h_20)
      refine lv_iconst (v := 0) hx hb dX8_append_25 (by decide) ?_
      refine lv_istore hx hb dX8_append_26 hl (Nat.le_of_ble_eq_true rfl) (lv' := [(4, .int 0), (0, .ref rd), (1, .long w), (3, .int ((nI N)))]) rfl (fun ls hl => ?_)
      have hl := lv_sub hl [0, 1, 2, 3] (l' := [(4, .int ((nI 0))), (0, .ref rd), (1, .long w), (3, .int ((nI N)))]) rfl
      refine x_append_l1 (w := w) hN8 hx hb hml hgt hown hK hA (Nat.le_of_ble_eq_true rfl) (Nat.le_of_ble_eq_true rfl) (Nat.le_of_ble_eq_true rfl) (Nat.le_of_ble_eq_true rfl) (fun hok H locs ls hl hP hD hS => ?_) (fun j hj hbad H locs ls hS => ?_) N 0 _ _ ls (by omega) lt_0 hl hP hD hS
      · skip
        refine lv_iload_n hx hb dX8_append_64 rfl (lv_at hl 3 rfl) ?_
        refine lv_iconst (v := 1) hx hb dX8_append_65 (by decide) ?_
        refine lv_isub hx hb dX8_append_66 ?_
        refine lv_istore hx hb dX8_append_67 hl (Nat.le_of_ble_eq_true rfl) (lv' := [(4, .int (((nI N) - 1))), (0, .ref rd), (1, .long w), (3, .int ((nI N)))]) rfl (fun ls hl => ?_)
        have hl := lv_sub hl [0, 1, 2, 3] (l' := [(4, .int ((nI N - 1))), (0, .ref rd), (1, .long w), (3, .int ((nI N)))]) rfl
        refine x_append_l2 (w := w) hN8 hx hb hml hgt hown hK hA (Nat.le_of_ble_eq_true rfl) (Nat.le_of_ble_eq_true rfl) (Nat.le_of_ble_eq_true rfl) (Nat.le_of_ble_eq_true rfl) (fun H locs ls hS => ?_) N 0 _ _ _ ls (by omega) hl hP hD hS
        refine lv_iconst (v := 1) hx hb dX8_append_106 (by decide) ?_
        refine W.widen (k := 0) (n := 0) (Nat.le_of_ble_eq_true rfl) (Nat.le_of_ble_eq_true rfl) ?_
        exact W.zret (v := 1) (ty := .boolean) hx hb hr (by decide) (fun t ht hW => ⟨⟨1, (), rfl, (tyF_ok hN1 hN8 hok), trivial⟩, hS.F ht⟩) hS.2.2 dX8_append_107
      · skip
        refine lv_iconst (v := 0) hx hb dX8_append_56 (by decide) ?_
        refine W.widen (k := 0) (n := 0) (Nat.le_of_ble_eq_true rfl) (Nat.le_of_ble_eq_true rfl) ?_
        exact W.zret (v := 0) (ty := .boolean) hx hb hr (by decide) (fun t ht hW => ⟨⟨0, (), rfl, (tyF_bad hN1 hN8 hj hbad), trivial⟩, hS.F ht⟩) hS.2.2 dX8_append_57
set_option maxHeartbeats 4000000 in
set_option maxRecDepth 100000 in
theorem x_type (l : Launch) (D : va_G) (cI cZ cC cJ : ClassId) (x : Nat) (dr : Nat) (rd : Nat) (jd : Nat) (ly : Nat) (dv : Nat) (pl : Nat) (jo : Nat) (sc : Nat) (ck : Nat) (tp : Nat) (w : Int64) (n : Int32) (sz : Nat) : Met l yX11_type wsX11_type ({ frames := 2, cells := 0, slots := 0, locals := 57 }) (va_Pc [.ref x, .long w, .int n] (fun U => U.heap.size = sz ∧ va_P D vwCl [(x, .inr (11, [.ref dr, .ref rd, .ref jd, .ref ly, .ref dv, .ref pl, .ref jo, .ref sc, .ref ck])), (rd, .inr (8, [.ref dr, .ref tp, .int 0, .int 0])), (tp, .inl (cC, 480, .inl (fun _ => 0)))] U.heap ∧ va_K D vwCl [(cI, .int), (cZ, .boolean), (cC, .char), (cJ, .long)] U ∧ va_D (fun _ => True) [(x, .inr (11, [.ref dr, .ref rd, .ref jd, .ref ly, .ref dv, .ref pl, .ref jo, .ref sc, .ref ck])), (rd, .inr (8, [.ref dr, .ref tp, .int 0, .int 0])), (tp, .inl (cC, 480, .inl (fun _ => 0)))])) (va_Qi (fun (r : Int32) (_ : Unit) => r = (tyF (bX w) n)) (fun _ _ => True) (va_A [(x, .inr (11, [.ref dr, .ref rd, .ref jd, .ref ly, .ref dv, .ref pl, .ref jo, .ref sc, .ref ck])), (rd, .inr (8, [.ref dr, .ref tp, .int 0, .int 0])), (tp, .inl (cC, 480, .inl (fun _ => 0)))] sz)) 0 0 (va_A [(x, .inr (11, [.ref dr, .ref rd, .ref jd, .ref ly, .ref dv, .ref pl, .ref jo, .ref sc, .ref ck])), (rd, .inr (8, [.ref dr, .ref tp, .int 0, .int 0])), (tp, .inl (cC, 480, .inl (fun _ => 0)))] sz) := by
  refine Met.ofW (cc := cX11_type) (maxL := 4) (ret := (some .boolean)) (by decide) rfl ?_
  intro p e s m args below meth c s₁ B hml hv
  obtain ⟨rfl, hsz, hP, hK, hD0⟩ := hv
  have hx := B.exec
  have hb := B.bytes
  have hr := B.returns
  have hgt := fun w (h : w ∈ GT) => atoms_spec (ws := wsX11_type) B.pre w (List.mem_cons_of_mem _ h)
  have hown : s.vm.findClass RX11 = some m.cls := findClass_of_methodNamed B.named
  have hlocks := B.notSynchronized
  subst hsz
  have hD := hD0.self (sz := s.heap.size)
  generalize hAe : va_A [(x, .inr (11, [.ref dr, .ref rd, .ref jd, .ref ly, .ref dv, .ref pl, .ref jo, .ref sc, .ref ck])), (rd, .inr (8, [.ref dr, .ref tp, .int 0, .int 0])), (tp, .inl (cC, 480, .inl (fun _ => 0)))] s.heap.size = A at hD ⊢
  have hA : ∀ q : Nat, s.heap.size ≤ q → A q := fun q h => by rw [← hAe]; exact Or.inr h
  have hS : va_S A s.heap s.heap [] := va_S.rf
  have hP : va_P D vwCl [(x, .inr (11, [.ref dr, .ref rd, .ref jd, .ref ly, .ref dv, .ref pl, .ref jo, .ref sc, .ref ck])), (rd, .inr (8, [.ref dr, .ref tp, .int 0, .int 0])), (tp, .inl (cC, 480, .inl (fun _ => 0)))] s.heap := hP
  have hl := lv_entry ([.ref x, .long w, .int n]) (n := 4) (Nat.le_of_ble_eq_true rfl)
  rw [lg_entry_eq]
  generalize (lg_sl ([.ref x, .long w, .int n]) ++ List.replicate (4 - (lg_sl ([.ref x, .long w, .int n])).length) Slot.unset).toArray = ls at hl ⊢
  have hl : lv_has ls 4 [(0, .ref x), (1, .long w), (3, .int n)] := hl
  refine lv_aload_n hx hb dX11_type_0 rfl (lv_at hl 0 rfl) ?_
  refine va_get (D := D) (ci := 11) (v := .ref rd) (C := RX11) (T := TX11) (N := 9) hx hb hgt iwX11 hown hK hP 0 rfl rfl 1 (Nat.le_of_ble_eq_true rfl) (hgt _ wd_2_18) (fun _ h9 => h9) rfl dX11_type_1 ?_
  refine lv_lload_n hx hb dX11_type_4 rfl (lv_at hl 1 rfl) ?_
  refine lv_iload_n hx hb dX11_type_5 rfl (lv_at hl 2 rfl) ?_
  have hPc := hP.sub (ws' := [(rd, .inr (8, [.ref dr, .ref tp, .int 0, .int 0])), (tp, .inl (cC, 480, .inl (fun _ => 0)))]) [1, 2] rfl
  have hDc := hD.sub (ws' := [(rd, .inr (8, [.ref dr, .ref tp, .int 0, .int 0])), (tp, .inl (cC, 480, .inl (fun _ => 0)))]) [1, 2] (by decide) rfl
  have hFc := va_free (wc := [(rd, .inr (8, [.ref dr, .ref tp, .int 0, .int 0])), (tp, .inl (cC, 480, .inl (fun _ => 0)))]) hD hS hA [1, 2] rfl
  refine va_calli (va_runV (As := [.long w, .int n]) (rest := []) ⟨hx, hb, hml, hown, hgt⟩ (x_append l D cI cZ cC cJ rd dr tp w n s.heap.size) (cwV 2 hgt (gV wd_2_49 wd_2_50 wd_2_51 wd_0_4 wd_2_52) rfl rfl rfl (by decide +kernel) ⟨Nat.le_of_ble_eq_true rfl, Nat.le_of_ble_eq_true rfl⟩) ⟨fun a U g mk q => by obtain ⟨q0, q1, qP, qK, qD⟩ := q; exact ⟨q0, q1, qP, va_K.moved (u := U) (U := U.calling g mk a) (Vm.Alike.refl U.vm) qK, qD⟩, va_recv hK hP (ci := 8) (q0 := 1) rfl rfl, fun U hU hW => ⟨rfl, by rw [hU], by rw [hU]; exact hPc, va_K.moved hW.alike hK, hDc.weaken (fun _ _ _ _ => trivial)⟩⟩ rfl rfl hl.1 rfl (lv_room (Nat.le_of_ble_eq_true rfl)) dX11_type_6 ⟨Nat.le_of_ble_eq_true rfl, Nat.le_of_ble_eq_true rfl⟩) hS (fun q _ h => hFc q h) hFc (fun r u t H1 locs ht hvm hw hB hz1 hk1 hS => ?_)
  have hP1 : va_P D vwCl [] H1 := fun k q h => by simp at h
  have hD1 : va_D (va_A [(rd, .inr (8, [.ref dr, .ref tp, .int 0, .int 0])), (tp, .inl (cC, 480, .inl (fun _ => 0)))] s.heap.size) [] := ⟨fun i j p q h => by simp at h, fun k q h => by simp at h⟩
  obtain ⟨hP, hD⟩ := va_join (wr := [(x, .inr (11, [.ref dr, .ref rd, .ref jd, .ref ly, .ref dv, .ref pl, .ref jo, .ref sc, .ref ck]))]) (w1 := []) hP hD [1, 2] [0] rfl rfl (by decide) (by decide) hk1 hFc hP1 hD1
  generalize H1 = H at hP hS ⊢
  have hP : va_P D vwCl [(x, .inr (11, [.ref dr, .ref rd, .ref jd, .ref ly, .ref dv, .ref pl, .ref jo, .ref sc, .ref ck]))] H := hP
  have hD : va_D A [(x, .inr (11, [.ref dr, .ref rd, .ref jd, .ref ly, .ref dv, .ref pl, .ref jo, .ref sc, .ref ck]))] := hD
  obtain rfl : r = (tyF (bX w) n) := hw
  refine W.widen (k := 0) (n := 0) (Nat.le_of_ble_eq_true rfl) (Nat.le_of_ble_eq_true rfl) ?_
  exact W.zret (v := (tyF (bX w) n)) (ty := .boolean) hx hb hr (tyF_nar _ _) (fun t ht hW => ⟨⟨(tyF (bX w) n), (), rfl, rfl, trivial⟩, hS.F ht⟩) hS.2.2 dX11_type_9
