theorem w_ChipMapModel_raise {G : Gy} {K : Int} {M : Mm} (hI : IY G K M)  (a1 : Int32) : wpR (q_ChipMapModel_raise M a1) (fun M' r => IY G K M' ∧ True) := by
  unfold q_ChipMapModel_raise
  refine wpR_ltv (fun m1 e2 => ?_)
  have i3 : IY G K m1 := by rw [e2]; exact hI.s0_0 _
  exact wpR_some ⟨i3, trivial⟩
theorem w_ChipMapModel_wrong {G : Gy} {K : Int} {M : Mm} (hI : IY G K M)  (a1 : Int32) (a2 : Int32) : wpR (q_ChipMapModel_wrong M a1 a2) (fun M' r => IY G K M' ∧ (r.toInt = 0) ∧ (frA M M')) := by
  unfold q_ChipMapModel_wrong
  refine wpR_ltv (fun m1 e2 => ?_)
  have i3 : IY G K m1 := by rw [e2]; exact hI.s0_4 _
  have q4 : frA M m1 := by rw [e2]; exact frA.s0_4 (frA.rf M)
  refine wpR_ltv (fun m5 e6 => ?_)
  have i7 : IY G K m5 := by rw [e6]; exact i3.s0_5 _
  have q8 : frA M m5 := by rw [e6]; exact frA.s0_5 q4
  have z9 : (0 : Int32).toInt = 0 := rfl
  exact wpR_some ⟨i7, (by omega), q8⟩
theorem w_ChipMapModel_hex {G : Gy} {K : Int} {M : Mm} (hI : IY G K M)  (a0 : Int32) : wpR (q_ChipMapModel_hex M a0) (fun M' r => M = M' ∧ (-1 ≤ r.toInt ∧ r.toInt ≤ 15 ∧ (r.toInt ≠ -1 → 48 ≤ a0.toInt))) := by
  unfold q_ChipMapModel_hex
  refine wpR_lw (x := a0.toInt) (y := 48) rfl (rfl : (48 : Int32).toInt = 48) (fun c1 => ?_) (fun c1 => ?_)
  · skip
    unfold q_ChipMapModel_hex_19
    refine wpR_lw (x := a0.toInt) (y := 97) rfl (rfl : (97 : Int32).toInt = 97) (fun c2 => ?_) (fun c2 => ?_)
    · skip
      have z3 : (-1 : Int32).toInt = -1 := by decide
      exact wpR_some ⟨rfl, (by omega)⟩
    · skip
      refine wpR_lw (x := 102) (y := a0.toInt) (rfl : (102 : Int32).toInt = 102) rfl (fun c4 => ?_) (fun c4 => ?_)
      · skip
        have z5 : (-1 : Int32).toInt = -1 := by decide
        exact wpR_some ⟨rfl, (by omega)⟩
      · skip
        have z6 : (a0 - 97 : Int32).toInt = a0.toInt - 97 := isub rfl (rfl : (97 : Int32).toInt = 97) (by omega) (by omega)
        have z7 : ((a0 - 97) + 10 : Int32).toInt = ((a0 - 97 : Int32).toInt) + 10 := iadd rfl (rfl : (10 : Int32).toInt = 10) (by omega) (by omega)
        exact wpR_some ⟨rfl, (by omega)⟩
  · skip
    refine wpR_lw (x := 57) (y := a0.toInt) (rfl : (57 : Int32).toInt = 57) rfl (fun c8 => ?_) (fun c8 => ?_)
    · skip
      unfold q_ChipMapModel_hex_19
      refine wpR_lw (x := a0.toInt) (y := 97) rfl (rfl : (97 : Int32).toInt = 97) (fun c9 => ?_) (fun c9 => ?_)
      · skip
        have z10 : (-1 : Int32).toInt = -1 := by decide
        exact wpR_some ⟨rfl, (by omega)⟩
      · skip
        refine wpR_lw (x := 102) (y := a0.toInt) (rfl : (102 : Int32).toInt = 102) rfl (fun c11 => ?_) (fun c11 => ?_)
        · skip
          have z12 : (-1 : Int32).toInt = -1 := by decide
          exact wpR_some ⟨rfl, (by omega)⟩
        · skip
          have z13 : (a0 - 97 : Int32).toInt = a0.toInt - 97 := isub rfl (rfl : (97 : Int32).toInt = 97) (by omega) (by omega)
          have z14 : ((a0 - 97) + 10 : Int32).toInt = ((a0 - 97 : Int32).toInt) + 10 := iadd rfl (rfl : (10 : Int32).toInt = 10) (by omega) (by omega)
          exact wpR_some ⟨rfl, (by omega)⟩
    · skip
      have z15 : (a0 - 48 : Int32).toInt = a0.toInt - 48 := isub rfl (rfl : (48 : Int32).toInt = 48) (by omega) (by omega)
      exact wpR_some ⟨rfl, (by omega)⟩
theorem w_ChipMapModel_isName {G : Gy} {K : Int} {M : Mm} (hI : IY G K M)  (a0 : Int32) : wpR (q_ChipMapModel_isName M a0) (fun M' r => M = M' ∧ (0 ≤ r.toInt ∧ r.toInt ≤ 1 ∧ (r.toInt ≠ 0 → 65 ≤ a0.toInt ∧ a0.toInt ≤ 90))) := by
  unfold q_ChipMapModel_isName
  refine wpR_lw (x := a0.toInt) (y := 65) rfl (rfl : (65 : Int32).toInt = 65) (fun c1 => ?_) (fun c1 => ?_)
  · skip
    have z2 : (0 : Int32).toInt = 0 := rfl
    exact wpR_some ⟨rfl, (by omega)⟩
  · skip
    refine wpR_lw (x := 90) (y := a0.toInt) (rfl : (90 : Int32).toInt = 90) rfl (fun c3 => ?_) (fun c3 => ?_)
    · skip
      have z4 : (0 : Int32).toInt = 0 := rfl
      exact wpR_some ⟨rfl, (by omega)⟩
    · skip
      have z5 : (1 : Int32).toInt = 1 := rfl
      exact wpR_some ⟨rfl, (by omega)⟩
theorem w_ChipMapModel_take {G : Gy} {K : Int} {M : Mm} (hI : IY G K M)  (a1 : Int32) (p0 : a1.toInt ≠ 0) : wpR (q_ChipMapModel_take M a1) (fun M' r => IY G K M' ∧ (0 ≤ r.toInt ∧ r.toInt ≤ 1) ∧ (frA M M')) := by
  unfold q_ChipMapModel_take
  refine wpR_ro (w_ChipMapModel_here hI) (fun u1 h4 => ?_)
  obtain ⟨h2, h3⟩ := h4
  refine wpR_eq (x := u1.toInt) (y := a1.toInt) rfl rfl (fun c5 => ?_) (fun c5 => ?_)
  · skip
    have z9 := hI.atR
    have z10 : ((M.1 0 3) + 1 : Int32).toInt = (M.1 0 3 : Int32).toInt + 1 := iadd rfl (rfl : (1 : Int32).toInt = 1) (by omega) (by omega)
    refine wpR_ltv (fun m6 e7 => ?_)
    have i8 : IY G K m6 := by rw [e7]; exact hI.s0_3 (by omega)
    have q11 : frA M m6 := by rw [e7]; exact frA.s0_3 (frA.rf M)
    have z12 : (1 : Int32).toInt = 1 := rfl
    exact wpR_some ⟨i8, (by omega), q11⟩
  · skip
    refine wpR_cl (w_ChipMapModel_wrong hI 1 (M.1 0 3)) (fun m16 u13 h17 => ?_)
    obtain ⟨i18, h14, h15⟩ := h17
    have q19 : frA M m16 := (frA.tr (frA.rf M) h15)
    refine wpR_bz (b01 (by omega)) ?_
    exact wpR_some ⟨i18, (by omega), q19⟩
theorem w_ChipMapModel_takeName {G : Gy} {K : Int} {M : Mm} (hI : IY G K M)  : wpR (q_ChipMapModel_takeName M) (fun M' r => IY G K M' ∧ (0 ≤ r.toInt ∧ r.toInt ≤ 1) ∧ (r.toInt ≠ 0 → 65 ≤ (hrV M).toInt ∧ (hrV M).toInt ≤ 90) ∧ (frA M M')) := by
  unfold q_ChipMapModel_takeName
  refine wpR_ro (w_ChipMapModel_here hI) (fun u1 h4 => ?_)
  obtain ⟨h2, h3⟩ := h4
  refine wpR_ro (w_ChipMapModel_isName hI u1) (fun u5 h6 => ?_)
  refine wpR_eq (x := u5.toInt) (y := 0) rfl (rfl : (0 : Int32).toInt = 0) (fun c8 => ?_) (fun c8 => ?_)
  · skip
    refine wpR_cl (w_ChipMapModel_wrong hI 1 (M.1 0 3)) (fun m12 u9 h13 => ?_)
    obtain ⟨i14, h10, h11⟩ := h13
    have q15 : frA M m12 := (frA.tr (frA.rf M) h11)
    refine wpR_bz (b01 (by omega)) ?_
    exact wpR_some ⟨i14, (by omega), (by omega), q15⟩
  · skip
    have z19 := hI.atR
    have z20 : ((M.1 0 3) + 1 : Int32).toInt = (M.1 0 3 : Int32).toInt + 1 := iadd rfl (rfl : (1 : Int32).toInt = 1) (by omega) (by omega)
    refine wpR_ltv (fun m16 e17 => ?_)
    have i18 : IY G K m16 := by rw [e17]; exact hI.s0_3 (by omega)
    have q21 : frA M m16 := by rw [e17]; exact frA.s0_3 (frA.rf M)
    have z22 : (m16.1 0 3).toInt = (((M.1 0 3) + 1) : Int32).toInt := by rw [e17]; rfl
    have z23 : (1 : Int32).toInt = 1 := rfl
    exact wpR_some ⟨i18, (by omega), (by omega), q21⟩
theorem w_ChipMapModel_takeHex_7 {G : Gy} {K : Int}  : ∀ (n' : Nat) (M : Mm) (v1 : Int32) (v2 : Int32) (v3 : Int32), IY G K M → (0 ≤ v3.toInt ∧ v3.toInt ≤ v2.toInt ∧ v2.toInt ≤ 100) → v2.toInt - v3.toInt < (n' : Int) → wpR (q_ChipMapModel_takeHex_7 n' M v1 v2 v3) (fun M' r => IY G K M' ∧ (0 ≤ r.toInt ∧ r.toInt ≤ 1) ∧ (frA M M')) := by
  intro n'
  induction n' with
  | zero =>
    intro M v1 v2 v3 hI p0 hn
    exfalso; omega
  | succ n' ih =>
    intro M v1 v2 v3 hI p0 hn
    rw [q_ChipMapModel_takeHex_7]
    refine wpR_le (x := v2.toInt) (y := v3.toInt) rfl rfl (fun c1 => ?_) (fun c1 => ?_)
    · skip
      unfold q_ChipMapModel_takeHex_58
      refine wpR_le (x := v1.toInt) (y := v3.toInt) rfl rfl (fun c2 => ?_) (fun c2 => ?_)
      · skip
        have z3 : (1 : Int32).toInt = 1 := rfl
        exact wpR_some ⟨hI, (by omega), (frA.rf M)⟩
      · skip
        refine wpR_cl (w_ChipMapModel_wrong hI 1 (M.1 0 3)) (fun m7 u4 h8 => ?_)
        obtain ⟨i9, h5, h6⟩ := h8
        have q10 : frA M m7 := (frA.tr (frA.rf M) h6)
        refine wpR_eq (x := u4.toInt) (y := 0) rfl (rfl : (0 : Int32).toInt = 0) (fun c11 => ?_) (fun c11 => ?_)
        · skip
          have z12 : (0 : Int32).toInt = 0 := rfl
          exact wpR_some ⟨i9, (by omega), q10⟩
        · skip
          have z13 : (1 : Int32).toInt = 1 := rfl
          exact wpR_some ⟨i9, (by omega), q10⟩
    · skip
      refine wpR_ro (w_ChipMapModel_here hI) (fun u14 h17 => ?_)
      obtain ⟨h15, h16⟩ := h17
      refine wpR_ro (w_ChipMapModel_hex hI u14) (fun u18 h19 => ?_)
      refine wpR_eq (x := u18.toInt) (y := (-1)) rfl (by decide : (-1 : Int32).toInt = -1) (fun c21 => ?_) (fun c21 => ?_)
      · skip
        unfold q_ChipMapModel_takeHex_58
        refine wpR_le (x := v1.toInt) (y := v3.toInt) rfl rfl (fun c22 => ?_) (fun c22 => ?_)
        · skip
          have z23 : (1 : Int32).toInt = 1 := rfl
          exact wpR_some ⟨hI, (by omega), (frA.rf M)⟩
        · skip
          refine wpR_cl (w_ChipMapModel_wrong hI 1 (M.1 0 3)) (fun m27 u24 h28 => ?_)
          obtain ⟨i29, h25, h26⟩ := h28
          have q30 : frA M m27 := (frA.tr (frA.rf M) h26)
          refine wpR_eq (x := u24.toInt) (y := 0) rfl (rfl : (0 : Int32).toInt = 0) (fun c31 => ?_) (fun c31 => ?_)
          · skip
            have z32 : (0 : Int32).toInt = 0 := rfl
            exact wpR_some ⟨i29, (by omega), q30⟩
          · skip
            have z33 : (1 : Int32).toInt = 1 := rfl
            exact wpR_some ⟨i29, (by omega), q30⟩
      · skip
        refine wpR_ro (w_ChipMapModel_here hI) (fun u34 h37 => ?_)
        obtain ⟨h35, h36⟩ := h37
        refine wpR_ro (w_ChipMapModel_hex hI u34) (fun u38 h39 => ?_)
        refine wpR_ltv (fun m41 e42 => ?_)
        have i43 : IY G K m41 := by rw [e42]; exact hI.s0_70 _
        have q44 : frA M m41 := by rw [e42]; exact frA.s0_70 (frA.rf M)
        have z45 : (m41.1 0 3).toInt = (M.1 0 3).toInt := by rw [e42]; rfl
        have z49 := i43.atR
        have z50 : ((m41.1 0 3) + 1 : Int32).toInt = (m41.1 0 3 : Int32).toInt + 1 := iadd rfl (rfl : (1 : Int32).toInt = 1) (by omega) (by omega)
        refine wpR_ltv (fun m46 e47 => ?_)
        have i48 : IY G K m46 := by rw [e47]; exact i43.s0_3 (by omega)
        have q51 : frA M m46 := by rw [e47]; exact frA.s0_3 q44
        have z52 : (m46.1 0 3).toInt = (((m41.1 0 3) + 1) : Int32).toInt := by rw [e47]; rfl
        have z53 : (v3 + 1 : Int32).toInt = v3.toInt + 1 := iadd rfl (rfl : (1 : Int32).toInt = 1) (by omega) (by omega)
        refine wpR_mono (ih m46 v1 v2 (v3 + 1) i48 (by omega) (by omega)) (fun _ _ h56 => ?_)
        obtain ⟨i57, h54, h55⟩ := h56
        exact ⟨i57, h54, (frA.tr q51 h55)⟩
theorem w_ChipMapModel_takeHex {G : Gy} {K : Int} {M : Mm} (hI : IY G K M)  (a1 : Int32) (a2 : Int32) (p0 : 0 ≤ a2.toInt ∧ a2.toInt ≤ 100) : wpR (q_ChipMapModel_takeHex M a1 a2) (fun M' r => IY G K M' ∧ (0 ≤ r.toInt ∧ r.toInt ≤ 1) ∧ (frA M M')) := by
  unfold q_ChipMapModel_takeHex
  refine wpR_ltv (fun m1 e2 => ?_)
  have i3 : IY G K m1 := by rw [e2]; exact hI.s0_70 _
  have q4 : frA M m1 := by rw [e2]; exact frA.s0_70 (frA.rf M)
  have z5 : (m1.1 0 3).toInt = (M.1 0 3).toInt := by rw [e2]; rfl
  have z6 : (0 : Int32).toInt = 0 := rfl
  refine wpR_mono (w_ChipMapModel_takeHex_7 4000 m1 a1 a2 0 i3 (by omega) (by omega)) (fun _ _ h9 => ?_)
  obtain ⟨i10, h7, h8⟩ := h9
  exact ⟨i10, h7, (frA.tr q4 h8)⟩
theorem w_ChipMapModel_takeDecimal_7 {G : Gy} {K : Int}  : ∀ (n' : Nat) (M : Mm) (v1 : Int32), IY G K M → (0 ≤ v1.toInt ∧ v1.toInt ≤ 2) → 2 - v1.toInt < (n' : Int) → wpR (q_ChipMapModel_takeDecimal_7 n' M v1) (fun M' r => IY G K M' ∧ (0 ≤ r.toInt ∧ r.toInt ≤ 1) ∧ (frA M M')) := by
  intro n'
  induction n' with
  | zero =>
    intro M v1 hI p0 hn
    exfalso; omega
  | succ n' ih =>
    intro M v1 hI p0 hn
    rw [q_ChipMapModel_takeDecimal_7]
    refine wpR_le (x := 2) (y := v1.toInt) (rfl : (2 : Int32).toInt = 2) rfl (fun c1 => ?_) (fun c1 => ?_)
    · skip
      unfold q_ChipMapModel_takeDecimal_65
      refine wpR_lw (x := 0) (y := v1.toInt) (rfl : (0 : Int32).toInt = 0) rfl (fun c2 => ?_) (fun c2 => ?_)
      · skip
        have z3 : (1 : Int32).toInt = 1 := rfl
        exact wpR_some ⟨hI, (by omega), (frA.rf M)⟩
      · skip
        refine wpR_cl (w_ChipMapModel_wrong hI 1 (M.1 0 3)) (fun m7 u4 h8 => ?_)
        obtain ⟨i9, h5, h6⟩ := h8
        have q10 : frA M m7 := (frA.tr (frA.rf M) h6)
        refine wpR_eq (x := u4.toInt) (y := 0) rfl (rfl : (0 : Int32).toInt = 0) (fun c11 => ?_) (fun c11 => ?_)
        · skip
          have z12 : (0 : Int32).toInt = 0 := rfl
          exact wpR_some ⟨i9, (by omega), q10⟩
        · skip
          have z13 : (1 : Int32).toInt = 1 := rfl
          exact wpR_some ⟨i9, (by omega), q10⟩
    · skip
      refine wpR_ro (w_ChipMapModel_here hI) (fun u14 h17 => ?_)
      obtain ⟨h15, h16⟩ := h17
      refine wpR_lw (x := u14.toInt) (y := 48) rfl (rfl : (48 : Int32).toInt = 48) (fun c18 => ?_) (fun c18 => ?_)
      · skip
        unfold q_ChipMapModel_takeDecimal_65
        refine wpR_lw (x := 0) (y := v1.toInt) (rfl : (0 : Int32).toInt = 0) rfl (fun c19 => ?_) (fun c19 => ?_)
        · skip
          have z20 : (1 : Int32).toInt = 1 := rfl
          exact wpR_some ⟨hI, (by omega), (frA.rf M)⟩
        · skip
          refine wpR_cl (w_ChipMapModel_wrong hI 1 (M.1 0 3)) (fun m24 u21 h25 => ?_)
          obtain ⟨i26, h22, h23⟩ := h25
          have q27 : frA M m24 := (frA.tr (frA.rf M) h23)
          refine wpR_eq (x := u21.toInt) (y := 0) rfl (rfl : (0 : Int32).toInt = 0) (fun c28 => ?_) (fun c28 => ?_)
          · skip
            have z29 : (0 : Int32).toInt = 0 := rfl
            exact wpR_some ⟨i26, (by omega), q27⟩
          · skip
            have z30 : (1 : Int32).toInt = 1 := rfl
            exact wpR_some ⟨i26, (by omega), q27⟩
      · skip
        refine wpR_ro (w_ChipMapModel_here hI) (fun u31 h34 => ?_)
        obtain ⟨h32, h33⟩ := h34
        refine wpR_lw (x := 57) (y := u31.toInt) (rfl : (57 : Int32).toInt = 57) rfl (fun c35 => ?_) (fun c35 => ?_)
        · skip
          unfold q_ChipMapModel_takeDecimal_65
          refine wpR_lw (x := 0) (y := v1.toInt) (rfl : (0 : Int32).toInt = 0) rfl (fun c36 => ?_) (fun c36 => ?_)
          · skip
            have z37 : (1 : Int32).toInt = 1 := rfl
            exact wpR_some ⟨hI, (by omega), (frA.rf M)⟩
          · skip
            refine wpR_cl (w_ChipMapModel_wrong hI 1 (M.1 0 3)) (fun m41 u38 h42 => ?_)
            obtain ⟨i43, h39, h40⟩ := h42
            have q44 : frA M m41 := (frA.tr (frA.rf M) h40)
            refine wpR_eq (x := u38.toInt) (y := 0) rfl (rfl : (0 : Int32).toInt = 0) (fun c45 => ?_) (fun c45 => ?_)
            · skip
              have z46 : (0 : Int32).toInt = 0 := rfl
              exact wpR_some ⟨i43, (by omega), q44⟩
            · skip
              have z47 : (1 : Int32).toInt = 1 := rfl
              exact wpR_some ⟨i43, (by omega), q44⟩
        · skip
          refine wpR_ro (w_ChipMapModel_here hI) (fun u48 h51 => ?_)
          obtain ⟨h49, h50⟩ := h51
          refine wpR_ltv (fun m52 e53 => ?_)
          have i54 : IY G K m52 := by rw [e53]; exact hI.s0_70 _
          have q55 : frA M m52 := by rw [e53]; exact frA.s0_70 (frA.rf M)
          have z56 : (m52.1 0 3).toInt = (M.1 0 3).toInt := by rw [e53]; rfl
          have z60 := i54.atR
          have z61 : ((m52.1 0 3) + 1 : Int32).toInt = (m52.1 0 3 : Int32).toInt + 1 := iadd rfl (rfl : (1 : Int32).toInt = 1) (by omega) (by omega)
          refine wpR_ltv (fun m57 e58 => ?_)
          have i59 : IY G K m57 := by rw [e58]; exact i54.s0_3 (by omega)
          have q62 : frA M m57 := by rw [e58]; exact frA.s0_3 q55
          have z63 : (m57.1 0 3).toInt = (((m52.1 0 3) + 1) : Int32).toInt := by rw [e58]; rfl
          have z64 : (v1 + 1 : Int32).toInt = v1.toInt + 1 := iadd rfl (rfl : (1 : Int32).toInt = 1) (by omega) (by omega)
          refine wpR_mono (ih m57 (v1 + 1) i59 (by omega) (by omega)) (fun _ _ h67 => ?_)
          obtain ⟨i68, h65, h66⟩ := h67
          exact ⟨i68, h65, (frA.tr q62 h66)⟩
theorem w_ChipMapModel_takeDecimal {G : Gy} {K : Int} {M : Mm} (hI : IY G K M)  : wpR (q_ChipMapModel_takeDecimal M) (fun M' r => IY G K M' ∧ (0 ≤ r.toInt ∧ r.toInt ≤ 1) ∧ (frA M M')) := by
  unfold q_ChipMapModel_takeDecimal
  refine wpR_ltv (fun m1 e2 => ?_)
  have i3 : IY G K m1 := by rw [e2]; exact hI.s0_70 _
  have q4 : frA M m1 := by rw [e2]; exact frA.s0_70 (frA.rf M)
  have z5 : (m1.1 0 3).toInt = (M.1 0 3).toInt := by rw [e2]; rfl
  have z6 : (0 : Int32).toInt = 0 := rfl
  refine wpR_mono (w_ChipMapModel_takeDecimal_7 4000 m1 0 i3 (by omega) (by omega)) (fun _ _ h9 => ?_)
  obtain ⟨i10, h7, h8⟩ := h9
  exact ⟨i10, h7, (frA.tr q4 h8)⟩
theorem w_ChipMapModel_isAccess {G : Gy} {K : Int} {M : Mm} (hI : IY G K M)  (a0 : Int32) : wpR (q_ChipMapModel_isAccess M a0) (fun M' r => M = M' ∧ (0 ≤ r.toInt ∧ r.toInt ≤ 1 ∧ (r.toInt ≠ 0 → a0.toInt ≠ 0))) := by
  unfold q_ChipMapModel_isAccess
  refine wpR_eq (x := a0.toInt) (y := 119) rfl (rfl : (119 : Int32).toInt = 119) (fun c1 => ?_) (fun c1 => ?_)
  · skip
    have z2 : (1 : Int32).toInt = 1 := rfl
    exact wpR_some ⟨rfl, (by omega)⟩
  · skip
    refine wpR_eq (x := a0.toInt) (y := 114) rfl (rfl : (114 : Int32).toInt = 114) (fun c3 => ?_) (fun c3 => ?_)
    · skip
      have z4 : (1 : Int32).toInt = 1 := rfl
      exact wpR_some ⟨rfl, (by omega)⟩
    · skip
      refine wpR_eq (x := a0.toInt) (y := 111) rfl (rfl : (111 : Int32).toInt = 111) (fun c5 => ?_) (fun c5 => ?_)
      · skip
        have z6 : (1 : Int32).toInt = 1 := rfl
        exact wpR_some ⟨rfl, (by omega)⟩
      · skip
        refine wpR_eq (x := a0.toInt) (y := 99) rfl (rfl : (99 : Int32).toInt = 99) (fun c7 => ?_) (fun c7 => ?_)
        · skip
          have z8 : (1 : Int32).toInt = 1 := rfl
          exact wpR_some ⟨rfl, (by omega)⟩
        · skip
          refine wpR_eq (x := a0.toInt) (y := 116) rfl (rfl : (116 : Int32).toInt = 116) (fun c9 => ?_) (fun c9 => ?_)
          · skip
            have z10 : (1 : Int32).toInt = 1 := rfl
            exact wpR_some ⟨rfl, (by omega)⟩
          · skip
            refine wpR_eq (x := a0.toInt) (y := 115) rfl (rfl : (115 : Int32).toInt = 115) (fun c11 => ?_) (fun c11 => ?_)
            · skip
              have z12 : (1 : Int32).toInt = 1 := rfl
              exact wpR_some ⟨rfl, (by omega)⟩
            · skip
              refine wpR_eq (x := a0.toInt) (y := 112) rfl (rfl : (112 : Int32).toInt = 112) (fun c13 => ?_) (fun c13 => ?_)
              · skip
                have z14 : (1 : Int32).toInt = 1 := rfl
                exact wpR_some ⟨rfl, (by omega)⟩
              · skip
                have z15 : (0 : Int32).toInt = 0 := rfl
                exact wpR_some ⟨rfl, (by omega)⟩
theorem w_ChipMapModel_readField {G : Gy} {K : Int} {M : Mm} (hI : IY G K M)  (p0 : (M.1 0 12).toInt ≤ 127) (p1 : (M.1 0 6).toInt ≤ 15) : wpR (q_ChipMapModel_readField M) (fun M' r => IY G K M' ∧ (0 ≤ r.toInt ∧ r.toInt ≤ 1) ∧ ((M'.1 0 6).toInt = (M.1 0 6).toInt ∧ (M'.1 0 20).toInt = (M.1 0 20).toInt ∧ (M.1 0 12).toInt ≤ (M'.1 0 12).toInt ∧ (M'.1 0 12).toInt ≤ (M.1 0 12).toInt + 1 ∧ (r.toInt ≠ 0 → (M'.1 0 12).toInt = (M.1 0 12).toInt + 1)) ∧ (M'.1 3 = M.1 3)) := by
  unfold q_ChipMapModel_readField
  have z1 := tnc (i := (M.1 0 12)) hI.rf.1
  have z2 := hI.rf
  have z3 := hI.rr
  have z4 := hI.ru
  have z5 := hI.rf
  have z6 := hI.rr
  refine wpR_lt ?_
  have k7 : 0 ≤ ((M.1 0 12) : Int32).toInt ∧ ((M.1 0 12) : Int32).toInt < ((140 : Nat) : Int) := by omega
  refine wpR_ix (vI k7) ?_
  refine wpR_ltv (fun m8 e9 => ?_)
  have i10 : IY G K m8 := by rw [e9]; exact hI.s13 _
  have q11 : m8.1 3 = M.1 3 := by rw [e9]; exact rfl
  have z12 : (m8.1 0 12).toInt = (M.1 0 12).toInt := by rw [e9]; rfl
  have z13 : (m8.1 0 6).toInt = (M.1 0 6).toInt := by rw [e9]; rfl
  have z14 : (m8.1 0 20).toInt = (M.1 0 20).toInt := by rw [e9]; rfl
  have z15 : (m8.1 7 (M.1 0 12).toNatClampNeg).toInt = (M.1 7 (M.1 0 12).toNatClampNeg).toInt := by rw [e9]; rfl
  have z16 : (hrV m8).toInt = (hrV M).toInt := by rw [e9]; rfl
  refine wpR_ro (w_ChipMapModel_here i10) (fun u17 h20 => ?_)
  obtain ⟨h18, h19⟩ := h20
  refine wpR_ix (vI k7) ?_
  refine wpR_ltv (fun m21 e22 => ?_)
  have i23 : IY G K m21 := by rw [e22]; exact i10.s7 _ (by omega)
  have q24 : m21.1 3 = M.1 3 := by rw [e22]; exact q11
  have z25 : (m21.1 0 12).toInt = (m8.1 0 12).toInt := by rw [e22]; rfl
  have z26 : (m21.1 0 6).toInt = (m8.1 0 6).toInt := by rw [e22]; rfl
  have z27 : (m21.1 0 20).toInt = (m8.1 0 20).toInt := by rw [e22]; rfl
  have z28 : (m21.1 7 (M.1 0 12).toNatClampNeg).toInt = ((u17 - 65) : Int32).toInt := by rw [e22]; exact congrArg Int32.toInt updS
  have z29 : (hrV m21).toInt = (hrV m8).toInt := by rw [e22]; rfl
  refine wpR_ix (vI k7) ?_
  have z33 := i23.rr
  refine wpR_ltv (fun m30 e31 => ?_)
  have i32 : IY G K m30 := by rw [e31]; exact i23.s12 _ (by omega)
  have q34 : m30.1 3 = M.1 3 := by rw [e31]; exact q24
  have z35 : (m30.1 0 12).toInt = (m21.1 0 12).toInt := by rw [e31]; rfl
  have z36 : (m30.1 0 6).toInt = (m21.1 0 6).toInt := by rw [e31]; rfl
  have z37 : (m30.1 0 20).toInt = (m21.1 0 20).toInt := by rw [e31]; rfl
  have z38 : (m30.1 7 (M.1 0 12).toNatClampNeg).toInt = (m21.1 7 (M.1 0 12).toNatClampNeg).toInt := by rw [e31]; rfl
  have z39 : (hrV m30).toInt = (hrV m21).toInt := by rw [e31]; rfl
  refine wpR_cl (w_ChipMapModel_takeName i32) (fun m44 u40 h45 => ?_)
  obtain ⟨i46, h41, h42, h43⟩ := h45
  have q47 : m44.1 3 = M.1 3 := ((h43.o 3 (by decide)).trans q34)
  have z48 : (m44.1 0 12).toInt = (m30.1 0 12).toInt := congrArg Int32.toInt h43.s12
  have z49 : (m44.1 0 6).toInt = (m30.1 0 6).toInt := congrArg Int32.toInt h43.s6
  have z50 : (m44.1 0 20).toInt = (m30.1 0 20).toInt := congrArg Int32.toInt h43.s20
  have z51 : (m44.1 7 (M.1 0 12).toNatClampNeg).toInt = (m30.1 7 (M.1 0 12).toNatClampNeg).toInt := by rw [h43.o 7 (by decide)]
  refine wpR_eq (x := u40.toInt) (y := 0) rfl (rfl : (0 : Int32).toInt = 0) (fun c52 => ?_) (fun c52 => ?_)
  · skip
    have z53 : (0 : Int32).toInt = 0 := rfl
    exact wpR_some ⟨i46, (by omega), (by omega), q47⟩
  · skip
    refine wpR_ro (w_ChipMapModel_here i46) (fun u54 h57 => ?_)
    obtain ⟨h55, h56⟩ := h57
    refine wpR_ix (vI k7) ?_
    refine wpR_ltv (fun m58 e59 => ?_)
    have i60 : IY G K m58 := by rw [e59]; exact i46.s8 _
    have q61 : m58.1 3 = M.1 3 := by rw [e59]; exact q47
    have z62 : (m58.1 0 12).toInt = (m44.1 0 12).toInt := by rw [e59]; rfl
    have z63 : (m58.1 0 6).toInt = (m44.1 0 6).toInt := by rw [e59]; rfl
    have z64 : (m58.1 0 20).toInt = (m44.1 0 20).toInt := by rw [e59]; rfl
    have z65 : (m58.1 7 (M.1 0 12).toNatClampNeg).toInt = (m44.1 7 (M.1 0 12).toNatClampNeg).toInt := by rw [e59]; rfl
    have z66 : (hrV m58).toInt = (hrV m44).toInt := by rw [e59]; rfl
    refine wpR_ro (w_ChipMapModel_here i60) (fun u67 h70 => ?_)
    obtain ⟨h68, h69⟩ := h70
    refine wpR_ro (w_ChipMapModel_isAccess i60 u67) (fun u71 h72 => ?_)
    refine wpR_eq (x := u71.toInt) (y := 0) rfl (rfl : (0 : Int32).toInt = 0) (fun c74 => ?_) (fun c74 => ?_)
    · skip
      refine wpR_cl (w_ChipMapModel_wrong i60 1 (m58.1 0 3)) (fun m78 u75 h79 => ?_)
      obtain ⟨i80, h76, h77⟩ := h79
      have q81 : m78.1 3 = M.1 3 := ((h77.o 3 (by decide)).trans q61)
      have z82 : (m78.1 0 12).toInt = (m58.1 0 12).toInt := congrArg Int32.toInt h77.s12
      have z83 : (m78.1 0 6).toInt = (m58.1 0 6).toInt := congrArg Int32.toInt h77.s6
      have z84 : (m78.1 0 20).toInt = (m58.1 0 20).toInt := congrArg Int32.toInt h77.s20
      have z85 : (m78.1 7 (M.1 0 12).toNatClampNeg).toInt = (m58.1 7 (M.1 0 12).toNatClampNeg).toInt := by rw [h77.o 7 (by decide)]
      refine wpR_bz (b01 (by omega)) ?_
      exact wpR_some ⟨i80, (by omega), (by omega), q81⟩
    · skip
      have z89 := i60.atR
      have z90 : ((m58.1 0 3) + 1 : Int32).toInt = (m58.1 0 3 : Int32).toInt + 1 := iadd rfl (rfl : (1 : Int32).toInt = 1) (by omega) (by omega)
      refine wpR_ltv (fun m86 e87 => ?_)
      have i88 : IY G K m86 := by rw [e87]; exact i60.s0_3 (by omega)
      have q91 : m86.1 3 = M.1 3 := by rw [e87]; exact q61
      have z92 : (m86.1 0 12).toInt = (m58.1 0 12).toInt := by rw [e87]; rfl
      have z93 : (m86.1 0 6).toInt = (m58.1 0 6).toInt := by rw [e87]; rfl
      have z94 : (m86.1 0 20).toInt = (m58.1 0 20).toInt := by rw [e87]; rfl
      have z95 : (m86.1 7 (M.1 0 12).toNatClampNeg).toInt = (m58.1 7 (M.1 0 12).toNatClampNeg).toInt := by rw [e87]; rfl
      refine wpR_cl (w_ChipMapModel_takeDecimal i88) (fun m99 u96 h100 => ?_)
      obtain ⟨i101, h97, h98⟩ := h100
      have q102 : m99.1 3 = M.1 3 := ((h98.o 3 (by decide)).trans q91)
      have z103 : (m99.1 0 12).toInt = (m86.1 0 12).toInt := congrArg Int32.toInt h98.s12
      have z104 : (m99.1 0 6).toInt = (m86.1 0 6).toInt := congrArg Int32.toInt h98.s6
      have z105 : (m99.1 0 20).toInt = (m86.1 0 20).toInt := congrArg Int32.toInt h98.s20
      have z106 : (m99.1 7 (M.1 0 12).toNatClampNeg).toInt = (m86.1 7 (M.1 0 12).toNatClampNeg).toInt := by rw [h98.o 7 (by decide)]
      refine wpR_eq (x := u96.toInt) (y := 0) rfl (rfl : (0 : Int32).toInt = 0) (fun c107 => ?_) (fun c107 => ?_)
      · skip
        have z108 : (0 : Int32).toInt = 0 := rfl
        exact wpR_some ⟨i101, (by omega), (by omega), q102⟩
      · skip
        refine wpR_ix (vI k7) ?_
        refine wpR_ltv (fun m109 e110 => ?_)
        have i111 : IY G K m109 := by rw [e110]; exact i101.s9 _
        have q112 : m109.1 3 = M.1 3 := by rw [e110]; exact q102
        have z113 : (m109.1 0 12).toInt = (m99.1 0 12).toInt := by rw [e110]; rfl
        have z114 : (m109.1 0 6).toInt = (m99.1 0 6).toInt := by rw [e110]; rfl
        have z115 : (m109.1 0 20).toInt = (m99.1 0 20).toInt := by rw [e110]; rfl
        have z116 : (m109.1 7 (M.1 0 12).toNatClampNeg).toInt = (m99.1 7 (M.1 0 12).toNatClampNeg).toInt := by rw [e110]; rfl
        have z117 : (hrV m109).toInt = (hrV m99).toInt := by rw [e110]; rfl
        have z118 : (58 : Int32).toInt = 58 := rfl
        refine wpR_cl (w_ChipMapModel_take i111 58 (by omega)) (fun m122 u119 h123 => ?_)
        obtain ⟨i124, h120, h121⟩ := h123
        have q125 : m122.1 3 = M.1 3 := ((h121.o 3 (by decide)).trans q112)
        have z126 : (m122.1 0 12).toInt = (m109.1 0 12).toInt := congrArg Int32.toInt h121.s12
        have z127 : (m122.1 0 6).toInt = (m109.1 0 6).toInt := congrArg Int32.toInt h121.s6
        have z128 : (m122.1 0 20).toInt = (m109.1 0 20).toInt := congrArg Int32.toInt h121.s20
        have z129 : (m122.1 7 (M.1 0 12).toNatClampNeg).toInt = (m109.1 7 (M.1 0 12).toNatClampNeg).toInt := by rw [h121.o 7 (by decide)]
        refine wpR_eq (x := u119.toInt) (y := 0) rfl (rfl : (0 : Int32).toInt = 0) (fun c130 => ?_) (fun c130 => ?_)
        · skip
          have z131 : (0 : Int32).toInt = 0 := rfl
          exact wpR_some ⟨i124, (by omega), (by omega), q125⟩
        · skip
          refine wpR_cl (w_ChipMapModel_takeDecimal i124) (fun m135 u132 h136 => ?_)
          obtain ⟨i137, h133, h134⟩ := h136
          have q138 : m135.1 3 = M.1 3 := ((h134.o 3 (by decide)).trans q125)
          have z139 : (m135.1 0 12).toInt = (m122.1 0 12).toInt := congrArg Int32.toInt h134.s12
          have z140 : (m135.1 0 6).toInt = (m122.1 0 6).toInt := congrArg Int32.toInt h134.s6
          have z141 : (m135.1 0 20).toInt = (m122.1 0 20).toInt := congrArg Int32.toInt h134.s20
          have z142 : (m135.1 7 (M.1 0 12).toNatClampNeg).toInt = (m122.1 7 (M.1 0 12).toNatClampNeg).toInt := by rw [h134.o 7 (by decide)]
          refine wpR_eq (x := u132.toInt) (y := 0) rfl (rfl : (0 : Int32).toInt = 0) (fun c143 => ?_) (fun c143 => ?_)
          · skip
            have z144 : (0 : Int32).toInt = 0 := rfl
            exact wpR_some ⟨i137, (by omega), (by omega), q138⟩
          · skip
            refine wpR_ix (vI k7) ?_
            refine wpR_ltv (fun m145 e146 => ?_)
            have i147 : IY G K m145 := by rw [e146]; exact i137.s10 _
            have q148 : m145.1 3 = M.1 3 := by rw [e146]; exact q138
            have z149 : (m145.1 0 12).toInt = (m135.1 0 12).toInt := by rw [e146]; rfl
            have z150 : (m145.1 0 6).toInt = (m135.1 0 6).toInt := by rw [e146]; rfl
            have z151 : (m145.1 0 20).toInt = (m135.1 0 20).toInt := by rw [e146]; rfl
            have z152 : (m145.1 7 (M.1 0 12).toNatClampNeg).toInt = (m135.1 7 (M.1 0 12).toNatClampNeg).toInt := by rw [e146]; rfl
            have z153 : (hrV m145).toInt = (hrV m135).toInt := by rw [e146]; rfl
            refine wpR_ix (vI k7) ?_
            refine wpR_ltv (fun m154 e155 => ?_)
            have i156 : IY G K m154 := by rw [e155]; exact i147.s11 _
            have q157 : m154.1 3 = M.1 3 := by rw [e155]; exact q148
            have z158 : (m154.1 0 12).toInt = (m145.1 0 12).toInt := by rw [e155]; rfl
            have z159 : (m154.1 0 6).toInt = (m145.1 0 6).toInt := by rw [e155]; rfl
            have z160 : (m154.1 0 20).toInt = (m145.1 0 20).toInt := by rw [e155]; rfl
            have z161 : (m154.1 7 (M.1 0 12).toNatClampNeg).toInt = (m145.1 7 (M.1 0 12).toNatClampNeg).toInt := by rw [e155]; rfl
            have z162 : (hrV m154).toInt = (hrV m145).toInt := by rw [e155]; rfl
            refine wpR_ro (w_ChipMapModel_here i156) (fun u163 h166 => ?_)
            obtain ⟨h164, h165⟩ := h166
            refine wpR_eq (x := u163.toInt) (y := 61) rfl (rfl : (61 : Int32).toInt = 61) (fun c167 => ?_) (fun c167 => ?_)
            · skip
              have z171 := i156.atR
              have z172 : ((m154.1 0 3) + 1 : Int32).toInt = (m154.1 0 3 : Int32).toInt + 1 := iadd rfl (rfl : (1 : Int32).toInt = 1) (by omega) (by omega)
              refine wpR_ltv (fun m168 e169 => ?_)
              have i170 : IY G K m168 := by rw [e169]; exact i156.s0_3 (by omega)
              have q173 : m168.1 3 = M.1 3 := by rw [e169]; exact q157
              have z174 : (m168.1 0 12).toInt = (m154.1 0 12).toInt := by rw [e169]; rfl
              have z175 : (m168.1 0 6).toInt = (m154.1 0 6).toInt := by rw [e169]; rfl
              have z176 : (m168.1 0 20).toInt = (m154.1 0 20).toInt := by rw [e169]; rfl
              have z177 : (m168.1 7 (M.1 0 12).toNatClampNeg).toInt = (m154.1 7 (M.1 0 12).toNatClampNeg).toInt := by rw [e169]; rfl
              have z178 : (4 : Int32).toInt = 4 := rfl
              refine wpR_cl (w_ChipMapModel_takeHex i170 1 4 (by omega)) (fun m182 u179 h183 => ?_)
              obtain ⟨i184, h180, h181⟩ := h183
              have q185 : m182.1 3 = M.1 3 := ((h181.o 3 (by decide)).trans q173)
              have z186 : (m182.1 0 12).toInt = (m168.1 0 12).toInt := congrArg Int32.toInt h181.s12
              have z187 : (m182.1 0 6).toInt = (m168.1 0 6).toInt := congrArg Int32.toInt h181.s6
              have z188 : (m182.1 0 20).toInt = (m168.1 0 20).toInt := congrArg Int32.toInt h181.s20
              have z189 : (m182.1 7 (M.1 0 12).toNatClampNeg).toInt = (m168.1 7 (M.1 0 12).toNatClampNeg).toInt := by rw [h181.o 7 (by decide)]
              refine wpR_eq (x := u179.toInt) (y := 0) rfl (rfl : (0 : Int32).toInt = 0) (fun c190 => ?_) (fun c190 => ?_)
              · skip
                have z191 : (0 : Int32).toInt = 0 := rfl
                exact wpR_some ⟨i184, (by omega), (by omega), q185⟩
              · skip
                refine wpR_ix (vI k7) ?_
                refine wpR_ltv (fun m192 e193 => ?_)
                have i194 : IY G K m192 := by rw [e193]; exact i184.s11 _
                have q195 : m192.1 3 = M.1 3 := by rw [e193]; exact q185
                have z196 : (m192.1 0 12).toInt = (m182.1 0 12).toInt := by rw [e193]; rfl
                have z197 : (m192.1 0 6).toInt = (m182.1 0 6).toInt := by rw [e193]; rfl
                have z198 : (m192.1 0 20).toInt = (m182.1 0 20).toInt := by rw [e193]; rfl
                have z199 : (m192.1 7 (M.1 0 12).toNatClampNeg).toInt = (m182.1 7 (M.1 0 12).toNatClampNeg).toInt := by rw [e193]; rfl
                have z200 : (hrV m192).toInt = (hrV m182).toInt := by rw [e193]; rfl
                unfold q_ChipMapModel_readField_181
                have z204 := i194.rf
                have z205 : (u17 - 65 : Int32).toInt = u17.toInt - 65 := isub rfl (rfl : (65 : Int32).toInt = 65) (by omega) (by omega)
                have z206 : ((m192.1 0 12) + 1 : Int32).toInt = (m192.1 0 12 : Int32).toInt + 1 := iadd rfl (rfl : (1 : Int32).toInt = 1) (by omega) (by omega)
                refine wpR_ltv (fun m201 e202 => ?_)
                have i203 : IY G K m201 := by rw [e202]; exact i194.s0_12 (v := (M.1 0 12)) (by omega) (by omega) (by omega)
                have q207 : m201.1 3 = M.1 3 := by rw [e202]; exact q195
                have z208 : (m201.1 0 12).toInt = (((m192.1 0 12) + 1) : Int32).toInt := by rw [e202]; rfl
                have z209 : (m201.1 0 6).toInt = (m192.1 0 6).toInt := by rw [e202]; rfl
                have z210 : (m201.1 0 20).toInt = (m192.1 0 20).toInt := by rw [e202]; rfl
                have z211 : (m201.1 7 (M.1 0 12).toNatClampNeg).toInt = (m192.1 7 (M.1 0 12).toNatClampNeg).toInt := by rw [e202]; rfl
                have z212 : (hrV m201).toInt = (hrV m192).toInt := by rw [e202]; rfl
                have z213 : (59 : Int32).toInt = 59 := rfl
                refine wpR_cl (w_ChipMapModel_take i203 59 (by omega)) (fun m217 u214 h218 => ?_)
                obtain ⟨i219, h215, h216⟩ := h218
                have q220 : m217.1 3 = M.1 3 := ((h216.o 3 (by decide)).trans q207)
                have z221 : (m217.1 0 12).toInt = (m201.1 0 12).toInt := congrArg Int32.toInt h216.s12
                have z222 : (m217.1 0 6).toInt = (m201.1 0 6).toInt := congrArg Int32.toInt h216.s6
                have z223 : (m217.1 0 20).toInt = (m201.1 0 20).toInt := congrArg Int32.toInt h216.s20
                have z224 : (m217.1 7 (M.1 0 12).toNatClampNeg).toInt = (m201.1 7 (M.1 0 12).toNatClampNeg).toInt := by rw [h216.o 7 (by decide)]
                refine wpR_bz (b01 (by omega)) ?_
                exact wpR_some ⟨i219, (by omega), (by omega), q220⟩
            · skip
              unfold q_ChipMapModel_readField_181
              have z228 := i156.rf
              have z229 : (u17 - 65 : Int32).toInt = u17.toInt - 65 := isub rfl (rfl : (65 : Int32).toInt = 65) (by omega) (by omega)
              have z230 : ((m154.1 0 12) + 1 : Int32).toInt = (m154.1 0 12 : Int32).toInt + 1 := iadd rfl (rfl : (1 : Int32).toInt = 1) (by omega) (by omega)
              refine wpR_ltv (fun m225 e226 => ?_)
              have i227 : IY G K m225 := by rw [e226]; exact i156.s0_12 (v := (M.1 0 12)) (by omega) (by omega) (by omega)
              have q231 : m225.1 3 = M.1 3 := by rw [e226]; exact q157
              have z232 : (m225.1 0 12).toInt = (((m154.1 0 12) + 1) : Int32).toInt := by rw [e226]; rfl
              have z233 : (m225.1 0 6).toInt = (m154.1 0 6).toInt := by rw [e226]; rfl
              have z234 : (m225.1 0 20).toInt = (m154.1 0 20).toInt := by rw [e226]; rfl
              have z235 : (m225.1 7 (M.1 0 12).toNatClampNeg).toInt = (m154.1 7 (M.1 0 12).toNatClampNeg).toInt := by rw [e226]; rfl
              have z236 : (hrV m225).toInt = (hrV m154).toInt := by rw [e226]; rfl
              have z237 : (59 : Int32).toInt = 59 := rfl
              refine wpR_cl (w_ChipMapModel_take i227 59 (by omega)) (fun m241 u238 h242 => ?_)
              obtain ⟨i243, h239, h240⟩ := h242
              have q244 : m241.1 3 = M.1 3 := ((h240.o 3 (by decide)).trans q231)
              have z245 : (m241.1 0 12).toInt = (m225.1 0 12).toInt := congrArg Int32.toInt h240.s12
              have z246 : (m241.1 0 6).toInt = (m225.1 0 6).toInt := congrArg Int32.toInt h240.s6
              have z247 : (m241.1 0 20).toInt = (m225.1 0 20).toInt := congrArg Int32.toInt h240.s20
              have z248 : (m241.1 7 (M.1 0 12).toNatClampNeg).toInt = (m225.1 7 (M.1 0 12).toNatClampNeg).toInt := by rw [h240.o 7 (by decide)]
              refine wpR_bz (b01 (by omega)) ?_
              exact wpR_some ⟨i243, (by omega), (by omega), q244⟩
theorem w_ChipMapModel_readRegister_165 {G : Gy} {K : Int}  : ∀ (n' : Nat) (M : Mm) (v2 : Int32) (v3 : Int32) (w : Int32), IY G K M → (0 ≤ v3.toInt ∧ v3.toInt ≤ 1) → (0 ≤ v2.toInt ∧ v2.toInt ≤ (M.1 0 12).toInt ∧ (M.1 0 12).toInt + v3.toInt ≤ v2.toInt + 8 ∧ v2.toInt ≤ 8 * (M.1 0 6).toInt ∧ (M.1 0 6).toInt ≤ 15) → (w.toInt = (M.1 0 6).toInt ∧ -1 ≤ (M.1 3 w.toNatClampNeg).toInt ∧ (M.1 3 w.toNatClampNeg).toInt ≤ 25) → 10 * v3.toInt + v2.toInt + 8 - (M.1 0 12).toInt < (n' : Int) → wpR (q_ChipMapModel_readRegister_165 n' M v2 v3) (fun M' r => IY G K M' ∧ (0 ≤ r.toInt ∧ r.toInt ≤ 1) ∧ ((M'.1 0 20).toInt = (M.1 0 20).toInt ∧ (r.toInt ≠ 0 → (M'.1 0 6).toInt = (M.1 0 6).toInt + 1 ∧ (M'.1 0 12).toInt ≤ 8 * (M'.1 0 6).toInt))) := by
  intro n'
  induction n' with
  | zero =>
    intro M v2 v3 w hI p0 p1 p2 hn
    have z1 := hI.rf
    have z2 := hI.rr
    have z3 := hI.ru
    exfalso; omega
  | succ n' ih =>
    intro M v2 v3 w hI p0 p1 p2 hn
    rw [q_ChipMapModel_readRegister_165]
    have z4 := hI.rf
    have z5 := hI.rr
    have z6 := hI.ru
    have z7 := hI.rf
    have z8 := hI.rr
    refine wpR_eq (x := v3.toInt) (y := 0) rfl (rfl : (0 : Int32).toInt = 0) (fun c9 => ?_) (fun c9 => ?_)
    · skip
      have z13 : ((M.1 0 6) + 1 : Int32).toInt = (M.1 0 6 : Int32).toInt + 1 := iadd rfl (rfl : (1 : Int32).toInt = 1) (by omega) (by omega)
      refine wpR_ltv (fun m10 e11 => ?_)
      have i12 : IY G K m10 := by rw [e11]; exact hI.s0_6 (v := w) (by omega) (by omega) (by omega)
      have z14 : (m10.1 0 12).toInt = (M.1 0 12).toInt := by rw [e11]; rfl
      have z15 : (m10.1 0 6).toInt = (((M.1 0 6) + 1) : Int32).toInt := by rw [e11]; rfl
      have z16 : (m10.1 0 20).toInt = (M.1 0 20).toInt := by rw [e11]; rfl
      have z17 : (m10.1 3 w.toNatClampNeg).toInt = (M.1 3 w.toNatClampNeg).toInt := by rw [e11]; rfl
      have z18 : (125 : Int32).toInt = 125 := rfl
      refine wpR_cl (w_ChipMapModel_take i12 125 (by omega)) (fun m22 u19 h23 => ?_)
      obtain ⟨i24, h20, h21⟩ := h23
      have z25 : (m22.1 0 12).toInt = (m10.1 0 12).toInt := congrArg Int32.toInt h21.s12
      have z26 : (m22.1 0 6).toInt = (m10.1 0 6).toInt := congrArg Int32.toInt h21.s6
      have z27 : (m22.1 0 20).toInt = (m10.1 0 20).toInt := congrArg Int32.toInt h21.s20
      have z28 : (m22.1 3 w.toNatClampNeg).toInt = (m10.1 3 w.toNatClampNeg).toInt := by rw [h21.o 3 (by decide)]
      refine wpR_bz (b01 (by omega)) ?_
      exact wpR_some ⟨i24, (by omega), (by omega)⟩
    · skip
      refine wpR_cl (w_ChipMapModel_readField hI (by omega) (by omega)) (fun m33 u29 h34 => ?_)
      obtain ⟨i35, h30, h31, h32⟩ := h34
      have z36 : (m33.1 3 w.toNatClampNeg).toInt = (M.1 3 w.toNatClampNeg).toInt := by rw [h32]
      refine wpR_eq (x := u29.toInt) (y := 0) rfl (rfl : (0 : Int32).toInt = 0) (fun c37 => ?_) (fun c37 => ?_)
      · skip
        have z38 : (0 : Int32).toInt = 0 := rfl
        exact wpR_some ⟨i35, (by omega), (by omega)⟩
      · skip
        refine wpR_ro (w_ChipMapModel_here i35) (fun u39 h42 => ?_)
        obtain ⟨h40, h41⟩ := h42
        refine wpR_eq (x := u39.toInt) (y := 125) rfl (rfl : (125 : Int32).toInt = 125) (fun c43 => ?_) (fun c43 => ?_)
        · skip
          unfold q_ChipMapModel_readRegister_202
          unfold q_ChipMapModel_readRegister_203
          have z44 : (0 : Int32).toInt = 0 := rfl
          have z45 := i35.rf
          have z46 := i35.rr
          refine wpR_mono (ih m33 v2 0 w i35 (by omega) (by omega) (by omega) (by omega)) (fun _ _ h49 => ?_)
          obtain ⟨i50, h47, h48⟩ := h49
          exact ⟨i50, h47, (by omega)⟩
        · skip
          have z51 := i35.rf
          have z52 : ((m33.1 0 12) - v2 : Int32).toInt = (m33.1 0 12 : Int32).toInt - v2.toInt := isub rfl rfl (by omega) (by omega)
          refine wpR_le (x := 8) (y := (((m33.1 0 12) - v2 : Int32).toInt)) (rfl : (8 : Int32).toInt = 8) rfl (fun c53 => ?_) (fun c53 => ?_)
          · skip
            unfold q_ChipMapModel_readRegister_202
            unfold q_ChipMapModel_readRegister_203
            have z54 : (0 : Int32).toInt = 0 := rfl
            have z55 := i35.rr
            refine wpR_mono (ih m33 v2 0 w i35 (by omega) (by omega) (by omega) (by omega)) (fun _ _ h58 => ?_)
            obtain ⟨i59, h56, h57⟩ := h58
            exact ⟨i59, h56, (by omega)⟩
          · skip
            unfold q_ChipMapModel_readRegister_203
            have z60 : (1 : Int32).toInt = 1 := rfl
            have z61 := i35.rr
            refine wpR_mono (ih m33 v2 1 w i35 (by omega) (by omega) (by omega) (by omega)) (fun _ _ h64 => ?_)
            obtain ⟨i65, h62, h63⟩ := h64
            exact ⟨i65, h62, (by omega)⟩
theorem w_ChipMapModel_readRegister {G : Gy} {K : Int} {M : Mm} (hI : IY G K M)  (p0 : (M.1 0 12).toInt ≤ 8 * (M.1 0 6).toInt) : wpR (q_ChipMapModel_readRegister M) (fun M' r => IY G K M' ∧ (0 ≤ r.toInt ∧ r.toInt ≤ 1) ∧ ((M'.1 0 20).toInt = (M.1 0 20).toInt ∧ (r.toInt ≠ 0 → (M'.1 0 6).toInt = (M.1 0 6).toInt + 1 ∧ (M'.1 0 12).toInt ≤ 8 * (M'.1 0 6).toInt))) := by
  unfold q_ChipMapModel_readRegister
  have z1 := tnc (i := (M.1 0 6)) hI.rr.1
  have z2 := hI.rf
  have z3 := hI.rr
  have z4 := hI.ru
  have z5 := hI.rf
  have z6 := hI.rr
  refine wpR_lt ?_
  have k7 : 0 ≤ ((M.1 0 6) : Int32).toInt ∧ ((M.1 0 6) : Int32).toInt < ((17 : Nat) : Int) := by omega
  refine wpR_ix (vI k7) ?_
  refine wpR_ltv (fun m8 e9 => ?_)
  have i10 : IY G K m8 := by rw [e9]; exact hI.s5 _
  have z11 : (m8.1 0 12).toInt = (M.1 0 12).toInt := by rw [e9]; rfl
  have z12 : (m8.1 0 6).toInt = (M.1 0 6).toInt := by rw [e9]; rfl
  have z13 : (m8.1 0 20).toInt = (M.1 0 20).toInt := by rw [e9]; rfl
  have z14 : (m8.1 3 (M.1 0 6).toNatClampNeg).toInt = (M.1 3 (M.1 0 6).toNatClampNeg).toInt := by rw [e9]; rfl
  have z15 : (hrV m8).toInt = (hrV M).toInt := by rw [e9]; rfl
  refine wpR_eq (x := (M.1 0 6 : Int32).toInt) (y := 16) rfl (rfl : (16 : Int32).toInt = 16) (fun c16 => ?_) (fun c16 => ?_)
  · skip
    refine wpR_cl (w_ChipMapModel_wrong i10 1 (m8.1 0 3)) (fun m20 u17 h21 => ?_)
    obtain ⟨i22, h18, h19⟩ := h21
    have z23 : (m20.1 0 12).toInt = (m8.1 0 12).toInt := congrArg Int32.toInt h19.s12
    have z24 : (m20.1 0 6).toInt = (m8.1 0 6).toInt := congrArg Int32.toInt h19.s6
    have z25 : (m20.1 0 20).toInt = (m8.1 0 20).toInt := congrArg Int32.toInt h19.s20
    have z26 : (m20.1 3 (M.1 0 6).toNatClampNeg).toInt = (m8.1 3 (M.1 0 6).toNatClampNeg).toInt := by rw [h19.o 3 (by decide)]
    refine wpR_bz (b01 (by omega)) ?_
    exact wpR_some ⟨i22, (by omega), (by omega)⟩
  · skip
    have z27 : (64 : Int32).toInt = 64 := rfl
    refine wpR_cl (w_ChipMapModel_take i10 64 (by omega)) (fun m31 u28 h32 => ?_)
    obtain ⟨i33, h29, h30⟩ := h32
    have z34 : (m31.1 0 12).toInt = (m8.1 0 12).toInt := congrArg Int32.toInt h30.s12
    have z35 : (m31.1 0 6).toInt = (m8.1 0 6).toInt := congrArg Int32.toInt h30.s6
    have z36 : (m31.1 0 20).toInt = (m8.1 0 20).toInt := congrArg Int32.toInt h30.s20
    have z37 : (m31.1 3 (M.1 0 6).toNatClampNeg).toInt = (m8.1 3 (M.1 0 6).toNatClampNeg).toInt := by rw [h30.o 3 (by decide)]
    refine wpR_eq (x := u28.toInt) (y := 0) rfl (rfl : (0 : Int32).toInt = 0) (fun c38 => ?_) (fun c38 => ?_)
    · skip
      have z39 : (0 : Int32).toInt = 0 := rfl
      exact wpR_some ⟨i33, (by omega), (by omega)⟩
    · skip
      have z40 : (2 : Int32).toInt = 2 := rfl
      refine wpR_cl (w_ChipMapModel_takeHex i33 2 2 (by omega)) (fun m44 u41 h45 => ?_)
      obtain ⟨i46, h42, h43⟩ := h45
      have z47 : (m44.1 0 12).toInt = (m31.1 0 12).toInt := congrArg Int32.toInt h43.s12
      have z48 : (m44.1 0 6).toInt = (m31.1 0 6).toInt := congrArg Int32.toInt h43.s6
      have z49 : (m44.1 0 20).toInt = (m31.1 0 20).toInt := congrArg Int32.toInt h43.s20
      have z50 : (m44.1 3 (M.1 0 6).toNatClampNeg).toInt = (m31.1 3 (M.1 0 6).toNatClampNeg).toInt := by rw [h43.o 3 (by decide)]
      refine wpR_eq (x := u41.toInt) (y := 0) rfl (rfl : (0 : Int32).toInt = 0) (fun c51 => ?_) (fun c51 => ?_)
      · skip
        have z52 : (0 : Int32).toInt = 0 := rfl
        exact wpR_some ⟨i46, (by omega), (by omega)⟩
      · skip
        refine wpR_ix (vI k7) ?_
        refine wpR_ltv (fun m53 e54 => ?_)
        have i55 : IY G K m53 := by rw [e54]; exact i46.s2 _
        have z56 : (m53.1 0 12).toInt = (m44.1 0 12).toInt := by rw [e54]; rfl
        have z57 : (m53.1 0 6).toInt = (m44.1 0 6).toInt := by rw [e54]; rfl
        have z58 : (m53.1 0 20).toInt = (m44.1 0 20).toInt := by rw [e54]; rfl
        have z59 : (m53.1 3 (M.1 0 6).toNatClampNeg).toInt = (m44.1 3 (M.1 0 6).toNatClampNeg).toInt := by rw [e54]; rfl
        have z60 : (hrV m53).toInt = (hrV m44).toInt := by rw [e54]; rfl
        refine wpR_ix (vI k7) ?_
        have z64 : (-1 : Int32).toInt = -1 := by decide
        refine wpR_ltv (fun m61 e62 => ?_)
        have i63 : IY G K m61 := by rw [e62]; exact i55.s3 _ (by omega)
        have z65 : (m61.1 0 12).toInt = (m53.1 0 12).toInt := by rw [e62]; rfl
        have z66 : (m61.1 0 6).toInt = (m53.1 0 6).toInt := by rw [e62]; rfl
        have z67 : (m61.1 0 20).toInt = (m53.1 0 20).toInt := by rw [e62]; rfl
        have z68 : (m61.1 3 (M.1 0 6).toNatClampNeg).toInt = ((-1) : Int32).toInt := by rw [e62]; exact congrArg Int32.toInt updS
        have z69 : (hrV m61).toInt = (hrV m53).toInt := by rw [e62]; rfl
        refine wpR_ro (w_ChipMapModel_here i63) (fun u70 h73 => ?_)
        obtain ⟨h71, h72⟩ := h73
        refine wpR_eq (x := u70.toInt) (y := 63) rfl (rfl : (63 : Int32).toInt = 63) (fun c74 => ?_) (fun c74 => ?_)
        · skip
          have z78 := i63.atR
          have z79 : ((m61.1 0 3) + 1 : Int32).toInt = (m61.1 0 3 : Int32).toInt + 1 := iadd rfl (rfl : (1 : Int32).toInt = 1) (by omega) (by omega)
          refine wpR_ltv (fun m75 e76 => ?_)
          have i77 : IY G K m75 := by rw [e76]; exact i63.s0_3 (by omega)
          have z80 : (m75.1 0 12).toInt = (m61.1 0 12).toInt := by rw [e76]; rfl
          have z81 : (m75.1 0 6).toInt = (m61.1 0 6).toInt := by rw [e76]; rfl
          have z82 : (m75.1 0 20).toInt = (m61.1 0 20).toInt := by rw [e76]; rfl
          have z83 : (m75.1 3 (M.1 0 6).toNatClampNeg).toInt = (m61.1 3 (M.1 0 6).toNatClampNeg).toInt := by rw [e76]; rfl
          refine wpR_ix (vI k7) ?_
          refine wpR_ltv (fun m84 e85 => ?_)
          have i86 : IY G K m84 := by rw [e85]; exact i77.s6 _
          have z87 : (m84.1 0 12).toInt = (m75.1 0 12).toInt := by rw [e85]; rfl
          have z88 : (m84.1 0 6).toInt = (m75.1 0 6).toInt := by rw [e85]; rfl
          have z89 : (m84.1 0 20).toInt = (m75.1 0 20).toInt := by rw [e85]; rfl
          have z90 : (m84.1 3 (M.1 0 6).toNatClampNeg).toInt = (m75.1 3 (M.1 0 6).toNatClampNeg).toInt := by rw [e85]; rfl
          have z91 : (hrV m84).toInt = (hrV m75).toInt := by rw [e85]; rfl
          refine wpR_ro (w_ChipMapModel_here i86) (fun u92 h95 => ?_)
          obtain ⟨h93, h94⟩ := h95
          refine wpR_ix (vI k7) ?_
          refine wpR_ltv (fun m96 e97 => ?_)
          have i98 : IY G K m96 := by rw [e97]; exact i86.s3 _ (by omega)
          have z99 : (m96.1 0 12).toInt = (m84.1 0 12).toInt := by rw [e97]; rfl
          have z100 : (m96.1 0 6).toInt = (m84.1 0 6).toInt := by rw [e97]; rfl
          have z101 : (m96.1 0 20).toInt = (m84.1 0 20).toInt := by rw [e97]; rfl
          have z102 : (m96.1 3 (M.1 0 6).toNatClampNeg).toInt = ((u92 - 65) : Int32).toInt := by rw [e97]; exact congrArg Int32.toInt updS
          have z103 : (hrV m96).toInt = (hrV m84).toInt := by rw [e97]; rfl
          refine wpR_cl (w_ChipMapModel_takeName i98) (fun m108 u104 h109 => ?_)
          obtain ⟨i110, h105, h106, h107⟩ := h109
          have z111 : (m108.1 0 12).toInt = (m96.1 0 12).toInt := congrArg Int32.toInt h107.s12
          have z112 : (m108.1 0 6).toInt = (m96.1 0 6).toInt := congrArg Int32.toInt h107.s6
          have z113 : (m108.1 0 20).toInt = (m96.1 0 20).toInt := congrArg Int32.toInt h107.s20
          have z114 : (m108.1 3 (M.1 0 6).toNatClampNeg).toInt = (m96.1 3 (M.1 0 6).toNatClampNeg).toInt := by rw [h107.o 3 (by decide)]
          refine wpR_eq (x := u104.toInt) (y := 0) rfl (rfl : (0 : Int32).toInt = 0) (fun c115 => ?_) (fun c115 => ?_)
          · skip
            have z116 : (0 : Int32).toInt = 0 := rfl
            exact wpR_some ⟨i110, (by omega), (by omega)⟩
          · skip
            have z117 : (61 : Int32).toInt = 61 := rfl
            refine wpR_cl (w_ChipMapModel_take i110 61 (by omega)) (fun m121 u118 h122 => ?_)
            obtain ⟨i123, h119, h120⟩ := h122
            have z124 : (m121.1 0 12).toInt = (m108.1 0 12).toInt := congrArg Int32.toInt h120.s12
            have z125 : (m121.1 0 6).toInt = (m108.1 0 6).toInt := congrArg Int32.toInt h120.s6
            have z126 : (m121.1 0 20).toInt = (m108.1 0 20).toInt := congrArg Int32.toInt h120.s20
            have z127 : (m121.1 3 (M.1 0 6).toNatClampNeg).toInt = (m108.1 3 (M.1 0 6).toNatClampNeg).toInt := by rw [h120.o 3 (by decide)]
            refine wpR_eq (x := u118.toInt) (y := 0) rfl (rfl : (0 : Int32).toInt = 0) (fun c128 => ?_) (fun c128 => ?_)
            · skip
              have z129 : (0 : Int32).toInt = 0 := rfl
              exact wpR_some ⟨i123, (by omega), (by omega)⟩
            · skip
              have z130 : (1 : Int32).toInt = 1 := rfl
              refine wpR_cl (w_ChipMapModel_takeHex i123 1 1 (by omega)) (fun m134 u131 h135 => ?_)
              obtain ⟨i136, h132, h133⟩ := h135
              have z137 : (m134.1 0 12).toInt = (m121.1 0 12).toInt := congrArg Int32.toInt h133.s12
              have z138 : (m134.1 0 6).toInt = (m121.1 0 6).toInt := congrArg Int32.toInt h133.s6
              have z139 : (m134.1 0 20).toInt = (m121.1 0 20).toInt := congrArg Int32.toInt h133.s20
              have z140 : (m134.1 3 (M.1 0 6).toNatClampNeg).toInt = (m121.1 3 (M.1 0 6).toNatClampNeg).toInt := by rw [h133.o 3 (by decide)]
              refine wpR_eq (x := u131.toInt) (y := 0) rfl (rfl : (0 : Int32).toInt = 0) (fun c141 => ?_) (fun c141 => ?_)
              · skip
                have z142 : (0 : Int32).toInt = 0 := rfl
                exact wpR_some ⟨i136, (by omega), (by omega)⟩
              · skip
                refine wpR_ix (vI k7) ?_
                refine wpR_ltv (fun m143 e144 => ?_)
                have i145 : IY G K m143 := by rw [e144]; exact i136.s4 _
                have z146 : (m143.1 0 12).toInt = (m134.1 0 12).toInt := by rw [e144]; rfl
                have z147 : (m143.1 0 6).toInt = (m134.1 0 6).toInt := by rw [e144]; rfl
                have z148 : (m143.1 0 20).toInt = (m134.1 0 20).toInt := by rw [e144]; rfl
                have z149 : (m143.1 3 (M.1 0 6).toNatClampNeg).toInt = (m134.1 3 (M.1 0 6).toNatClampNeg).toInt := by rw [e144]; rfl
                have z150 : (hrV m143).toInt = (hrV m134).toInt := by rw [e144]; rfl
                unfold q_ChipMapModel_readRegister_147
                have z151 : (123 : Int32).toInt = 123 := rfl
                refine wpR_cl (w_ChipMapModel_take i145 123 (by omega)) (fun m155 u152 h156 => ?_)
                obtain ⟨i157, h153, h154⟩ := h156
                have z158 : (m155.1 0 12).toInt = (m143.1 0 12).toInt := congrArg Int32.toInt h154.s12
                have z159 : (m155.1 0 6).toInt = (m143.1 0 6).toInt := congrArg Int32.toInt h154.s6
                have z160 : (m155.1 0 20).toInt = (m143.1 0 20).toInt := congrArg Int32.toInt h154.s20
                have z161 : (m155.1 3 (M.1 0 6).toNatClampNeg).toInt = (m143.1 3 (M.1 0 6).toNatClampNeg).toInt := by rw [h154.o 3 (by decide)]
                refine wpR_eq (x := u152.toInt) (y := 0) rfl (rfl : (0 : Int32).toInt = 0) (fun c162 => ?_) (fun c162 => ?_)
                · skip
                  have z163 : (0 : Int32).toInt = 0 := rfl
                  exact wpR_some ⟨i157, (by omega), (by omega)⟩
                · skip
                  refine wpR_lt ?_
                  have z164 := i157.rf
                  have z165 := i157.rr
                  have z166 : (u92 - 65 : Int32).toInt = u92.toInt - 65 := isub rfl (rfl : (65 : Int32).toInt = 65) (by omega) (by omega)
                  refine wpR_mono (w_ChipMapModel_readRegister_165 4000 m155 (m155.1 0 12) 1 (M.1 0 6) i157 (by omega) (by omega) (by omega) (by omega)) (fun _ _ h169 => ?_)
                  obtain ⟨i170, h167, h168⟩ := h169
                  exact ⟨i170, h167, (by omega)⟩
        · skip
          unfold q_ChipMapModel_readRegister_147
          have z171 : (123 : Int32).toInt = 123 := rfl
          refine wpR_cl (w_ChipMapModel_take i63 123 (by omega)) (fun m175 u172 h176 => ?_)
          obtain ⟨i177, h173, h174⟩ := h176
          have z178 : (m175.1 0 12).toInt = (m61.1 0 12).toInt := congrArg Int32.toInt h174.s12
          have z179 : (m175.1 0 6).toInt = (m61.1 0 6).toInt := congrArg Int32.toInt h174.s6
          have z180 : (m175.1 0 20).toInt = (m61.1 0 20).toInt := congrArg Int32.toInt h174.s20
          have z181 : (m175.1 3 (M.1 0 6).toNatClampNeg).toInt = (m61.1 3 (M.1 0 6).toNatClampNeg).toInt := by rw [h174.o 3 (by decide)]
          refine wpR_eq (x := u172.toInt) (y := 0) rfl (rfl : (0 : Int32).toInt = 0) (fun c182 => ?_) (fun c182 => ?_)
          · skip
            have z183 : (0 : Int32).toInt = 0 := rfl
            exact wpR_some ⟨i177, (by omega), (by omega)⟩
          · skip
            refine wpR_lt ?_
            have z184 : (1 : Int32).toInt = 1 := rfl
            have z185 := i177.rf
            have z186 := i177.rr
            refine wpR_mono (w_ChipMapModel_readRegister_165 4000 m175 (m175.1 0 12) 1 (M.1 0 6) i177 (by omega) (by omega) (by omega) (by omega)) (fun _ _ h189 => ?_)
            obtain ⟨i190, h187, h188⟩ := h189
            exact ⟨i190, h187, (by omega)⟩
theorem w_ChipMapModel_readRule {G : Gy} {K : Int} {M : Mm} (hI : IY G K M)  : wpR (q_ChipMapModel_readRule M) (fun M' r => IY G K M' ∧ (0 ≤ r.toInt ∧ r.toInt ≤ 1) ∧ ((M'.1 0 6).toInt = (M.1 0 6).toInt ∧ (M'.1 0 12).toInt = (M.1 0 12).toInt ∧ (r.toInt ≠ 0 → (M'.1 0 20).toInt = (M.1 0 20).toInt + 1))) := by
  unfold q_ChipMapModel_readRule
  have z1 := tnc (i := (M.1 0 20)) hI.ru.1
  have z2 := hI.rf
  have z3 := hI.rr
  have z4 := hI.ru
  refine wpR_lt ?_
  have z5 := hI.ru
  refine wpR_eq (x := (M.1 0 20 : Int32).toInt) (y := 12) rfl (rfl : (12 : Int32).toInt = 12) (fun c6 => ?_) (fun c6 => ?_)
  · skip
    refine wpR_cl (w_ChipMapModel_wrong hI 1 (M.1 0 3)) (fun m10 u7 h11 => ?_)
    obtain ⟨i12, h8, h9⟩ := h11
    have z13 : (m10.1 0 12).toInt = (M.1 0 12).toInt := congrArg Int32.toInt h9.s12
    have z14 : (m10.1 0 6).toInt = (M.1 0 6).toInt := congrArg Int32.toInt h9.s6
    have z15 : (m10.1 0 20).toInt = (M.1 0 20).toInt := congrArg Int32.toInt h9.s20
    have z16 : (m10.1 15 (M.1 0 20).toNatClampNeg).toInt = (M.1 15 (M.1 0 20).toNatClampNeg).toInt := by rw [h9.o 15 (by decide)]
    have z17 : (m10.1 16 (M.1 0 20).toNatClampNeg).toInt = (M.1 16 (M.1 0 20).toNatClampNeg).toInt := by rw [h9.o 16 (by decide)]
    refine wpR_bz (b01 (by omega)) ?_
    exact wpR_some ⟨i12, (by omega), (by omega)⟩
  · skip
    have k18 : 0 ≤ ((M.1 0 20) : Int32).toInt ∧ ((M.1 0 20) : Int32).toInt < ((13 : Nat) : Int) := by omega
    refine wpR_ix (vI k18) ?_
    refine wpR_ltv (fun m19 e20 => ?_)
    have i21 : IY G K m19 := by rw [e20]; exact hI.s18 _
    have z22 : (m19.1 0 12).toInt = (M.1 0 12).toInt := by rw [e20]; rfl
    have z23 : (m19.1 0 6).toInt = (M.1 0 6).toInt := by rw [e20]; rfl
    have z24 : (m19.1 0 20).toInt = (M.1 0 20).toInt := by rw [e20]; rfl
    have z25 : (m19.1 15 (M.1 0 20).toNatClampNeg).toInt = (M.1 15 (M.1 0 20).toNatClampNeg).toInt := by rw [e20]; rfl
    have z26 : (m19.1 16 (M.1 0 20).toNatClampNeg).toInt = (M.1 16 (M.1 0 20).toNatClampNeg).toInt := by rw [e20]; rfl
    have z27 : (hrV m19).toInt = (hrV M).toInt := by rw [e20]; rfl
    refine wpR_ro (w_ChipMapModel_here i21) (fun u28 h31 => ?_)
    obtain ⟨h29, h30⟩ := h31
    refine wpR_ix (vI k18) ?_
    refine wpR_ltv (fun m32 e33 => ?_)
    have i34 : IY G K m32 := by rw [e33]; exact i21.s15 _ (by omega)
    have z35 : (m32.1 0 12).toInt = (m19.1 0 12).toInt := by rw [e33]; rfl
    have z36 : (m32.1 0 6).toInt = (m19.1 0 6).toInt := by rw [e33]; rfl
    have z37 : (m32.1 0 20).toInt = (m19.1 0 20).toInt := by rw [e33]; rfl
    have z38 : (m32.1 15 (M.1 0 20).toNatClampNeg).toInt = ((u28 - 65) : Int32).toInt := by rw [e33]; exact congrArg Int32.toInt updS
    have z39 : (m32.1 16 (M.1 0 20).toNatClampNeg).toInt = (m19.1 16 (M.1 0 20).toNatClampNeg).toInt := by rw [e33]; rfl
    have z40 : (hrV m32).toInt = (hrV m19).toInt := by rw [e33]; rfl
    refine wpR_cl (w_ChipMapModel_takeName i34) (fun m45 u41 h46 => ?_)
    obtain ⟨i47, h42, h43, h44⟩ := h46
    have z48 : (m45.1 0 12).toInt = (m32.1 0 12).toInt := congrArg Int32.toInt h44.s12
    have z49 : (m45.1 0 6).toInt = (m32.1 0 6).toInt := congrArg Int32.toInt h44.s6
    have z50 : (m45.1 0 20).toInt = (m32.1 0 20).toInt := congrArg Int32.toInt h44.s20
    have z51 : (m45.1 15 (M.1 0 20).toNatClampNeg).toInt = (m32.1 15 (M.1 0 20).toNatClampNeg).toInt := by rw [h44.o 15 (by decide)]
    have z52 : (m45.1 16 (M.1 0 20).toNatClampNeg).toInt = (m32.1 16 (M.1 0 20).toNatClampNeg).toInt := by rw [h44.o 16 (by decide)]
    refine wpR_eq (x := u41.toInt) (y := 0) rfl (rfl : (0 : Int32).toInt = 0) (fun c53 => ?_) (fun c53 => ?_)
    · skip
      have z54 : (0 : Int32).toInt = 0 := rfl
      exact wpR_some ⟨i47, (by omega), (by omega)⟩
    · skip
      refine wpR_ro (w_ChipMapModel_here i47) (fun u55 h58 => ?_)
      obtain ⟨h56, h57⟩ := h58
      refine wpR_ix (vI k18) ?_
      refine wpR_ltv (fun m59 e60 => ?_)
      have i61 : IY G K m59 := by rw [e60]; exact i47.s14 _
      have z62 : (m59.1 0 12).toInt = (m45.1 0 12).toInt := by rw [e60]; rfl
      have z63 : (m59.1 0 6).toInt = (m45.1 0 6).toInt := by rw [e60]; rfl
      have z64 : (m59.1 0 20).toInt = (m45.1 0 20).toInt := by rw [e60]; rfl
      have z65 : (m59.1 15 (M.1 0 20).toNatClampNeg).toInt = (m45.1 15 (M.1 0 20).toNatClampNeg).toInt := by rw [e60]; rfl
      have z66 : (m59.1 16 (M.1 0 20).toNatClampNeg).toInt = (m45.1 16 (M.1 0 20).toNatClampNeg).toInt := by rw [e60]; rfl
      have z67 : (hrV m59).toInt = (hrV m45).toInt := by rw [e60]; rfl
      refine wpR_ro (w_ChipMapModel_here i61) (fun u68 h71 => ?_)
      obtain ⟨h69, h70⟩ := h71
      refine wpR_eq (x := u68.toInt) (y := 60) rfl (rfl : (60 : Int32).toInt = 60) (fun c72 => ?_) (fun c72 => ?_)
      · skip
        unfold q_ChipMapModel_readRule_100
        have z76 := i61.atR
        have z77 : ((m59.1 0 3) + 1 : Int32).toInt = (m59.1 0 3 : Int32).toInt + 1 := iadd rfl (rfl : (1 : Int32).toInt = 1) (by omega) (by omega)
        refine wpR_ltv (fun m73 e74 => ?_)
        have i75 : IY G K m73 := by rw [e74]; exact i61.s0_3 (by omega)
        have z78 : (m73.1 0 12).toInt = (m59.1 0 12).toInt := by rw [e74]; rfl
        have z79 : (m73.1 0 6).toInt = (m59.1 0 6).toInt := by rw [e74]; rfl
        have z80 : (m73.1 0 20).toInt = (m59.1 0 20).toInt := by rw [e74]; rfl
        have z81 : (m73.1 15 (M.1 0 20).toNatClampNeg).toInt = (m59.1 15 (M.1 0 20).toNatClampNeg).toInt := by rw [e74]; rfl
        have z82 : (m73.1 16 (M.1 0 20).toNatClampNeg).toInt = (m59.1 16 (M.1 0 20).toNatClampNeg).toInt := by rw [e74]; rfl
        refine wpR_ix (vI k18) ?_
        refine wpR_ltv (fun m83 e84 => ?_)
        have i85 : IY G K m83 := by rw [e84]; exact i75.s19 _
        have z86 : (m83.1 0 12).toInt = (m73.1 0 12).toInt := by rw [e84]; rfl
        have z87 : (m83.1 0 6).toInt = (m73.1 0 6).toInt := by rw [e84]; rfl
        have z88 : (m83.1 0 20).toInt = (m73.1 0 20).toInt := by rw [e84]; rfl
        have z89 : (m83.1 15 (M.1 0 20).toNatClampNeg).toInt = (m73.1 15 (M.1 0 20).toNatClampNeg).toInt := by rw [e84]; rfl
        have z90 : (m83.1 16 (M.1 0 20).toNatClampNeg).toInt = (m73.1 16 (M.1 0 20).toNatClampNeg).toInt := by rw [e84]; rfl
        have z91 : (hrV m83).toInt = (hrV m73).toInt := by rw [e84]; rfl
        refine wpR_ro (w_ChipMapModel_here i85) (fun u92 h95 => ?_)
        obtain ⟨h93, h94⟩ := h95
        refine wpR_ix (vI k18) ?_
        refine wpR_ltv (fun m96 e97 => ?_)
        have i98 : IY G K m96 := by rw [e97]; exact i85.s16 _ (by omega)
        have z99 : (m96.1 0 12).toInt = (m83.1 0 12).toInt := by rw [e97]; rfl
        have z100 : (m96.1 0 6).toInt = (m83.1 0 6).toInt := by rw [e97]; rfl
        have z101 : (m96.1 0 20).toInt = (m83.1 0 20).toInt := by rw [e97]; rfl
        have z102 : (m96.1 15 (M.1 0 20).toNatClampNeg).toInt = (m83.1 15 (M.1 0 20).toNatClampNeg).toInt := by rw [e97]; rfl
        have z103 : (m96.1 16 (M.1 0 20).toNatClampNeg).toInt = ((u92 - 65) : Int32).toInt := by rw [e97]; exact congrArg Int32.toInt updS
        have z104 : (hrV m96).toInt = (hrV m83).toInt := by rw [e97]; rfl
        refine wpR_cl (w_ChipMapModel_takeName i98) (fun m109 u105 h110 => ?_)
        obtain ⟨i111, h106, h107, h108⟩ := h110
        have z112 : (m109.1 0 12).toInt = (m96.1 0 12).toInt := congrArg Int32.toInt h108.s12
        have z113 : (m109.1 0 6).toInt = (m96.1 0 6).toInt := congrArg Int32.toInt h108.s6
        have z114 : (m109.1 0 20).toInt = (m96.1 0 20).toInt := congrArg Int32.toInt h108.s20
        have z115 : (m109.1 15 (M.1 0 20).toNatClampNeg).toInt = (m96.1 15 (M.1 0 20).toNatClampNeg).toInt := by rw [h108.o 15 (by decide)]
        have z116 : (m109.1 16 (M.1 0 20).toNatClampNeg).toInt = (m96.1 16 (M.1 0 20).toNatClampNeg).toInt := by rw [h108.o 16 (by decide)]
        refine wpR_eq (x := u105.toInt) (y := 0) rfl (rfl : (0 : Int32).toInt = 0) (fun c117 => ?_) (fun c117 => ?_)
        · skip
          have z118 : (0 : Int32).toInt = 0 := rfl
          exact wpR_some ⟨i111, (by omega), (by omega)⟩
        · skip
          refine wpR_ix (vI k18) ?_
          refine wpR_ltv (fun m119 e120 => ?_)
          have i121 : IY G K m119 := by rw [e120]; exact i111.s17 _
          have z122 : (m119.1 0 12).toInt = (m109.1 0 12).toInt := by rw [e120]; rfl
          have z123 : (m119.1 0 6).toInt = (m109.1 0 6).toInt := by rw [e120]; rfl
          have z124 : (m119.1 0 20).toInt = (m109.1 0 20).toInt := by rw [e120]; rfl
          have z125 : (m119.1 15 (M.1 0 20).toNatClampNeg).toInt = (m109.1 15 (M.1 0 20).toNatClampNeg).toInt := by rw [e120]; rfl
          have z126 : (m119.1 16 (M.1 0 20).toNatClampNeg).toInt = (m109.1 16 (M.1 0 20).toNatClampNeg).toInt := by rw [e120]; rfl
          have z127 : (hrV m119).toInt = (hrV m109).toInt := by rw [e120]; rfl
          refine wpR_ix (vI k18) ?_
          refine wpR_eq (x := (m119.1 14 ((M.1 0 20) : Int32).toNatClampNeg : Int32).toInt) (y := 38) rfl (rfl : (38 : Int32).toInt = 38) (fun c128 => ?_) (fun c128 => ?_)
          · skip
            have z129 : (61 : Int32).toInt = 61 := rfl
            refine wpR_cl (w_ChipMapModel_take i121 61 (by omega)) (fun m133 u130 h134 => ?_)
            obtain ⟨i135, h131, h132⟩ := h134
            have z136 : (m133.1 0 12).toInt = (m119.1 0 12).toInt := congrArg Int32.toInt h132.s12
            have z137 : (m133.1 0 6).toInt = (m119.1 0 6).toInt := congrArg Int32.toInt h132.s6
            have z138 : (m133.1 0 20).toInt = (m119.1 0 20).toInt := congrArg Int32.toInt h132.s20
            have z139 : (m133.1 15 (M.1 0 20).toNatClampNeg).toInt = (m119.1 15 (M.1 0 20).toNatClampNeg).toInt := by rw [h132.o 15 (by decide)]
            have z140 : (m133.1 16 (M.1 0 20).toNatClampNeg).toInt = (m119.1 16 (M.1 0 20).toNatClampNeg).toInt := by rw [h132.o 16 (by decide)]
            refine wpR_eq (x := u130.toInt) (y := 0) rfl (rfl : (0 : Int32).toInt = 0) (fun c141 => ?_) (fun c141 => ?_)
            · skip
              have z142 : (0 : Int32).toInt = 0 := rfl
              exact wpR_some ⟨i135, (by omega), (by omega)⟩
            · skip
              have z143 : (4 : Int32).toInt = 4 := rfl
              refine wpR_cl (w_ChipMapModel_takeHex i135 1 4 (by omega)) (fun m147 u144 h148 => ?_)
              obtain ⟨i149, h145, h146⟩ := h148
              have z150 : (m147.1 0 12).toInt = (m133.1 0 12).toInt := congrArg Int32.toInt h146.s12
              have z151 : (m147.1 0 6).toInt = (m133.1 0 6).toInt := congrArg Int32.toInt h146.s6
              have z152 : (m147.1 0 20).toInt = (m133.1 0 20).toInt := congrArg Int32.toInt h146.s20
              have z153 : (m147.1 15 (M.1 0 20).toNatClampNeg).toInt = (m133.1 15 (M.1 0 20).toNatClampNeg).toInt := by rw [h146.o 15 (by decide)]
              have z154 : (m147.1 16 (M.1 0 20).toNatClampNeg).toInt = (m133.1 16 (M.1 0 20).toNatClampNeg).toInt := by rw [h146.o 16 (by decide)]
              refine wpR_eq (x := u144.toInt) (y := 0) rfl (rfl : (0 : Int32).toInt = 0) (fun c155 => ?_) (fun c155 => ?_)
              · skip
                have z156 : (0 : Int32).toInt = 0 := rfl
                exact wpR_some ⟨i149, (by omega), (by omega)⟩
              · skip
                refine wpR_ix (vI k18) ?_
                refine wpR_ltv (fun m157 e158 => ?_)
                have i159 : IY G K m157 := by rw [e158]; exact i149.s17 _
                have z160 : (m157.1 0 12).toInt = (m147.1 0 12).toInt := by rw [e158]; rfl
                have z161 : (m157.1 0 6).toInt = (m147.1 0 6).toInt := by rw [e158]; rfl
                have z162 : (m157.1 0 20).toInt = (m147.1 0 20).toInt := by rw [e158]; rfl
                have z163 : (m157.1 15 (M.1 0 20).toNatClampNeg).toInt = (m147.1 15 (M.1 0 20).toNatClampNeg).toInt := by rw [e158]; rfl
                have z164 : (m157.1 16 (M.1 0 20).toNatClampNeg).toInt = (m147.1 16 (M.1 0 20).toNatClampNeg).toInt := by rw [e158]; rfl
                have z165 : (hrV m157).toInt = (hrV m147).toInt := by rw [e158]; rfl
                unfold q_ChipMapModel_readRule_190
                have z169 := i159.ru
                have z170 : (u28 - 65 : Int32).toInt = u28.toInt - 65 := isub rfl (rfl : (65 : Int32).toInt = 65) (by omega) (by omega)
                have z171 : (u92 - 65 : Int32).toInt = u92.toInt - 65 := isub rfl (rfl : (65 : Int32).toInt = 65) (by omega) (by omega)
                have z172 : ((m157.1 0 20) + 1 : Int32).toInt = (m157.1 0 20 : Int32).toInt + 1 := iadd rfl (rfl : (1 : Int32).toInt = 1) (by omega) (by omega)
                refine wpR_ltv (fun m166 e167 => ?_)
                have i168 : IY G K m166 := by rw [e167]; exact i159.s0_20 (v := (M.1 0 20)) (by omega) (by omega) (by omega) (by omega)
                have z173 : (m166.1 0 12).toInt = (m157.1 0 12).toInt := by rw [e167]; rfl
                have z174 : (m166.1 0 6).toInt = (m157.1 0 6).toInt := by rw [e167]; rfl
                have z175 : (m166.1 0 20).toInt = (((m157.1 0 20) + 1) : Int32).toInt := by rw [e167]; rfl
                have z176 : (m166.1 15 (M.1 0 20).toNatClampNeg).toInt = (m157.1 15 (M.1 0 20).toNatClampNeg).toInt := by rw [e167]; rfl
                have z177 : (m166.1 16 (M.1 0 20).toNatClampNeg).toInt = (m157.1 16 (M.1 0 20).toNatClampNeg).toInt := by rw [e167]; rfl
                have z178 : (hrV m166).toInt = (hrV m157).toInt := by rw [e167]; rfl
                have z179 : (59 : Int32).toInt = 59 := rfl
                refine wpR_cl (w_ChipMapModel_take i168 59 (by omega)) (fun m183 u180 h184 => ?_)
                obtain ⟨i185, h181, h182⟩ := h184
                have z186 : (m183.1 0 12).toInt = (m166.1 0 12).toInt := congrArg Int32.toInt h182.s12
                have z187 : (m183.1 0 6).toInt = (m166.1 0 6).toInt := congrArg Int32.toInt h182.s6
                have z188 : (m183.1 0 20).toInt = (m166.1 0 20).toInt := congrArg Int32.toInt h182.s20
                have z189 : (m183.1 15 (M.1 0 20).toNatClampNeg).toInt = (m166.1 15 (M.1 0 20).toNatClampNeg).toInt := by rw [h182.o 15 (by decide)]
                have z190 : (m183.1 16 (M.1 0 20).toNatClampNeg).toInt = (m166.1 16 (M.1 0 20).toNatClampNeg).toInt := by rw [h182.o 16 (by decide)]
                refine wpR_bz (b01 (by omega)) ?_
                exact wpR_some ⟨i185, (by omega), (by omega)⟩
          · skip
            unfold q_ChipMapModel_readRule_190
            have z194 := i121.ru
            have z195 : (u28 - 65 : Int32).toInt = u28.toInt - 65 := isub rfl (rfl : (65 : Int32).toInt = 65) (by omega) (by omega)
            have z196 : (u92 - 65 : Int32).toInt = u92.toInt - 65 := isub rfl (rfl : (65 : Int32).toInt = 65) (by omega) (by omega)
            have z197 : ((m119.1 0 20) + 1 : Int32).toInt = (m119.1 0 20 : Int32).toInt + 1 := iadd rfl (rfl : (1 : Int32).toInt = 1) (by omega) (by omega)
            refine wpR_ltv (fun m191 e192 => ?_)
            have i193 : IY G K m191 := by rw [e192]; exact i121.s0_20 (v := (M.1 0 20)) (by omega) (by omega) (by omega) (by omega)
            have z198 : (m191.1 0 12).toInt = (m119.1 0 12).toInt := by rw [e192]; rfl
            have z199 : (m191.1 0 6).toInt = (m119.1 0 6).toInt := by rw [e192]; rfl
            have z200 : (m191.1 0 20).toInt = (((m119.1 0 20) + 1) : Int32).toInt := by rw [e192]; rfl
            have z201 : (m191.1 15 (M.1 0 20).toNatClampNeg).toInt = (m119.1 15 (M.1 0 20).toNatClampNeg).toInt := by rw [e192]; rfl
            have z202 : (m191.1 16 (M.1 0 20).toNatClampNeg).toInt = (m119.1 16 (M.1 0 20).toNatClampNeg).toInt := by rw [e192]; rfl
            have z203 : (hrV m191).toInt = (hrV m119).toInt := by rw [e192]; rfl
            have z204 : (59 : Int32).toInt = 59 := rfl
            refine wpR_cl (w_ChipMapModel_take i193 59 (by omega)) (fun m208 u205 h209 => ?_)
            obtain ⟨i210, h206, h207⟩ := h209
            have z211 : (m208.1 0 12).toInt = (m191.1 0 12).toInt := congrArg Int32.toInt h207.s12
            have z212 : (m208.1 0 6).toInt = (m191.1 0 6).toInt := congrArg Int32.toInt h207.s6
            have z213 : (m208.1 0 20).toInt = (m191.1 0 20).toInt := congrArg Int32.toInt h207.s20
            have z214 : (m208.1 15 (M.1 0 20).toNatClampNeg).toInt = (m191.1 15 (M.1 0 20).toNatClampNeg).toInt := by rw [h207.o 15 (by decide)]
            have z215 : (m208.1 16 (M.1 0 20).toNatClampNeg).toInt = (m191.1 16 (M.1 0 20).toNatClampNeg).toInt := by rw [h207.o 16 (by decide)]
            refine wpR_bz (b01 (by omega)) ?_
            exact wpR_some ⟨i210, (by omega), (by omega)⟩
      · skip
        refine wpR_ro (w_ChipMapModel_here i61) (fun u216 h219 => ?_)
        obtain ⟨h217, h218⟩ := h219
        refine wpR_eq (x := u216.toInt) (y := 38) rfl (rfl : (38 : Int32).toInt = 38) (fun c220 => ?_) (fun c220 => ?_)
        · skip
          unfold q_ChipMapModel_readRule_100
          have z224 := i61.atR
          have z225 : ((m59.1 0 3) + 1 : Int32).toInt = (m59.1 0 3 : Int32).toInt + 1 := iadd rfl (rfl : (1 : Int32).toInt = 1) (by omega) (by omega)
          refine wpR_ltv (fun m221 e222 => ?_)
          have i223 : IY G K m221 := by rw [e222]; exact i61.s0_3 (by omega)
          have z226 : (m221.1 0 12).toInt = (m59.1 0 12).toInt := by rw [e222]; rfl
          have z227 : (m221.1 0 6).toInt = (m59.1 0 6).toInt := by rw [e222]; rfl
          have z228 : (m221.1 0 20).toInt = (m59.1 0 20).toInt := by rw [e222]; rfl
          have z229 : (m221.1 15 (M.1 0 20).toNatClampNeg).toInt = (m59.1 15 (M.1 0 20).toNatClampNeg).toInt := by rw [e222]; rfl
          have z230 : (m221.1 16 (M.1 0 20).toNatClampNeg).toInt = (m59.1 16 (M.1 0 20).toNatClampNeg).toInt := by rw [e222]; rfl
          refine wpR_ix (vI k18) ?_
          refine wpR_ltv (fun m231 e232 => ?_)
          have i233 : IY G K m231 := by rw [e232]; exact i223.s19 _
          have z234 : (m231.1 0 12).toInt = (m221.1 0 12).toInt := by rw [e232]; rfl
          have z235 : (m231.1 0 6).toInt = (m221.1 0 6).toInt := by rw [e232]; rfl
          have z236 : (m231.1 0 20).toInt = (m221.1 0 20).toInt := by rw [e232]; rfl
          have z237 : (m231.1 15 (M.1 0 20).toNatClampNeg).toInt = (m221.1 15 (M.1 0 20).toNatClampNeg).toInt := by rw [e232]; rfl
          have z238 : (m231.1 16 (M.1 0 20).toNatClampNeg).toInt = (m221.1 16 (M.1 0 20).toNatClampNeg).toInt := by rw [e232]; rfl
          have z239 : (hrV m231).toInt = (hrV m221).toInt := by rw [e232]; rfl
          refine wpR_ro (w_ChipMapModel_here i233) (fun u240 h243 => ?_)
          obtain ⟨h241, h242⟩ := h243
          refine wpR_ix (vI k18) ?_
          refine wpR_ltv (fun m244 e245 => ?_)
          have i246 : IY G K m244 := by rw [e245]; exact i233.s16 _ (by omega)
          have z247 : (m244.1 0 12).toInt = (m231.1 0 12).toInt := by rw [e245]; rfl
          have z248 : (m244.1 0 6).toInt = (m231.1 0 6).toInt := by rw [e245]; rfl
          have z249 : (m244.1 0 20).toInt = (m231.1 0 20).toInt := by rw [e245]; rfl
          have z250 : (m244.1 15 (M.1 0 20).toNatClampNeg).toInt = (m231.1 15 (M.1 0 20).toNatClampNeg).toInt := by rw [e245]; rfl
          have z251 : (m244.1 16 (M.1 0 20).toNatClampNeg).toInt = ((u240 - 65) : Int32).toInt := by rw [e245]; exact congrArg Int32.toInt updS
          have z252 : (hrV m244).toInt = (hrV m231).toInt := by rw [e245]; rfl
          refine wpR_cl (w_ChipMapModel_takeName i246) (fun m257 u253 h258 => ?_)
          obtain ⟨i259, h254, h255, h256⟩ := h258
          have z260 : (m257.1 0 12).toInt = (m244.1 0 12).toInt := congrArg Int32.toInt h256.s12
          have z261 : (m257.1 0 6).toInt = (m244.1 0 6).toInt := congrArg Int32.toInt h256.s6
          have z262 : (m257.1 0 20).toInt = (m244.1 0 20).toInt := congrArg Int32.toInt h256.s20
          have z263 : (m257.1 15 (M.1 0 20).toNatClampNeg).toInt = (m244.1 15 (M.1 0 20).toNatClampNeg).toInt := by rw [h256.o 15 (by decide)]
          have z264 : (m257.1 16 (M.1 0 20).toNatClampNeg).toInt = (m244.1 16 (M.1 0 20).toNatClampNeg).toInt := by rw [h256.o 16 (by decide)]
          refine wpR_eq (x := u253.toInt) (y := 0) rfl (rfl : (0 : Int32).toInt = 0) (fun c265 => ?_) (fun c265 => ?_)
          · skip
            have z266 : (0 : Int32).toInt = 0 := rfl
            exact wpR_some ⟨i259, (by omega), (by omega)⟩
          · skip
            refine wpR_ix (vI k18) ?_
            refine wpR_ltv (fun m267 e268 => ?_)
            have i269 : IY G K m267 := by rw [e268]; exact i259.s17 _
            have z270 : (m267.1 0 12).toInt = (m257.1 0 12).toInt := by rw [e268]; rfl
            have z271 : (m267.1 0 6).toInt = (m257.1 0 6).toInt := by rw [e268]; rfl
            have z272 : (m267.1 0 20).toInt = (m257.1 0 20).toInt := by rw [e268]; rfl
            have z273 : (m267.1 15 (M.1 0 20).toNatClampNeg).toInt = (m257.1 15 (M.1 0 20).toNatClampNeg).toInt := by rw [e268]; rfl
            have z274 : (m267.1 16 (M.1 0 20).toNatClampNeg).toInt = (m257.1 16 (M.1 0 20).toNatClampNeg).toInt := by rw [e268]; rfl
            have z275 : (hrV m267).toInt = (hrV m257).toInt := by rw [e268]; rfl
            refine wpR_ix (vI k18) ?_
            refine wpR_eq (x := (m267.1 14 ((M.1 0 20) : Int32).toNatClampNeg : Int32).toInt) (y := 38) rfl (rfl : (38 : Int32).toInt = 38) (fun c276 => ?_) (fun c276 => ?_)
            · skip
              have z277 : (61 : Int32).toInt = 61 := rfl
              refine wpR_cl (w_ChipMapModel_take i269 61 (by omega)) (fun m281 u278 h282 => ?_)
              obtain ⟨i283, h279, h280⟩ := h282
              have z284 : (m281.1 0 12).toInt = (m267.1 0 12).toInt := congrArg Int32.toInt h280.s12
              have z285 : (m281.1 0 6).toInt = (m267.1 0 6).toInt := congrArg Int32.toInt h280.s6
              have z286 : (m281.1 0 20).toInt = (m267.1 0 20).toInt := congrArg Int32.toInt h280.s20
              have z287 : (m281.1 15 (M.1 0 20).toNatClampNeg).toInt = (m267.1 15 (M.1 0 20).toNatClampNeg).toInt := by rw [h280.o 15 (by decide)]
              have z288 : (m281.1 16 (M.1 0 20).toNatClampNeg).toInt = (m267.1 16 (M.1 0 20).toNatClampNeg).toInt := by rw [h280.o 16 (by decide)]
              refine wpR_eq (x := u278.toInt) (y := 0) rfl (rfl : (0 : Int32).toInt = 0) (fun c289 => ?_) (fun c289 => ?_)
              · skip
                have z290 : (0 : Int32).toInt = 0 := rfl
                exact wpR_some ⟨i283, (by omega), (by omega)⟩
              · skip
                have z291 : (4 : Int32).toInt = 4 := rfl
                refine wpR_cl (w_ChipMapModel_takeHex i283 1 4 (by omega)) (fun m295 u292 h296 => ?_)
                obtain ⟨i297, h293, h294⟩ := h296
                have z298 : (m295.1 0 12).toInt = (m281.1 0 12).toInt := congrArg Int32.toInt h294.s12
                have z299 : (m295.1 0 6).toInt = (m281.1 0 6).toInt := congrArg Int32.toInt h294.s6
                have z300 : (m295.1 0 20).toInt = (m281.1 0 20).toInt := congrArg Int32.toInt h294.s20
                have z301 : (m295.1 15 (M.1 0 20).toNatClampNeg).toInt = (m281.1 15 (M.1 0 20).toNatClampNeg).toInt := by rw [h294.o 15 (by decide)]
                have z302 : (m295.1 16 (M.1 0 20).toNatClampNeg).toInt = (m281.1 16 (M.1 0 20).toNatClampNeg).toInt := by rw [h294.o 16 (by decide)]
                refine wpR_eq (x := u292.toInt) (y := 0) rfl (rfl : (0 : Int32).toInt = 0) (fun c303 => ?_) (fun c303 => ?_)
                · skip
                  have z304 : (0 : Int32).toInt = 0 := rfl
                  exact wpR_some ⟨i297, (by omega), (by omega)⟩
                · skip
                  refine wpR_ix (vI k18) ?_
                  refine wpR_ltv (fun m305 e306 => ?_)
                  have i307 : IY G K m305 := by rw [e306]; exact i297.s17 _
                  have z308 : (m305.1 0 12).toInt = (m295.1 0 12).toInt := by rw [e306]; rfl
                  have z309 : (m305.1 0 6).toInt = (m295.1 0 6).toInt := by rw [e306]; rfl
                  have z310 : (m305.1 0 20).toInt = (m295.1 0 20).toInt := by rw [e306]; rfl
                  have z311 : (m305.1 15 (M.1 0 20).toNatClampNeg).toInt = (m295.1 15 (M.1 0 20).toNatClampNeg).toInt := by rw [e306]; rfl
                  have z312 : (m305.1 16 (M.1 0 20).toNatClampNeg).toInt = (m295.1 16 (M.1 0 20).toNatClampNeg).toInt := by rw [e306]; rfl
                  have z313 : (hrV m305).toInt = (hrV m295).toInt := by rw [e306]; rfl
                  unfold q_ChipMapModel_readRule_190
                  have z317 := i307.ru
                  have z318 : (u28 - 65 : Int32).toInt = u28.toInt - 65 := isub rfl (rfl : (65 : Int32).toInt = 65) (by omega) (by omega)
                  have z319 : (u240 - 65 : Int32).toInt = u240.toInt - 65 := isub rfl (rfl : (65 : Int32).toInt = 65) (by omega) (by omega)
                  have z320 : ((m305.1 0 20) + 1 : Int32).toInt = (m305.1 0 20 : Int32).toInt + 1 := iadd rfl (rfl : (1 : Int32).toInt = 1) (by omega) (by omega)
                  refine wpR_ltv (fun m314 e315 => ?_)
                  have i316 : IY G K m314 := by rw [e315]; exact i307.s0_20 (v := (M.1 0 20)) (by omega) (by omega) (by omega) (by omega)
                  have z321 : (m314.1 0 12).toInt = (m305.1 0 12).toInt := by rw [e315]; rfl
                  have z322 : (m314.1 0 6).toInt = (m305.1 0 6).toInt := by rw [e315]; rfl
                  have z323 : (m314.1 0 20).toInt = (((m305.1 0 20) + 1) : Int32).toInt := by rw [e315]; rfl
                  have z324 : (m314.1 15 (M.1 0 20).toNatClampNeg).toInt = (m305.1 15 (M.1 0 20).toNatClampNeg).toInt := by rw [e315]; rfl
                  have z325 : (m314.1 16 (M.1 0 20).toNatClampNeg).toInt = (m305.1 16 (M.1 0 20).toNatClampNeg).toInt := by rw [e315]; rfl
                  have z326 : (hrV m314).toInt = (hrV m305).toInt := by rw [e315]; rfl
                  have z327 : (59 : Int32).toInt = 59 := rfl
                  refine wpR_cl (w_ChipMapModel_take i316 59 (by omega)) (fun m331 u328 h332 => ?_)
                  obtain ⟨i333, h329, h330⟩ := h332
                  have z334 : (m331.1 0 12).toInt = (m314.1 0 12).toInt := congrArg Int32.toInt h330.s12
                  have z335 : (m331.1 0 6).toInt = (m314.1 0 6).toInt := congrArg Int32.toInt h330.s6
                  have z336 : (m331.1 0 20).toInt = (m314.1 0 20).toInt := congrArg Int32.toInt h330.s20
                  have z337 : (m331.1 15 (M.1 0 20).toNatClampNeg).toInt = (m314.1 15 (M.1 0 20).toNatClampNeg).toInt := by rw [h330.o 15 (by decide)]
                  have z338 : (m331.1 16 (M.1 0 20).toNatClampNeg).toInt = (m314.1 16 (M.1 0 20).toNatClampNeg).toInt := by rw [h330.o 16 (by decide)]
                  refine wpR_bz (b01 (by omega)) ?_
                  exact wpR_some ⟨i333, (by omega), (by omega)⟩
            · skip
              unfold q_ChipMapModel_readRule_190
              have z342 := i269.ru
              have z343 : (u28 - 65 : Int32).toInt = u28.toInt - 65 := isub rfl (rfl : (65 : Int32).toInt = 65) (by omega) (by omega)
              have z344 : (u240 - 65 : Int32).toInt = u240.toInt - 65 := isub rfl (rfl : (65 : Int32).toInt = 65) (by omega) (by omega)
              have z345 : ((m267.1 0 20) + 1 : Int32).toInt = (m267.1 0 20 : Int32).toInt + 1 := iadd rfl (rfl : (1 : Int32).toInt = 1) (by omega) (by omega)
              refine wpR_ltv (fun m339 e340 => ?_)
              have i341 : IY G K m339 := by rw [e340]; exact i269.s0_20 (v := (M.1 0 20)) (by omega) (by omega) (by omega) (by omega)
              have z346 : (m339.1 0 12).toInt = (m267.1 0 12).toInt := by rw [e340]; rfl
              have z347 : (m339.1 0 6).toInt = (m267.1 0 6).toInt := by rw [e340]; rfl
              have z348 : (m339.1 0 20).toInt = (((m267.1 0 20) + 1) : Int32).toInt := by rw [e340]; rfl
              have z349 : (m339.1 15 (M.1 0 20).toNatClampNeg).toInt = (m267.1 15 (M.1 0 20).toNatClampNeg).toInt := by rw [e340]; rfl
              have z350 : (m339.1 16 (M.1 0 20).toNatClampNeg).toInt = (m267.1 16 (M.1 0 20).toNatClampNeg).toInt := by rw [e340]; rfl
              have z351 : (hrV m339).toInt = (hrV m267).toInt := by rw [e340]; rfl
              have z352 : (59 : Int32).toInt = 59 := rfl
              refine wpR_cl (w_ChipMapModel_take i341 59 (by omega)) (fun m356 u353 h357 => ?_)
              obtain ⟨i358, h354, h355⟩ := h357
              have z359 : (m356.1 0 12).toInt = (m339.1 0 12).toInt := congrArg Int32.toInt h355.s12
              have z360 : (m356.1 0 6).toInt = (m339.1 0 6).toInt := congrArg Int32.toInt h355.s6
              have z361 : (m356.1 0 20).toInt = (m339.1 0 20).toInt := congrArg Int32.toInt h355.s20
              have z362 : (m356.1 15 (M.1 0 20).toNatClampNeg).toInt = (m339.1 15 (M.1 0 20).toNatClampNeg).toInt := by rw [h355.o 15 (by decide)]
              have z363 : (m356.1 16 (M.1 0 20).toNatClampNeg).toInt = (m339.1 16 (M.1 0 20).toNatClampNeg).toInt := by rw [h355.o 16 (by decide)]
              refine wpR_bz (b01 (by omega)) ?_
              exact wpR_some ⟨i358, (by omega), (by omega)⟩
        · skip
          refine wpR_ro (w_ChipMapModel_here i61) (fun u364 h367 => ?_)
          obtain ⟨h365, h366⟩ := h367
          refine wpR_eq (x := u364.toInt) (y := 33) rfl (rfl : (33 : Int32).toInt = 33) (fun c368 => ?_) (fun c368 => ?_)
          · skip
            unfold q_ChipMapModel_readRule_100
            have z372 := i61.atR
            have z373 : ((m59.1 0 3) + 1 : Int32).toInt = (m59.1 0 3 : Int32).toInt + 1 := iadd rfl (rfl : (1 : Int32).toInt = 1) (by omega) (by omega)
            refine wpR_ltv (fun m369 e370 => ?_)
            have i371 : IY G K m369 := by rw [e370]; exact i61.s0_3 (by omega)
            have z374 : (m369.1 0 12).toInt = (m59.1 0 12).toInt := by rw [e370]; rfl
            have z375 : (m369.1 0 6).toInt = (m59.1 0 6).toInt := by rw [e370]; rfl
            have z376 : (m369.1 0 20).toInt = (m59.1 0 20).toInt := by rw [e370]; rfl
            have z377 : (m369.1 15 (M.1 0 20).toNatClampNeg).toInt = (m59.1 15 (M.1 0 20).toNatClampNeg).toInt := by rw [e370]; rfl
            have z378 : (m369.1 16 (M.1 0 20).toNatClampNeg).toInt = (m59.1 16 (M.1 0 20).toNatClampNeg).toInt := by rw [e370]; rfl
            refine wpR_ix (vI k18) ?_
            refine wpR_ltv (fun m379 e380 => ?_)
            have i381 : IY G K m379 := by rw [e380]; exact i371.s19 _
            have z382 : (m379.1 0 12).toInt = (m369.1 0 12).toInt := by rw [e380]; rfl
            have z383 : (m379.1 0 6).toInt = (m369.1 0 6).toInt := by rw [e380]; rfl
            have z384 : (m379.1 0 20).toInt = (m369.1 0 20).toInt := by rw [e380]; rfl
            have z385 : (m379.1 15 (M.1 0 20).toNatClampNeg).toInt = (m369.1 15 (M.1 0 20).toNatClampNeg).toInt := by rw [e380]; rfl
            have z386 : (m379.1 16 (M.1 0 20).toNatClampNeg).toInt = (m369.1 16 (M.1 0 20).toNatClampNeg).toInt := by rw [e380]; rfl
            have z387 : (hrV m379).toInt = (hrV m369).toInt := by rw [e380]; rfl
            refine wpR_ro (w_ChipMapModel_here i381) (fun u388 h391 => ?_)
            obtain ⟨h389, h390⟩ := h391
            refine wpR_ix (vI k18) ?_
            refine wpR_ltv (fun m392 e393 => ?_)
            have i394 : IY G K m392 := by rw [e393]; exact i381.s16 _ (by omega)
            have z395 : (m392.1 0 12).toInt = (m379.1 0 12).toInt := by rw [e393]; rfl
            have z396 : (m392.1 0 6).toInt = (m379.1 0 6).toInt := by rw [e393]; rfl
            have z397 : (m392.1 0 20).toInt = (m379.1 0 20).toInt := by rw [e393]; rfl
            have z398 : (m392.1 15 (M.1 0 20).toNatClampNeg).toInt = (m379.1 15 (M.1 0 20).toNatClampNeg).toInt := by rw [e393]; rfl
            have z399 : (m392.1 16 (M.1 0 20).toNatClampNeg).toInt = ((u388 - 65) : Int32).toInt := by rw [e393]; exact congrArg Int32.toInt updS
            have z400 : (hrV m392).toInt = (hrV m379).toInt := by rw [e393]; rfl
            refine wpR_cl (w_ChipMapModel_takeName i394) (fun m405 u401 h406 => ?_)
            obtain ⟨i407, h402, h403, h404⟩ := h406
            have z408 : (m405.1 0 12).toInt = (m392.1 0 12).toInt := congrArg Int32.toInt h404.s12
            have z409 : (m405.1 0 6).toInt = (m392.1 0 6).toInt := congrArg Int32.toInt h404.s6
            have z410 : (m405.1 0 20).toInt = (m392.1 0 20).toInt := congrArg Int32.toInt h404.s20
            have z411 : (m405.1 15 (M.1 0 20).toNatClampNeg).toInt = (m392.1 15 (M.1 0 20).toNatClampNeg).toInt := by rw [h404.o 15 (by decide)]
            have z412 : (m405.1 16 (M.1 0 20).toNatClampNeg).toInt = (m392.1 16 (M.1 0 20).toNatClampNeg).toInt := by rw [h404.o 16 (by decide)]
            refine wpR_eq (x := u401.toInt) (y := 0) rfl (rfl : (0 : Int32).toInt = 0) (fun c413 => ?_) (fun c413 => ?_)
            · skip
              have z414 : (0 : Int32).toInt = 0 := rfl
              exact wpR_some ⟨i407, (by omega), (by omega)⟩
            · skip
              refine wpR_ix (vI k18) ?_
              refine wpR_ltv (fun m415 e416 => ?_)
              have i417 : IY G K m415 := by rw [e416]; exact i407.s17 _
              have z418 : (m415.1 0 12).toInt = (m405.1 0 12).toInt := by rw [e416]; rfl
              have z419 : (m415.1 0 6).toInt = (m405.1 0 6).toInt := by rw [e416]; rfl
              have z420 : (m415.1 0 20).toInt = (m405.1 0 20).toInt := by rw [e416]; rfl
              have z421 : (m415.1 15 (M.1 0 20).toNatClampNeg).toInt = (m405.1 15 (M.1 0 20).toNatClampNeg).toInt := by rw [e416]; rfl
              have z422 : (m415.1 16 (M.1 0 20).toNatClampNeg).toInt = (m405.1 16 (M.1 0 20).toNatClampNeg).toInt := by rw [e416]; rfl
              have z423 : (hrV m415).toInt = (hrV m405).toInt := by rw [e416]; rfl
              refine wpR_ix (vI k18) ?_
              refine wpR_eq (x := (m415.1 14 ((M.1 0 20) : Int32).toNatClampNeg : Int32).toInt) (y := 38) rfl (rfl : (38 : Int32).toInt = 38) (fun c424 => ?_) (fun c424 => ?_)
              · skip
                have z425 : (61 : Int32).toInt = 61 := rfl
                refine wpR_cl (w_ChipMapModel_take i417 61 (by omega)) (fun m429 u426 h430 => ?_)
                obtain ⟨i431, h427, h428⟩ := h430
                have z432 : (m429.1 0 12).toInt = (m415.1 0 12).toInt := congrArg Int32.toInt h428.s12
                have z433 : (m429.1 0 6).toInt = (m415.1 0 6).toInt := congrArg Int32.toInt h428.s6
                have z434 : (m429.1 0 20).toInt = (m415.1 0 20).toInt := congrArg Int32.toInt h428.s20
                have z435 : (m429.1 15 (M.1 0 20).toNatClampNeg).toInt = (m415.1 15 (M.1 0 20).toNatClampNeg).toInt := by rw [h428.o 15 (by decide)]
                have z436 : (m429.1 16 (M.1 0 20).toNatClampNeg).toInt = (m415.1 16 (M.1 0 20).toNatClampNeg).toInt := by rw [h428.o 16 (by decide)]
                refine wpR_eq (x := u426.toInt) (y := 0) rfl (rfl : (0 : Int32).toInt = 0) (fun c437 => ?_) (fun c437 => ?_)
                · skip
                  have z438 : (0 : Int32).toInt = 0 := rfl
                  exact wpR_some ⟨i431, (by omega), (by omega)⟩
                · skip
                  have z439 : (4 : Int32).toInt = 4 := rfl
                  refine wpR_cl (w_ChipMapModel_takeHex i431 1 4 (by omega)) (fun m443 u440 h444 => ?_)
                  obtain ⟨i445, h441, h442⟩ := h444
                  have z446 : (m443.1 0 12).toInt = (m429.1 0 12).toInt := congrArg Int32.toInt h442.s12
                  have z447 : (m443.1 0 6).toInt = (m429.1 0 6).toInt := congrArg Int32.toInt h442.s6
                  have z448 : (m443.1 0 20).toInt = (m429.1 0 20).toInt := congrArg Int32.toInt h442.s20
                  have z449 : (m443.1 15 (M.1 0 20).toNatClampNeg).toInt = (m429.1 15 (M.1 0 20).toNatClampNeg).toInt := by rw [h442.o 15 (by decide)]
                  have z450 : (m443.1 16 (M.1 0 20).toNatClampNeg).toInt = (m429.1 16 (M.1 0 20).toNatClampNeg).toInt := by rw [h442.o 16 (by decide)]
                  refine wpR_eq (x := u440.toInt) (y := 0) rfl (rfl : (0 : Int32).toInt = 0) (fun c451 => ?_) (fun c451 => ?_)
                  · skip
                    have z452 : (0 : Int32).toInt = 0 := rfl
                    exact wpR_some ⟨i445, (by omega), (by omega)⟩
                  · skip
                    refine wpR_ix (vI k18) ?_
                    refine wpR_ltv (fun m453 e454 => ?_)
                    have i455 : IY G K m453 := by rw [e454]; exact i445.s17 _
                    have z456 : (m453.1 0 12).toInt = (m443.1 0 12).toInt := by rw [e454]; rfl
                    have z457 : (m453.1 0 6).toInt = (m443.1 0 6).toInt := by rw [e454]; rfl
                    have z458 : (m453.1 0 20).toInt = (m443.1 0 20).toInt := by rw [e454]; rfl
                    have z459 : (m453.1 15 (M.1 0 20).toNatClampNeg).toInt = (m443.1 15 (M.1 0 20).toNatClampNeg).toInt := by rw [e454]; rfl
                    have z460 : (m453.1 16 (M.1 0 20).toNatClampNeg).toInt = (m443.1 16 (M.1 0 20).toNatClampNeg).toInt := by rw [e454]; rfl
                    have z461 : (hrV m453).toInt = (hrV m443).toInt := by rw [e454]; rfl
                    unfold q_ChipMapModel_readRule_190
                    have z465 := i455.ru
                    have z466 : (u28 - 65 : Int32).toInt = u28.toInt - 65 := isub rfl (rfl : (65 : Int32).toInt = 65) (by omega) (by omega)
                    have z467 : (u388 - 65 : Int32).toInt = u388.toInt - 65 := isub rfl (rfl : (65 : Int32).toInt = 65) (by omega) (by omega)
                    have z468 : ((m453.1 0 20) + 1 : Int32).toInt = (m453.1 0 20 : Int32).toInt + 1 := iadd rfl (rfl : (1 : Int32).toInt = 1) (by omega) (by omega)
                    refine wpR_ltv (fun m462 e463 => ?_)
                    have i464 : IY G K m462 := by rw [e463]; exact i455.s0_20 (v := (M.1 0 20)) (by omega) (by omega) (by omega) (by omega)
                    have z469 : (m462.1 0 12).toInt = (m453.1 0 12).toInt := by rw [e463]; rfl
                    have z470 : (m462.1 0 6).toInt = (m453.1 0 6).toInt := by rw [e463]; rfl
                    have z471 : (m462.1 0 20).toInt = (((m453.1 0 20) + 1) : Int32).toInt := by rw [e463]; rfl
                    have z472 : (m462.1 15 (M.1 0 20).toNatClampNeg).toInt = (m453.1 15 (M.1 0 20).toNatClampNeg).toInt := by rw [e463]; rfl
                    have z473 : (m462.1 16 (M.1 0 20).toNatClampNeg).toInt = (m453.1 16 (M.1 0 20).toNatClampNeg).toInt := by rw [e463]; rfl
                    have z474 : (hrV m462).toInt = (hrV m453).toInt := by rw [e463]; rfl
                    have z475 : (59 : Int32).toInt = 59 := rfl
                    refine wpR_cl (w_ChipMapModel_take i464 59 (by omega)) (fun m479 u476 h480 => ?_)
                    obtain ⟨i481, h477, h478⟩ := h480
                    have z482 : (m479.1 0 12).toInt = (m462.1 0 12).toInt := congrArg Int32.toInt h478.s12
                    have z483 : (m479.1 0 6).toInt = (m462.1 0 6).toInt := congrArg Int32.toInt h478.s6
                    have z484 : (m479.1 0 20).toInt = (m462.1 0 20).toInt := congrArg Int32.toInt h478.s20
                    have z485 : (m479.1 15 (M.1 0 20).toNatClampNeg).toInt = (m462.1 15 (M.1 0 20).toNatClampNeg).toInt := by rw [h478.o 15 (by decide)]
                    have z486 : (m479.1 16 (M.1 0 20).toNatClampNeg).toInt = (m462.1 16 (M.1 0 20).toNatClampNeg).toInt := by rw [h478.o 16 (by decide)]
                    refine wpR_bz (b01 (by omega)) ?_
                    exact wpR_some ⟨i481, (by omega), (by omega)⟩
              · skip
                unfold q_ChipMapModel_readRule_190
                have z490 := i417.ru
                have z491 : (u28 - 65 : Int32).toInt = u28.toInt - 65 := isub rfl (rfl : (65 : Int32).toInt = 65) (by omega) (by omega)
                have z492 : (u388 - 65 : Int32).toInt = u388.toInt - 65 := isub rfl (rfl : (65 : Int32).toInt = 65) (by omega) (by omega)
                have z493 : ((m415.1 0 20) + 1 : Int32).toInt = (m415.1 0 20 : Int32).toInt + 1 := iadd rfl (rfl : (1 : Int32).toInt = 1) (by omega) (by omega)
                refine wpR_ltv (fun m487 e488 => ?_)
                have i489 : IY G K m487 := by rw [e488]; exact i417.s0_20 (v := (M.1 0 20)) (by omega) (by omega) (by omega) (by omega)
                have z494 : (m487.1 0 12).toInt = (m415.1 0 12).toInt := by rw [e488]; rfl
                have z495 : (m487.1 0 6).toInt = (m415.1 0 6).toInt := by rw [e488]; rfl
                have z496 : (m487.1 0 20).toInt = (((m415.1 0 20) + 1) : Int32).toInt := by rw [e488]; rfl
                have z497 : (m487.1 15 (M.1 0 20).toNatClampNeg).toInt = (m415.1 15 (M.1 0 20).toNatClampNeg).toInt := by rw [e488]; rfl
                have z498 : (m487.1 16 (M.1 0 20).toNatClampNeg).toInt = (m415.1 16 (M.1 0 20).toNatClampNeg).toInt := by rw [e488]; rfl
                have z499 : (hrV m487).toInt = (hrV m415).toInt := by rw [e488]; rfl
                have z500 : (59 : Int32).toInt = 59 := rfl
                refine wpR_cl (w_ChipMapModel_take i489 59 (by omega)) (fun m504 u501 h505 => ?_)
                obtain ⟨i506, h502, h503⟩ := h505
                have z507 : (m504.1 0 12).toInt = (m487.1 0 12).toInt := congrArg Int32.toInt h503.s12
                have z508 : (m504.1 0 6).toInt = (m487.1 0 6).toInt := congrArg Int32.toInt h503.s6
                have z509 : (m504.1 0 20).toInt = (m487.1 0 20).toInt := congrArg Int32.toInt h503.s20
                have z510 : (m504.1 15 (M.1 0 20).toNatClampNeg).toInt = (m487.1 15 (M.1 0 20).toNatClampNeg).toInt := by rw [h503.o 15 (by decide)]
                have z511 : (m504.1 16 (M.1 0 20).toNatClampNeg).toInt = (m487.1 16 (M.1 0 20).toNatClampNeg).toInt := by rw [h503.o 16 (by decide)]
                refine wpR_bz (b01 (by omega)) ?_
                exact wpR_some ⟨i506, (by omega), (by omega)⟩
          · skip
            refine wpR_cl (w_ChipMapModel_wrong i61 1 (m59.1 0 3)) (fun m515 u512 h516 => ?_)
            obtain ⟨i517, h513, h514⟩ := h516
            have z518 : (m515.1 0 12).toInt = (m59.1 0 12).toInt := congrArg Int32.toInt h514.s12
            have z519 : (m515.1 0 6).toInt = (m59.1 0 6).toInt := congrArg Int32.toInt h514.s6
            have z520 : (m515.1 0 20).toInt = (m59.1 0 20).toInt := congrArg Int32.toInt h514.s20
            have z521 : (m515.1 15 (M.1 0 20).toNatClampNeg).toInt = (m59.1 15 (M.1 0 20).toNatClampNeg).toInt := by rw [h514.o 15 (by decide)]
            have z522 : (m515.1 16 (M.1 0 20).toNatClampNeg).toInt = (m59.1 16 (M.1 0 20).toNatClampNeg).toInt := by rw [h514.o 16 (by decide)]
            refine wpR_bz (b01 (by omega)) ?_
            exact wpR_some ⟨i517, (by omega), (by omega)⟩
theorem w_ChipMapModel_named_2 {G : Gy} {K : Int} {M : Mm} (hI : IY G K M) : ∀ (n' : Nat) (v1 : Int32) (v2 : Int32) (v3 : Int32), (0 ≤ v3.toInt ∧ v3.toInt ≤ v2.toInt ∧ v2.toInt ≤ 128) → v2.toInt - v3.toInt < (n' : Int) → wpR (q_ChipMapModel_named_2 n' M v1 v2 v3) (fun M' r => M = M' ∧ (-1 ≤ r.toInt ∧ r.toInt < v2.toInt ∨ r.toInt = -1)) := by
  intro n'
  induction n' with
  | zero =>
    intro v1 v2 v3 p0 hn
    exfalso; omega
  | succ n' ih =>
    intro v1 v2 v3 p0 hn
    rw [q_ChipMapModel_named_2]
    refine wpR_le (x := v2.toInt) (y := v3.toInt) rfl rfl (fun c1 => ?_) (fun c1 => ?_)
    · skip
      have z2 : (-1 : Int32).toInt = -1 := by decide
      exact wpR_some ⟨rfl, (by omega)⟩
    · skip
      have k3 : 0 ≤ (v3 : Int32).toInt ∧ (v3 : Int32).toInt < ((140 : Nat) : Int) := by omega
      refine wpR_ix (vI k3) ?_
      refine wpR_eq (x := (M.1 7 (v3 : Int32).toNatClampNeg : Int32).toInt) (y := v1.toInt) rfl rfl (fun c4 => ?_) (fun c4 => ?_)
      · skip
        exact wpR_some ⟨rfl, (by omega)⟩
      · skip
        have z5 : (v3 + 1 : Int32).toInt = v3.toInt + 1 := iadd rfl (rfl : (1 : Int32).toInt = 1) (by omega) (by omega)
        exact ih v1 v2 (v3 + 1) (by omega) (by omega)
theorem w_ChipMapModel_named {G : Gy} {K : Int} {M : Mm} (hI : IY G K M)  (a1 : Int32) (a2 : Int32) (p0 : 0 ≤ a2.toInt ∧ a2.toInt ≤ 128) : wpR (q_ChipMapModel_named M a1 a2) (fun M' r => M = M' ∧ (-1 ≤ r.toInt ∧ r.toInt < a2.toInt ∨ r.toInt = -1)) := by
  unfold q_ChipMapModel_named
  have z1 : (0 : Int32).toInt = 0 := rfl
  exact w_ChipMapModel_named_2 hI 4000 a1 a2 0 (by omega) (by omega)
theorem w_ChipMapModel_fits {G : Gy} {K : Int} {M : Mm} (hI : IY G K M)  (a1 : Int32) (a2 : Int32) (p0 : 0 ≤ a1.toInt ∧ a1.toInt ≤ 139) : wpR (q_ChipMapModel_fits M a1 a2) (fun M' r => M = M' ∧ (0 ≤ r.toInt ∧ r.toInt ≤ 1)) := by
  unfold q_ChipMapModel_fits
  have k1 : 0 ≤ (a1 : Int32).toInt ∧ (a1 : Int32).toInt < ((140 : Nat) : Int) := by omega
  refine wpR_ix (vI k1) ?_
  refine wpR_ix (vI k1) ?_
  refine wpR_eq (x := ((a2 : Int32) >>> ((((M.1 9 (a1 : Int32).toNatClampNeg) - (M.1 10 (a1 : Int32).toNatClampNeg)) + 1) &&& 31) : Int32).toInt) (y := 0) rfl (rfl : (0 : Int32).toInt = 0) (fun c2 => ?_) (fun c2 => ?_)
  · skip
    have z3 : (1 : Int32).toInt = 1 := rfl
    exact wpR_some ⟨rfl, (by omega)⟩
  · skip
    have z4 : (0 : Int32).toInt = 0 := rfl
    exact wpR_some ⟨rfl, (by omega)⟩
theorem w_ChipMapModel_fieldsRight_83 {G : Gy} {K : Int}  {kf2 : Mm → Int32 → Rs} {n2 : Nat} (hk2 : ∀ (M : Mm) (v1 : Int32), IY G K M → (0 ≤ v1.toInt ∧ v1.toInt ≤ 128) → 128 - v1.toInt < (n2 : Int) → wpR (kf2 M v1) (fun M' r => IY G K M' ∧ (0 ≤ r.toInt ∧ r.toInt ≤ 1))) : ∀ (n' : Nat) (M : Mm) (v1 : Int32) (v2 : Int32) (v3 : Int32), IY G K M → (0 ≤ v1.toInt ∧ v1.toInt ≤ 127) → (0 ≤ v3.toInt ∧ v3.toInt ≤ v1.toInt) → (128 - v1.toInt < ((n2 : Nat) : Int) + 1) → v1.toInt - v3.toInt < (n' : Int) → wpR (q_ChipMapModel_fieldsRight_83 kf2 n' M v1 v2 v3) (fun M' r => IY G K M' ∧ (0 ≤ r.toInt ∧ r.toInt ≤ 1)) := by
  intro n'
  induction n' with
  | zero =>
    intro M v1 v2 v3 hI p0 p1 p2 hn
    exfalso; omega
  | succ n' ih =>
    intro M v1 v2 v3 hI p0 p1 p2 hn
    rw [q_ChipMapModel_fieldsRight_83]
    refine wpR_le (x := v1.toInt) (y := v3.toInt) rfl rfl (fun c1 => ?_) (fun c1 => ?_)
    · skip
      unfold q_ChipMapModel_fieldsRight_149
      refine wpR_eq (x := v2.toInt) (y := 0) rfl (rfl : (0 : Int32).toInt = 0) (fun c2 => ?_) (fun c2 => ?_)
      · skip
        have k3 : 0 ≤ (v1 : Int32).toInt ∧ (v1 : Int32).toInt < ((140 : Nat) : Int) := by omega
        refine wpR_ix (vI k3) ?_
        refine wpR_cl (w_ChipMapModel_wrong hI 2 (M.1 13 (v1 : Int32).toNatClampNeg)) (fun m7 u4 h8 => ?_)
        obtain ⟨i9, h5, h6⟩ := h8
        refine wpR_bz (b01 (by omega)) ?_
        exact wpR_some ⟨i9, (by omega)⟩
      · skip
        have z10 : (v1 + 1 : Int32).toInt = v1.toInt + 1 := iadd rfl (rfl : (1 : Int32).toInt = 1) (by omega) (by omega)
        exact hk2 M (v1 + 1) hI (by omega) (by omega)
    · skip
      refine wpR_eq (x := v2.toInt) (y := 0) rfl (rfl : (0 : Int32).toInt = 0) (fun c11 => ?_) (fun c11 => ?_)
      · skip
        unfold q_ChipMapModel_fieldsRight_149
        refine wpR_eq (x := v2.toInt) (y := 0) rfl (rfl : (0 : Int32).toInt = 0) (fun c12 => ?_) (fun c12 => ?_)
        · skip
          have k13 : 0 ≤ (v1 : Int32).toInt ∧ (v1 : Int32).toInt < ((140 : Nat) : Int) := by omega
          refine wpR_ix (vI k13) ?_
          refine wpR_cl (w_ChipMapModel_wrong hI 2 (M.1 13 (v1 : Int32).toNatClampNeg)) (fun m17 u14 h18 => ?_)
          obtain ⟨i19, h15, h16⟩ := h18
          refine wpR_bz (b01 (by omega)) ?_
          exact wpR_some ⟨i19, (by omega)⟩
        · skip
          have z20 : (v1 + 1 : Int32).toInt = v1.toInt + 1 := iadd rfl (rfl : (1 : Int32).toInt = 1) (by omega) (by omega)
          exact hk2 M (v1 + 1) hI (by omega) (by omega)
      · skip
        have k21 : 0 ≤ (v3 : Int32).toInt ∧ (v3 : Int32).toInt < ((140 : Nat) : Int) := by omega
        refine wpR_ix (vI k21) ?_
        have k22 : 0 ≤ (v1 : Int32).toInt ∧ (v1 : Int32).toInt < ((140 : Nat) : Int) := by omega
        refine wpR_ix (vI k22) ?_
        have z23 := hI.rin ((v3 : Int32).toNatClampNeg)
        have z24 := hI.rin ((v1 : Int32).toNatClampNeg)
        refine wpR_eq (x := (M.1 12 (v3 : Int32).toNatClampNeg : Int32).toInt) (y := (M.1 12 (v1 : Int32).toNatClampNeg : Int32).toInt) rfl rfl (fun c25 => ?_) (fun c25 => ?_)
        · skip
          refine wpR_ix (vI k21) ?_
          refine wpR_ix (vI k22) ?_
          refine wpR_lw (x := (M.1 9 (v3 : Int32).toNatClampNeg : Int32).toInt) (y := (M.1 10 (v1 : Int32).toNatClampNeg : Int32).toInt) rfl rfl (fun c26 => ?_) (fun c26 => ?_)
          · skip
            unfold q_ChipMapModel_fieldsRight_137
            unfold q_ChipMapModel_fieldsRight_142
            have z27 : (v3 + 1 : Int32).toInt = v3.toInt + 1 := iadd rfl (rfl : (1 : Int32).toInt = 1) (by omega) (by omega)
            exact ih M v1 1 (v3 + 1) hI (by omega) (by omega) (by omega) (by omega)
          · skip
            refine wpR_ix (vI k21) ?_
            refine wpR_ix (vI k22) ?_
            refine wpR_le (x := (M.1 10 (v3 : Int32).toNatClampNeg : Int32).toInt) (y := (M.1 9 (v1 : Int32).toNatClampNeg : Int32).toInt) rfl rfl (fun c28 => ?_) (fun c28 => ?_)
            · skip
              unfold q_ChipMapModel_fieldsRight_142
              have z29 : (v3 + 1 : Int32).toInt = v3.toInt + 1 := iadd rfl (rfl : (1 : Int32).toInt = 1) (by omega) (by omega)
              exact ih M v1 0 (v3 + 1) hI (by omega) (by omega) (by omega) (by omega)
            · skip
              unfold q_ChipMapModel_fieldsRight_137
              unfold q_ChipMapModel_fieldsRight_142
              have z30 : (v3 + 1 : Int32).toInt = v3.toInt + 1 := iadd rfl (rfl : (1 : Int32).toInt = 1) (by omega) (by omega)
              exact ih M v1 1 (v3 + 1) hI (by omega) (by omega) (by omega) (by omega)
        · skip
          unfold q_ChipMapModel_fieldsRight_137
          unfold q_ChipMapModel_fieldsRight_142
          have z31 : (v3 + 1 : Int32).toInt = v3.toInt + 1 := iadd rfl (rfl : (1 : Int32).toInt = 1) (by omega) (by omega)
          exact ih M v1 1 (v3 + 1) hI (by omega) (by omega) (by omega) (by omega)
theorem w_ChipMapModel_fieldsRight_2 {G : Gy} {K : Int}  : ∀ (n' : Nat) (M : Mm) (v1 : Int32), IY G K M → (0 ≤ v1.toInt ∧ v1.toInt ≤ 128) → 128 - v1.toInt < (n' : Int) → wpR (q_ChipMapModel_fieldsRight_2 n' M v1) (fun M' r => IY G K M' ∧ (0 ≤ r.toInt ∧ r.toInt ≤ 1)) := by
  intro n'
  induction n' with
  | zero =>
    intro M v1 hI p0 hn
    exfalso; omega
  | succ n' ih =>
    intro M v1 hI p0 hn
    rw [q_ChipMapModel_fieldsRight_2]
    have z1 := hI.rf
    refine wpR_le (x := (M.1 0 12 : Int32).toInt) (y := v1.toInt) rfl rfl (fun c2 => ?_) (fun c2 => ?_)
    · skip
      have z3 : (1 : Int32).toInt = 1 := rfl
      exact wpR_some ⟨hI, (by omega)⟩
    · skip
      have k4 : 0 ≤ (v1 : Int32).toInt ∧ (v1 : Int32).toInt < ((140 : Nat) : Int) := by omega
      refine wpR_ix (vI k4) ?_
      refine wpR_ro (w_ChipMapModel_named hI (M.1 7 (v1 : Int32).toNatClampNeg) v1 (by omega)) (fun u5 h6 => ?_)
      refine wpR_eq (x := u5.toInt) (y := (-1)) rfl (by decide : (-1 : Int32).toInt = -1) (fun c8 => ?_) (fun c8 => ?_)
      · skip
        refine wpR_ix (vI k4) ?_
        refine wpR_lw (x := 15) (y := (M.1 9 (v1 : Int32).toNatClampNeg : Int32).toInt) (rfl : (15 : Int32).toInt = 15) rfl (fun c9 => ?_) (fun c9 => ?_)
        · skip
          unfold q_ChipMapModel_fieldsRight_55
          unfold q_ChipMapModel_fieldsRight_56
          refine wpR_eq (x := 0) (y := 0) (rfl : (0 : Int32).toInt = 0) (rfl : (0 : Int32).toInt = 0) (fun c10 => ?_) (fun c10 => ?_)
          · skip
            unfold q_ChipMapModel_fieldsRight_79
            unfold q_ChipMapModel_fieldsRight_80
            have z11 : (0 : Int32).toInt = 0 := rfl
            exact w_ChipMapModel_fieldsRight_83 (n2 := n') ih 4000 M v1 0 0 hI (by omega) (by omega) (by omega) (by omega)
          · skip
            refine wpR_ix (vI k4) ?_
            refine wpR_ro (w_ChipMapModel_fits hI v1 (M.1 11 (v1 : Int32).toNatClampNeg) (by omega)) (fun u12 h13 => ?_)
            refine wpR_eq (x := u12.toInt) (y := 0) rfl (rfl : (0 : Int32).toInt = 0) (fun c15 => ?_) (fun c15 => ?_)
            · skip
              unfold q_ChipMapModel_fieldsRight_79
              unfold q_ChipMapModel_fieldsRight_80
              have z16 : (0 : Int32).toInt = 0 := rfl
              exact w_ChipMapModel_fieldsRight_83 (n2 := n') ih 4000 M v1 0 0 hI (by omega) (by omega) (by omega) (by omega)
            · skip
              unfold q_ChipMapModel_fieldsRight_80
              have z17 : (0 : Int32).toInt = 0 := rfl
              exact w_ChipMapModel_fieldsRight_83 (n2 := n') ih 4000 M v1 1 0 hI (by omega) (by omega) (by omega) (by omega)
        · skip
          refine wpR_ix (vI k4) ?_
          refine wpR_ix (vI k4) ?_
          refine wpR_lw (x := (M.1 9 (v1 : Int32).toNatClampNeg : Int32).toInt) (y := (M.1 10 (v1 : Int32).toNatClampNeg : Int32).toInt) rfl rfl (fun c18 => ?_) (fun c18 => ?_)
          · skip
            unfold q_ChipMapModel_fieldsRight_55
            unfold q_ChipMapModel_fieldsRight_56
            refine wpR_eq (x := 0) (y := 0) (rfl : (0 : Int32).toInt = 0) (rfl : (0 : Int32).toInt = 0) (fun c19 => ?_) (fun c19 => ?_)
            · skip
              unfold q_ChipMapModel_fieldsRight_79
              unfold q_ChipMapModel_fieldsRight_80
              have z20 : (0 : Int32).toInt = 0 := rfl
              exact w_ChipMapModel_fieldsRight_83 (n2 := n') ih 4000 M v1 0 0 hI (by omega) (by omega) (by omega) (by omega)
            · skip
              refine wpR_ix (vI k4) ?_
              refine wpR_ro (w_ChipMapModel_fits hI v1 (M.1 11 (v1 : Int32).toNatClampNeg) (by omega)) (fun u21 h22 => ?_)
              refine wpR_eq (x := u21.toInt) (y := 0) rfl (rfl : (0 : Int32).toInt = 0) (fun c24 => ?_) (fun c24 => ?_)
              · skip
                unfold q_ChipMapModel_fieldsRight_79
                unfold q_ChipMapModel_fieldsRight_80
                have z25 : (0 : Int32).toInt = 0 := rfl
                exact w_ChipMapModel_fieldsRight_83 (n2 := n') ih 4000 M v1 0 0 hI (by omega) (by omega) (by omega) (by omega)
              · skip
                unfold q_ChipMapModel_fieldsRight_80
                have z26 : (0 : Int32).toInt = 0 := rfl
                exact w_ChipMapModel_fieldsRight_83 (n2 := n') ih 4000 M v1 1 0 hI (by omega) (by omega) (by omega) (by omega)
          · skip
            unfold q_ChipMapModel_fieldsRight_56
            refine wpR_eq (x := 1) (y := 0) (rfl : (1 : Int32).toInt = 1) (rfl : (0 : Int32).toInt = 0) (fun c27 => ?_) (fun c27 => ?_)
            · skip
              unfold q_ChipMapModel_fieldsRight_79
              unfold q_ChipMapModel_fieldsRight_80
              have z28 : (0 : Int32).toInt = 0 := rfl
              exact w_ChipMapModel_fieldsRight_83 (n2 := n') ih 4000 M v1 0 0 hI (by omega) (by omega) (by omega) (by omega)
            · skip
              refine wpR_ix (vI k4) ?_
              refine wpR_ro (w_ChipMapModel_fits hI v1 (M.1 11 (v1 : Int32).toNatClampNeg) (by omega)) (fun u29 h30 => ?_)
              refine wpR_eq (x := u29.toInt) (y := 0) rfl (rfl : (0 : Int32).toInt = 0) (fun c32 => ?_) (fun c32 => ?_)
              · skip
                unfold q_ChipMapModel_fieldsRight_79
                unfold q_ChipMapModel_fieldsRight_80
                have z33 : (0 : Int32).toInt = 0 := rfl
                exact w_ChipMapModel_fieldsRight_83 (n2 := n') ih 4000 M v1 0 0 hI (by omega) (by omega) (by omega) (by omega)
              · skip
                unfold q_ChipMapModel_fieldsRight_80
                have z34 : (0 : Int32).toInt = 0 := rfl
                exact w_ChipMapModel_fieldsRight_83 (n2 := n') ih 4000 M v1 1 0 hI (by omega) (by omega) (by omega) (by omega)
      · skip
        unfold q_ChipMapModel_fieldsRight_55
        unfold q_ChipMapModel_fieldsRight_56
        refine wpR_eq (x := 0) (y := 0) (rfl : (0 : Int32).toInt = 0) (rfl : (0 : Int32).toInt = 0) (fun c35 => ?_) (fun c35 => ?_)
        · skip
          unfold q_ChipMapModel_fieldsRight_79
          unfold q_ChipMapModel_fieldsRight_80
          have z36 : (0 : Int32).toInt = 0 := rfl
          exact w_ChipMapModel_fieldsRight_83 (n2 := n') ih 4000 M v1 0 0 hI (by omega) (by omega) (by omega) (by omega)
        · skip
          refine wpR_ix (vI k4) ?_
          refine wpR_ro (w_ChipMapModel_fits hI v1 (M.1 11 (v1 : Int32).toNatClampNeg) (by omega)) (fun u37 h38 => ?_)
          refine wpR_eq (x := u37.toInt) (y := 0) rfl (rfl : (0 : Int32).toInt = 0) (fun c40 => ?_) (fun c40 => ?_)
          · skip
            unfold q_ChipMapModel_fieldsRight_79
            unfold q_ChipMapModel_fieldsRight_80
            have z41 : (0 : Int32).toInt = 0 := rfl
            exact w_ChipMapModel_fieldsRight_83 (n2 := n') ih 4000 M v1 0 0 hI (by omega) (by omega) (by omega) (by omega)
          · skip
            unfold q_ChipMapModel_fieldsRight_80
            have z42 : (0 : Int32).toInt = 0 := rfl
            exact w_ChipMapModel_fieldsRight_83 (n2 := n') ih 4000 M v1 1 0 hI (by omega) (by omega) (by omega) (by omega)
theorem w_ChipMapModel_fieldsRight {G : Gy} {K : Int} {M : Mm} (hI : IY G K M)  : wpR (q_ChipMapModel_fieldsRight M) (fun M' r => IY G K M' ∧ (0 ≤ r.toInt ∧ r.toInt ≤ 1)) := by
  unfold q_ChipMapModel_fieldsRight
  have z1 : (0 : Int32).toInt = 0 := rfl
  exact w_ChipMapModel_fieldsRight_2 4000 M 0 hI (by omega) (by omega)
theorem w_ChipMapModel_registersRight_113 {G : Gy} {K : Int}  {kf103 : Mm → Int32 → Rs} {n103 : Nat} (hk103 : ∀ (M : Mm) (v1 : Int32), IY G K M → (0 ≤ v1.toInt ∧ v1.toInt ≤ 16) → 16 - v1.toInt < (n103 : Int) → wpR (kf103 M v1) (fun M' r => IY G K M' ∧ (0 ≤ r.toInt ∧ r.toInt ≤ 1))) : ∀ (n' : Nat) (M : Mm) (v1 : Int32) (v2 : Int32), IY G K M → (0 ≤ v1.toInt ∧ v1.toInt ≤ 15) → (0 ≤ v2.toInt ∧ v2.toInt ≤ v1.toInt) → (16 - v1.toInt < ((n103 : Nat) : Int) + 1) → v1.toInt - v2.toInt < (n' : Int) → wpR (q_ChipMapModel_registersRight_113 kf103 n' M v1 v2) (fun M' r => IY G K M' ∧ (0 ≤ r.toInt ∧ r.toInt ≤ 1)) := by
  intro n'
  induction n' with
  | zero =>
    intro M v1 v2 hI p0 p1 p2 hn
    exfalso; omega
  | succ n' ih =>
    intro M v1 v2 hI p0 p1 p2 hn
    rw [q_ChipMapModel_registersRight_113]
    refine wpR_le (x := v1.toInt) (y := v2.toInt) rfl rfl (fun c1 => ?_) (fun c1 => ?_)
    · skip
      have z2 : (v1 + 1 : Int32).toInt = v1.toInt + 1 := iadd rfl (rfl : (1 : Int32).toInt = 1) (by omega) (by omega)
      exact hk103 M (v1 + 1) hI (by omega) (by omega)
    · skip
      have k3 : 0 ≤ (v1 : Int32).toInt ∧ (v1 : Int32).toInt < ((17 : Nat) : Int) := by omega
      refine wpR_ix (vI k3) ?_
      refine wpR_eq (x := (M.1 3 (v1 : Int32).toNatClampNeg : Int32).toInt) (y := (-1)) rfl (by decide : (-1 : Int32).toInt = -1) (fun c4 => ?_) (fun c4 => ?_)
      · skip
        unfold q_ChipMapModel_registersRight_162
        unfold q_ChipMapModel_registersRight_163
        have k5 : 0 ≤ (v2 : Int32).toInt ∧ (v2 : Int32).toInt < ((17 : Nat) : Int) := by omega
        refine wpR_ix (vI k5) ?_
        refine wpR_ix (vI k3) ?_
        refine wpR_eq (x := (M.1 2 (v2 : Int32).toNatClampNeg : Int32).toInt) (y := (M.1 2 (v1 : Int32).toNatClampNeg : Int32).toInt) rfl rfl (fun c6 => ?_) (fun c6 => ?_)
        · skip
          refine wpR_eq (x := 0) (y := 0) (rfl : (0 : Int32).toInt = 0) (rfl : (0 : Int32).toInt = 0) (fun c7 => ?_) (fun c7 => ?_)
          · skip
            refine wpR_ix (vI k3) ?_
            refine wpR_cl (w_ChipMapModel_wrong hI 3 (M.1 5 (v1 : Int32).toNatClampNeg)) (fun m11 u8 h12 => ?_)
            obtain ⟨i13, h9, h10⟩ := h12
            refine wpR_bz (b01 (by omega)) ?_
            exact wpR_some ⟨i13, (by omega)⟩
          · skip
            unfold q_ChipMapModel_registersRight_195
            have z14 : (v2 + 1 : Int32).toInt = v2.toInt + 1 := iadd rfl (rfl : (1 : Int32).toInt = 1) (by omega) (by omega)
            exact ih M v1 (v2 + 1) hI (by omega) (by omega) (by omega) (by omega)
        · skip
          unfold q_ChipMapModel_registersRight_195
          have z15 : (v2 + 1 : Int32).toInt = v2.toInt + 1 := iadd rfl (rfl : (1 : Int32).toInt = 1) (by omega) (by omega)
          exact ih M v1 (v2 + 1) hI (by omega) (by omega) (by omega) (by omega)
      · skip
        have k16 : 0 ≤ (v2 : Int32).toInt ∧ (v2 : Int32).toInt < ((17 : Nat) : Int) := by omega
        refine wpR_ix (vI k16) ?_
        refine wpR_ix (vI k3) ?_
        refine wpR_eq (x := (M.1 3 (v2 : Int32).toNatClampNeg : Int32).toInt) (y := (M.1 3 (v1 : Int32).toNatClampNeg : Int32).toInt) rfl rfl (fun c17 => ?_) (fun c17 => ?_)
        · skip
          refine wpR_ix (vI k16) ?_
          refine wpR_ix (vI k3) ?_
          refine wpR_eq (x := (M.1 4 (v2 : Int32).toNatClampNeg : Int32).toInt) (y := (M.1 4 (v1 : Int32).toNatClampNeg : Int32).toInt) rfl rfl (fun c18 => ?_) (fun c18 => ?_)
          · skip
            unfold q_ChipMapModel_registersRight_162
            unfold q_ChipMapModel_registersRight_163
            refine wpR_ix (vI k16) ?_
            refine wpR_ix (vI k3) ?_
            refine wpR_eq (x := (M.1 2 (v2 : Int32).toNatClampNeg : Int32).toInt) (y := (M.1 2 (v1 : Int32).toNatClampNeg : Int32).toInt) rfl rfl (fun c19 => ?_) (fun c19 => ?_)
            · skip
              refine wpR_eq (x := 0) (y := 0) (rfl : (0 : Int32).toInt = 0) (rfl : (0 : Int32).toInt = 0) (fun c20 => ?_) (fun c20 => ?_)
              · skip
                refine wpR_ix (vI k3) ?_
                refine wpR_cl (w_ChipMapModel_wrong hI 3 (M.1 5 (v1 : Int32).toNatClampNeg)) (fun m24 u21 h25 => ?_)
                obtain ⟨i26, h22, h23⟩ := h25
                refine wpR_bz (b01 (by omega)) ?_
                exact wpR_some ⟨i26, (by omega)⟩
              · skip
                unfold q_ChipMapModel_registersRight_195
                have z27 : (v2 + 1 : Int32).toInt = v2.toInt + 1 := iadd rfl (rfl : (1 : Int32).toInt = 1) (by omega) (by omega)
                exact ih M v1 (v2 + 1) hI (by omega) (by omega) (by omega) (by omega)
            · skip
              unfold q_ChipMapModel_registersRight_195
              have z28 : (v2 + 1 : Int32).toInt = v2.toInt + 1 := iadd rfl (rfl : (1 : Int32).toInt = 1) (by omega) (by omega)
              exact ih M v1 (v2 + 1) hI (by omega) (by omega) (by omega) (by omega)
          · skip
            unfold q_ChipMapModel_registersRight_163
            refine wpR_ix (vI k16) ?_
            refine wpR_ix (vI k3) ?_
            refine wpR_eq (x := (M.1 2 (v2 : Int32).toNatClampNeg : Int32).toInt) (y := (M.1 2 (v1 : Int32).toNatClampNeg : Int32).toInt) rfl rfl (fun c29 => ?_) (fun c29 => ?_)
            · skip
              refine wpR_eq (x := 1) (y := 0) (rfl : (1 : Int32).toInt = 1) (rfl : (0 : Int32).toInt = 0) (fun c30 => ?_) (fun c30 => ?_)
              · skip
                refine wpR_ix (vI k3) ?_
                refine wpR_cl (w_ChipMapModel_wrong hI 3 (M.1 5 (v1 : Int32).toNatClampNeg)) (fun m34 u31 h35 => ?_)
                obtain ⟨i36, h32, h33⟩ := h35
                refine wpR_bz (b01 (by omega)) ?_
                exact wpR_some ⟨i36, (by omega)⟩
              · skip
                unfold q_ChipMapModel_registersRight_195
                have z37 : (v2 + 1 : Int32).toInt = v2.toInt + 1 := iadd rfl (rfl : (1 : Int32).toInt = 1) (by omega) (by omega)
                exact ih M v1 (v2 + 1) hI (by omega) (by omega) (by omega) (by omega)
            · skip
              unfold q_ChipMapModel_registersRight_195
              have z38 : (v2 + 1 : Int32).toInt = v2.toInt + 1 := iadd rfl (rfl : (1 : Int32).toInt = 1) (by omega) (by omega)
              exact ih M v1 (v2 + 1) hI (by omega) (by omega) (by omega) (by omega)
        · skip
          unfold q_ChipMapModel_registersRight_162
          unfold q_ChipMapModel_registersRight_163
          refine wpR_ix (vI k16) ?_
          refine wpR_ix (vI k3) ?_
          refine wpR_eq (x := (M.1 2 (v2 : Int32).toNatClampNeg : Int32).toInt) (y := (M.1 2 (v1 : Int32).toNatClampNeg : Int32).toInt) rfl rfl (fun c39 => ?_) (fun c39 => ?_)
          · skip
            refine wpR_eq (x := 0) (y := 0) (rfl : (0 : Int32).toInt = 0) (rfl : (0 : Int32).toInt = 0) (fun c40 => ?_) (fun c40 => ?_)
            · skip
              refine wpR_ix (vI k3) ?_
              refine wpR_cl (w_ChipMapModel_wrong hI 3 (M.1 5 (v1 : Int32).toNatClampNeg)) (fun m44 u41 h45 => ?_)
              obtain ⟨i46, h42, h43⟩ := h45
              refine wpR_bz (b01 (by omega)) ?_
              exact wpR_some ⟨i46, (by omega)⟩
            · skip
              unfold q_ChipMapModel_registersRight_195
              have z47 : (v2 + 1 : Int32).toInt = v2.toInt + 1 := iadd rfl (rfl : (1 : Int32).toInt = 1) (by omega) (by omega)
              exact ih M v1 (v2 + 1) hI (by omega) (by omega) (by omega) (by omega)
          · skip
            unfold q_ChipMapModel_registersRight_195
            have z48 : (v2 + 1 : Int32).toInt = v2.toInt + 1 := iadd rfl (rfl : (1 : Int32).toInt = 1) (by omega) (by omega)
            exact ih M v1 (v2 + 1) hI (by omega) (by omega) (by omega) (by omega)
