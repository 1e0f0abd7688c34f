theorem w_ChipMapModel_busWrite_48 {G : Gy} {K : Int} (hK : K + 1 ≤ 2000000000)  : ∀ (n' : Nat) (M : Mm) (v3 : Int32) (v4 : Int32) (v5 : Int32) (v6 : Int32), IY G K M → (0 ≤ v6.toInt ∧ v6.toInt ≤ 12) → (0 ≤ v3.toInt ∧ v3.toInt ≤ 15) → 12 - v6.toInt < (n' : Int) → wpR (q_ChipMapModel_busWrite_48 n' M v3 v4 v5 v6) (fun M' r => IY G (K + 1) M' ∧ True) := by
  intro n'
  induction n' with
  | zero =>
    intro M v3 v4 v5 v6 hI p0 p1 hn
    exfalso; omega
  | succ n' ih =>
    intro M v3 v4 v5 v6 hI p0 p1 hn
    rw [q_ChipMapModel_busWrite_48]
    have z1 := hI.rules
    refine wpR_le (x := (M.1 0 38 : Int32).toInt) (y := v6.toInt) rfl rfl (fun c2 => ?_) (fun c2 => ?_)
    · skip
      refine wpR_cl (w_ChipMapModel_write hI (by omega) v3 v4 (by omega)) (fun m4 u3 h5 => ?_)
      have i6 := h5.1
      exact wpR_some ⟨i6, trivial⟩
    · skip
      refine wpR_ro (w_ChipMapModel_breaks hI v6 v3 v4 (by omega)) (fun u7 h8 => ?_)
      refine wpR_eq (x := u7.toInt) (y := 0) rfl (rfl : (0 : Int32).toInt = 0) (fun c10 => ?_) (fun c10 => ?_)
      · skip
        unfold q_ChipMapModel_busWrite_79
        refine wpR_ltv (fun m11 e12 => ?_)
        have i13 : IY G K m11 := by rw [e12]; exact hI.s0_48 _
        have z14 : (v6 + 1 : Int32).toInt = v6.toInt + 1 := iadd rfl (rfl : (1 : Int32).toInt = 1) (by omega) (by omega)
        exact ih m11 v3 v4 v5 (v6 + 1) i13 (by omega) (by omega) (by omega)
      · skip
        unfold q_ChipMapModel_busWrite_79
        refine wpR_ltv (fun m15 e16 => ?_)
        have i17 : IY G K m15 := by rw [e16]; exact hI.s0_48 _
        have z18 : (v6 + 1 : Int32).toInt = v6.toInt + 1 := iadd rfl (rfl : (1 : Int32).toInt = 1) (by omega) (by omega)
        exact ih m15 v3 v4 v5 (v6 + 1) i17 (by omega) (by omega) (by omega)
theorem w_ChipMapModel_busWrite {G : Gy} {K : Int} {M : Mm} (hI : IY G K M) (hK : K + 1 ≤ 2000000000)  (a1 : Int32) (a2 : Int32) : wpR (q_ChipMapModel_busWrite M a1 a2) (fun M' r => IY G (K + 1) M' ∧ True) := by
  unfold q_ChipMapModel_busWrite
  refine wpR_ltv (fun m1 e2 => ?_)
  have i3 : IY G K m1 := by rw [e2]; exact hI.s0_0 _
  refine wpR_eq (x := (m1.1 0 27 : Int32).toInt) (y := 0) rfl (rfl : (0 : Int32).toInt = 0) (fun c4 => ?_) (fun c4 => ?_)
  · skip
    unfold q_ChipMapModel_busWrite_21
    refine wpR_eq (x := (-1)) (y := (-1)) (by decide : (-1 : Int32).toInt = -1) (by decide : (-1 : Int32).toInt = -1) (fun c5 => ?_) (fun c5 => ?_)
    · skip
      exact wpR_some ⟨(i3.mono (by omega)), trivial⟩
    · skip
      refine wpR_lt ?_
      refine wpR_ro (w_ChipMapModel_firstBroken i3 (-1) (a2 &&& 65535)) (fun u6 h7 => ?_)
      have z9 : (0 : Int32).toInt = 0 := rfl
      have z10 : (-1 : Int32).toInt = -1 := by decide
      exact w_ChipMapModel_busWrite_48 (by omega) 4000 m1 (-1) (a2 &&& 65535) u6 0 i3 (by omega) (by omega) (by omega)
  · skip
    refine wpR_ro (w_ChipMapModel_registerAt i3 a1) (fun u11 h12 => ?_)
    unfold q_ChipMapModel_busWrite_21
    refine wpR_eq (x := u11.toInt) (y := (-1)) rfl (by decide : (-1 : Int32).toInt = -1) (fun c14 => ?_) (fun c14 => ?_)
    · skip
      exact wpR_some ⟨(i3.mono (by omega)), trivial⟩
    · skip
      refine wpR_lt ?_
      refine wpR_ro (w_ChipMapModel_firstBroken i3 u11 (a2 &&& 65535)) (fun u15 h16 => ?_)
      have z18 : (0 : Int32).toInt = 0 := rfl
      exact w_ChipMapModel_busWrite_48 (by omega) 4000 m1 u11 (a2 &&& 65535) u15 0 i3 (by omega) (by omega) (by omega)
theorem w_ChipMapModel_busRead {G : Gy} {K : Int} {M : Mm} (hI : IY G K M) (hK : K + 1 ≤ 2000000000)  (a1 : Int32) : wpR (q_ChipMapModel_busRead M a1) (fun M' r => IY G (K + 1) M' ∧ True) := by
  unfold q_ChipMapModel_busRead
  refine wpR_ltv (fun m1 e2 => ?_)
  have i3 : IY G K m1 := by rw [e2]; exact hI.s0_0 _
  refine wpR_eq (x := (m1.1 0 27 : Int32).toInt) (y := 0) rfl (rfl : (0 : Int32).toInt = 0) (fun c4 => ?_) (fun c4 => ?_)
  · skip
    unfold q_ChipMapModel_busRead_21
    refine wpR_eq (x := (-1)) (y := (-1)) (by decide : (-1 : Int32).toInt = -1) (by decide : (-1 : Int32).toInt = -1) (fun c5 => ?_) (fun c5 => ?_)
    · skip
      exact wpR_some ⟨(i3.mono (by omega)), trivial⟩
    · skip
      have z6 : (-1 : Int32).toInt = -1 := by decide
      refine wpR_cl (w_ChipMapModel_read i3 (by omega) (-1) (by omega)) (fun m8 u7 h9 => ?_)
      have i10 := h9.1
      exact wpR_some ⟨i10, trivial⟩
  · skip
    refine wpR_ro (w_ChipMapModel_registerAt i3 a1) (fun u11 h12 => ?_)
    unfold q_ChipMapModel_busRead_21
    refine wpR_eq (x := u11.toInt) (y := (-1)) rfl (by decide : (-1 : Int32).toInt = -1) (fun c14 => ?_) (fun c14 => ?_)
    · skip
      exact wpR_some ⟨(i3.mono (by omega)), trivial⟩
    · skip
      refine wpR_cl (w_ChipMapModel_read i3 (by omega) u11 (by omega)) (fun m16 u15 h17 => ?_)
      have i18 := h17.1
      exact wpR_some ⟨i18, trivial⟩
theorem w_ChipMapModel_poke {G : Gy} {K : Int} {M : Mm} (hI : IY G K M)  (a1 : Int32) (a2 : Int32) : wpR (q_ChipMapModel_poke M a1 a2) (fun M' r => IY G K M' ∧ True) := by
  unfold q_ChipMapModel_poke
  refine wpR_ltv (fun m1 e2 => ?_)
  have i3 : IY G K m1 := by rw [e2]; exact hI.s0_0 _
  refine wpR_ro (w_ChipMapModel_isField i3 a1) (fun u4 h5 => ?_)
  refine wpR_eq (x := u4.toInt) (y := 0) rfl (rfl : (0 : Int32).toInt = 0) (fun c7 => ?_) (fun c7 => ?_)
  · skip
    exact wpR_some ⟨i3, trivial⟩
  · skip
    have k8 : 0 ≤ (a1 : Int32).toInt ∧ (a1 : Int32).toInt < ((26 : Nat) : Int) := by omega
    refine wpR_ix (vI k8) ?_
    refine wpR_eq (x := (m1.1 24 (a1 : Int32).toNatClampNeg : Int32).toInt) (y := 114) rfl (rfl : (114 : Int32).toInt = 114) (fun c9 => ?_) (fun c9 => ?_)
    · skip
      unfold q_ChipMapModel_poke_46
      refine wpR_ro (w_ChipMapModel_isFit i3 a1 a2 (by omega)) (fun u10 h11 => ?_)
      refine wpR_eq (x := u10.toInt) (y := 0) rfl (rfl : (0 : Int32).toInt = 0) (fun c13 => ?_) (fun c13 => ?_)
      · skip
        exact wpR_some ⟨i3, trivial⟩
      · skip
        have k14 : 0 ≤ (a1 : Int32).toInt ∧ (a1 : Int32).toInt < ((78 : Nat) : Int) := by omega
        refine wpR_ix (vI k14) ?_
        refine wpR_ltv (fun m15 e16 => ?_)
        have i17 : IY G K m15 := by rw [e16]; exact i3.s33 _
        exact wpR_some ⟨i17, trivial⟩
    · skip
      refine wpR_ix (vI k8) ?_
      refine wpR_eq (x := (m1.1 24 (a1 : Int32).toNatClampNeg : Int32).toInt) (y := 99) rfl (rfl : (99 : Int32).toInt = 99) (fun c18 => ?_) (fun c18 => ?_)
      · skip
        unfold q_ChipMapModel_poke_46
        refine wpR_ro (w_ChipMapModel_isFit i3 a1 a2 (by omega)) (fun u19 h20 => ?_)
        refine wpR_eq (x := u19.toInt) (y := 0) rfl (rfl : (0 : Int32).toInt = 0) (fun c22 => ?_) (fun c22 => ?_)
        · skip
          exact wpR_some ⟨i3, trivial⟩
        · skip
          have k23 : 0 ≤ (a1 : Int32).toInt ∧ (a1 : Int32).toInt < ((78 : Nat) : Int) := by omega
          refine wpR_ix (vI k23) ?_
          refine wpR_ltv (fun m24 e25 => ?_)
          have i26 : IY G K m24 := by rw [e25]; exact i3.s33 _
          exact wpR_some ⟨i26, trivial⟩
      · skip
        refine wpR_ix (vI k8) ?_
        refine wpR_eq (x := (m1.1 24 (a1 : Int32).toNatClampNeg : Int32).toInt) (y := 116) rfl (rfl : (116 : Int32).toInt = 116) (fun c27 => ?_) (fun c27 => ?_)
        · skip
          unfold q_ChipMapModel_poke_46
          refine wpR_ro (w_ChipMapModel_isFit i3 a1 a2 (by omega)) (fun u28 h29 => ?_)
          refine wpR_eq (x := u28.toInt) (y := 0) rfl (rfl : (0 : Int32).toInt = 0) (fun c31 => ?_) (fun c31 => ?_)
          · skip
            exact wpR_some ⟨i3, trivial⟩
          · skip
            have k32 : 0 ≤ (a1 : Int32).toInt ∧ (a1 : Int32).toInt < ((78 : Nat) : Int) := by omega
            refine wpR_ix (vI k32) ?_
            refine wpR_ltv (fun m33 e34 => ?_)
            have i35 : IY G K m33 := by rw [e34]; exact i3.s33 _
            exact wpR_some ⟨i35, trivial⟩
        · skip
          exact wpR_some ⟨i3, trivial⟩
theorem w_ChipMapModel_still_4 {G : Gy} {K : Int} {M : Mm} (hI : IY G K M) : ∀ (n' : Nat) (v1 : Int32) (v2 : Int32) (v3 : Int32), (0 ≤ v3.toInt ∧ v3.toInt ≤ 26) → 26 - v3.toInt < (n' : Int) → wpR (q_ChipMapModel_still_4 n' M v1 v2 v3) (fun M' r => M = M' ∧ True) := by
  intro n'
  induction n' with
  | zero =>
    intro v1 v2 v3 p0 hn
    exfalso; omega
  | succ n' ih =>
    intro v1 v2 v3 p0 hn
    rw [q_ChipMapModel_still_4]
    refine wpR_le (x := 26) (y := v3.toInt) (rfl : (26 : Int32).toInt = 26) rfl (fun c1 => ?_) (fun c1 => ?_)
    · skip
      exact wpR_some ⟨rfl, trivial⟩
    · skip
      refine wpR_ro (w_ChipMapModel_isIn hI v3 v1 (by omega)) (fun u2 h3 => ?_)
      refine wpR_eq (x := u2.toInt) (y := 0) rfl (rfl : (0 : Int32).toInt = 0) (fun c5 => ?_) (fun c5 => ?_)
      · skip
        unfold q_ChipMapModel_still_44
        unfold q_ChipMapModel_still_45
        refine wpR_lt ?_
        have z6 : (v3 + 1 : Int32).toInt = v3.toInt + 1 := iadd rfl (rfl : (1 : Int32).toInt = 1) (by omega) (by omega)
        exact ih v1 (v2 ||| 0) (v3 + 1) (by omega) (by omega)
      · skip
        refine wpR_ro (w_ChipMapModel_isStored hI v3 (by omega)) (fun u7 h8 => ?_)
        refine wpR_eq (x := u7.toInt) (y := 0) rfl (rfl : (0 : Int32).toInt = 0) (fun c10 => ?_) (fun c10 => ?_)
        · skip
          unfold q_ChipMapModel_still_44
          unfold q_ChipMapModel_still_45
          refine wpR_lt ?_
          have z11 : (v3 + 1 : Int32).toInt = v3.toInt + 1 := iadd rfl (rfl : (1 : Int32).toInt = 1) (by omega) (by omega)
          exact ih v1 (v2 ||| 0) (v3 + 1) (by omega) (by omega)
        · skip
          have k12 : 0 ≤ (v3 : Int32).toInt ∧ (v3 : Int32).toInt < ((78 : Nat) : Int) := by omega
          refine wpR_ix (vI k12) ?_
          have k13 : 0 ≤ (v3 : Int32).toInt ∧ (v3 : Int32).toInt < ((26 : Nat) : Int) := by omega
          refine wpR_ix (vI k13) ?_
          unfold q_ChipMapModel_still_45
          refine wpR_lt ?_
          have z14 : (v3 + 1 : Int32).toInt = v3.toInt + 1 := iadd rfl (rfl : (1 : Int32).toInt = 1) (by omega) (by omega)
          exact ih v1 (v2 ||| (((M.1 33 (v3 : Int32).toNatClampNeg) : Int32) <<< ((M.1 26 (v3 : Int32).toNatClampNeg) &&& 31))) (v3 + 1) (by omega) (by omega)
theorem w_ChipMapModel_still {G : Gy} {K : Int} {M : Mm} (hI : IY G K M)  (a1 : Int32) : wpR (q_ChipMapModel_still M a1) (fun M' r => M = M' ∧ True) := by
  unfold q_ChipMapModel_still
  have z1 : (0 : Int32).toInt = 0 := rfl
  exact w_ChipMapModel_still_4 hI 4000 a1 0 0 (by omega) (by omega)
theorem w_ChipMapModel_with {G : Gy} {K : Int} {M : Mm} (hI : IY G K M)  (a1 : Int32) (a2 : Int32) (a3 : Int32) (p0 : 0 ≤ a2.toInt ∧ a2.toInt ≤ 25) : wpR (q_ChipMapModel_with M a1 a2 a3) (fun M' r => M = M' ∧ True) := by
  unfold q_ChipMapModel_with
  have k1 : 0 ≤ (a2 : Int32).toInt ∧ (a2 : Int32).toInt < ((26 : Nat) : Int) := by omega
  refine wpR_ix (vI k1) ?_
  refine wpR_ix (vI k1) ?_
  refine wpR_ix (vI k1) ?_
  exact wpR_some ⟨rfl, trivial⟩
theorem w_ChipMapModel_operate {G : Gy} {K : Int} {M : Mm} (hI : IY G K M) (hK : K + 1 ≤ 2000000000)  (a1 : Int32) (a2 : Int32) (p0 : 0 ≤ a1.toInt ∧ a1.toInt ≤ 15) : wpR (q_ChipMapModel_operate M a1 a2) (fun M' r => IY G (K + 1) M' ∧ True) := by
  unfold q_ChipMapModel_operate
  refine wpR_eq (x := (M.1 0 55 : Int32).toInt) (y := 0) rfl (rfl : (0 : Int32).toInt = 0) (fun c1 => ?_) (fun c1 => ?_)
  · skip
    refine wpR_ro (w_ChipMapModel_firstBroken hI a1 a2) (fun u2 h3 => ?_)
    refine wpR_eq (x := u2.toInt) (y := (-1)) rfl (by decide : (-1 : Int32).toInt = -1) (fun c5 => ?_) (fun c5 => ?_)
    · skip
      refine wpR_cl (w_ChipMapModel_write hI (by omega) a1 a2 (by omega)) (fun m7 u6 h8 => ?_)
      have i9 := h8.1
      exact wpR_some ⟨i9, trivial⟩
    · skip
      refine wpR_ltv (fun m10 e11 => ?_)
      have i12 : IY G K m10 := by rw [e11]; exact hI.s0_55 _
      refine wpR_ltv (fun m13 e14 => ?_)
      have i15 : IY G K m13 := by rw [e14]; exact i12.s0_56 _
      exact wpR_some ⟨(i15.mono (by omega)), trivial⟩
  · skip
    exact wpR_some ⟨(hI.mono (by omega)), trivial⟩
theorem w_ChipMapModel_reach {G : Gy} {K : Int} {M : Mm} (hI : IY G K M) (hK : K + 1 ≤ 2000000000)  (a1 : Int32) (p0 : 0 ≤ a1.toInt ∧ a1.toInt ≤ 15) : wpR (q_ChipMapModel_reach M a1) (fun M' r => IY G (K + 1) M' ∧ True) := by
  unfold q_ChipMapModel_reach
  refine wpR_ro (w_ChipMapModel_isThere hI a1 (by omega)) (fun u1 h2 => ?_)
  refine wpR_eq (x := u1.toInt) (y := 0) rfl (rfl : (0 : Int32).toInt = 0) (fun c4 => ?_) (fun c4 => ?_)
  · skip
    have k5 : 0 ≤ (a1 : Int32).toInt ∧ (a1 : Int32).toInt < ((16 : Nat) : Int) := by omega
    refine wpR_ix (vI k5) ?_
    refine wpR_lt ?_
    have z6 := hI.bank ((a1 : Int32).toNatClampNeg)
    have k7 : 0 ≤ ((M.1 21 (a1 : Int32).toNatClampNeg) : Int32).toInt ∧ ((M.1 21 (a1 : Int32).toNatClampNeg) : Int32).toInt < ((26 : Nat) : Int) := by omega
    refine wpR_ix (vI k7) ?_
    refine wpR_ix (vI k7) ?_
    refine wpR_ro (w_ChipMapModel_still hI (M.1 25 ((M.1 21 (a1 : Int32).toNatClampNeg) : Int32).toNatClampNeg)) (fun u8 _ => ?_)
    refine wpR_ix (vI k5) ?_
    refine wpR_ro (w_ChipMapModel_with hI u8 (M.1 21 (a1 : Int32).toNatClampNeg) (M.1 22 (a1 : Int32).toNatClampNeg) (by omega)) (fun u10 _ => ?_)
    have z12 := hI.inn (((M.1 21 (a1 : Int32).toNatClampNeg) : Int32).toNatClampNeg)
    refine wpR_cl (w_ChipMapModel_operate hI (by omega) (M.1 25 ((M.1 21 (a1 : Int32).toNatClampNeg) : Int32).toNatClampNeg) u10 (by omega)) (fun m14 u13 h15 => ?_)
    have i16 := h15.1
    exact wpR_some ⟨i16, trivial⟩
  · skip
    exact wpR_some ⟨(hI.mono (by omega)), trivial⟩
theorem w_ChipMapModel_isPut {G : Gy} {K : Int} {M : Mm} (hI : IY G K M)  (a1 : Int32) (a2 : Int32) : wpR (q_ChipMapModel_isPut M a1 a2) (fun M' r => M = M' ∧ (0 ≤ r.toInt ∧ r.toInt ≤ 1 ∧ (r.toInt ≠ 0 → 0 ≤ a1.toInt ∧ a1.toInt ≤ 25))) := by
  unfold q_ChipMapModel_isPut
  refine wpR_ro (w_ChipMapModel_isField hI a1) (fun u1 h2 => ?_)
  refine wpR_eq (x := u1.toInt) (y := 0) rfl (rfl : (0 : Int32).toInt = 0) (fun c4 => ?_) (fun c4 => ?_)
  · skip
    have z5 : (0 : Int32).toInt = 0 := rfl
    exact wpR_some ⟨rfl, (by omega)⟩
  · skip
    have k6 : 0 ≤ (a1 : Int32).toInt ∧ (a1 : Int32).toInt < ((26 : Nat) : Int) := by omega
    refine wpR_ix (vI k6) ?_
    refine wpR_eq (x := (M.1 24 (a1 : Int32).toNatClampNeg : Int32).toInt) (y := 114) rfl (rfl : (114 : Int32).toInt = 114) (fun c7 => ?_) (fun c7 => ?_)
    · skip
      have z8 : (0 : Int32).toInt = 0 := rfl
      exact wpR_some ⟨rfl, (by omega)⟩
    · skip
      refine wpR_ix (vI k6) ?_
      refine wpR_eq (x := (M.1 24 (a1 : Int32).toNatClampNeg : Int32).toInt) (y := 99) rfl (rfl : (99 : Int32).toInt = 99) (fun c9 => ?_) (fun c9 => ?_)
      · skip
        have z10 : (0 : Int32).toInt = 0 := rfl
        exact wpR_some ⟨rfl, (by omega)⟩
      · skip
        refine wpR_ro (w_ChipMapModel_isFit hI a1 a2 (by omega)) (fun u11 h12 => ?_)
        refine wpR_eq (x := u11.toInt) (y := 0) rfl (rfl : (0 : Int32).toInt = 0) (fun c14 => ?_) (fun c14 => ?_)
        · skip
          have z15 : (0 : Int32).toInt = 0 := rfl
          exact wpR_some ⟨rfl, (by omega)⟩
        · skip
          have z16 : (1 : Int32).toInt = 1 := rfl
          exact wpR_some ⟨rfl, (by omega)⟩
theorem w_ChipMapModel_doPut {G : Gy} {K : Int} {M : Mm} (hI : IY G K M) (hK : K + 2 ≤ 2000000000)  (a1 : Int32) (a2 : Int32) (p0 : 0 ≤ a1.toInt ∧ a1.toInt ≤ 25) : wpR (q_ChipMapModel_doPut M a1 a2) (fun M' r => IY G (K + 2) M' ∧ True) := by
  unfold q_ChipMapModel_doPut
  refine wpR_ro (w_ChipMapModel_isStored hI a1 (by omega)) (fun u1 h2 => ?_)
  refine wpR_eq (x := u1.toInt) (y := 0) rfl (rfl : (0 : Int32).toInt = 0) (fun c4 => ?_) (fun c4 => ?_)
  · skip
    unfold q_ChipMapModel_doPut_19
    have k5 : 0 ≤ (a1 : Int32).toInt ∧ (a1 : Int32).toInt < ((26 : Nat) : Int) := by omega
    refine wpR_ix (vI k5) ?_
    have z6 := hI.inn ((a1 : Int32).toNatClampNeg)
    refine wpR_cl (w_ChipMapModel_reach hI (by omega) (M.1 25 (a1 : Int32).toNatClampNeg) (by omega)) (fun m8 u7 h9 => ?_)
    have i10 := h9.1
    refine wpR_ix (vI k5) ?_
    refine wpR_ix (vI k5) ?_
    refine wpR_ro (w_ChipMapModel_still i10 (m8.1 25 (a1 : Int32).toNatClampNeg)) (fun u11 _ => ?_)
    refine wpR_ro (w_ChipMapModel_with i10 u11 a1 a2 (by omega)) (fun u13 _ => ?_)
    have z15 := i10.inn ((a1 : Int32).toNatClampNeg)
    refine wpR_cl (w_ChipMapModel_operate i10 (by omega) (m8.1 25 (a1 : Int32).toNatClampNeg) u13 (by omega)) (fun m17 u16 h18 => ?_)
    have i19 := h18.1
    exact wpR_some ⟨(i19.mono (by omega)), trivial⟩
  · skip
    have k20 : 0 ≤ (a1 : Int32).toInt ∧ (a1 : Int32).toInt < ((78 : Nat) : Int) := by omega
    refine wpR_ix (vI k20) ?_
    refine wpR_eq (x := (M.1 33 (a1 : Int32).toNatClampNeg : Int32).toInt) (y := a2.toInt) rfl rfl (fun c21 => ?_) (fun c21 => ?_)
    · skip
      exact wpR_some ⟨(hI.mono (by omega)), trivial⟩
    · skip
      unfold q_ChipMapModel_doPut_19
      have k22 : 0 ≤ (a1 : Int32).toInt ∧ (a1 : Int32).toInt < ((26 : Nat) : Int) := by omega
      refine wpR_ix (vI k22) ?_
      have z23 := hI.inn ((a1 : Int32).toNatClampNeg)
      refine wpR_cl (w_ChipMapModel_reach hI (by omega) (M.1 25 (a1 : Int32).toNatClampNeg) (by omega)) (fun m25 u24 h26 => ?_)
      have i27 := h26.1
      refine wpR_ix (vI k22) ?_
      refine wpR_ix (vI k22) ?_
      refine wpR_ro (w_ChipMapModel_still i27 (m25.1 25 (a1 : Int32).toNatClampNeg)) (fun u28 _ => ?_)
      refine wpR_ro (w_ChipMapModel_with i27 u28 a1 a2 (by omega)) (fun u30 _ => ?_)
      have z32 := i27.inn ((a1 : Int32).toNatClampNeg)
      refine wpR_cl (w_ChipMapModel_operate i27 (by omega) (m25.1 25 (a1 : Int32).toNatClampNeg) u30 (by omega)) (fun m34 u33 h35 => ?_)
      have i36 := h35.1
      exact wpR_some ⟨(i36.mono (by omega)), trivial⟩
theorem w_ChipMapModel_isFetch {G : Gy} {K : Int} {M : Mm} (hI : IY G K M)  (a1 : Int32) : wpR (q_ChipMapModel_isFetch M a1) (fun M' r => M = M' ∧ (0 ≤ r.toInt ∧ r.toInt ≤ 1 ∧ (r.toInt ≠ 0 → 0 ≤ a1.toInt ∧ a1.toInt ≤ 25))) := by
  unfold q_ChipMapModel_isFetch
  refine wpR_ro (w_ChipMapModel_isField hI a1) (fun u1 h2 => ?_)
  refine wpR_eq (x := u1.toInt) (y := 0) rfl (rfl : (0 : Int32).toInt = 0) (fun c4 => ?_) (fun c4 => ?_)
  · skip
    have z5 : (0 : Int32).toInt = 0 := rfl
    exact wpR_some ⟨rfl, (by omega)⟩
  · skip
    have k6 : 0 ≤ (a1 : Int32).toInt ∧ (a1 : Int32).toInt < ((26 : Nat) : Int) := by omega
    refine wpR_ix (vI k6) ?_
    refine wpR_eq (x := (M.1 24 (a1 : Int32).toNatClampNeg : Int32).toInt) (y := 111) rfl (rfl : (111 : Int32).toInt = 111) (fun c7 => ?_) (fun c7 => ?_)
    · skip
      have z8 : (0 : Int32).toInt = 0 := rfl
      exact wpR_some ⟨rfl, (by omega)⟩
    · skip
      have z9 : (1 : Int32).toInt = 1 := rfl
      exact wpR_some ⟨rfl, (by omega)⟩
theorem w_ChipMapModel_doFetch {G : Gy} {K : Int} {M : Mm} (hI : IY G K M) (hK : K + 2 ≤ 2000000000)  (a1 : Int32) (p0 : 0 ≤ a1.toInt ∧ a1.toInt ≤ 25) : wpR (q_ChipMapModel_doFetch M a1) (fun M' r => IY G (K + 2) M' ∧ True) := by
  unfold q_ChipMapModel_doFetch
  have k1 : 0 ≤ (a1 : Int32).toInt ∧ (a1 : Int32).toInt < ((78 : Nat) : Int) := by omega
  refine wpR_ix (vI k1) ?_
  refine wpR_ltv (fun m2 e3 => ?_)
  have i4 : IY G K m2 := by rw [e3]; exact hI.s0_57 _
  have k5 : 0 ≤ (a1 : Int32).toInt ∧ (a1 : Int32).toInt < ((26 : Nat) : Int) := by omega
  refine wpR_ix (vI k5) ?_
  refine wpR_eq (x := (m2.1 24 (a1 : Int32).toNatClampNeg : Int32).toInt) (y := 119) rfl (rfl : (119 : Int32).toInt = 119) (fun c6 => ?_) (fun c6 => ?_)
  · skip
    exact wpR_some ⟨(i4.mono (by omega)), trivial⟩
  · skip
    refine wpR_ix (vI k5) ?_
    have z7 := i4.inn ((a1 : Int32).toNatClampNeg)
    refine wpR_cl (w_ChipMapModel_reach i4 (by omega) (m2.1 25 (a1 : Int32).toNatClampNeg) (by omega)) (fun m9 u8 h10 => ?_)
    have i11 := h10.1
    refine wpR_eq (x := (m9.1 0 55 : Int32).toInt) (y := 0) rfl (rfl : (0 : Int32).toInt = 0) (fun c12 => ?_) (fun c12 => ?_)
    · skip
      refine wpR_ix (vI k1) ?_
      refine wpR_ltv (fun m13 e14 => ?_)
      have i15 : IY G (K + 1) m13 := by rw [e14]; exact i11.s0_57 _
      refine wpR_ix (vI k5) ?_
      have z16 := i15.inn ((a1 : Int32).toNatClampNeg)
      refine wpR_cl (w_ChipMapModel_read i15 (by omega) (m13.1 25 (a1 : Int32).toNatClampNeg) (by omega)) (fun m18 u17 h19 => ?_)
      have i20 := h19.1
      refine wpR_ix (vI k5) ?_
      refine wpR_eq (x := (m18.1 24 (a1 : Int32).toNatClampNeg : Int32).toInt) (y := 99) rfl (rfl : (99 : Int32).toInt = 99) (fun c21 => ?_) (fun c21 => ?_)
      · skip
        refine wpR_ix (vI k1) ?_
        refine wpR_ltv (fun m22 e23 => ?_)
        have i24 : IY G (K + 1 + 1) m22 := by rw [e23]; exact i20.s0_57 _
        refine wpR_ix (vI k1) ?_
        refine wpR_ltv (fun m25 e26 => ?_)
        have i27 : IY G (K + 1 + 1) m25 := by rw [e26]; exact i24.s35 _
        exact wpR_some ⟨(i27.mono (by omega)), trivial⟩
      · skip
        exact wpR_some ⟨(i20.mono (by omega)), trivial⟩
    · skip
      exact wpR_some ⟨(i11.mono (by omega)), trivial⟩
theorem w_ChipMapModel_begin_21 {G : Gy} {K : Int}  : ∀ (n' : Nat) (M : Mm) (v1 : Int32), IY G K M → (0 ≤ v1.toInt ∧ v1.toInt ≤ 64) → 64 - v1.toInt < (n' : Int) → wpR (q_ChipMapModel_begin_21 n' M v1) (fun M' r => IY G K M' ∧ True) := by
  intro n'
  induction n' with
  | zero =>
    intro M v1 hI p0 hn
    exfalso; omega
  | succ n' ih =>
    intro M v1 hI p0 hn
    rw [q_ChipMapModel_begin_21]
    refine wpR_le (x := 64) (y := v1.toInt) (rfl : (64 : Int32).toInt = 64) rfl (fun c1 => ?_) (fun c1 => ?_)
    · skip
      exact wpR_some ⟨hI, trivial⟩
    · skip
      have k2 : 0 ≤ (v1 : Int32).toInt ∧ (v1 : Int32).toInt < ((64 : Nat) : Int) := by omega
      refine wpR_ix (vI k2) ?_
      refine wpR_ix (vI k2) ?_
      refine wpR_ltv (fun m3 e4 => ?_)
      have i5 : IY G K m3 := by rw [e4]; exact hI.s48 _
      refine wpR_ix (vI k2) ?_
      refine wpR_ix (vI k2) ?_
      refine wpR_ltv (fun m6 e7 => ?_)
      have i8 : IY G K m6 := by rw [e7]; exact i5.s49 _
      refine wpR_ix (vI k2) ?_
      refine wpR_ix (vI k2) ?_
      refine wpR_ltv (fun m9 e10 => ?_)
      have i11 : IY G K m9 := by rw [e10]; exact i8.s50 _
      have z12 : (v1 + 1 : Int32).toInt = v1.toInt + 1 := iadd rfl (rfl : (1 : Int32).toInt = 1) (by omega) (by omega)
      exact ih m9 (v1 + 1) i11 (by omega) (by omega)
theorem w_ChipMapModel_begin {G : Gy} {K : Int} {M : Mm} (hI : IY G K M)  : wpR (q_ChipMapModel_begin M) (fun M' r => IY G K M' ∧ True) := by
  unfold q_ChipMapModel_begin
  refine wpR_ltv (fun m1 e2 => ?_)
  have i3 : IY G K m1 := by rw [e2]; exact hI.s0_55 _
  have z4 : (0 : Int32).toInt = 0 := rfl
  have z5 : (1 : Int32).toInt = 1 := rfl
  refine wpR_cl (w_ChipMapModel_copyDevice i3 0 1 (by omega) (by omega)) (fun m7 u6 h8 => ?_)
  have i9 := h8.1
  have z13 := i9.f47
  have z14 := i9.f47
  refine wpR_ltv (fun m10 e11 => ?_)
  have i12 : IY G K m10 := by rw [e11]; exact i9.s0_71 (by omega)
  exact w_ChipMapModel_begin_21 4000 m10 0 i12 (by omega) (by omega)
theorem w_ChipMapModel_end_33 {G : Gy} {K : Int}  : ∀ (n' : Nat) (M : Mm) (v1 : Int32), IY G K M → (0 ≤ v1.toInt ∧ v1.toInt ≤ 64) → 64 - v1.toInt < (n' : Int) → wpR (q_ChipMapModel_end_33 n' M v1) (fun M' r => IY G K M' ∧ True) := by
  intro n'
  induction n' with
  | zero =>
    intro M v1 hI p0 hn
    exfalso; omega
  | succ n' ih =>
    intro M v1 hI p0 hn
    rw [q_ChipMapModel_end_33]
    refine wpR_le (x := 64) (y := v1.toInt) (rfl : (64 : Int32).toInt = 64) rfl (fun c1 => ?_) (fun c1 => ?_)
    · skip
      exact wpR_some ⟨hI, trivial⟩
    · skip
      have k2 : 0 ≤ (v1 : Int32).toInt ∧ (v1 : Int32).toInt < ((64 : Nat) : Int) := by omega
      refine wpR_ix (vI k2) ?_
      refine wpR_ix (vI k2) ?_
      refine wpR_ltv (fun m3 e4 => ?_)
      have i5 : IY G K m3 := by rw [e4]; exact hI.s37 _
      refine wpR_ix (vI k2) ?_
      refine wpR_ix (vI k2) ?_
      refine wpR_ltv (fun m6 e7 => ?_)
      have i8 : IY G K m6 := by rw [e7]; exact i5.s38 _
      refine wpR_ix (vI k2) ?_
      refine wpR_ix (vI k2) ?_
      refine wpR_ltv (fun m9 e10 => ?_)
      have i11 : IY G K m9 := by rw [e10]; exact i8.s39 _
      have z12 : (v1 + 1 : Int32).toInt = v1.toInt + 1 := iadd rfl (rfl : (1 : Int32).toInt = 1) (by omega) (by omega)
      exact ih m9 (v1 + 1) i11 (by omega) (by omega)
theorem w_ChipMapModel_end {G : Gy} {K : Int} {M : Mm} (hI : IY G K M)  : wpR (q_ChipMapModel_end M) (fun M' r => IY G K M' ∧ True) := by
  unfold q_ChipMapModel_end
  refine wpR_eq (x := (M.1 0 55 : Int32).toInt) (y := 0) rfl (rfl : (0 : Int32).toInt = 0) (fun c1 => ?_) (fun c1 => ?_)
  · skip
    exact wpR_some ⟨hI, trivial⟩
  · skip
    have z2 : (1 : Int32).toInt = 1 := rfl
    have z3 : (0 : Int32).toInt = 0 := rfl
    refine wpR_cl (w_ChipMapModel_copyDevice hI 1 0 (by omega) (by omega)) (fun m5 u4 h6 => ?_)
    have i7 := h6.1
    have z11 := i7.f71
    have z12 := i7.f47
    refine wpR_ltv (fun m8 e9 => ?_)
    have i10 : IY G K m8 := by rw [e9]; exact i7.s0_47 (by omega)
    exact w_ChipMapModel_end_33 4000 m8 0 i10 (by omega) (by omega)
theorem w_ChipMapModel_put {G : Gy} {K : Int} {M : Mm} (hI : IY G K M) (hK : K + 2 ≤ 2000000000)  (a1 : Int32) (a2 : Int32) : wpR (q_ChipMapModel_put M a1 a2) (fun M' r => IY G (K + 2) M' ∧ True) := by
  unfold q_ChipMapModel_put
  refine wpR_ltv (fun m1 e2 => ?_)
  have i3 : IY G K m1 := by rw [e2]; exact hI.s0_0 _
  refine wpR_ro (w_ChipMapModel_isPut i3 a1 a2) (fun u4 h5 => ?_)
  refine wpR_eq (x := u4.toInt) (y := 0) rfl (rfl : (0 : Int32).toInt = 0) (fun c7 => ?_) (fun c7 => ?_)
  · skip
    exact wpR_some ⟨(i3.mono (by omega)), trivial⟩
  · skip
    have z8 := i3.jc
    refine wpR_le (x := (m1.1 0 52 : Int32).toInt) (y := 0) rfl (rfl : (0 : Int32).toInt = 0) (fun c9 => ?_) (fun c9 => ?_)
    · skip
      refine wpR_cl (w_ChipMapModel_begin i3) (fun m11 u10 h12 => ?_)
      have i13 := h12.1
      refine wpR_cl (w_ChipMapModel_doPut i13 (by omega) a1 a2 (by omega)) (fun m15 u14 h16 => ?_)
      have i17 := h16.1
      refine wpR_cl (w_ChipMapModel_end i17) (fun m19 u18 h20 => ?_)
      have i21 := h20.1
      exact wpR_some ⟨i21, trivial⟩
    · skip
      exact wpR_some ⟨(i3.mono (by omega)), trivial⟩
theorem w_ChipMapModel_fetch {G : Gy} {K : Int} {M : Mm} (hI : IY G K M) (hK : K + 2 ≤ 2000000000)  (a1 : Int32) : wpR (q_ChipMapModel_fetch M a1) (fun M' r => IY G (K + 2) M' ∧ True) := by
  unfold q_ChipMapModel_fetch
  refine wpR_ro (w_ChipMapModel_isFetch hI a1) (fun u1 h2 => ?_)
  refine wpR_eq (x := u1.toInt) (y := 0) rfl (rfl : (0 : Int32).toInt = 0) (fun c4 => ?_) (fun c4 => ?_)
  · skip
    refine wpR_cl (w_ChipMapModel_raise hI 1) (fun m6 u5 h7 => ?_)
    have i8 := h7.1
    exact wpR_some ⟨(i8.mono (by omega)), trivial⟩
  · skip
    have z9 := hI.jc
    refine wpR_le (x := (M.1 0 52 : Int32).toInt) (y := 0) rfl (rfl : (0 : Int32).toInt = 0) (fun c10 => ?_) (fun c10 => ?_)
    · skip
      refine wpR_cl (w_ChipMapModel_begin hI) (fun m12 u11 h13 => ?_)
      have i14 := h13.1
      refine wpR_cl (w_ChipMapModel_doFetch i14 (by omega) a1 (by omega)) (fun m16 u15 h17 => ?_)
      have i18 := h17.1
      refine wpR_cl (w_ChipMapModel_end i18) (fun m20 u19 h21 => ?_)
      have i22 := h21.1
      refine wpR_eq (x := u19.toInt) (y := (-2)) rfl (by decide : (-2 : Int32).toInt = -2) (fun c23 => ?_) (fun c23 => ?_)
      · skip
        unfold q_ChipMapModel_fetch_51
        refine wpR_ltv (fun m24 e25 => ?_)
        have i26 : IY G (K + 2) m24 := by rw [e25]; exact i22.s0_0 _
        refine wpR_eq (x := (m24.1 0 0 : Int32).toInt) (y := 0) rfl (rfl : (0 : Int32).toInt = 0) (fun c27 => ?_) (fun c27 => ?_)
        · skip
          exact wpR_some ⟨i26, trivial⟩
        · skip
          exact wpR_some ⟨i26, trivial⟩
      · skip
        unfold q_ChipMapModel_fetch_51
        refine wpR_ltv (fun m28 e29 => ?_)
        have i30 : IY G (K + 2) m28 := by rw [e29]; exact i22.s0_0 _
        refine wpR_eq (x := (m28.1 0 0 : Int32).toInt) (y := 0) rfl (rfl : (0 : Int32).toInt = 0) (fun c31 => ?_) (fun c31 => ?_)
        · skip
          exact wpR_some ⟨i30, trivial⟩
        · skip
          exact wpR_some ⟨i30, trivial⟩
    · skip
      refine wpR_cl (w_ChipMapModel_raise hI 2) (fun m33 u32 h34 => ?_)
      have i35 := h34.1
      exact wpR_some ⟨(i35.mono (by omega)), trivial⟩
theorem w_ChipMapModel_join {G : Gy} {K : Int} {M : Mm} (hI : IY G K M)  (a1 : Int32) (a2 : Int32) : wpR (q_ChipMapModel_join M a1 a2) (fun M' r => IY G K M' ∧ True) := by
  unfold q_ChipMapModel_join
  refine wpR_ltv (fun m1 e2 => ?_)
  have i3 : IY G K m1 := by rw [e2]; exact hI.s0_0 _
  have z4 : (m1.1 0 52).toInt = (M.1 0 52).toInt := by rw [e2]; rfl
  refine wpR_ro (w_ChipMapModel_isPut i3 a1 a2) (fun u5 h6 => ?_)
  refine wpR_eq (x := u5.toInt) (y := 0) rfl (rfl : (0 : Int32).toInt = 0) (fun c8 => ?_) (fun c8 => ?_)
  · skip
    exact wpR_some ⟨i3, trivial⟩
  · skip
    have z9 := i3.jc
    refine wpR_eq (x := (m1.1 0 52 : Int32).toInt) (y := 8) rfl (rfl : (8 : Int32).toInt = 8) (fun c10 => ?_) (fun c10 => ?_)
    · skip
      exact wpR_some ⟨i3, trivial⟩
    · skip
      have k11 : 0 ≤ ((m1.1 0 52) : Int32).toInt ∧ ((m1.1 0 52) : Int32).toInt < ((8 : Nat) : Int) := by omega
      refine wpR_ix (vI k11) ?_
      refine wpR_ltv (fun m12 e13 => ?_)
      have i14 : IY G K m12 := by rw [e13]; exact i3.s40 _ (by omega)
      have z15 : (m12.1 0 52).toInt = (m1.1 0 52).toInt := by rw [e13]; rfl
      have z16 := i14.jc
      have k17 : 0 ≤ ((m12.1 0 52) : Int32).toInt ∧ ((m12.1 0 52) : Int32).toInt < ((8 : Nat) : Int) := by omega
      refine wpR_ix (vI k17) ?_
      refine wpR_ltv (fun m18 e19 => ?_)
      have i20 : IY G K m18 := by rw [e19]; exact i14.s41 _
      have z21 : (m18.1 0 52).toInt = (m12.1 0 52).toInt := by rw [e19]; rfl
      have z25 := i20.jc
      have z26 : ((m18.1 0 52) + 1 : Int32).toInt = (m18.1 0 52 : Int32).toInt + 1 := iadd rfl (rfl : (1 : Int32).toInt = 1) (by omega) (by omega)
      refine wpR_ltv (fun m22 e23 => ?_)
      have i24 : IY G K m22 := by rw [e23]; exact i20.s0_52 (by omega)
      have z27 : (m22.1 0 52).toInt = (((m18.1 0 52) + 1) : Int32).toInt := by rw [e23]; rfl
      exact wpR_some ⟨i24, trivial⟩
theorem w_ChipMapModel_flushRegister_126 {G : Gy} {K : Int} (hK : K + 2 ≤ 2000000000)  : ∀ (n' : Nat) (M : Mm) (v1 : Int32) (v3 : Int32) (v4 : Int32), IY G (K + 1) M → (0 ≤ v4.toInt ∧ v4.toInt ≤ 8) → (0 ≤ v1.toInt ∧ v1.toInt ≤ 15) → 8 - v4.toInt < (n' : Int) → wpR (q_ChipMapModel_flushRegister_126 n' M v1 v3 v4) (fun M' r => IY G (K + 2) M' ∧ True) := by
  intro n'
  induction n' with
  | zero =>
    intro M v1 v3 v4 hI p0 p1 hn
    exfalso; omega
  | succ n' ih =>
    intro M v1 v3 v4 hI p0 p1 hn
    rw [q_ChipMapModel_flushRegister_126]
    have z1 := hI.jc
    refine wpR_le (x := (M.1 0 52 : Int32).toInt) (y := v4.toInt) rfl rfl (fun c2 => ?_) (fun c2 => ?_)
    · skip
      refine wpR_cl (w_ChipMapModel_operate hI (by omega) v1 v3 (by omega)) (fun m4 u3 h5 => ?_)
      have i6 := h5.1
      exact wpR_some ⟨(i6.mono (by omega)), trivial⟩
    · skip
      have k7 : 0 ≤ (v4 : Int32).toInt ∧ (v4 : Int32).toInt < ((8 : Nat) : Int) := by omega
      refine wpR_ix (vI k7) ?_
      refine wpR_lt ?_
      have z8 := hI.jf ((v4 : Int32).toNatClampNeg)
      have k9 : 0 ≤ ((M.1 40 (v4 : Int32).toNatClampNeg) : Int32).toInt ∧ ((M.1 40 (v4 : Int32).toNatClampNeg) : Int32).toInt < ((26 : Nat) : Int) := by omega
      refine wpR_ix (vI k9) ?_
      have z10 := hI.inn (((M.1 40 (v4 : Int32).toNatClampNeg) : Int32).toNatClampNeg)
      refine wpR_eq (x := (M.1 25 ((M.1 40 (v4 : Int32).toNatClampNeg) : Int32).toNatClampNeg : Int32).toInt) (y := v1.toInt) rfl rfl (fun c11 => ?_) (fun c11 => ?_)
      · skip
        refine wpR_ro (w_ChipMapModel_isStored hI (M.1 40 (v4 : Int32).toNatClampNeg) (by omega)) (fun u12 h13 => ?_)
        refine wpR_eq (x := u12.toInt) (y := 0) rfl (rfl : (0 : Int32).toInt = 0) (fun c15 => ?_) (fun c15 => ?_)
        · skip
          refine wpR_ro (w_ChipMapModel_part hI (M.1 40 (v4 : Int32).toNatClampNeg) v3 (by omega)) (fun u16 _ => ?_)
          refine wpR_ix (vI k7) ?_
          unfold q_ChipMapModel_flushRegister_196
          refine wpR_ro (w_ChipMapModel_with hI v3 (M.1 40 (v4 : Int32).toNatClampNeg) (u16 ||| (M.1 41 (v4 : Int32).toNatClampNeg)) (by omega)) (fun u18 _ => ?_)
          unfold q_ChipMapModel_flushRegister_200
          have z20 : (v4 + 1 : Int32).toInt = v4.toInt + 1 := iadd rfl (rfl : (1 : Int32).toInt = 1) (by omega) (by omega)
          exact ih M v1 u18 (v4 + 1) hI (by omega) (by omega) (by omega)
        · skip
          refine wpR_ix (vI k7) ?_
          unfold q_ChipMapModel_flushRegister_196
          refine wpR_ro (w_ChipMapModel_with hI v3 (M.1 40 (v4 : Int32).toNatClampNeg) (M.1 41 (v4 : Int32).toNatClampNeg) (by omega)) (fun u21 _ => ?_)
          unfold q_ChipMapModel_flushRegister_200
          have z23 : (v4 + 1 : Int32).toInt = v4.toInt + 1 := iadd rfl (rfl : (1 : Int32).toInt = 1) (by omega) (by omega)
          exact ih M v1 u21 (v4 + 1) hI (by omega) (by omega) (by omega)
      · skip
        unfold q_ChipMapModel_flushRegister_200
        have z24 : (v4 + 1 : Int32).toInt = v4.toInt + 1 := iadd rfl (rfl : (1 : Int32).toInt = 1) (by omega) (by omega)
        exact ih M v1 v3 (v4 + 1) hI (by omega) (by omega) (by omega)
theorem w_ChipMapModel_flushRegister_16 {G : Gy} {K : Int} (hK : K + 2 ≤ 2000000000)  {kf4 : Mm → Int32 → Int32 → Int32 → Rs} {n4 : Nat} (hk4 : ∀ (M : Mm) (v1 : Int32) (v2 : Int32) (v3 : Int32), IY G K M → (0 ≤ v3.toInt ∧ v3.toInt ≤ 26) → (0 ≤ v1.toInt ∧ v1.toInt ≤ 15) → 26 - v3.toInt < (n4 : Int) → wpR (kf4 M v1 v2 v3) (fun M' r => IY G (K + 2) M' ∧ True)) : ∀ (n' : Nat) (M : Mm) (v1 : Int32) (v2 : Int32) (v3 : Int32) (v4 : Int32) (v5 : Int32), IY G K M → (0 ≤ v1.toInt ∧ v1.toInt ≤ 15) → (0 ≤ v3.toInt ∧ v3.toInt ≤ 25) → (-1 ≤ v4.toInt ∧ v4.toInt ≤ 7) → (0 ≤ v5.toInt ∧ v5.toInt ≤ 8) → (26 - v3.toInt < ((n4 : Nat) : Int) + 1) → 8 - v5.toInt < (n' : Int) → wpR (q_ChipMapModel_flushRegister_16 kf4 n' M v1 v2 v3 v4 v5) (fun M' r => IY G (K + 2) M' ∧ True) := by
  intro n'
  induction n' with
  | zero =>
    intro M v1 v2 v3 v4 v5 hI p0 p1 p2 p3 p4 hn
    exfalso; omega
  | succ n' ih =>
    intro M v1 v2 v3 v4 v5 hI p0 p1 p2 p3 p4 hn
    rw [q_ChipMapModel_flushRegister_16]
    have z1 := hI.jc
    refine wpR_le (x := (M.1 0 52 : Int32).toInt) (y := v5.toInt) rfl rfl (fun c2 => ?_) (fun c2 => ?_)
    · skip
      refine wpR_eq (x := v4.toInt) (y := (-1)) rfl (by decide : (-1 : Int32).toInt = -1) (fun c3 => ?_) (fun c3 => ?_)
      · skip
        unfold q_ChipMapModel_flushRegister_101
        have z4 : (v3 + 1 : Int32).toInt = v3.toInt + 1 := iadd rfl (rfl : (1 : Int32).toInt = 1) (by omega) (by omega)
        exact hk4 M v1 v2 (v3 + 1) hI (by omega) (by omega) (by omega)
      · skip
        have k5 : 0 ≤ (v3 : Int32).toInt ∧ (v3 : Int32).toInt < ((26 : Nat) : Int) := by omega
        refine wpR_ix (vI k5) ?_
        have z6 := hI.inn ((v3 : Int32).toNatClampNeg)
        refine wpR_eq (x := (M.1 25 (v3 : Int32).toNatClampNeg : Int32).toInt) (y := v1.toInt) rfl rfl (fun c7 => ?_) (fun c7 => ?_)
        · skip
          refine wpR_eq (x := v2.toInt) (y := 0) rfl (rfl : (0 : Int32).toInt = 0) (fun c8 => ?_) (fun c8 => ?_)
          · skip
            refine wpR_ro (w_ChipMapModel_isStored hI v3 (by omega)) (fun u9 h10 => ?_)
            refine wpR_eq (x := u9.toInt) (y := 0) rfl (rfl : (0 : Int32).toInt = 0) (fun c12 => ?_) (fun c12 => ?_)
            · skip
              unfold q_ChipMapModel_flushRegister_95
              unfold q_ChipMapModel_flushRegister_100
              unfold q_ChipMapModel_flushRegister_101
              have z13 : (v3 + 1 : Int32).toInt = v3.toInt + 1 := iadd rfl (rfl : (1 : Int32).toInt = 1) (by omega) (by omega)
              exact hk4 M v1 1 (v3 + 1) hI (by omega) (by omega) (by omega)
            · skip
              have k14 : 0 ≤ (v3 : Int32).toInt ∧ (v3 : Int32).toInt < ((78 : Nat) : Int) := by omega
              refine wpR_ix (vI k14) ?_
              have k15 : 0 ≤ (v4 : Int32).toInt ∧ (v4 : Int32).toInt < ((8 : Nat) : Int) := by omega
              refine wpR_ix (vI k15) ?_
              refine wpR_eq (x := (M.1 33 (v3 : Int32).toNatClampNeg : Int32).toInt) (y := (M.1 41 (v4 : Int32).toNatClampNeg : Int32).toInt) rfl rfl (fun c16 => ?_) (fun c16 => ?_)
              · skip
                unfold q_ChipMapModel_flushRegister_100
                unfold q_ChipMapModel_flushRegister_101
                have z17 : (v3 + 1 : Int32).toInt = v3.toInt + 1 := iadd rfl (rfl : (1 : Int32).toInt = 1) (by omega) (by omega)
                exact hk4 M v1 0 (v3 + 1) hI (by omega) (by omega) (by omega)
              · skip
                unfold q_ChipMapModel_flushRegister_95
                unfold q_ChipMapModel_flushRegister_100
                unfold q_ChipMapModel_flushRegister_101
                have z18 : (v3 + 1 : Int32).toInt = v3.toInt + 1 := iadd rfl (rfl : (1 : Int32).toInt = 1) (by omega) (by omega)
                exact hk4 M v1 1 (v3 + 1) hI (by omega) (by omega) (by omega)
          · skip
            unfold q_ChipMapModel_flushRegister_95
            unfold q_ChipMapModel_flushRegister_100
            unfold q_ChipMapModel_flushRegister_101
            have z19 : (v3 + 1 : Int32).toInt = v3.toInt + 1 := iadd rfl (rfl : (1 : Int32).toInt = 1) (by omega) (by omega)
            exact hk4 M v1 1 (v3 + 1) hI (by omega) (by omega) (by omega)
        · skip
          unfold q_ChipMapModel_flushRegister_101
          have z20 : (v3 + 1 : Int32).toInt = v3.toInt + 1 := iadd rfl (rfl : (1 : Int32).toInt = 1) (by omega) (by omega)
          exact hk4 M v1 v2 (v3 + 1) hI (by omega) (by omega) (by omega)
    · skip
      have k21 : 0 ≤ (v5 : Int32).toInt ∧ (v5 : Int32).toInt < ((8 : Nat) : Int) := by omega
      refine wpR_ix (vI k21) ?_
      have z22 := hI.jf ((v5 : Int32).toNatClampNeg)
      refine wpR_eq (x := (M.1 40 (v5 : Int32).toNatClampNeg : Int32).toInt) (y := v3.toInt) rfl rfl (fun c23 => ?_) (fun c23 => ?_)
      · skip
        unfold q_ChipMapModel_flushRegister_43
        have z24 : (v5 + 1 : Int32).toInt = v5.toInt + 1 := iadd rfl (rfl : (1 : Int32).toInt = 1) (by omega) (by omega)
        exact ih M v1 v2 v3 v5 (v5 + 1) hI (by omega) (by omega) (by omega) (by omega) (by omega) (by omega)
      · skip
        unfold q_ChipMapModel_flushRegister_43
        have z25 : (v5 + 1 : Int32).toInt = v5.toInt + 1 := iadd rfl (rfl : (1 : Int32).toInt = 1) (by omega) (by omega)
        exact ih M v1 v2 v3 v4 (v5 + 1) hI (by omega) (by omega) (by omega) (by omega) (by omega) (by omega)
theorem w_ChipMapModel_flushRegister_4 {G : Gy} {K : Int} (hK : K + 2 ≤ 2000000000)  : ∀ (n' : Nat) (M : Mm) (v1 : Int32) (v2 : Int32) (v3 : Int32), IY G K M → (0 ≤ v3.toInt ∧ v3.toInt ≤ 26) → (0 ≤ v1.toInt ∧ v1.toInt ≤ 15) → 26 - v3.toInt < (n' : Int) → wpR (q_ChipMapModel_flushRegister_4 n' M v1 v2 v3) (fun M' r => IY G (K + 2) M' ∧ True) := by
  intro n'
  induction n' with
  | zero =>
    intro M v1 v2 v3 hI p0 p1 hn
    exfalso; omega
  | succ n' ih =>
    intro M v1 v2 v3 hI p0 p1 hn
    rw [q_ChipMapModel_flushRegister_4]
    refine wpR_le (x := 26) (y := v3.toInt) (rfl : (26 : Int32).toInt = 26) rfl (fun c1 => ?_) (fun c1 => ?_)
    · skip
      refine wpR_eq (x := v2.toInt) (y := 0) rfl (rfl : (0 : Int32).toInt = 0) (fun c2 => ?_) (fun c2 => ?_)
      · skip
        exact wpR_some ⟨(hI.mono (by omega)), trivial⟩
      · skip
        refine wpR_cl (w_ChipMapModel_reach hI (by omega) v1 (by omega)) (fun m4 u3 h5 => ?_)
        have i6 := h5.1
        refine wpR_ro (w_ChipMapModel_still i6 v1) (fun u7 _ => ?_)
        have z9 : (0 : Int32).toInt = 0 := rfl
        exact w_ChipMapModel_flushRegister_126 (by omega) 4000 m4 v1 u7 0 i6 (by omega) (by omega) (by omega)
    · skip
      refine wpR_lt ?_
      have z10 : (-1 : Int32).toInt = -1 := by decide
      have z11 : (0 : Int32).toInt = 0 := rfl
      exact w_ChipMapModel_flushRegister_16 (by omega) (n4 := n') ih 4000 M v1 v2 v3 (-1) 0 hI (by omega) (by omega) (by omega) (by omega) (by omega) (by omega)
theorem w_ChipMapModel_flushRegister {G : Gy} {K : Int} {M : Mm} (hI : IY G K M) (hK : K + 2 ≤ 2000000000)  (a1 : Int32) (p0 : 0 ≤ a1.toInt ∧ a1.toInt ≤ 15) : wpR (q_ChipMapModel_flushRegister M a1) (fun M' r => IY G (K + 2) M' ∧ True) := by
  unfold q_ChipMapModel_flushRegister
  have z1 : (0 : Int32).toInt = 0 := rfl
  exact w_ChipMapModel_flushRegister_4 (by omega) 4000 M a1 0 0 hI (by omega) (by omega) (by omega)
theorem w_ChipMapModel_flush_23 {G : Gy} {K : Int} (hK : K + 16 ≤ 2000000000)  {kf11 : Mm → Int32 → Rs} {n11 : Nat} (hk11 : ∀ (M : Mm) (v1 : Int32), IY G (K + 2 * v1.toInt) M → (0 ≤ v1.toInt ∧ v1.toInt ≤ 8) → 8 - v1.toInt < (n11 : Int) → wpR (kf11 M v1) (fun M' r => IY G (K + 16) M' ∧ True)) : ∀ (n' : Nat) (M : Mm) (v1 : Int32) (v2 : Int32) (v3 : Int32), IY G (K + 2 * v1.toInt) M → (0 ≤ v1.toInt ∧ v1.toInt ≤ 7) → (0 ≤ v3.toInt ∧ v3.toInt ≤ v1.toInt) → (8 - v1.toInt < ((n11 : Nat) : Int) + 1) → v1.toInt - v3.toInt < (n' : Int) → wpR (q_ChipMapModel_flush_23 kf11 n' M v1 v2 v3) (fun M' r => IY G (K + 16) M' ∧ True) := by
  intro n'
  induction n' with
  | zero =>
    intro M v1 v2 v3 hI p0 p1 p2 hn
    exfalso; omega
  | succ n' ih =>
    intro M v1 v2 v3 hI p0 p1 p2 hn
    rw [q_ChipMapModel_flush_23]
    refine wpR_le (x := v1.toInt) (y := v3.toInt) rfl rfl (fun c1 => ?_) (fun c1 => ?_)
    · skip
      refine wpR_eq (x := v2.toInt) (y := 0) rfl (rfl : (0 : Int32).toInt = 0) (fun c2 => ?_) (fun c2 => ?_)
      · skip
        have k3 : 0 ≤ (v1 : Int32).toInt ∧ (v1 : Int32).toInt < ((8 : Nat) : Int) := by omega
        refine wpR_ix (vI k3) ?_
        have z4 := hI.jf ((v1 : Int32).toNatClampNeg)
        have k5 : 0 ≤ ((M.1 40 (v1 : Int32).toNatClampNeg) : Int32).toInt ∧ ((M.1 40 (v1 : Int32).toNatClampNeg) : Int32).toInt < ((26 : Nat) : Int) := by omega
        refine wpR_ix (vI k5) ?_
        have z6 := hI.inn (((M.1 40 (v1 : Int32).toNatClampNeg) : Int32).toNatClampNeg)
        refine wpR_cl (w_ChipMapModel_flushRegister hI (by omega) (M.1 25 ((M.1 40 (v1 : Int32).toNatClampNeg) : Int32).toNatClampNeg) (by omega)) (fun m8 u7 h9 => ?_)
        have i10 := h9.1
        unfold q_ChipMapModel_flush_88
        have z11 : (v1 + 1 : Int32).toInt = v1.toInt + 1 := iadd rfl (rfl : (1 : Int32).toInt = 1) (by omega) (by omega)
        exact hk11 m8 (v1 + 1) (i10.mono (by omega)) (by omega) (by omega)
      · skip
        unfold q_ChipMapModel_flush_88
        have z12 : (v1 + 1 : Int32).toInt = v1.toInt + 1 := iadd rfl (rfl : (1 : Int32).toInt = 1) (by omega) (by omega)
        exact hk11 M (v1 + 1) (hI.mono (by omega)) (by omega) (by omega)
    · skip
      refine wpR_eq (x := v2.toInt) (y := 0) rfl (rfl : (0 : Int32).toInt = 0) (fun c13 => ?_) (fun c13 => ?_)
      · skip
        have k14 : 0 ≤ (v3 : Int32).toInt ∧ (v3 : Int32).toInt < ((8 : Nat) : Int) := by omega
        refine wpR_ix (vI k14) ?_
        have z15 := hI.jf ((v3 : Int32).toNatClampNeg)
        have k16 : 0 ≤ ((M.1 40 (v3 : Int32).toNatClampNeg) : Int32).toInt ∧ ((M.1 40 (v3 : Int32).toNatClampNeg) : Int32).toInt < ((26 : Nat) : Int) := by omega
        refine wpR_ix (vI k16) ?_
        have k17 : 0 ≤ (v1 : Int32).toInt ∧ (v1 : Int32).toInt < ((8 : Nat) : Int) := by omega
        refine wpR_ix (vI k17) ?_
        have z18 := hI.jf ((v1 : Int32).toNatClampNeg)
        have k19 : 0 ≤ ((M.1 40 (v1 : Int32).toNatClampNeg) : Int32).toInt ∧ ((M.1 40 (v1 : Int32).toNatClampNeg) : Int32).toInt < ((26 : Nat) : Int) := by omega
        refine wpR_ix (vI k19) ?_
        have z20 := hI.inn (((M.1 40 (v3 : Int32).toNatClampNeg) : Int32).toNatClampNeg)
        have z21 := hI.inn (((M.1 40 (v1 : Int32).toNatClampNeg) : Int32).toNatClampNeg)
        refine wpR_eq (x := (M.1 25 ((M.1 40 (v3 : Int32).toNatClampNeg) : Int32).toNatClampNeg : Int32).toInt) (y := (M.1 25 ((M.1 40 (v1 : Int32).toNatClampNeg) : Int32).toNatClampNeg : Int32).toInt) rfl rfl (fun c22 => ?_) (fun c22 => ?_)
        · skip
          unfold q_ChipMapModel_flush_57
          unfold q_ChipMapModel_flush_62
          have z23 : (v3 + 1 : Int32).toInt = v3.toInt + 1 := iadd rfl (rfl : (1 : Int32).toInt = 1) (by omega) (by omega)
          exact ih M v1 1 (v3 + 1) hI (by omega) (by omega) (by omega) (by omega)
        · skip
          unfold q_ChipMapModel_flush_62
          have z24 : (v3 + 1 : Int32).toInt = v3.toInt + 1 := iadd rfl (rfl : (1 : Int32).toInt = 1) (by omega) (by omega)
          exact ih M v1 0 (v3 + 1) hI (by omega) (by omega) (by omega) (by omega)
      · skip
        unfold q_ChipMapModel_flush_57
        unfold q_ChipMapModel_flush_62
        have z25 : (v3 + 1 : Int32).toInt = v3.toInt + 1 := iadd rfl (rfl : (1 : Int32).toInt = 1) (by omega) (by omega)
        exact ih M v1 1 (v3 + 1) hI (by omega) (by omega) (by omega) (by omega)
theorem w_ChipMapModel_flush_11 {G : Gy} {K : Int} (hK : K + 16 ≤ 2000000000)  : ∀ (n' : Nat) (M : Mm) (v1 : Int32), IY G (K + 2 * v1.toInt) M → (0 ≤ v1.toInt ∧ v1.toInt ≤ 8) → 8 - v1.toInt < (n' : Int) → wpR (q_ChipMapModel_flush_11 n' M v1) (fun M' r => IY G (K + 16) M' ∧ True) := by
  intro n'
  induction n' with
  | zero =>
    intro M v1 hI p0 hn
    exfalso; omega
  | succ n' ih =>
    intro M v1 hI p0 hn
    rw [q_ChipMapModel_flush_11]
    have z1 := hI.jc
    refine wpR_le (x := (M.1 0 52 : Int32).toInt) (y := v1.toInt) rfl rfl (fun c2 => ?_) (fun c2 => ?_)
    · skip
      refine wpR_cl (w_ChipMapModel_end hI) (fun m4 u3 h5 => ?_)
      have i6 := h5.1
      refine wpR_eq (x := u3.toInt) (y := (-2)) rfl (by decide : (-2 : Int32).toInt = -2) (fun c7 => ?_) (fun c7 => ?_)
      · skip
        exact wpR_some ⟨(i6.mono (by omega)), trivial⟩
      · skip
        have z11 : (0 : Int32).toInt = 0 := rfl
        refine wpR_ltv (fun m8 e9 => ?_)
        have i10 : IY G (K + 2 * v1.toInt) m8 := by rw [e9]; exact i6.s0_52 (by omega)
        exact wpR_some ⟨(i10.mono (by omega)), trivial⟩
    · skip
      have z12 : (0 : Int32).toInt = 0 := rfl
      exact w_ChipMapModel_flush_23 (by omega) (n11 := n') ih 4000 M v1 0 0 hI (by omega) (by omega) (by omega) (by omega)
theorem w_ChipMapModel_flush {G : Gy} {K : Int} {M : Mm} (hI : IY G K M) (hK : K + 16 ≤ 2000000000)  : wpR (q_ChipMapModel_flush M) (fun M' r => IY G (K + 16) M' ∧ True) := by
  unfold q_ChipMapModel_flush
  refine wpR_ltv (fun m1 e2 => ?_)
  have i3 : IY G K m1 := by rw [e2]; exact hI.s0_0 _
  refine wpR_cl (w_ChipMapModel_begin i3) (fun m5 u4 h6 => ?_)
  have i7 := h6.1
  have z8 : (0 : Int32).toInt = 0 := rfl
  exact w_ChipMapModel_flush_11 (by omega) 4000 m5 0 (i7.mono (by omega)) (by omega) (by omega)
theorem w_ChipMapModel_drop {G : Gy} {K : Int} {M : Mm} (hI : IY G K M)  : wpR (q_ChipMapModel_drop M) (fun M' r => IY G K M' ∧ True) := by
  unfold q_ChipMapModel_drop
  refine wpR_ltv (fun m1 e2 => ?_)
  have i3 : IY G K m1 := by rw [e2]; exact hI.s0_0 _
  refine wpR_lt ?_
  have z7 : (0 : Int32).toInt = 0 := rfl
  refine wpR_ltv (fun m4 e5 => ?_)
  have i6 : IY G K m4 := by rw [e5]; exact i3.s0_52 (by omega)
  exact wpR_some ⟨i6, trivial⟩
theorem w_ChipMapModel_trace_1 {G : Gy} {K : Int} {M : Mm} (hI : IY G K M)  (a1 : Int32) (a2 : Int32) : wpR (q_ChipMapModel_trace_1 M a1 a2) (fun M' r => IY G K M' ∧ True) := by
  unfold q_ChipMapModel_trace_1
  refine wpR_ltv (fun m1 e2 => ?_)
  have i3 : IY G K m1 := by rw [e2]; exact hI.s0_0 _
  refine wpR_lw (x := a1.toInt) (y := 0) rfl (rfl : (0 : Int32).toInt = 0) (fun c4 => ?_) (fun c4 => ?_)
  · skip
    exact wpR_some ⟨i3, trivial⟩
  · skip
    refine wpR_le (x := 64) (y := a1.toInt) (rfl : (64 : Int32).toInt = 64) rfl (fun c5 => ?_) (fun c5 => ?_)
    · skip
      exact wpR_some ⟨i3, trivial⟩
    · skip
      have z6 := i3.f47
      refine wpR_le (x := (m1.1 0 47 : Int32).toInt) (y := a1.toInt) rfl rfl (fun c7 => ?_) (fun c7 => ?_)
      · skip
        exact wpR_some ⟨i3, trivial⟩
      · skip
        refine wpR_lw (x := a2.toInt) (y := 0) rfl (rfl : (0 : Int32).toInt = 0) (fun c8 => ?_) (fun c8 => ?_)
        · skip
          exact wpR_some ⟨i3, trivial⟩
        · skip
          refine wpR_le (x := a2.toInt) (y := 2) rfl (rfl : (2 : Int32).toInt = 2) (fun c9 => ?_) (fun c9 => ?_)
          · skip
            refine wpR_lt ?_
            refine wpR_eq (x := a2.toInt) (y := 0) rfl (rfl : (0 : Int32).toInt = 0) (fun c10 => ?_) (fun c10 => ?_)
            · skip
              have z11 : ((m1.1 0 47) - 1 : Int32).toInt = (m1.1 0 47 : Int32).toInt - 1 := isub rfl (rfl : (1 : Int32).toInt = 1) (by omega) (by omega)
              have z12 : (((m1.1 0 47) - 1) - a1 : Int32).toInt = (((m1.1 0 47) - 1 : Int32).toInt) - a1.toInt := isub rfl rfl (by omega) (by omega)
              have z13 := irem (a := (((m1.1 0 47) - 1) - a1)) rfl (by omega) (by omega)
              have k14 : 0 ≤ (((((m1.1 0 47) - 1) - a1) - (((m1.1 0 47) - 1) - a1) / 64 * 64) : Int32).toInt ∧ (((((m1.1 0 47) - 1) - a1) - (((m1.1 0 47) - 1) - a1) / 64 * 64) : Int32).toInt < ((64 : Nat) : Int) := by omega
              refine wpR_ix (vI k14) ?_
              exact wpR_some ⟨i3, trivial⟩
            · skip
              refine wpR_eq (x := a2.toInt) (y := 1) rfl (rfl : (1 : Int32).toInt = 1) (fun c15 => ?_) (fun c15 => ?_)
              · skip
                have z16 : ((m1.1 0 47) - 1 : Int32).toInt = (m1.1 0 47 : Int32).toInt - 1 := isub rfl (rfl : (1 : Int32).toInt = 1) (by omega) (by omega)
                have z17 : (((m1.1 0 47) - 1) - a1 : Int32).toInt = (((m1.1 0 47) - 1 : Int32).toInt) - a1.toInt := isub rfl rfl (by omega) (by omega)
                have z18 := irem (a := (((m1.1 0 47) - 1) - a1)) rfl (by omega) (by omega)
                have k19 : 0 ≤ (((((m1.1 0 47) - 1) - a1) - (((m1.1 0 47) - 1) - a1) / 64 * 64) : Int32).toInt ∧ (((((m1.1 0 47) - 1) - a1) - (((m1.1 0 47) - 1) - a1) / 64 * 64) : Int32).toInt < ((64 : Nat) : Int) := by omega
                refine wpR_ix (vI k19) ?_
                exact wpR_some ⟨i3, trivial⟩
              · skip
                have z20 : ((m1.1 0 47) - 1 : Int32).toInt = (m1.1 0 47 : Int32).toInt - 1 := isub rfl (rfl : (1 : Int32).toInt = 1) (by omega) (by omega)
                have z21 : (((m1.1 0 47) - 1) - a1 : Int32).toInt = (((m1.1 0 47) - 1 : Int32).toInt) - a1.toInt := isub rfl rfl (by omega) (by omega)
                have z22 := irem (a := (((m1.1 0 47) - 1) - a1)) rfl (by omega) (by omega)
                have k23 : 0 ≤ (((((m1.1 0 47) - 1) - a1) - (((m1.1 0 47) - 1) - a1) / 64 * 64) : Int32).toInt ∧ (((((m1.1 0 47) - 1) - a1) - (((m1.1 0 47) - 1) - a1) / 64 * 64) : Int32).toInt < ((64 : Nat) : Int) := by omega
                refine wpR_ix (vI k23) ?_
                exact wpR_some ⟨i3, trivial⟩
          · skip
            exact wpR_some ⟨i3, trivial⟩
theorem w_ChipMapModel_erase {G : Gy} {K : Int} {M : Mm} (hI : IY G K M)  : wpR (q_ChipMapModel_erase M) (fun M' r => IY G K M' ∧ True) := by
  unfold q_ChipMapModel_erase
  refine wpR_ltv (fun m1 e2 => ?_)
  have i3 : IY G K m1 := by rw [e2]; exact hI.s0_0 _
  refine wpR_lt ?_
  have z7 : (0 : Int32).toInt = 0 := rfl
  refine wpR_ltv (fun m4 e5 => ?_)
  have i6 : IY G K m4 := by rw [e5]; exact i3.s0_59 (by omega)
  exact wpR_some ⟨i6, trivial⟩
theorem w_ChipMapModel_memoryWord_4 {G : Gy} {K : Int} {M : Mm} (hI : IY G K M) : ∀ (n' : Nat) (v1 : Int32) (v2 : Int32), (0 ≤ v2.toInt ∧ v2.toInt ≤ 12) → 12 - v2.toInt < (n' : Int) → wpR (q_ChipMapModel_memoryWord_4 n' M v1 v2) (fun M' r => M = M' ∧ True) := by
  intro n'
  induction n' with
  | zero =>
    intro v1 v2 p0 hn
    exfalso; omega
  | succ n' ih =>
    intro v1 v2 p0 hn
    rw [q_ChipMapModel_memoryWord_4]
    have z1 := hI.rules
    refine wpR_le (x := (M.1 0 38 : Int32).toInt) (y := v2.toInt) rfl rfl (fun c2 => ?_) (fun c2 => ?_)
    · skip
      exact wpR_some ⟨rfl, trivial⟩
    · skip
      have k3 : 0 ≤ (v2 : Int32).toInt ∧ (v2 : Int32).toInt < ((36 : Nat) : Int) := by omega
      refine wpR_ix (vI k3) ?_
      refine wpR_eq (x := (M.1 36 (v2 : Int32).toNatClampNeg : Int32).toInt) (y := 0) rfl (rfl : (0 : Int32).toInt = 0) (fun c4 => ?_) (fun c4 => ?_)
      · skip
        unfold q_ChipMapModel_memoryWord_29
        refine wpR_lt ?_
        have z5 : (v2 + 1 : Int32).toInt = v2.toInt + 1 := iadd rfl (rfl : (1 : Int32).toInt = 1) (by omega) (by omega)
        exact ih (v1 ||| 0) (v2 + 1) (by omega) (by omega)
      · skip
        unfold q_ChipMapModel_memoryWord_29
        refine wpR_lt ?_
        have z6 : (v2 + 1 : Int32).toInt = v2.toInt + 1 := iadd rfl (rfl : (1 : Int32).toInt = 1) (by omega) (by omega)
        exact ih (v1 ||| ((1 : Int32) <<< (v2 &&& 31))) (v2 + 1) (by omega) (by omega)
theorem w_ChipMapModel_memoryWord {G : Gy} {K : Int} {M : Mm} (hI : IY G K M)  : wpR (q_ChipMapModel_memoryWord M) (fun M' r => M = M' ∧ True) := by
  unfold q_ChipMapModel_memoryWord
  have z1 : (0 : Int32).toInt = 0 := rfl
  exact w_ChipMapModel_memoryWord_4 hI 4000 0 0 (by omega) (by omega)
theorem w_ChipMapModel_isSituation_27 {G : Gy} {K : Int} {M : Mm} (hI : IY G K M) : ∀ (n' : Nat) (v1 : Int32) (v3 : Int32), (0 ≤ v3.toInt ∧ v3.toInt ≤ 26) → (0 ≤ v1.toInt ∧ v1.toInt ≤ 1000) → 26 - v3.toInt < (n' : Int) → wpR (q_ChipMapModel_isSituation_27 n' M v1 v3) (fun M' r => M = M' ∧ (0 ≤ r.toInt ∧ r.toInt ≤ 1)) := by
  intro n'
  induction n' with
  | zero =>
    intro v1 v3 p0 p1 hn
    exfalso; omega
  | succ n' ih =>
    intro v1 v3 p0 p1 hn
    rw [q_ChipMapModel_isSituation_27]
    refine wpR_le (x := 26) (y := v3.toInt) (rfl : (26 : Int32).toInt = 26) rfl (fun c1 => ?_) (fun c1 => ?_)
    · skip
      have z2 : (1 : Int32).toInt = 1 := rfl
      exact wpR_some ⟨rfl, (by omega)⟩
    · skip
      have k3 : 0 ≤ (v3 : Int32).toInt ∧ (v3 : Int32).toInt < ((26 : Nat) : Int) := by omega
      refine wpR_ix (vI k3) ?_
      refine wpR_eq (x := (M.1 23 (v3 : Int32).toNatClampNeg : Int32).toInt) (y := 0) rfl (rfl : (0 : Int32).toInt = 0) (fun c4 => ?_) (fun c4 => ?_)
      · skip
        unfold q_ChipMapModel_isSituation_72
        have z5 : (v3 + 1 : Int32).toInt = v3.toInt + 1 := iadd rfl (rfl : (1 : Int32).toInt = 1) (by omega) (by omega)
        exact ih v1 (v3 + 1) (by omega) (by omega) (by omega)
      · skip
        refine wpR_ro (w_ChipMapModel_isStored hI v3 (by omega)) (fun u6 h7 => ?_)
        refine wpR_eq (x := u6.toInt) (y := 0) rfl (rfl : (0 : Int32).toInt = 0) (fun c9 => ?_) (fun c9 => ?_)
        · skip
          unfold q_ChipMapModel_isSituation_72
          have z10 : (v3 + 1 : Int32).toInt = v3.toInt + 1 := iadd rfl (rfl : (1 : Int32).toInt = 1) (by omega) (by omega)
          exact ih v1 (v3 + 1) (by omega) (by omega) (by omega)
        · skip
          have z11 : (26 * v1 : Int32).toInt = 26 * v1.toInt := imul (rfl : (26 : Int32).toInt = 26) rfl (by omega) (by omega)
          have z12 : ((26 * v1) + v3 : Int32).toInt = ((26 * v1 : Int32).toInt) + v3.toInt := iadd rfl rfl (by omega) (by omega)
          have k13 : 0 ≤ (((26 * v1) + v3) : Int32).toInt ∧ (((26 * v1) + v3) : Int32).toInt < ((26026 : Nat) : Int) := by omega
          refine wpR_ix (vI k13) ?_
          have k14 : 0 ≤ (v3 : Int32).toInt ∧ (v3 : Int32).toInt < ((78 : Nat) : Int) := by omega
          refine wpR_ix (vI k14) ?_
          refine wpR_eq (x := (M.1 46 (((26 * v1) + v3) : Int32).toNatClampNeg : Int32).toInt) (y := (M.1 33 (v3 : Int32).toNatClampNeg : Int32).toInt) rfl rfl (fun c15 => ?_) (fun c15 => ?_)
          · skip
            unfold q_ChipMapModel_isSituation_72
            have z16 : (v3 + 1 : Int32).toInt = v3.toInt + 1 := iadd rfl (rfl : (1 : Int32).toInt = 1) (by omega) (by omega)
            exact ih v1 (v3 + 1) (by omega) (by omega) (by omega)
          · skip
            have z17 : (0 : Int32).toInt = 0 := rfl
            exact wpR_some ⟨rfl, (by omega)⟩
theorem w_ChipMapModel_isSituation {G : Gy} {K : Int} {M : Mm} (hI : IY G K M)  (a1 : Int32) (a2 : Int32) (p0 : 0 ≤ a1.toInt ∧ a1.toInt ≤ 1000) : wpR (q_ChipMapModel_isSituation M a1 a2) (fun M' r => M = M' ∧ (0 ≤ r.toInt ∧ r.toInt ≤ 1)) := by
  unfold q_ChipMapModel_isSituation
  have k1 : 0 ≤ (a1 : Int32).toInt ∧ (a1 : Int32).toInt < ((1001 : Nat) : Int) := by omega
  refine wpR_ix (vI k1) ?_
  have z2 := hI.sia ((a1 : Int32).toNatClampNeg)
  refine wpR_eq (x := (M.1 45 (a1 : Int32).toNatClampNeg : Int32).toInt) (y := a2.toInt) rfl rfl (fun c3 => ?_) (fun c3 => ?_)
  · skip
    refine wpR_ix (vI k1) ?_
    refine wpR_ro (w_ChipMapModel_memoryWord hI) (fun u4 _ => ?_)
    refine wpR_eq (x := (M.1 47 (a1 : Int32).toNatClampNeg : Int32).toInt) (y := u4.toInt) rfl rfl (fun c6 => ?_) (fun c6 => ?_)
    · skip
      have z7 : (0 : Int32).toInt = 0 := rfl
      exact w_ChipMapModel_isSituation_27 hI 4000 a1 0 (by omega) (by omega) (by omega)
    · skip
      have z8 : (0 : Int32).toInt = 0 := rfl
      exact wpR_some ⟨rfl, (by omega)⟩
  · skip
    have z9 : (0 : Int32).toInt = 0 := rfl
    exact wpR_some ⟨rfl, (by omega)⟩
theorem w_ChipMapModel_meet_82 {G : Gy} {K : Int}  : ∀ (n' : Nat) (M : Mm) (v3 : Int32), IY G K M → (0 ≤ v3.toInt ∧ v3.toInt ≤ 26) → ((M.1 0 63).toInt ≤ 999) → 26 - v3.toInt < (n' : Int) → wpR (q_ChipMapModel_meet_82 n' M v3) (fun M' r => IY G K M' ∧ True) := by
  intro n'
  induction n' with
  | zero =>
    intro M v3 hI p0 p1 hn
    exfalso; omega
  | succ n' ih =>
    intro M v3 hI p0 p1 hn
    rw [q_ChipMapModel_meet_82]
    have z1 := hI.sit
    refine wpR_le (x := 26) (y := v3.toInt) (rfl : (26 : Int32).toInt = 26) rfl (fun c2 => ?_) (fun c2 => ?_)
    · skip
      have z6 : ((M.1 0 63) + 1 : Int32).toInt = (M.1 0 63 : Int32).toInt + 1 := iadd rfl (rfl : (1 : Int32).toInt = 1) (by omega) (by omega)
      refine wpR_ltv (fun m3 e4 => ?_)
      have i5 : IY G K m3 := by rw [e4]; exact hI.s0_63 (by omega)
      have z7 : (m3.1 0 63).toInt = (((M.1 0 63) + 1) : Int32).toInt := by rw [e4]; rfl
      exact wpR_some ⟨i5, trivial⟩
    · skip
      have k8 : 0 ≤ (v3 : Int32).toInt ∧ (v3 : Int32).toInt < ((78 : Nat) : Int) := by omega
      refine wpR_ix (vI k8) ?_
      have z9 : (26 * (M.1 0 63) : Int32).toInt = 26 * (M.1 0 63 : Int32).toInt := imul (rfl : (26 : Int32).toInt = 26) rfl (by omega) (by omega)
      have z10 : ((26 * (M.1 0 63)) + v3 : Int32).toInt = ((26 * (M.1 0 63) : Int32).toInt) + v3.toInt := iadd rfl rfl (by omega) (by omega)
      have k11 : 0 ≤ (((26 * (M.1 0 63)) + v3) : Int32).toInt ∧ (((26 * (M.1 0 63)) + v3) : Int32).toInt < ((26026 : Nat) : Int) := by omega
      refine wpR_ix (vI k11) ?_
      refine wpR_ltv (fun m12 e13 => ?_)
      have i14 : IY G K m12 := by rw [e13]; exact hI.s46 _
      have z15 : (m12.1 0 63).toInt = (M.1 0 63).toInt := by rw [e13]; rfl
      have z16 : (v3 + 1 : Int32).toInt = v3.toInt + 1 := iadd rfl (rfl : (1 : Int32).toInt = 1) (by omega) (by omega)
      have z17 := i14.sit
      exact ih m12 (v3 + 1) i14 (by omega) (by omega) (by omega)
theorem w_ChipMapModel_meet_17 {G : Gy} {K : Int}  : ∀ (n' : Nat) (M : Mm) (v2 : Int32) (v3 : Int32), IY G K M → (0 ≤ v3.toInt ∧ v3.toInt ≤ 1000) → (0 ≤ v2.toInt ∧ v2.toInt ≤ 40) → 1000 - v3.toInt < (n' : Int) → wpR (q_ChipMapModel_meet_17 n' M v2 v3) (fun M' r => IY G K M' ∧ True) := by
  intro n'
  induction n' with
  | zero =>
    intro M v2 v3 hI p0 p1 hn
    exfalso; omega
  | succ n' ih =>
    intro M v2 v3 hI p0 p1 hn
    rw [q_ChipMapModel_meet_17]
    have z1 := hI.sit
    refine wpR_le (x := (M.1 0 63 : Int32).toInt) (y := v3.toInt) rfl rfl (fun c2 => ?_) (fun c2 => ?_)
    · skip
      refine wpR_eq (x := (M.1 0 63 : Int32).toInt) (y := 1000) rfl (rfl : (1000 : Int32).toInt = 1000) (fun c3 => ?_) (fun c3 => ?_)
      · skip
        refine wpR_ltv (fun m4 e5 => ?_)
        have i6 : IY G K m4 := by rw [e5]; exact hI.s0_69 _
        have z7 : (m4.1 0 63).toInt = (M.1 0 63).toInt := by rw [e5]; rfl
        exact wpR_some ⟨i6, trivial⟩
      · skip
        have k8 : 0 ≤ ((M.1 0 63) : Int32).toInt ∧ ((M.1 0 63) : Int32).toInt < ((1001 : Nat) : Int) := by omega
        refine wpR_ix (vI k8) ?_
        refine wpR_ltv (fun m9 e10 => ?_)
        have i11 : IY G K m9 := by rw [e10]; exact hI.s45 _ (by omega)
        have z12 : (m9.1 0 63).toInt = (M.1 0 63).toInt := by rw [e10]; rfl
        refine wpR_ro (w_ChipMapModel_memoryWord i11) (fun u13 _ => ?_)
        have z15 := i11.sit
        have k16 : 0 ≤ ((m9.1 0 63) : Int32).toInt ∧ ((m9.1 0 63) : Int32).toInt < ((1001 : Nat) : Int) := by omega
        refine wpR_ix (vI k16) ?_
        refine wpR_ltv (fun m17 e18 => ?_)
        have i19 : IY G K m17 := by rw [e18]; exact i11.s47 _
        have z20 : (m17.1 0 63).toInt = (m9.1 0 63).toInt := by rw [e18]; rfl
        have z21 : (0 : Int32).toInt = 0 := rfl
        have z22 := i19.sit
        exact w_ChipMapModel_meet_82 4000 m17 0 i19 (by omega) (by omega) (by omega)
    · skip
      refine wpR_ro (w_ChipMapModel_isSituation hI v3 v2 (by omega)) (fun u23 h24 => ?_)
      refine wpR_eq (x := u23.toInt) (y := 0) rfl (rfl : (0 : Int32).toInt = 0) (fun c26 => ?_) (fun c26 => ?_)
      · skip
        have z27 : (v3 + 1 : Int32).toInt = v3.toInt + 1 := iadd rfl (rfl : (1 : Int32).toInt = 1) (by omega) (by omega)
        exact ih M v2 (v3 + 1) hI (by omega) (by omega) (by omega)
      · skip
        exact wpR_some ⟨hI, trivial⟩
theorem w_ChipMapModel_meet {G : Gy} {K : Int} {M : Mm} (hI : IY G K M)  (a1 : Int32) (p0 : 0 ≤ a1.toInt ∧ a1.toInt ≤ 41) : wpR (q_ChipMapModel_meet M a1) (fun M' r => IY G K M' ∧ True) := by
  unfold q_ChipMapModel_meet
  have z1 := hI.sc
  refine wpR_lw (x := a1.toInt) (y := (M.1 0 59 : Int32).toInt) rfl rfl (fun c2 => ?_) (fun c2 => ?_)
  · skip
    unfold q_ChipMapModel_meet_14
    have z3 : (0 : Int32).toInt = 0 := rfl
    exact w_ChipMapModel_meet_17 4000 M a1 0 hI (by omega) (by omega) (by omega)
  · skip
    unfold q_ChipMapModel_meet_14
    have z4 : (0 : Int32).toInt = 0 := rfl
    have z5 : (40 : Int32).toInt = 40 := rfl
    exact w_ChipMapModel_meet_17 4000 M 40 0 hI (by omega) (by omega) (by omega)
theorem w_ChipMapModel_stand_33 {G : Gy} {K : Int}  : ∀ (n' : Nat) (M : Mm) (v1 : Int32) (v2 : Int32), IY G K M → (0 ≤ v2.toInt ∧ v2.toInt ≤ 12) → (0 ≤ v1.toInt ∧ v1.toInt ≤ 1000) → 12 - v2.toInt < (n' : Int) → wpR (q_ChipMapModel_stand_33 n' M v1 v2) (fun M' r => IY G K M' ∧ True) := by
  intro n'
  induction n' with
  | zero =>
    intro M v1 v2 hI p0 p1 hn
    exfalso; omega
  | succ n' ih =>
    intro M v1 v2 hI p0 p1 hn
    rw [q_ChipMapModel_stand_33]
    have z1 := hI.rules
    refine wpR_le (x := (M.1 0 38 : Int32).toInt) (y := v2.toInt) rfl rfl (fun c2 => ?_) (fun c2 => ?_)
    · skip
      exact wpR_some ⟨hI, trivial⟩
    · skip
      have k3 : 0 ≤ (v1 : Int32).toInt ∧ (v1 : Int32).toInt < ((1001 : Nat) : Int) := by omega
      refine wpR_ix (vI k3) ?_
      refine wpR_eq (x := ((((M.1 47 (v1 : Int32).toNatClampNeg) : Int32) >>> (v2 &&& 31)) &&& 1 : Int32).toInt) (y := 1) rfl (rfl : (1 : Int32).toInt = 1) (fun c4 => ?_) (fun c4 => ?_)
      · skip
        unfold q_ChipMapModel_stand_65
        have k5 : 0 ≤ (v2 : Int32).toInt ∧ (v2 : Int32).toInt < ((36 : Nat) : Int) := by omega
        refine wpR_ix (vI k5) ?_
        refine wpR_ltv (fun m6 e7 => ?_)
        have i8 : IY G K m6 := by rw [e7]; exact hI.s36 _
        have z9 : (v2 + 1 : Int32).toInt = v2.toInt + 1 := iadd rfl (rfl : (1 : Int32).toInt = 1) (by omega) (by omega)
        exact ih m6 v1 (v2 + 1) i8 (by omega) (by omega) (by omega)
      · skip
        unfold q_ChipMapModel_stand_65
        have k10 : 0 ≤ (v2 : Int32).toInt ∧ (v2 : Int32).toInt < ((36 : Nat) : Int) := by omega
        refine wpR_ix (vI k10) ?_
        refine wpR_ltv (fun m11 e12 => ?_)
        have i13 : IY G K m11 := by rw [e12]; exact hI.s36 _
        have z14 : (v2 + 1 : Int32).toInt = v2.toInt + 1 := iadd rfl (rfl : (1 : Int32).toInt = 1) (by omega) (by omega)
        exact ih m11 v1 (v2 + 1) i13 (by omega) (by omega) (by omega)
theorem w_ChipMapModel_stand_2 {G : Gy} {K : Int}  : ∀ (n' : Nat) (M : Mm) (v1 : Int32) (v2 : Int32), IY G K M → (0 ≤ v2.toInt ∧ v2.toInt ≤ 26) → (0 ≤ v1.toInt ∧ v1.toInt ≤ 1000) → 26 - v2.toInt < (n' : Int) → wpR (q_ChipMapModel_stand_2 n' M v1 v2) (fun M' r => IY G K M' ∧ True) := by
  intro n'
  induction n' with
  | zero =>
    intro M v1 v2 hI p0 p1 hn
    exfalso; omega
  | succ n' ih =>
    intro M v1 v2 hI p0 p1 hn
    rw [q_ChipMapModel_stand_2]
    refine wpR_le (x := 26) (y := v2.toInt) (rfl : (26 : Int32).toInt = 26) rfl (fun c1 => ?_) (fun c1 => ?_)
    · skip
      have z2 : (0 : Int32).toInt = 0 := rfl
      exact w_ChipMapModel_stand_33 4000 M v1 0 hI (by omega) (by omega) (by omega)
    · skip
      have z3 : (26 * v1 : Int32).toInt = 26 * v1.toInt := imul (rfl : (26 : Int32).toInt = 26) rfl (by omega) (by omega)
      have z4 : ((26 * v1) + v2 : Int32).toInt = ((26 * v1 : Int32).toInt) + v2.toInt := iadd rfl rfl (by omega) (by omega)
      have k5 : 0 ≤ (((26 * v1) + v2) : Int32).toInt ∧ (((26 * v1) + v2) : Int32).toInt < ((26026 : Nat) : Int) := by omega
      refine wpR_ix (vI k5) ?_
      have k6 : 0 ≤ (v2 : Int32).toInt ∧ (v2 : Int32).toInt < ((78 : Nat) : Int) := by omega
      refine wpR_ix (vI k6) ?_
      refine wpR_ltv (fun m7 e8 => ?_)
      have i9 : IY G K m7 := by rw [e8]; exact hI.s33 _
      have z10 : (v2 + 1 : Int32).toInt = v2.toInt + 1 := iadd rfl (rfl : (1 : Int32).toInt = 1) (by omega) (by omega)
      exact ih m7 v1 (v2 + 1) i9 (by omega) (by omega) (by omega)
theorem w_ChipMapModel_stand {G : Gy} {K : Int} {M : Mm} (hI : IY G K M)  (a1 : Int32) (p0 : 0 ≤ a1.toInt ∧ a1.toInt ≤ 1000) : wpR (q_ChipMapModel_stand M a1) (fun M' r => IY G K M' ∧ True) := by
  unfold q_ChipMapModel_stand
  have z1 : (0 : Int32).toInt = 0 := rfl
  exact w_ChipMapModel_stand_2 4000 M a1 0 hI (by omega) (by omega) (by omega)
theorem w_ChipMapModel_goOn {G : Gy} {K : Int} {M : Mm} (hI : IY G K M) (hK : K + 2 ≤ 2000000000)  (a1 : Int32) (p0 : 0 ≤ a1.toInt ∧ a1.toInt ≤ 1000) : wpR (q_ChipMapModel_goOn M a1) (fun M' r => IY G (K + 2) M' ∧ True) := by
  unfold q_ChipMapModel_goOn
  have k1 : 0 ≤ (a1 : Int32).toInt ∧ (a1 : Int32).toInt < ((1001 : Nat) : Int) := by omega
  refine wpR_ix (vI k1) ?_
  refine wpR_lt ?_
  have z2 := hI.sia ((a1 : Int32).toNatClampNeg)
  refine wpR_eq (x := (M.1 45 (a1 : Int32).toNatClampNeg : Int32).toInt) (y := 40) rfl (rfl : (40 : Int32).toInt = 40) (fun c3 => ?_) (fun c3 => ?_)
  · skip
    unfold q_ChipMapModel_goOn_23
    refine wpR_cl (w_ChipMapModel_stand hI a1 (by omega)) (fun m5 u4 h6 => ?_)
    have i7 := h6.1
    refine wpR_eq (x := (M.1 45 (a1 : Int32).toNatClampNeg : Int32).toInt) (y := 40) rfl (rfl : (40 : Int32).toInt = 40) (fun c8 => ?_) (fun c8 => ?_)
    · skip
      exact wpR_some ⟨(i7.mono (by omega)), trivial⟩
    · skip
      have z9 : (40 : Int32).toInt = 40 := rfl
      refine wpR_cl (w_ChipMapModel_meet i7 40 (by omega)) (fun m11 u10 h12 => ?_)
      have i13 := h12.1
      exact wpR_some ⟨(i13.mono (by omega)), trivial⟩
  · skip
    have k14 : 0 ≤ ((M.1 45 (a1 : Int32).toNatClampNeg) : Int32).toInt ∧ ((M.1 45 (a1 : Int32).toNatClampNeg) : Int32).toInt < ((40 : Nat) : Int) := by omega
    refine wpR_ix (vI k14) ?_
    have z15 := hI.f42 (((M.1 45 (a1 : Int32).toNatClampNeg) : Int32).toNatClampNeg)
    refine wpR_eq (x := (M.1 42 ((M.1 45 (a1 : Int32).toNatClampNeg) : Int32).toNatClampNeg : Int32).toInt) (y := 3) rfl (rfl : (3 : Int32).toInt = 3) (fun c16 => ?_) (fun c16 => ?_)
    · skip
      unfold q_ChipMapModel_goOn_23
      refine wpR_cl (w_ChipMapModel_stand hI a1 (by omega)) (fun m18 u17 h19 => ?_)
      have i20 := h19.1
      refine wpR_eq (x := (M.1 45 (a1 : Int32).toNatClampNeg : Int32).toInt) (y := 40) rfl (rfl : (40 : Int32).toInt = 40) (fun c21 => ?_) (fun c21 => ?_)
      · skip
        exact wpR_some ⟨(i20.mono (by omega)), trivial⟩
      · skip
        have z22 : (40 : Int32).toInt = 40 := rfl
        refine wpR_cl (w_ChipMapModel_meet i20 40 (by omega)) (fun m24 u23 h25 => ?_)
        have i26 := h25.1
        exact wpR_some ⟨(i26.mono (by omega)), trivial⟩
    · skip
      refine wpR_cl (w_ChipMapModel_stand hI a1 (by omega)) (fun m28 u27 h29 => ?_)
      have i30 := h29.1
      refine wpR_ix (vI k14) ?_
      have z31 := i30.f42 (((M.1 45 (a1 : Int32).toNatClampNeg) : Int32).toNatClampNeg)
      refine wpR_eq (x := (m28.1 42 ((M.1 45 (a1 : Int32).toNatClampNeg) : Int32).toNatClampNeg : Int32).toInt) (y := 2) rfl (rfl : (2 : Int32).toInt = 2) (fun c32 => ?_) (fun c32 => ?_)
      · skip
        refine wpR_ix (vI k14) ?_
        have z33 := i30.f44 (((M.1 45 (a1 : Int32).toNatClampNeg) : Int32).toNatClampNeg)
        refine wpR_cl (w_ChipMapModel_meet i30 (m28.1 44 ((M.1 45 (a1 : Int32).toNatClampNeg) : Int32).toNatClampNeg) (by omega)) (fun m35 u34 h36 => ?_)
        have i37 := h36.1
        have z38 : ((M.1 45 (a1 : Int32).toNatClampNeg) + 1 : Int32).toInt = (M.1 45 (a1 : Int32).toNatClampNeg : Int32).toInt + 1 := iadd rfl (rfl : (1 : Int32).toInt = 1) (by omega) (by omega)
        refine wpR_cl (w_ChipMapModel_meet i37 ((M.1 45 (a1 : Int32).toNatClampNeg) + 1) (by omega)) (fun m40 u39 h41 => ?_)
        have i42 := h41.1
        exact wpR_some ⟨(i42.mono (by omega)), trivial⟩
      · skip
        refine wpR_ltv (fun m43 e44 => ?_)
        have i45 : IY G K m43 := by rw [e44]; exact i30.s0_55 _
        refine wpR_ix (vI k14) ?_
        have z46 := i45.f42 (((M.1 45 (a1 : Int32).toNatClampNeg) : Int32).toNatClampNeg)
        refine wpR_eq (x := (m43.1 42 ((M.1 45 (a1 : Int32).toNatClampNeg) : Int32).toNatClampNeg : Int32).toInt) (y := 0) rfl (rfl : (0 : Int32).toInt = 0) (fun c47 => ?_) (fun c47 => ?_)
        · skip
          refine wpR_ix (vI k14) ?_
          refine wpR_ix (vI k14) ?_
          have z48 := i45.f43 (((M.1 45 (a1 : Int32).toNatClampNeg) : Int32).toNatClampNeg)
          refine wpR_cl (w_ChipMapModel_doPut i45 (by omega) (m43.1 43 ((M.1 45 (a1 : Int32).toNatClampNeg) : Int32).toNatClampNeg) (m43.1 44 ((M.1 45 (a1 : Int32).toNatClampNeg) : Int32).toNatClampNeg) (by omega)) (fun m50 u49 h51 => ?_)
          have i52 := h51.1
          unfold q_ChipMapModel_goOn_117
          refine wpR_eq (x := (m50.1 0 55 : Int32).toInt) (y := 0) rfl (rfl : (0 : Int32).toInt = 0) (fun c53 => ?_) (fun c53 => ?_)
          · skip
            have z54 : ((M.1 45 (a1 : Int32).toNatClampNeg) + 1 : Int32).toInt = (M.1 45 (a1 : Int32).toNatClampNeg : Int32).toInt + 1 := iadd rfl (rfl : (1 : Int32).toInt = 1) (by omega) (by omega)
            refine wpR_cl (w_ChipMapModel_meet i52 ((M.1 45 (a1 : Int32).toNatClampNeg) + 1) (by omega)) (fun m56 u55 h57 => ?_)
            have i58 := h57.1
            exact wpR_some ⟨i58, trivial⟩
          · skip
            refine wpR_eq (x := (m50.1 0 75 : Int32).toInt) (y := (-1)) rfl (by decide : (-1 : Int32).toInt = -1) (fun c59 => ?_) (fun c59 => ?_)
            · skip
              unfold q_ChipMapModel_goOn_171
              refine wpR_ltv (fun m60 e61 => ?_)
              have i62 : IY G (K + 2) m60 := by rw [e61]; exact i52.s0_75 _
              refine wpR_ltv (fun m63 e64 => ?_)
              have i65 : IY G (K + 2) m63 := by rw [e64]; exact i62.s0_68 _
              exact wpR_some ⟨i65, trivial⟩
            · skip
              refine wpR_lw (x := (M.1 45 (a1 : Int32).toNatClampNeg : Int32).toInt) (y := (m50.1 0 75 : Int32).toInt) rfl rfl (fun c66 => ?_) (fun c66 => ?_)
              · skip
                unfold q_ChipMapModel_goOn_171
                refine wpR_ltv (fun m67 e68 => ?_)
                have i69 : IY G (K + 2) m67 := by rw [e68]; exact i52.s0_75 _
                refine wpR_ltv (fun m70 e71 => ?_)
                have i72 : IY G (K + 2) m70 := by rw [e71]; exact i69.s0_68 _
                exact wpR_some ⟨i72, trivial⟩
              · skip
                refine wpR_eq (x := (M.1 45 (a1 : Int32).toNatClampNeg : Int32).toInt) (y := (m50.1 0 75 : Int32).toInt) rfl rfl (fun c73 => ?_) (fun c73 => ?_)
                · skip
                  refine wpR_le (x := ((m50.1 0 68) - 1 : Int32).toInt) (y := (m50.1 0 56 : Int32).toInt) rfl rfl (fun c74 => ?_) (fun c74 => ?_)
                  · skip
                    exact wpR_some ⟨i52, trivial⟩
                  · skip
                    unfold q_ChipMapModel_goOn_171
                    refine wpR_ltv (fun m75 e76 => ?_)
                    have i77 : IY G (K + 2) m75 := by rw [e76]; exact i52.s0_75 _
                    refine wpR_ltv (fun m78 e79 => ?_)
                    have i80 : IY G (K + 2) m78 := by rw [e79]; exact i77.s0_68 _
                    exact wpR_some ⟨i80, trivial⟩
                · skip
                  exact wpR_some ⟨i52, trivial⟩
        · skip
          refine wpR_ix (vI k14) ?_
          have z81 := i45.f43 (((M.1 45 (a1 : Int32).toNatClampNeg) : Int32).toNatClampNeg)
          refine wpR_cl (w_ChipMapModel_doFetch i45 (by omega) (m43.1 43 ((M.1 45 (a1 : Int32).toNatClampNeg) : Int32).toNatClampNeg) (by omega)) (fun m83 u82 h84 => ?_)
          have i85 := h84.1
          unfold q_ChipMapModel_goOn_117
          refine wpR_eq (x := (m83.1 0 55 : Int32).toInt) (y := 0) rfl (rfl : (0 : Int32).toInt = 0) (fun c86 => ?_) (fun c86 => ?_)
          · skip
            have z87 : ((M.1 45 (a1 : Int32).toNatClampNeg) + 1 : Int32).toInt = (M.1 45 (a1 : Int32).toNatClampNeg : Int32).toInt + 1 := iadd rfl (rfl : (1 : Int32).toInt = 1) (by omega) (by omega)
            refine wpR_cl (w_ChipMapModel_meet i85 ((M.1 45 (a1 : Int32).toNatClampNeg) + 1) (by omega)) (fun m89 u88 h90 => ?_)
            have i91 := h90.1
            exact wpR_some ⟨i91, trivial⟩
          · skip
            refine wpR_eq (x := (m83.1 0 75 : Int32).toInt) (y := (-1)) rfl (by decide : (-1 : Int32).toInt = -1) (fun c92 => ?_) (fun c92 => ?_)
            · skip
              unfold q_ChipMapModel_goOn_171
              refine wpR_ltv (fun m93 e94 => ?_)
              have i95 : IY G (K + 2) m93 := by rw [e94]; exact i85.s0_75 _
              refine wpR_ltv (fun m96 e97 => ?_)
              have i98 : IY G (K + 2) m96 := by rw [e97]; exact i95.s0_68 _
              exact wpR_some ⟨i98, trivial⟩
            · skip
              refine wpR_lw (x := (M.1 45 (a1 : Int32).toNatClampNeg : Int32).toInt) (y := (m83.1 0 75 : Int32).toInt) rfl rfl (fun c99 => ?_) (fun c99 => ?_)
              · skip
                unfold q_ChipMapModel_goOn_171
                refine wpR_ltv (fun m100 e101 => ?_)
                have i102 : IY G (K + 2) m100 := by rw [e101]; exact i85.s0_75 _
                refine wpR_ltv (fun m103 e104 => ?_)
                have i105 : IY G (K + 2) m103 := by rw [e104]; exact i102.s0_68 _
                exact wpR_some ⟨i105, trivial⟩
              · skip
                refine wpR_eq (x := (M.1 45 (a1 : Int32).toNatClampNeg : Int32).toInt) (y := (m83.1 0 75 : Int32).toInt) rfl rfl (fun c106 => ?_) (fun c106 => ?_)
                · skip
                  refine wpR_le (x := ((m83.1 0 68) - 1 : Int32).toInt) (y := (m83.1 0 56 : Int32).toInt) rfl rfl (fun c107 => ?_) (fun c107 => ?_)
                  · skip
                    exact wpR_some ⟨i85, trivial⟩
                  · skip
                    unfold q_ChipMapModel_goOn_171
                    refine wpR_ltv (fun m108 e109 => ?_)
                    have i110 : IY G (K + 2) m108 := by rw [e109]; exact i85.s0_75 _
                    refine wpR_ltv (fun m111 e112 => ?_)
                    have i113 : IY G (K + 2) m111 := by rw [e112]; exact i110.s0_68 _
                    exact wpR_some ⟨i113, trivial⟩
                · skip
                  exact wpR_some ⟨i85, trivial⟩
theorem w_ChipMapModel_check_56 {G : Gy} {K : Int} (hK : K + 2000 ≤ 2000000000)  : ∀ (n' : Nat) (M : Mm) (v1 : Int32), IY G (K + 2 * v1.toInt) M → (0 ≤ v1.toInt ∧ v1.toInt ≤ 1000) → 1000 - v1.toInt < (n' : Int) → wpR (q_ChipMapModel_check_56 n' M v1) (fun M' r => IY G (K + 2000) M' ∧ True) := by
  intro n'
  induction n' with
  | zero =>
    intro M v1 hI p0 hn
    exfalso; omega
  | succ n' ih =>
    intro M v1 hI p0 hn
    rw [q_ChipMapModel_check_56]
    have z1 := hI.sit
    refine wpR_le (x := (M.1 0 63 : Int32).toInt) (y := v1.toInt) rfl rfl (fun c2 => ?_) (fun c2 => ?_)
    · skip
      unfold q_ChipMapModel_check_82
      refine wpR_ltv (fun m3 e4 => ?_)
      have i5 : IY G (K + 2 * v1.toInt) m3 := by rw [e4]; exact hI.s0_58 _
      have z6 : (2 : Int32).toInt = 2 := rfl
      have z7 : (0 : Int32).toInt = 0 := rfl
      refine wpR_cl (w_ChipMapModel_copyDevice i5 2 0 (by omega) (by omega)) (fun m9 u8 h10 => ?_)
      have i11 := h10.1
      refine wpR_ltv (fun m12 e13 => ?_)
      have i14 : IY G (K + 2 * v1.toInt) m12 := by rw [e13]; exact i11.s0_67 _
      refine wpR_eq (x := (m12.1 0 69 : Int32).toInt) (y := 0) rfl (rfl : (0 : Int32).toInt = 0) (fun c15 => ?_) (fun c15 => ?_)
      · skip
        exact wpR_some ⟨(i14.mono (by omega)), trivial⟩
      · skip
        refine wpR_ltv (fun m16 e17 => ?_)
        have i18 : IY G (K + 2 * v1.toInt) m16 := by rw [e17]; exact i14.s0_68 _
        exact wpR_some ⟨(i18.mono (by omega)), trivial⟩
    · skip
      refine wpR_eq (x := (M.1 0 69 : Int32).toInt) (y := 0) rfl (rfl : (0 : Int32).toInt = 0) (fun c19 => ?_) (fun c19 => ?_)
      · skip
        refine wpR_cl (w_ChipMapModel_goOn hI (by omega) v1 (by omega)) (fun m21 u20 h22 => ?_)
        have i23 := h22.1
        have z24 : (v1 + 1 : Int32).toInt = v1.toInt + 1 := iadd rfl (rfl : (1 : Int32).toInt = 1) (by omega) (by omega)
        exact ih m21 (v1 + 1) (i23.mono (by omega)) (by omega) (by omega)
      · skip
        unfold q_ChipMapModel_check_82
        refine wpR_ltv (fun m25 e26 => ?_)
        have i27 : IY G (K + 2 * v1.toInt) m25 := by rw [e26]; exact hI.s0_58 _
        have z28 : (2 : Int32).toInt = 2 := rfl
        have z29 : (0 : Int32).toInt = 0 := rfl
        refine wpR_cl (w_ChipMapModel_copyDevice i27 2 0 (by omega) (by omega)) (fun m31 u30 h32 => ?_)
        have i33 := h32.1
        refine wpR_ltv (fun m34 e35 => ?_)
        have i36 : IY G (K + 2 * v1.toInt) m34 := by rw [e35]; exact i33.s0_67 _
        refine wpR_eq (x := (m34.1 0 69 : Int32).toInt) (y := 0) rfl (rfl : (0 : Int32).toInt = 0) (fun c37 => ?_) (fun c37 => ?_)
        · skip
          exact wpR_some ⟨(i36.mono (by omega)), trivial⟩
        · skip
          refine wpR_ltv (fun m38 e39 => ?_)
          have i40 : IY G (K + 2 * v1.toInt) m38 := by rw [e39]; exact i36.s0_68 _
          exact wpR_some ⟨(i40.mono (by omega)), trivial⟩
theorem w_ChipMapModel_check {G : Gy} {K : Int} {M : Mm} (hI : IY G K M) (hK : K + 2000 ≤ 2000000000)  : wpR (q_ChipMapModel_check M) (fun M' r => IY G (K + 2000) M' ∧ True) := by
  unfold q_ChipMapModel_check
  refine wpR_ltv (fun m1 e2 => ?_)
  have i3 : IY G K m1 := by rw [e2]; exact hI.s0_0 _
  refine wpR_eq (x := (m1.1 0 27 : Int32).toInt) (y := 0) rfl (rfl : (0 : Int32).toInt = 0) (fun c4 => ?_) (fun c4 => ?_)
  · skip
    exact wpR_some ⟨(i3.mono (by omega)), trivial⟩
  · skip
    have z5 : (0 : Int32).toInt = 0 := rfl
    have z6 : (2 : Int32).toInt = 2 := rfl
    refine wpR_cl (w_ChipMapModel_copyDevice i3 0 2 (by omega) (by omega)) (fun m8 u7 h9 => ?_)
    have i10 := h9.1
    refine wpR_ltv (fun m11 e12 => ?_)
    have i13 : IY G K m11 := by rw [e12]; exact i10.s0_58 _
    refine wpR_cl (w_ChipMapModel_resetDevice i13) (fun m15 u14 h16 => ?_)
    have i17 := h16.1
    refine wpR_ltv (fun m18 e19 => ?_)
    have i20 : IY G K m18 := by rw [e19]; exact i17.s0_63 (by omega)
    refine wpR_ltv (fun m21 e22 => ?_)
    have i23 : IY G K m21 := by rw [e22]; exact i20.s0_69 _
    refine wpR_ltv (fun m24 e25 => ?_)
    have i26 : IY G K m24 := by rw [e25]; exact i23.s0_75 _
    refine wpR_ltv (fun m27 e28 => ?_)
    have i29 : IY G K m27 := by rw [e28]; exact i26.s0_68 _
    refine wpR_cl (w_ChipMapModel_meet i29 0 (by omega)) (fun m31 u30 h32 => ?_)
    have i33 := h32.1
    exact w_ChipMapModel_check_56 (by omega) 4000 m31 0 (i33.mono (by omega)) (by omega) (by omega)
theorem w_ChipMapModel_found {G : Gy} {K : Int} {M : Mm} (hI : IY G K M)  (a1 : Int32) : wpR (q_ChipMapModel_found M a1) (fun M' r => IY G K M' ∧ True) := by
  unfold q_ChipMapModel_found
  refine wpR_ltv (fun m1 e2 => ?_)
  have i3 : IY G K m1 := by rw [e2]; exact hI.s0_0 _
  refine wpR_eq (x := a1.toInt) (y := 0) rfl (rfl : (0 : Int32).toInt = 0) (fun c4 => ?_) (fun c4 => ?_)
  · skip
    exact wpR_some ⟨i3, trivial⟩
  · skip
    refine wpR_eq (x := a1.toInt) (y := 1) rfl (rfl : (1 : Int32).toInt = 1) (fun c5 => ?_) (fun c5 => ?_)
    · skip
      exact wpR_some ⟨i3, trivial⟩
    · skip
      exact wpR_some ⟨i3, trivial⟩
theorem w_ChipMapModel_run_28 {G : Gy} {K : Int} (hK : K + 600 ≤ 2000000000)  : ∀ (n' : Nat) (M : Mm) (v1 : Int32) (v2 : Int32) (v3 : Int32) (v4 : Int32), IY G (K + 2 * v4.toInt) M → (0 ≤ v4.toInt ∧ v4.toInt ≤ 300) → (0 ≤ v2.toInt ∧ v2.toInt ≤ 40) → 300 - v4.toInt < (n' : Int) → wpR (q_ChipMapModel_run_28 n' M v1 v2 v3 v4) (fun M' r => IY G (K + 600) M' ∧ True) := by
  intro n'
  induction n' with
  | zero =>
    intro M v1 v2 v3 v4 hI p0 p1 hn
    exfalso; omega
  | succ n' ih =>
    intro M v1 v2 v3 v4 hI p0 p1 hn
    rw [q_ChipMapModel_run_28]
    refine wpR_le (x := 300) (y := v4.toInt) (rfl : (300 : Int32).toInt = 300) rfl (fun c1 => ?_) (fun c1 => ?_)
    · skip
      have z2 := hI.sc
      refine wpR_lw (x := v2.toInt) (y := (M.1 0 59 : Int32).toInt) rfl rfl (fun c3 => ?_) (fun c3 => ?_)
      · skip
        exact wpR_some ⟨(hI.mono (by omega)), trivial⟩
      · skip
        exact wpR_some ⟨(hI.mono (by omega)), trivial⟩
    · skip
      have z4 := hI.sc
      refine wpR_lw (x := v2.toInt) (y := (M.1 0 59 : Int32).toInt) rfl rfl (fun c5 => ?_) (fun c5 => ?_)
      · skip
        have k6 : 0 ≤ (v2 : Int32).toInt ∧ (v2 : Int32).toInt < ((40 : Nat) : Int) := by omega
        refine wpR_ix (vI k6) ?_
        refine wpR_lt ?_
        have z7 := hI.f42 ((v2 : Int32).toNatClampNeg)
        refine wpR_eq (x := (M.1 42 (v2 : Int32).toNatClampNeg : Int32).toInt) (y := 3) rfl (rfl : (3 : Int32).toInt = 3) (fun c8 => ?_) (fun c8 => ?_)
        · skip
          exact wpR_some ⟨(hI.mono (by omega)), trivial⟩
        · skip
          refine wpR_eq (x := (M.1 42 (v2 : Int32).toNatClampNeg : Int32).toInt) (y := 2) rfl (rfl : (2 : Int32).toInt = 2) (fun c9 => ?_) (fun c9 => ?_)
          · skip
            refine wpR_eq (x := (((v1 : Int32) >>> ((v3 - v3 / 32 * 32) &&& 31)) &&& 1 : Int32).toInt) (y := 1) rfl (rfl : (1 : Int32).toInt = 1) (fun c10 => ?_) (fun c10 => ?_)
            · skip
              refine wpR_ix (vI k6) ?_
              unfold q_ChipMapModel_run_92
              unfold q_ChipMapModel_run_153
              have z11 : (v4 + 1 : Int32).toInt = v4.toInt + 1 := iadd rfl (rfl : (1 : Int32).toInt = 1) (by omega) (by omega)
              have z12 := hI.f44 ((v2 : Int32).toNatClampNeg)
              exact ih M v1 (M.1 44 (v2 : Int32).toNatClampNeg) (v3 + 1) (v4 + 1) (hI.mono (by omega)) (by omega) (by omega) (by omega)
            · skip
              unfold q_ChipMapModel_run_92
              unfold q_ChipMapModel_run_153
              have z13 : (v4 + 1 : Int32).toInt = v4.toInt + 1 := iadd rfl (rfl : (1 : Int32).toInt = 1) (by omega) (by omega)
              have z14 : (v2 + 1 : Int32).toInt = v2.toInt + 1 := iadd rfl (rfl : (1 : Int32).toInt = 1) (by omega) (by omega)
              exact ih M v1 (v2 + 1) (v3 + 1) (v4 + 1) (hI.mono (by omega)) (by omega) (by omega) (by omega)
          · skip
            refine wpR_cl (w_ChipMapModel_begin hI) (fun m16 u15 h17 => ?_)
            have i18 := h17.1
            refine wpR_eq (x := (M.1 42 (v2 : Int32).toNatClampNeg : Int32).toInt) (y := 0) rfl (rfl : (0 : Int32).toInt = 0) (fun c19 => ?_) (fun c19 => ?_)
            · skip
              refine wpR_ix (vI k6) ?_
              refine wpR_ix (vI k6) ?_
              have z20 := i18.f43 ((v2 : Int32).toNatClampNeg)
              refine wpR_cl (w_ChipMapModel_doPut i18 (by omega) (m16.1 43 (v2 : Int32).toNatClampNeg) (m16.1 44 (v2 : Int32).toNatClampNeg) (by omega)) (fun m22 u21 h23 => ?_)
              have i24 := h23.1
              unfold q_ChipMapModel_run_137
              refine wpR_cl (w_ChipMapModel_end i24) (fun m26 u25 h27 => ?_)
              have i28 := h27.1
              refine wpR_eq (x := u25.toInt) (y := (-2)) rfl (by decide : (-2 : Int32).toInt = -2) (fun c29 => ?_) (fun c29 => ?_)
              · skip
                exact wpR_some ⟨(i28.mono (by omega)), trivial⟩
              · skip
                unfold q_ChipMapModel_run_153
                have z30 : (v4 + 1 : Int32).toInt = v4.toInt + 1 := iadd rfl (rfl : (1 : Int32).toInt = 1) (by omega) (by omega)
                have z31 : (v2 + 1 : Int32).toInt = v2.toInt + 1 := iadd rfl (rfl : (1 : Int32).toInt = 1) (by omega) (by omega)
                exact ih m26 v1 (v2 + 1) v3 (v4 + 1) (i28.mono (by omega)) (by omega) (by omega) (by omega)
            · skip
              refine wpR_ix (vI k6) ?_
              have z32 := i18.f43 ((v2 : Int32).toNatClampNeg)
              refine wpR_cl (w_ChipMapModel_doFetch i18 (by omega) (m16.1 43 (v2 : Int32).toNatClampNeg) (by omega)) (fun m34 u33 h35 => ?_)
              have i36 := h35.1
              unfold q_ChipMapModel_run_137
              refine wpR_cl (w_ChipMapModel_end i36) (fun m38 u37 h39 => ?_)
              have i40 := h39.1
              refine wpR_eq (x := u37.toInt) (y := (-2)) rfl (by decide : (-2 : Int32).toInt = -2) (fun c41 => ?_) (fun c41 => ?_)
              · skip
                exact wpR_some ⟨(i40.mono (by omega)), trivial⟩
              · skip
                unfold q_ChipMapModel_run_153
                have z42 : (v4 + 1 : Int32).toInt = v4.toInt + 1 := iadd rfl (rfl : (1 : Int32).toInt = 1) (by omega) (by omega)
                have z43 : (v2 + 1 : Int32).toInt = v2.toInt + 1 := iadd rfl (rfl : (1 : Int32).toInt = 1) (by omega) (by omega)
                exact ih m38 v1 (v2 + 1) v3 (v4 + 1) (i40.mono (by omega)) (by omega) (by omega) (by omega)
      · skip
        exact wpR_some ⟨(hI.mono (by omega)), trivial⟩
theorem w_ChipMapModel_run {G : Gy} {K : Int} {M : Mm} (hI : IY G K M) (hK : K + 600 ≤ 2000000000)  (a1 : Int32) : wpR (q_ChipMapModel_run M a1) (fun M' r => IY G (K + 600) M' ∧ True) := by
  unfold q_ChipMapModel_run
  refine wpR_ltv (fun m1 e2 => ?_)
  have i3 : IY G K m1 := by rw [e2]; exact hI.s0_0 _
  refine wpR_eq (x := (m1.1 0 27 : Int32).toInt) (y := 0) rfl (rfl : (0 : Int32).toInt = 0) (fun c4 => ?_) (fun c4 => ?_)
  · skip
    exact wpR_some ⟨(i3.mono (by omega)), trivial⟩
  · skip
    have z5 := i3.jc
    refine wpR_le (x := (m1.1 0 52 : Int32).toInt) (y := 0) rfl (rfl : (0 : Int32).toInt = 0) (fun c6 => ?_) (fun c6 => ?_)
    · skip
      have z7 : (0 : Int32).toInt = 0 := rfl
      exact w_ChipMapModel_run_28 (by omega) 4000 m1 a1 0 0 0 (i3.mono (by omega)) (by omega) (by omega) (by omega)
    · skip
      exact wpR_some ⟨(i3.mono (by omega)), trivial⟩
theorem w_ChipMapModel_state {G : Gy} {K : Int} {M : Mm} (hI : IY G K M)  (a1 : Int32) : wpR (q_ChipMapModel_state M a1) (fun M' r => IY G K M' ∧ True) := by
  unfold q_ChipMapModel_state
  refine wpR_ltv (fun m1 e2 => ?_)
  have i3 : IY G K m1 := by rw [e2]; exact hI.s0_0 _
  refine wpR_eq (x := a1.toInt) (y := 0) rfl (rfl : (0 : Int32).toInt = 0) (fun c4 => ?_) (fun c4 => ?_)
  · skip
    exact wpR_some ⟨i3, trivial⟩
  · skip
    refine wpR_eq (x := a1.toInt) (y := 1) rfl (rfl : (1 : Int32).toInt = 1) (fun c5 => ?_) (fun c5 => ?_)
    · skip
      exact wpR_some ⟨i3, trivial⟩
    · skip
      refine wpR_eq (x := a1.toInt) (y := 2) rfl (rfl : (2 : Int32).toInt = 2) (fun c6 => ?_) (fun c6 => ?_)
      · skip
        exact wpR_some ⟨i3, trivial⟩
      · skip
        refine wpR_eq (x := a1.toInt) (y := 3) rfl (rfl : (3 : Int32).toInt = 3) (fun c7 => ?_) (fun c7 => ?_)
        · skip
          exact wpR_some ⟨i3, trivial⟩
        · skip
          refine wpR_eq (x := a1.toInt) (y := 4) rfl (rfl : (4 : Int32).toInt = 4) (fun c8 => ?_) (fun c8 => ?_)
          · skip
            exact wpR_some ⟨i3, trivial⟩
          · skip
            exact wpR_some ⟨i3, trivial⟩
