theorem w_Mind_brokenBy {G : Gx} {K : Int} {M : Mm} (hI : IX G K M)  (a1 : Int32) (a2 : Int32) (p0 : 0 ≤ a1.toInt ∧ a1.toInt ≤ 15) : wpR (q_Mind_brokenBy M a1 a2) (fun M' r => M = M' ∧ True) := by
  unfold q_Mind_brokenBy
  have z1 := hI.rgR
  have z2 : (0 : Int32).toInt = 0 := rfl
  exact w_Mind_brokenBy_14 hI 4000 a1 a2 0 0 (by omega) (by omega) (by omega)
theorem w_Log_add {G : Gx} {K : Int} {M : Mm} (hI : IX G K M) (hK : K + 1 ≤ 2000000000)  (a1 : Int32) (a2 : Int32) (a3 : Int32) : wpR (q_Log_add M a1 a2 a3) (fun M' r => IX G (K + 1) M' ∧ True) := by
  unfold q_Log_add
  have z1 := hI.rgR
  refine wpR_lt ?_
  have z2 := hI.f53
  have z3 := irem (a := (M.1 53 0)) rfl (by omega) (by omega)
  have k4 : 0 ≤ (((M.1 53 0) - (M.1 53 0) / 64 * 64) : Int32).toInt ∧ (((M.1 53 0) - (M.1 53 0) / 64 * 64) : Int32).toInt < ((64 : Nat) : Int) := by omega
  refine wpR_ix (vI k4) ?_
  refine wpR_ltv (fun m5 e6 => ?_)
  have i7 : IX G K m5 := by rw [e6]; exact hI.s54 _
  refine wpR_ix (vI k4) ?_
  refine wpR_ltv (fun m8 e9 => ?_)
  have i10 : IX G K m8 := by rw [e9]; exact i7.s55 _
  refine wpR_ix (vI k4) ?_
  refine wpR_ltv (fun m11 e12 => ?_)
  have i13 : IX G K m11 := by rw [e12]; exact i10.s56 _
  have z17 := i13.f53
  have z18 : ((m11.1 53 0) + 1 : Int32).toInt = (m11.1 53 0 : Int32).toInt + 1 := iadd rfl (rfl : (1 : Int32).toInt = 1) (by omega) (by omega)
  have z19 := i13.log
  refine wpR_ltv (fun m14 e15 => ?_)
  have i16 : IX G (K + 1) m14 := by rw [e15]; exact i13.s53_0 (by omega)
  exact wpR_some ⟨i16, trivial⟩
theorem w_Mind_write_11 {G : Gx} {K : Int}  : ∀ (n' : Nat) (M : Mm) (v1 : Int32) (v2 : Int32) (v4 : Int32), IX G K M → (0 ≤ v4.toInt ∧ v4.toInt ≤ 12) → (0 ≤ v1.toInt ∧ v1.toInt ≤ 15) → 12 - v4.toInt < (n' : Int) → wpR (q_Mind_write_11 n' M v1 v2 v4) (fun M' r => IX G K M' ∧ True) := by
  intro n'
  induction n' with
  | zero =>
    intro M v1 v2 v4 hI p0 p1 hn
    have z1 := hI.rgR
    exfalso; omega
  | succ n' ih =>
    intro M v1 v2 v4 hI p0 p1 hn
    rw [q_Mind_write_11]
    have z2 := hI.rgR
    have z3 := hI.rc
    refine wpR_le (x := (M.1 43 0 : Int32).toInt) (y := v4.toInt) rfl rfl (fun c4 => ?_) (fun c4 => ?_)
    · skip
      have k5 : 0 ≤ (v1 : Int32).toInt ∧ (v1 : Int32).toInt < ((16 : Nat) : Int) := by omega
      refine wpR_ix (vI k5) ?_
      refine wpR_ix (vI k5) ?_
      refine wpR_ltv (fun m6 e7 => ?_)
      have i8 : IX G K m6 := by rw [e7]; exact hI.s52 _
      exact wpR_some ⟨i8, trivial⟩
    · skip
      have k9 : 0 ≤ (v4 : Int32).toInt ∧ (v4 : Int32).toInt < ((12 : Nat) : Int) := by omega
      refine wpR_ix (vI k9) ?_
      refine wpR_eq (x := (M.1 44 (v4 : Int32).toNatClampNeg : Int32).toInt) (y := 0) rfl (rfl : (0 : Int32).toInt = 0) (fun c10 => ?_) (fun c10 => ?_)
      · skip
        refine wpR_ix (vI k9) ?_
        have z11 := hI.f45 (v := v4) (by omega) (by omega)
        refine wpR_ro (w_Mind_isWritten hI (M.1 45 (v4 : Int32).toNatClampNeg) v1 v2 (by omega) (by omega)) (fun u12 h13 => ?_)
        refine wpR_eq (x := u12.toInt) (y := 0) rfl (rfl : (0 : Int32).toInt = 0) (fun c15 => ?_) (fun c15 => ?_)
        · skip
          unfold q_Mind_write_62
          refine wpR_ix (vI k9) ?_
          refine wpR_eq (x := (M.1 44 (v4 : Int32).toNatClampNeg : Int32).toInt) (y := 2) rfl (rfl : (2 : Int32).toInt = 2) (fun c16 => ?_) (fun c16 => ?_)
          · skip
            refine wpR_ix (vI k9) ?_
            have f17 := hI.f46 (v := v4) (by omega) (by omega)
            have z18 := f17.r
            refine wpR_ro (w_Mind_isWritten hI (M.1 46 (v4 : Int32).toNatClampNeg) v1 v2 (by omega) (by omega)) (fun u19 h20 => ?_)
            refine wpR_eq (x := u19.toInt) (y := 0) rfl (rfl : (0 : Int32).toInt = 0) (fun c22 => ?_) (fun c22 => ?_)
            · skip
              refine wpR_ix (vI k9) ?_
              refine wpR_ro (w_Mind_isWritten hI (M.1 45 (v4 : Int32).toNatClampNeg) v1 v2 (by omega) (by omega)) (fun u23 h24 => ?_)
              refine wpR_eq (x := u23.toInt) (y := 0) rfl (rfl : (0 : Int32).toInt = 0) (fun c26 => ?_) (fun c26 => ?_)
              · skip
                unfold q_Mind_write_136
                have z27 : (v4 + 1 : Int32).toInt = v4.toInt + 1 := iadd rfl (rfl : (1 : Int32).toInt = 1) (by omega) (by omega)
                exact ih M v1 v2 (v4 + 1) hI (by omega) (by omega) (by omega)
              · skip
                refine wpR_ltv (fun m28 e29 => ?_)
                have i30 : IX G K m28 := by rw [e29]; exact hI.s51_2 _
                unfold q_Mind_write_136
                have z31 : (v4 + 1 : Int32).toInt = v4.toInt + 1 := iadd rfl (rfl : (1 : Int32).toInt = 1) (by omega) (by omega)
                exact ih m28 v1 v2 (v4 + 1) i30 (by omega) (by omega) (by omega)
            · skip
              refine wpR_ltv (fun m32 e33 => ?_)
              have i34 : IX G K m32 := by rw [e33]; exact hI.s51_2 _
              unfold q_Mind_write_136
              have z35 : (v4 + 1 : Int32).toInt = v4.toInt + 1 := iadd rfl (rfl : (1 : Int32).toInt = 1) (by omega) (by omega)
              exact ih m32 v1 v2 (v4 + 1) i34 (by omega) (by omega) (by omega)
          · skip
            unfold q_Mind_write_136
            have z36 : (v4 + 1 : Int32).toInt = v4.toInt + 1 := iadd rfl (rfl : (1 : Int32).toInt = 1) (by omega) (by omega)
            exact ih M v1 v2 (v4 + 1) hI (by omega) (by omega) (by omega)
        · skip
          refine wpR_ltv (fun m37 e38 => ?_)
          have i39 : IX G K m37 := by rw [e38]; exact hI.s51_2 _
          unfold q_Mind_write_136
          have z40 : (v4 + 1 : Int32).toInt = v4.toInt + 1 := iadd rfl (rfl : (1 : Int32).toInt = 1) (by omega) (by omega)
          exact ih m37 v1 v2 (v4 + 1) i39 (by omega) (by omega) (by omega)
      · skip
        unfold q_Mind_write_62
        refine wpR_ix (vI k9) ?_
        refine wpR_eq (x := (M.1 44 (v4 : Int32).toNatClampNeg : Int32).toInt) (y := 2) rfl (rfl : (2 : Int32).toInt = 2) (fun c41 => ?_) (fun c41 => ?_)
        · skip
          refine wpR_ix (vI k9) ?_
          have f42 := hI.f46 (v := v4) (by omega) (by omega)
          have z43 := f42.r
          refine wpR_ro (w_Mind_isWritten hI (M.1 46 (v4 : Int32).toNatClampNeg) v1 v2 (by omega) (by omega)) (fun u44 h45 => ?_)
          refine wpR_eq (x := u44.toInt) (y := 0) rfl (rfl : (0 : Int32).toInt = 0) (fun c47 => ?_) (fun c47 => ?_)
          · skip
            refine wpR_ix (vI k9) ?_
            have z48 := hI.f45 (v := v4) (by omega) (by omega)
            refine wpR_ro (w_Mind_isWritten hI (M.1 45 (v4 : Int32).toNatClampNeg) v1 v2 (by omega) (by omega)) (fun u49 h50 => ?_)
            refine wpR_eq (x := u49.toInt) (y := 0) rfl (rfl : (0 : Int32).toInt = 0) (fun c52 => ?_) (fun c52 => ?_)
            · skip
              unfold q_Mind_write_136
              have z53 : (v4 + 1 : Int32).toInt = v4.toInt + 1 := iadd rfl (rfl : (1 : Int32).toInt = 1) (by omega) (by omega)
              exact ih M v1 v2 (v4 + 1) hI (by omega) (by omega) (by omega)
            · skip
              refine wpR_ltv (fun m54 e55 => ?_)
              have i56 : IX G K m54 := by rw [e55]; exact hI.s51_2 _
              unfold q_Mind_write_136
              have z57 : (v4 + 1 : Int32).toInt = v4.toInt + 1 := iadd rfl (rfl : (1 : Int32).toInt = 1) (by omega) (by omega)
              exact ih m54 v1 v2 (v4 + 1) i56 (by omega) (by omega) (by omega)
          · skip
            refine wpR_ltv (fun m58 e59 => ?_)
            have i60 : IX G K m58 := by rw [e59]; exact hI.s51_2 _
            unfold q_Mind_write_136
            have z61 : (v4 + 1 : Int32).toInt = v4.toInt + 1 := iadd rfl (rfl : (1 : Int32).toInt = 1) (by omega) (by omega)
            exact ih m58 v1 v2 (v4 + 1) i60 (by omega) (by omega) (by omega)
        · skip
          unfold q_Mind_write_136
          have z62 : (v4 + 1 : Int32).toInt = v4.toInt + 1 := iadd rfl (rfl : (1 : Int32).toInt = 1) (by omega) (by omega)
          exact ih M v1 v2 (v4 + 1) hI (by omega) (by omega) (by omega)
theorem w_Mind_write {G : Gx} {K : Int} {M : Mm} (hI : IX G K M)  (a1 : Int32) (a2 : Int32) (p0 : 0 ≤ a1.toInt ∧ a1.toInt ≤ 15) : wpR (q_Mind_write M a1 a2) (fun M' r => IX G K M' ∧ True) := by
  unfold q_Mind_write
  have z1 := hI.rgR
  have z2 : (0 : Int32).toInt = 0 := rfl
  exact w_Mind_write_11 4000 M a1 a2 0 hI (by omega) (by omega) (by omega)
theorem w_Device_setLoose {G : Gx} {K : Int} {M : Mm} (hI : IX G K M)  (a1 : Int32) (a2 : Int32) (p0 : HasF G.hm a1) : wpR (q_Device_setLoose M a1 a2) (fun M' r => IX G K M' ∧ True) := by
  unfold q_Device_setLoose
  have z1 := hI.rgR
  have z2 := p0.r
  have k3 : 0 ≤ (a1 : Int32).toInt ∧ (a1 : Int32).toInt < ((26 : Nat) : Int) := by omega
  refine wpR_ix (vI k3) ?_
  refine wpR_lt ?_
  have z4 := hI.f38 ((a1 : Int32).toNatClampNeg)
  have k5 : 0 ≤ ((M.1 38 (a1 : Int32).toNatClampNeg) : Int32).toInt ∧ ((M.1 38 (a1 : Int32).toNatClampNeg) : Int32).toInt < ((16 : Nat) : Int) := by omega
  refine wpR_ix (vI k5) ?_
  refine wpR_ix (vI k3) ?_
  refine wpR_ix (vI k3) ?_
  refine wpR_ix (vI k5) ?_
  refine wpR_ltv (fun m6 e7 => ?_)
  have i8 : IX G K m6 := by rw [e7]; exact hI.s57 _
  exact wpR_some ⟨i8, trivial⟩
theorem w_Device_startPulses_2 {G : Gx} {K : Int}  : ∀ (n' : Nat) (M : Mm) (v1 : Int32) (v2 : Int32) (v3 : Int32), IX G K M → (0 ≤ v3.toInt ∧ v3.toInt ≤ 26) → (0 ≤ v1.toInt ∧ v1.toInt ≤ 15) → 26 - v3.toInt < (n' : Int) → wpR (q_Device_startPulses_2 n' M v1 v2 v3) (fun M' r => IX G K M' ∧ True) := by
  intro n'
  induction n' with
  | zero =>
    intro M v1 v2 v3 hI p0 p1 hn
    have z1 := hI.rgR
    exfalso; omega
  | succ n' ih =>
    intro M v1 v2 v3 hI p0 p1 hn
    rw [q_Device_startPulses_2]
    have z2 := hI.rgR
    refine wpR_le (x := 26) (y := v3.toInt) (rfl : (26 : Int32).toInt = 26) rfl (fun c3 => ?_) (fun c3 => ?_)
    · skip
      exact wpR_some ⟨hI, trivial⟩
    · skip
      have k4 : 0 ≤ (v3 : Int32).toInt ∧ (v3 : Int32).toInt < ((26 : Nat) : Int) := by omega
      refine wpR_ix (vI k4) ?_
      have z5 := hI.f38 ((v3 : Int32).toNatClampNeg)
      refine wpR_eq (x := (M.1 38 (v3 : Int32).toNatClampNeg : Int32).toInt) (y := v1.toInt) rfl rfl (fun c6 => ?_) (fun c6 => ?_)
      · skip
        refine wpR_ix (vI k4) ?_
        refine wpR_eq (x := (M.1 39 (v3 : Int32).toNatClampNeg : Int32).toInt) (y := 6) rfl (rfl : (6 : Int32).toInt = 6) (fun c7 => ?_) (fun c7 => ?_)
        · skip
          refine wpR_ro (w_Layout_bitsOf hI v3 v2 (by omega)) (fun u8 _ => ?_)
          refine wpR_eq (x := u8.toInt) (y := 0) rfl (rfl : (0 : Int32).toInt = 0) (fun c10 => ?_) (fun c10 => ?_)
          · skip
            unfold q_Device_startPulses_68
            have z11 : (v3 + 1 : Int32).toInt = v3.toInt + 1 := iadd rfl (rfl : (1 : Int32).toInt = 1) (by omega) (by omega)
            exact ih M v1 v2 (v3 + 1) hI (by omega) (by omega) (by omega)
          · skip
            refine wpR_ro (w_Layout_bitsOf hI v3 v2 (by omega)) (fun u12 _ => ?_)
            refine wpR_cl (w_Device_setLoose hI v3 u12 (hI.mkF (by omega) (by omega) (by omega))) (fun m15 u14 h16 => ?_)
            have i17 := h16.1
            refine wpR_ix (vI k4) ?_
            refine wpR_ltv (fun m18 e19 => ?_)
            have i20 : IX G K m18 := by rw [e19]; exact i17.s59 _
            unfold q_Device_startPulses_68
            have z21 : (v3 + 1 : Int32).toInt = v3.toInt + 1 := iadd rfl (rfl : (1 : Int32).toInt = 1) (by omega) (by omega)
            exact ih m18 v1 v2 (v3 + 1) i20 (by omega) (by omega) (by omega)
        · skip
          unfold q_Device_startPulses_68
          have z22 : (v3 + 1 : Int32).toInt = v3.toInt + 1 := iadd rfl (rfl : (1 : Int32).toInt = 1) (by omega) (by omega)
          exact ih M v1 v2 (v3 + 1) hI (by omega) (by omega) (by omega)
      · skip
        unfold q_Device_startPulses_68
        have z23 : (v3 + 1 : Int32).toInt = v3.toInt + 1 := iadd rfl (rfl : (1 : Int32).toInt = 1) (by omega) (by omega)
        exact ih M v1 v2 (v3 + 1) hI (by omega) (by omega) (by omega)
theorem w_Device_startPulses {G : Gx} {K : Int} {M : Mm} (hI : IX G K M)  (a1 : Int32) (a2 : Int32) (p0 : 0 ≤ a1.toInt ∧ a1.toInt ≤ 15) : wpR (q_Device_startPulses M a1 a2) (fun M' r => IX G K M' ∧ True) := by
  unfold q_Device_startPulses
  have z1 := hI.rgR
  have z2 : (0 : Int32).toInt = 0 := rfl
  exact w_Device_startPulses_2 4000 M a1 a2 0 hI (by omega) (by omega) (by omega)
theorem w_Device_write {G : Gx} {K : Int} {M : Mm} (hI : IX G K M) (hK : K + 1 ≤ 2000000000)  (a1 : Int32) (a2 : Int32) (p0 : 0 ≤ a1.toInt ∧ a1.toInt ≤ 15) : wpR (q_Device_write M a1 a2) (fun M' r => IX G (K + 1) M' ∧ True) := by
  unfold q_Device_write
  have z1 := hI.rgR
  have k2 : 0 ≤ (a1 : Int32).toInt ∧ (a1 : Int32).toInt < ((16 : Nat) : Int) := by omega
  refine wpR_ix (vI k2) ?_
  refine wpR_cl (w_Log_add hI (by omega) 1 (M.1 25 (a1 : Int32).toNatClampNeg) a2) (fun m4 u3 h5 => ?_)
  have i6 := h5.1
  refine wpR_cl (w_Mind_write i6 a1 a2 (by omega)) (fun m8 u7 h9 => ?_)
  have i10 := h9.1
  refine wpR_ix (vI k2) ?_
  refine wpR_ix (vI k2) ?_
  refine wpR_ix (vI k2) ?_
  refine wpR_ltv (fun m11 e12 => ?_)
  have i13 : IX G (K + 1) m11 := by rw [e12]; exact i10.s57 _
  refine wpR_ix (vI k2) ?_
  refine wpR_ix (vI k2) ?_
  refine wpR_ix (vI k2) ?_
  refine wpR_ltv (fun m14 e15 => ?_)
  have i16 : IX G (K + 1) m14 := by rw [e15]; exact i13.s57 _
  refine wpR_ix (vI k2) ?_
  refine wpR_eq (x := (a2 &&& (m14.1 37 (a1 : Int32).toNatClampNeg) : Int32).toInt) (y := 0) rfl (rfl : (0 : Int32).toInt = 0) (fun c17 => ?_) (fun c17 => ?_)
  · skip
    exact wpR_some ⟨i16, trivial⟩
  · skip
    refine wpR_cl (w_Device_startPulses i16 a1 a2 (by omega)) (fun m19 u18 h20 => ?_)
    have i21 := h20.1
    exact wpR_some ⟨i21, trivial⟩
theorem w_Integer_bitCount {G : Gx} {K : Int} {M : Mm} (hI : IX G K M)  (a0 : Int32) : wpR (q_Integer_bitCount M a0) (fun M' r => M = M' ∧ True) := by
  unfold q_Integer_bitCount
  have z1 := hI.rgR
  refine wpR_lt ?_
  refine wpR_lt ?_
  refine wpR_lt ?_
  refine wpR_lt ?_
  refine wpR_lt ?_
  exact wpR_some ⟨rfl, trivial⟩
theorem w_Integer_numberOfTrailingZeros {G : Gx} {K : Int} {M : Mm} (hI : IX G K M)  (a0 : Int32) : wpR (q_Integer_numberOfTrailingZeros M a0) (fun M' r => M = M' ∧ True) := by
  unfold q_Integer_numberOfTrailingZeros
  have z1 := hI.rgR
  refine wpR_lt ?_
  refine wpR_lw (x := 0) (y := ((a0 ^^^ (-1)) &&& (a0 - 1) : Int32).toInt) (rfl : (0 : Int32).toInt = 0) rfl (fun c2 => ?_) (fun c2 => ?_)
  · skip
    refine wpR_le (x := ((a0 ^^^ (-1)) &&& (a0 - 1) : Int32).toInt) (y := 65536) rfl (rfl : (65536 : Int32).toInt = 65536) (fun c3 => ?_) (fun c3 => ?_)
    · skip
      unfold q_Integer_numberOfTrailingZeros_34
      refine wpR_le (x := ((a0 ^^^ (-1)) &&& (a0 - 1) : Int32).toInt) (y := 256) rfl (rfl : (256 : Int32).toInt = 256) (fun c4 => ?_) (fun c4 => ?_)
      · skip
        unfold q_Integer_numberOfTrailingZeros_49
        refine wpR_le (x := ((a0 ^^^ (-1)) &&& (a0 - 1) : Int32).toInt) (y := 16) rfl (rfl : (16 : Int32).toInt = 16) (fun c5 => ?_) (fun c5 => ?_)
        · skip
          unfold q_Integer_numberOfTrailingZeros_62
          refine wpR_le (x := ((a0 ^^^ (-1)) &&& (a0 - 1) : Int32).toInt) (y := 4) rfl (rfl : (4 : Int32).toInt = 4) (fun c6 => ?_) (fun c6 => ?_)
          · skip
            unfold q_Integer_numberOfTrailingZeros_74
            exact wpR_some ⟨rfl, trivial⟩
          · skip
            refine wpR_lt ?_
            unfold q_Integer_numberOfTrailingZeros_74
            exact wpR_some ⟨rfl, trivial⟩
        · skip
          refine wpR_lt ?_
          unfold q_Integer_numberOfTrailingZeros_62
          refine wpR_le (x := (((((a0 ^^^ (-1)) &&& (a0 - 1)) : Int32).toUInt32 >>> ((4 : Int32).toUInt32 &&& Int32.toUInt32 31)).toInt32 : Int32).toInt) (y := 4) rfl (rfl : (4 : Int32).toInt = 4) (fun c7 => ?_) (fun c7 => ?_)
          · skip
            unfold q_Integer_numberOfTrailingZeros_74
            exact wpR_some ⟨rfl, trivial⟩
          · skip
            refine wpR_lt ?_
            unfold q_Integer_numberOfTrailingZeros_74
            exact wpR_some ⟨rfl, trivial⟩
      · skip
        refine wpR_lt ?_
        unfold q_Integer_numberOfTrailingZeros_49
        refine wpR_le (x := (((((a0 ^^^ (-1)) &&& (a0 - 1)) : Int32).toUInt32 >>> ((8 : Int32).toUInt32 &&& Int32.toUInt32 31)).toInt32 : Int32).toInt) (y := 16) rfl (rfl : (16 : Int32).toInt = 16) (fun c8 => ?_) (fun c8 => ?_)
        · skip
          unfold q_Integer_numberOfTrailingZeros_62
          refine wpR_le (x := (((((a0 ^^^ (-1)) &&& (a0 - 1)) : Int32).toUInt32 >>> ((8 : Int32).toUInt32 &&& Int32.toUInt32 31)).toInt32 : Int32).toInt) (y := 4) rfl (rfl : (4 : Int32).toInt = 4) (fun c9 => ?_) (fun c9 => ?_)
          · skip
            unfold q_Integer_numberOfTrailingZeros_74
            exact wpR_some ⟨rfl, trivial⟩
          · skip
            refine wpR_lt ?_
            unfold q_Integer_numberOfTrailingZeros_74
            exact wpR_some ⟨rfl, trivial⟩
        · skip
          refine wpR_lt ?_
          unfold q_Integer_numberOfTrailingZeros_62
          refine wpR_le (x := ((((((((a0 ^^^ (-1)) &&& (a0 - 1)) : Int32).toUInt32 >>> ((8 : Int32).toUInt32 &&& Int32.toUInt32 31)).toInt32) : Int32).toUInt32 >>> ((4 : Int32).toUInt32 &&& Int32.toUInt32 31)).toInt32 : Int32).toInt) (y := 4) rfl (rfl : (4 : Int32).toInt = 4) (fun c10 => ?_) (fun c10 => ?_)
          · skip
            unfold q_Integer_numberOfTrailingZeros_74
            exact wpR_some ⟨rfl, trivial⟩
          · skip
            refine wpR_lt ?_
            unfold q_Integer_numberOfTrailingZeros_74
            exact wpR_some ⟨rfl, trivial⟩
    · skip
      refine wpR_lt ?_
      unfold q_Integer_numberOfTrailingZeros_34
      refine wpR_le (x := (((((a0 ^^^ (-1)) &&& (a0 - 1)) : Int32).toUInt32 >>> ((16 : Int32).toUInt32 &&& Int32.toUInt32 31)).toInt32 : Int32).toInt) (y := 256) rfl (rfl : (256 : Int32).toInt = 256) (fun c11 => ?_) (fun c11 => ?_)
      · skip
        unfold q_Integer_numberOfTrailingZeros_49
        refine wpR_le (x := (((((a0 ^^^ (-1)) &&& (a0 - 1)) : Int32).toUInt32 >>> ((16 : Int32).toUInt32 &&& Int32.toUInt32 31)).toInt32 : Int32).toInt) (y := 16) rfl (rfl : (16 : Int32).toInt = 16) (fun c12 => ?_) (fun c12 => ?_)
        · skip
          unfold q_Integer_numberOfTrailingZeros_62
          refine wpR_le (x := (((((a0 ^^^ (-1)) &&& (a0 - 1)) : Int32).toUInt32 >>> ((16 : Int32).toUInt32 &&& Int32.toUInt32 31)).toInt32 : Int32).toInt) (y := 4) rfl (rfl : (4 : Int32).toInt = 4) (fun c13 => ?_) (fun c13 => ?_)
          · skip
            unfold q_Integer_numberOfTrailingZeros_74
            exact wpR_some ⟨rfl, trivial⟩
          · skip
            refine wpR_lt ?_
            unfold q_Integer_numberOfTrailingZeros_74
            exact wpR_some ⟨rfl, trivial⟩
        · skip
          refine wpR_lt ?_
          unfold q_Integer_numberOfTrailingZeros_62
          refine wpR_le (x := ((((((((a0 ^^^ (-1)) &&& (a0 - 1)) : Int32).toUInt32 >>> ((16 : Int32).toUInt32 &&& Int32.toUInt32 31)).toInt32) : Int32).toUInt32 >>> ((4 : Int32).toUInt32 &&& Int32.toUInt32 31)).toInt32 : Int32).toInt) (y := 4) rfl (rfl : (4 : Int32).toInt = 4) (fun c14 => ?_) (fun c14 => ?_)
          · skip
            unfold q_Integer_numberOfTrailingZeros_74
            exact wpR_some ⟨rfl, trivial⟩
          · skip
            refine wpR_lt ?_
            unfold q_Integer_numberOfTrailingZeros_74
            exact wpR_some ⟨rfl, trivial⟩
      · skip
        refine wpR_lt ?_
        unfold q_Integer_numberOfTrailingZeros_49
        refine wpR_le (x := ((((((((a0 ^^^ (-1)) &&& (a0 - 1)) : Int32).toUInt32 >>> ((16 : Int32).toUInt32 &&& Int32.toUInt32 31)).toInt32) : Int32).toUInt32 >>> ((8 : Int32).toUInt32 &&& Int32.toUInt32 31)).toInt32 : Int32).toInt) (y := 16) rfl (rfl : (16 : Int32).toInt = 16) (fun c15 => ?_) (fun c15 => ?_)
        · skip
          unfold q_Integer_numberOfTrailingZeros_62
          refine wpR_le (x := ((((((((a0 ^^^ (-1)) &&& (a0 - 1)) : Int32).toUInt32 >>> ((16 : Int32).toUInt32 &&& Int32.toUInt32 31)).toInt32) : Int32).toUInt32 >>> ((8 : Int32).toUInt32 &&& Int32.toUInt32 31)).toInt32 : Int32).toInt) (y := 4) rfl (rfl : (4 : Int32).toInt = 4) (fun c16 => ?_) (fun c16 => ?_)
          · skip
            unfold q_Integer_numberOfTrailingZeros_74
            exact wpR_some ⟨rfl, trivial⟩
          · skip
            refine wpR_lt ?_
            unfold q_Integer_numberOfTrailingZeros_74
            exact wpR_some ⟨rfl, trivial⟩
        · skip
          refine wpR_lt ?_
          unfold q_Integer_numberOfTrailingZeros_62
          refine wpR_le (x := (((((((((((a0 ^^^ (-1)) &&& (a0 - 1)) : Int32).toUInt32 >>> ((16 : Int32).toUInt32 &&& Int32.toUInt32 31)).toInt32) : Int32).toUInt32 >>> ((8 : Int32).toUInt32 &&& Int32.toUInt32 31)).toInt32) : Int32).toUInt32 >>> ((4 : Int32).toUInt32 &&& Int32.toUInt32 31)).toInt32 : Int32).toInt) (y := 4) rfl (rfl : (4 : Int32).toInt = 4) (fun c17 => ?_) (fun c17 => ?_)
          · skip
            unfold q_Integer_numberOfTrailingZeros_74
            exact wpR_some ⟨rfl, trivial⟩
          · skip
            refine wpR_lt ?_
            unfold q_Integer_numberOfTrailingZeros_74
            exact wpR_some ⟨rfl, trivial⟩
  · skip
    exact wpR_some ⟨rfl, trivial⟩
theorem w_ChipMap_busWrite {G : Gx} {K : Int} {M : Mm} (hI : IX G K M) (hK : K + 1 ≤ 2000000000)  (a1 : Int32) (a2 : Int32) : wpR (q_ChipMap_busWrite M a1 a2) (fun M' r => IX G (K + 1) M' ∧ True) := by
  unfold q_ChipMap_busWrite
  have z1 := hI.rgR
  refine wpR_ro (w_Device_registerAt hI a1) (fun u2 h3 => ?_)
  refine wpR_eq (x := u2.toInt) (y := (-1)) rfl (by decide : (-1 : Int32).toInt = -1) (fun c5 => ?_) (fun c5 => ?_)
  · skip
    exact wpR_some ⟨(hI.mono (by omega)), trivial⟩
  · skip
    refine wpR_ro (w_Mind_brokenBy hI u2 (a2 &&& 65535) (by omega)) (fun u6 _ => ?_)
    refine wpR_cl (w_Device_write hI (by omega) u2 (a2 &&& 65535) (by omega)) (fun m9 u8 h10 => ?_)
    have i11 := h10.1
    refine wpR_ro (w_Integer_bitCount i11 u6) (fun u12 _ => ?_)
    refine wpR_ltv (fun m14 e15 => ?_)
    have i16 : IX G (K + 1) m14 := by rw [e15]; exact i11.s50_3 _
    refine wpR_eq (x := u6.toInt) (y := 0) rfl (rfl : (0 : Int32).toInt = 0) (fun c17 => ?_) (fun c17 => ?_)
    · skip
      exact wpR_some ⟨i16, trivial⟩
    · skip
      refine wpR_ro (w_Integer_numberOfTrailingZeros i16 u6) (fun u18 _ => ?_)
      exact wpR_some ⟨i16, trivial⟩
theorem w_Device_countPulses_2 {G : Gx} {K : Int}  : ∀ (n' : Nat) (M : Mm) (v1 : Int32) (v2 : Int32), IX G K M → (0 ≤ v2.toInt ∧ v2.toInt ≤ 26) → (0 ≤ v1.toInt ∧ v1.toInt ≤ 15) → 26 - v2.toInt < (n' : Int) → wpR (q_Device_countPulses_2 n' M v1 v2) (fun M' r => IX G K M' ∧ True) := by
  intro n'
  induction n' with
  | zero =>
    intro M v1 v2 hI p0 p1 hn
    have z1 := hI.rgR
    exfalso; omega
  | succ n' ih =>
    intro M v1 v2 hI p0 p1 hn
    rw [q_Device_countPulses_2]
    have z2 := hI.rgR
    refine wpR_le (x := 26) (y := v2.toInt) (rfl : (26 : Int32).toInt = 26) rfl (fun c3 => ?_) (fun c3 => ?_)
    · skip
      exact wpR_some ⟨hI, trivial⟩
    · skip
      have k4 : 0 ≤ (v2 : Int32).toInt ∧ (v2 : Int32).toInt < ((26 : Nat) : Int) := by omega
      refine wpR_ix (vI k4) ?_
      have z5 := hI.f38 ((v2 : Int32).toNatClampNeg)
      refine wpR_eq (x := (M.1 38 (v2 : Int32).toNatClampNeg : Int32).toInt) (y := v1.toInt) rfl rfl (fun c6 => ?_) (fun c6 => ?_)
      · skip
        refine wpR_ix (vI k4) ?_
        refine wpR_le (x := (M.1 59 (v2 : Int32).toNatClampNeg : Int32).toInt) (y := 0) rfl (rfl : (0 : Int32).toInt = 0) (fun c7 => ?_) (fun c7 => ?_)
        · skip
          unfold q_Device_countPulses_55
          have z8 : (v2 + 1 : Int32).toInt = v2.toInt + 1 := iadd rfl (rfl : (1 : Int32).toInt = 1) (by omega) (by omega)
          exact ih M v1 (v2 + 1) hI (by omega) (by omega) (by omega)
        · skip
          refine wpR_ix (vI k4) ?_
          refine wpR_ix (vI k4) ?_
          refine wpR_ltv (fun m9 e10 => ?_)
          have i11 : IX G K m9 := by rw [e10]; exact hI.s59 _
          refine wpR_ix (vI k4) ?_
          refine wpR_eq (x := (m9.1 59 (v2 : Int32).toNatClampNeg : Int32).toInt) (y := 0) rfl (rfl : (0 : Int32).toInt = 0) (fun c12 => ?_) (fun c12 => ?_)
          · skip
            refine wpR_cl (w_Device_setLoose i11 v2 0 (i11.mkF (by omega) (by omega) (by omega))) (fun m14 u13 h15 => ?_)
            have i16 := h15.1
            unfold q_Device_countPulses_55
            have z17 : (v2 + 1 : Int32).toInt = v2.toInt + 1 := iadd rfl (rfl : (1 : Int32).toInt = 1) (by omega) (by omega)
            exact ih m14 v1 (v2 + 1) i16 (by omega) (by omega) (by omega)
          · skip
            unfold q_Device_countPulses_55
            have z18 : (v2 + 1 : Int32).toInt = v2.toInt + 1 := iadd rfl (rfl : (1 : Int32).toInt = 1) (by omega) (by omega)
            exact ih m9 v1 (v2 + 1) i11 (by omega) (by omega) (by omega)
      · skip
        unfold q_Device_countPulses_55
        have z19 : (v2 + 1 : Int32).toInt = v2.toInt + 1 := iadd rfl (rfl : (1 : Int32).toInt = 1) (by omega) (by omega)
        exact ih M v1 (v2 + 1) hI (by omega) (by omega) (by omega)
theorem w_Device_countPulses {G : Gx} {K : Int} {M : Mm} (hI : IX G K M)  (a1 : Int32) (p0 : 0 ≤ a1.toInt ∧ a1.toInt ≤ 15) : wpR (q_Device_countPulses M a1) (fun M' r => IX G K M' ∧ True) := by
  unfold q_Device_countPulses
  have z1 := hI.rgR
  have z2 : (0 : Int32).toInt = 0 := rfl
  exact w_Device_countPulses_2 4000 M a1 0 hI (by omega) (by omega) (by omega)
theorem w_Device_read {G : Gx} {K : Int} {M : Mm} (hI : IX G K M) (hK : K + 1 ≤ 2000000000)  (a1 : Int32) (p0 : 0 ≤ a1.toInt ∧ a1.toInt ≤ 15) : wpR (q_Device_read M a1) (fun M' r => IX G (K + 1) M' ∧ True) := by
  unfold q_Device_read
  have z1 := hI.rgR
  have k2 : 0 ≤ (a1 : Int32).toInt ∧ (a1 : Int32).toInt < ((16 : Nat) : Int) := by omega
  refine wpR_ix (vI k2) ?_
  refine wpR_ix (vI k2) ?_
  refine wpR_ix (vI k2) ?_
  refine wpR_lt ?_
  refine wpR_ix (vI k2) ?_
  refine wpR_cl (w_Log_add hI (by omega) 0 (M.1 25 (a1 : Int32).toNatClampNeg) (((M.1 52 (a1 : Int32).toNatClampNeg) &&& ((M.1 33 (a1 : Int32).toNatClampNeg) ^^^ (-1))) ||| (M.1 57 (a1 : Int32).toNatClampNeg))) (fun m4 u3 h5 => ?_)
  have i6 := h5.1
  refine wpR_ix (vI k2) ?_
  refine wpR_ix (vI k2) ?_
  refine wpR_ix (vI k2) ?_
  refine wpR_ix (vI k2) ?_
  refine wpR_ltv (fun m7 e8 => ?_)
  have i9 : IX G (K + 1) m7 := by rw [e8]; exact i6.s58 _
  refine wpR_ix (vI k2) ?_
  refine wpR_ix (vI k2) ?_
  refine wpR_ix (vI k2) ?_
  refine wpR_ltv (fun m10 e11 => ?_)
  have i12 : IX G (K + 1) m10 := by rw [e11]; exact i9.s57 _
  refine wpR_ix (vI k2) ?_
  refine wpR_eq (x := (m10.1 37 (a1 : Int32).toNatClampNeg : Int32).toInt) (y := 0) rfl (rfl : (0 : Int32).toInt = 0) (fun c13 => ?_) (fun c13 => ?_)
  · skip
    exact wpR_some ⟨i12, trivial⟩
  · skip
    refine wpR_cl (w_Device_countPulses i12 a1 (by omega)) (fun m15 u14 h16 => ?_)
    have i17 := h16.1
    exact wpR_some ⟨i17, trivial⟩
theorem w_ChipMap_busRead {G : Gx} {K : Int} {M : Mm} (hI : IX G K M) (hK : K + 1 ≤ 2000000000)  (a1 : Int32) : wpR (q_ChipMap_busRead M a1) (fun M' r => IX G (K + 1) M' ∧ True) := by
  unfold q_ChipMap_busRead
  have z1 := hI.rgR
  refine wpR_ro (w_Device_registerAt hI a1) (fun u2 h3 => ?_)
  refine wpR_eq (x := u2.toInt) (y := (-1)) rfl (by decide : (-1 : Int32).toInt = -1) (fun c5 => ?_) (fun c5 => ?_)
  · skip
    exact wpR_some ⟨(hI.mono (by omega)), trivial⟩
  · skip
    refine wpR_cl (w_Device_read hI (by omega) u2 (by omega)) (fun m7 u6 h8 => ?_)
    have i9 := h8.1
    exact wpR_some ⟨i9, trivial⟩
theorem w_Layout_fits {G : Gx} {K : Int} {M : Mm} (hI : IX G K M)  (a1 : Int32) (a2 : Int32) (p0 : 0 ≤ a1.toInt ∧ a1.toInt ≤ 25) : wpR (q_Layout_fits M a1 a2) (fun M' r => M = M' ∧ (0 ≤ r.toInt ∧ r.toInt ≤ 1)) := by
  unfold q_Layout_fits
  have z1 := hI.rgR
  have k2 : 0 ≤ (a1 : Int32).toInt ∧ (a1 : Int32).toInt < ((26 : Nat) : Int) := by omega
  refine wpR_ix (vI k2) ?_
  refine wpR_eq (x := ((a2 : Int32) >>> ((M.1 41 (a1 : Int32).toNatClampNeg) &&& 31) : Int32).toInt) (y := 0) rfl (rfl : (0 : Int32).toInt = 0) (fun c3 => ?_) (fun c3 => ?_)
  · skip
    have z4 : (1 : Int32).toInt = 1 := rfl
    exact wpR_some ⟨rfl, (by omega)⟩
  · skip
    have z5 : (0 : Int32).toInt = 0 := rfl
    exact wpR_some ⟨rfl, (by omega)⟩
theorem w_ChipMap_poke {G : Gx} {K : Int} {M : Mm} (hI : IX G K M)  (a1 : Int32) (a2 : Int32) : wpR (q_ChipMap_poke M a1 a2) (fun M' r => IX G K M' ∧ True) := by
  unfold q_ChipMap_poke
  have z1 := hI.rgR
  refine wpR_ro (w_Layout_has hI a1) (fun u2 h5 => ?_)
  obtain ⟨h3, h4⟩ := h5
  refine wpR_eq (x := u2.toInt) (y := 0) rfl (rfl : (0 : Int32).toInt = 0) (fun c6 => ?_) (fun c6 => ?_)
  · skip
    exact wpR_some ⟨hI, trivial⟩
  · skip
    have f7 : HasF G.hm a1 := h4 c6
    have z8 := f7.r
    refine wpR_ro (w_Layout_fits hI a1 a2 (by omega)) (fun u9 h10 => ?_)
    refine wpR_eq (x := u9.toInt) (y := 0) rfl (rfl : (0 : Int32).toInt = 0) (fun c12 => ?_) (fun c12 => ?_)
    · skip
      exact wpR_some ⟨hI, trivial⟩
    · skip
      have k13 : 0 ≤ (a1 : Int32).toInt ∧ (a1 : Int32).toInt < ((26 : Nat) : Int) := by omega
      refine wpR_ix (vI k13) ?_
      refine wpR_lt ?_
      refine wpR_eq (x := (M.1 39 (a1 : Int32).toNatClampNeg : Int32).toInt) (y := 1) rfl (rfl : (1 : Int32).toInt = 1) (fun c14 => ?_) (fun c14 => ?_)
      · skip
        unfold q_ChipMap_poke_52
        refine wpR_cl (w_Device_setLoose hI a1 a2 f7) (fun m16 u15 h17 => ?_)
        have i18 := h17.1
        exact wpR_some ⟨i18, trivial⟩
      · skip
        refine wpR_eq (x := (M.1 39 (a1 : Int32).toNatClampNeg : Int32).toInt) (y := 3) rfl (rfl : (3 : Int32).toInt = 3) (fun c19 => ?_) (fun c19 => ?_)
        · skip
          unfold q_ChipMap_poke_52
          refine wpR_cl (w_Device_setLoose hI a1 a2 f7) (fun m21 u20 h22 => ?_)
          have i23 := h22.1
          exact wpR_some ⟨i23, trivial⟩
        · skip
          refine wpR_eq (x := (M.1 39 (a1 : Int32).toNatClampNeg : Int32).toInt) (y := 4) rfl (rfl : (4 : Int32).toInt = 4) (fun c24 => ?_) (fun c24 => ?_)
          · skip
            unfold q_ChipMap_poke_52
            refine wpR_cl (w_Device_setLoose hI a1 a2 f7) (fun m26 u25 h27 => ?_)
            have i28 := h27.1
            exact wpR_some ⟨i28, trivial⟩
          · skip
            exact wpR_some ⟨hI, trivial⟩
theorem w_Layout_canPut {G : Gx} {K : Int} {M : Mm} (hI : IX G K M)  (a1 : Int32) (a2 : Int32) : wpR (q_Layout_canPut M a1 a2) (fun M' r => M = M' ∧ (0 ≤ r.toInt ∧ r.toInt ≤ 1) ∧ ((r.toInt ≠ 0 → HasF G.hm a1))) := by
  unfold q_Layout_canPut
  have z1 := hI.rgR
  refine wpR_ro (w_Layout_has hI a1) (fun u2 h5 => ?_)
  obtain ⟨h3, h4⟩ := h5
  refine wpR_eq (x := u2.toInt) (y := 0) rfl (rfl : (0 : Int32).toInt = 0) (fun c6 => ?_) (fun c6 => ?_)
  · skip
    have z7 : (0 : Int32).toInt = 0 := rfl
    exact wpR_some ⟨rfl, (by omega), (fun h => absurd rfl h)⟩
  · skip
    have f8 : HasF G.hm a1 := h4 c6
    have z9 := f8.r
    have k10 : 0 ≤ (a1 : Int32).toInt ∧ (a1 : Int32).toInt < ((26 : Nat) : Int) := by omega
    refine wpR_ix (vI k10) ?_
    refine wpR_eq (x := (M.1 39 (a1 : Int32).toNatClampNeg : Int32).toInt) (y := 1) rfl (rfl : (1 : Int32).toInt = 1) (fun c11 => ?_) (fun c11 => ?_)
    · skip
      have z12 : (0 : Int32).toInt = 0 := rfl
      exact wpR_some ⟨rfl, (by omega), (fun h => absurd rfl h)⟩
    · skip
      refine wpR_ix (vI k10) ?_
      refine wpR_eq (x := (M.1 39 (a1 : Int32).toNatClampNeg : Int32).toInt) (y := 3) rfl (rfl : (3 : Int32).toInt = 3) (fun c13 => ?_) (fun c13 => ?_)
      · skip
        have z14 : (0 : Int32).toInt = 0 := rfl
        exact wpR_some ⟨rfl, (by omega), (fun h => absurd rfl h)⟩
      · skip
        refine wpR_ro (w_Layout_fits hI a1 a2 (by omega)) (fun u15 h16 => ?_)
        refine wpR_eq (x := u15.toInt) (y := 0) rfl (rfl : (0 : Int32).toInt = 0) (fun c18 => ?_) (fun c18 => ?_)
        · skip
          have z19 : (0 : Int32).toInt = 0 := rfl
          exact wpR_some ⟨rfl, (by omega), (fun h => absurd rfl h)⟩
        · skip
          have z20 : (1 : Int32).toInt = 1 := rfl
          exact wpR_some ⟨rfl, (by omega), (fun _ => f8)⟩
theorem w_Mind_copy {G : Gx} {K : Int} {M : Mm} (hI : IX G K M)  : wpR (q_Mind_copy M) (fun M' r => IX G K M' ∧ True) := by
  unfold q_Mind_copy
  have z1 := hI.rgR
  refine wpR_cpk (by unfold cp_ok; decide) ?_
  refine wpR_ltv (fun m2 e3 => ?_)
  have i4 : IX G K m2 := by rw [e3]; exact hI.s62 _
  refine wpR_ltv (fun m5 e6 => ?_)
  have i7 : IX G K m5 := by rw [e6]; exact i4.s61_2 _
  exact wpR_some ⟨i7, trivial⟩
theorem w_Plan_beginHere {G : Gx} {K : Int} {M : Mm} (hI : IX G K M)  : wpR (q_Plan_beginHere M) (fun M' r => IX G K M' ∧ True) := by
  unfold q_Plan_beginHere
  have z1 := hI.rgR
  have z5 : (0 : Int32).toInt = 0 := rfl
  refine wpR_ltv (fun m2 e3 => ?_)
  have i4 : IX G K m2 := by rw [e3]; exact hI.s60_2 (by omega)
  refine wpR_ltv (fun m6 e7 => ?_)
  have i8 : IX G K m6 := by rw [e7]; exact i4.s60_5 _
  exact wpR_some ⟨i8, trivial⟩
theorem w_Plan_begin {G : Gx} {K : Int} {M : Mm} (hI : IX G K M)  : wpR (q_Plan_begin M) (fun M' r => IX G K M' ∧ True) := by
  unfold q_Plan_begin
  have z1 := hI.rgR
  refine wpR_cl (w_Mind_copy hI) (fun m3 u2 h4 => ?_)
  have i5 := h4.1
  refine wpR_cl (w_Plan_beginHere i5) (fun m7 u6 h8 => ?_)
  have i9 := h8.1
  exact wpR_some ⟨i9, trivial⟩
theorem w_Mind_knownValue_1 {G : Gx} {K : Int} {M : Mm} (hI : IX G K M)  (a1 : Int32) (p0 : HasF G.hm a1) : wpR (q_Mind_knownValue_1 M a1) (fun M' r => M = M' ∧ True) := by
  unfold q_Mind_knownValue_1
  have z1 := hI.rgR
  have z2 := p0.r
  have k3 : 0 ≤ (a1 : Int32).toInt ∧ (a1 : Int32).toInt < ((26 : Nat) : Int) := by omega
  refine wpR_ix (vI k3) ?_
  have z4 := hI.f38 ((a1 : Int32).toNatClampNeg)
  have k5 : 0 ≤ ((M.1 38 (a1 : Int32).toNatClampNeg) : Int32).toInt ∧ ((M.1 38 (a1 : Int32).toNatClampNeg) : Int32).toInt < ((16 : Nat) : Int) := by omega
  refine wpR_ix (vI k5) ?_
  refine wpR_ix (vI k3) ?_
  refine wpR_ix (vI k3) ?_
  exact wpR_some ⟨rfl, trivial⟩
theorem w_Mind_isThere_1 {G : Gx} {K : Int} {M : Mm} (hI : IX G K M)  (a1 : Int32) (p0 : 0 ≤ a1.toInt ∧ a1.toInt < G.rg) : wpR (q_Mind_isThere_1 M a1) (fun M' r => M = M' ∧ (0 ≤ r.toInt ∧ r.toInt ≤ 1) ∧ ((r.toInt = 0 → HasF G.hm (M.1 26 (a1 : Int32).toNatClampNeg)))) := by
  unfold q_Mind_isThere_1
  have z1 := hI.rgR
  have k2 : 0 ≤ (a1 : Int32).toInt ∧ (a1 : Int32).toInt < ((16 : Nat) : Int) := by omega
  refine wpR_ix (vI k2) ?_
  refine wpR_lt ?_
  refine wpR_eq (x := (M.1 26 (a1 : Int32).toNatClampNeg : Int32).toInt) (y := (-1)) rfl (by decide : (-1 : Int32).toInt = -1) (fun c3 => ?_) (fun c3 => ?_)
  · skip
    have z4 : (1 : Int32).toInt = 1 := rfl
    exact wpR_some ⟨rfl, (by omega), (fun h => absurd h (by decide))⟩
  · skip
    refine wpR_ro (w_Mind_knownValue_1 hI (M.1 26 (a1 : Int32).toNatClampNeg) (hI.f26 (v := a1) (by omega) (by omega) (by omega))) (fun u5 _ => ?_)
    refine wpR_ix (vI k2) ?_
    refine wpR_eq (x := u5.toInt) (y := (M.1 27 (a1 : Int32).toNatClampNeg : Int32).toInt) rfl rfl (fun c7 => ?_) (fun c7 => ?_)
    · skip
      have z8 : (1 : Int32).toInt = 1 := rfl
      exact wpR_some ⟨rfl, (by omega), (fun h => absurd h (by decide))⟩
    · skip
      have z9 : (0 : Int32).toInt = 0 := rfl
      exact wpR_some ⟨rfl, (by omega), (fun _ => hI.f26 (by omega) (by omega) (by omega))⟩
theorem w_Mind_isWritten_1 {G : Gx} {K : Int} {M : Mm} (hI : IX G K M)  (a1 : Int32) (a2 : Int32) (a3 : Int32) (p0 : 0 ≤ a1.toInt ∧ a1.toInt ≤ 25) (p1 : 0 ≤ a2.toInt ∧ a2.toInt ≤ 15) : wpR (q_Mind_isWritten_1 M a1 a2 a3) (fun M' r => M = M' ∧ (0 ≤ r.toInt ∧ r.toInt ≤ 1)) := by
  unfold q_Mind_isWritten_1
  have z1 := hI.rgR
  have k2 : 0 ≤ (a1 : Int32).toInt ∧ (a1 : Int32).toInt < ((26 : Nat) : Int) := by omega
  refine wpR_ix (vI k2) ?_
  have z3 := hI.f38 ((a1 : Int32).toNatClampNeg)
  refine wpR_eq (x := (M.1 38 (a1 : Int32).toNatClampNeg : Int32).toInt) (y := a2.toInt) rfl rfl (fun c4 => ?_) (fun c4 => ?_)
  · skip
    have k5 : 0 ≤ (a2 : Int32).toInt ∧ (a2 : Int32).toInt < ((16 : Nat) : Int) := by omega
    refine wpR_ix (vI k5) ?_
    refine wpR_ix (vI k2) ?_
    refine wpR_eq (x := ((a3 ^^^ (M.1 62 (a2 : Int32).toNatClampNeg)) &&& (M.1 42 (a1 : Int32).toNatClampNeg) : Int32).toInt) (y := 0) rfl (rfl : (0 : Int32).toInt = 0) (fun c6 => ?_) (fun c6 => ?_)
    · skip
      have z7 : (0 : Int32).toInt = 0 := rfl
      exact wpR_some ⟨rfl, (by omega)⟩
    · skip
      have z8 : (1 : Int32).toInt = 1 := rfl
      exact wpR_some ⟨rfl, (by omega)⟩
  · skip
    have z9 : (0 : Int32).toInt = 0 := rfl
    exact wpR_some ⟨rfl, (by omega)⟩
theorem w_Mind_brokenBy_1_14 {G : Gx} {K : Int} {M : Mm} (hI : IX G K M) : ∀ (n' : Nat) (v1 : Int32) (v2 : Int32) (v4 : Int32) (v5 : Int32), (0 ≤ v5.toInt ∧ v5.toInt ≤ 12) → (0 ≤ v1.toInt ∧ v1.toInt ≤ 15) → 12 - v5.toInt < (n' : Int) → wpR (q_Mind_brokenBy_1_14 n' M v1 v2 v4 v5) (fun M' r => M = M' ∧ True) := by
  intro n'
  induction n' with
  | zero =>
    intro v1 v2 v4 v5 p0 p1 hn
    exfalso; omega
  | succ n' ih =>
    intro v1 v2 v4 v5 p0 p1 hn
    rw [q_Mind_brokenBy_1_14]
    have z1 := hI.rgR
    have z2 := hI.rc
    refine wpR_le (x := (M.1 43 0 : Int32).toInt) (y := v5.toInt) rfl rfl (fun c3 => ?_) (fun c3 => ?_)
    · skip
      exact wpR_some ⟨rfl, trivial⟩
    · skip
      refine wpR_eq (x := ((((M.1 61 2) : Int32) >>> (v5 &&& 31)) &&& 1 : Int32).toInt) (y := 1) rfl (rfl : (1 : Int32).toInt = 1) (fun c4 => ?_) (fun c4 => ?_)
      · skip
        unfold q_Mind_brokenBy_1_41
        have k5 : 0 ≤ (v5 : Int32).toInt ∧ (v5 : Int32).toInt < ((12 : Nat) : Int) := by omega
        refine wpR_ix (vI k5) ?_
        refine wpR_eq (x := (M.1 44 (v5 : Int32).toNatClampNeg : Int32).toInt) (y := 0) rfl (rfl : (0 : Int32).toInt = 0) (fun c6 => ?_) (fun c6 => ?_)
        · skip
          refine wpR_eq (x := 1) (y := 0) (rfl : (1 : Int32).toInt = 1) (rfl : (0 : Int32).toInt = 0) (fun c7 => ?_) (fun c7 => ?_)
          · skip
            refine wpR_ix (vI k5) ?_
            have f8 := hI.f46 (v := v5) (by omega) (by omega)
            have z9 := f8.r
            refine wpR_ro (w_Mind_isWritten_1 hI (M.1 46 (v5 : Int32).toNatClampNeg) v1 v2 (by omega) (by omega)) (fun u10 h11 => ?_)
            refine wpR_eq (x := u10.toInt) (y := 0) rfl (rfl : (0 : Int32).toInt = 0) (fun c13 => ?_) (fun c13 => ?_)
            · skip
              unfold q_Mind_brokenBy_1_78
              unfold q_Mind_brokenBy_1_79
              unfold q_Mind_brokenBy_1_170
              refine wpR_eq (x := 0) (y := 0) (rfl : (0 : Int32).toInt = 0) (rfl : (0 : Int32).toInt = 0) (fun c14 => ?_) (fun c14 => ?_)
              · skip
                unfold q_Mind_brokenBy_1_184
                have z15 : (v5 + 1 : Int32).toInt = v5.toInt + 1 := iadd rfl (rfl : (1 : Int32).toInt = 1) (by omega) (by omega)
                exact ih v1 v2 v4 (v5 + 1) (by omega) (by omega) (by omega)
              · skip
                refine wpR_lt ?_
                unfold q_Mind_brokenBy_1_184
                have z16 : (v5 + 1 : Int32).toInt = v5.toInt + 1 := iadd rfl (rfl : (1 : Int32).toInt = 1) (by omega) (by omega)
                exact ih v1 v2 (v4 ||| ((1 : Int32) <<< (v5 &&& 31))) (v5 + 1) (by omega) (by omega) (by omega)
            · skip
              unfold q_Mind_brokenBy_1_79
              unfold q_Mind_brokenBy_1_170
              refine wpR_eq (x := 1) (y := 0) (rfl : (1 : Int32).toInt = 1) (rfl : (0 : Int32).toInt = 0) (fun c17 => ?_) (fun c17 => ?_)
              · skip
                unfold q_Mind_brokenBy_1_184
                have z18 : (v5 + 1 : Int32).toInt = v5.toInt + 1 := iadd rfl (rfl : (1 : Int32).toInt = 1) (by omega) (by omega)
                exact ih v1 v2 v4 (v5 + 1) (by omega) (by omega) (by omega)
              · skip
                refine wpR_lt ?_
                unfold q_Mind_brokenBy_1_184
                have z19 : (v5 + 1 : Int32).toInt = v5.toInt + 1 := iadd rfl (rfl : (1 : Int32).toInt = 1) (by omega) (by omega)
                exact ih v1 v2 (v4 ||| ((1 : Int32) <<< (v5 &&& 31))) (v5 + 1) (by omega) (by omega) (by omega)
          · skip
            unfold q_Mind_brokenBy_1_78
            unfold q_Mind_brokenBy_1_79
            unfold q_Mind_brokenBy_1_170
            refine wpR_eq (x := 0) (y := 0) (rfl : (0 : Int32).toInt = 0) (rfl : (0 : Int32).toInt = 0) (fun c20 => ?_) (fun c20 => ?_)
            · skip
              unfold q_Mind_brokenBy_1_184
              have z21 : (v5 + 1 : Int32).toInt = v5.toInt + 1 := iadd rfl (rfl : (1 : Int32).toInt = 1) (by omega) (by omega)
              exact ih v1 v2 v4 (v5 + 1) (by omega) (by omega) (by omega)
            · skip
              refine wpR_lt ?_
              unfold q_Mind_brokenBy_1_184
              have z22 : (v5 + 1 : Int32).toInt = v5.toInt + 1 := iadd rfl (rfl : (1 : Int32).toInt = 1) (by omega) (by omega)
              exact ih v1 v2 (v4 ||| ((1 : Int32) <<< (v5 &&& 31))) (v5 + 1) (by omega) (by omega) (by omega)
        · skip
          refine wpR_ix (vI k5) ?_
          refine wpR_eq (x := (M.1 44 (v5 : Int32).toNatClampNeg : Int32).toInt) (y := 2) rfl (rfl : (2 : Int32).toInt = 2) (fun c23 => ?_) (fun c23 => ?_)
          · skip
            refine wpR_eq (x := 1) (y := 0) (rfl : (1 : Int32).toInt = 1) (rfl : (0 : Int32).toInt = 0) (fun c24 => ?_) (fun c24 => ?_)
            · skip
              unfold q_Mind_brokenBy_1_120
              unfold q_Mind_brokenBy_1_121
              unfold q_Mind_brokenBy_1_170
              refine wpR_eq (x := 0) (y := 0) (rfl : (0 : Int32).toInt = 0) (rfl : (0 : Int32).toInt = 0) (fun c25 => ?_) (fun c25 => ?_)
              · skip
                unfold q_Mind_brokenBy_1_184
                have z26 : (v5 + 1 : Int32).toInt = v5.toInt + 1 := iadd rfl (rfl : (1 : Int32).toInt = 1) (by omega) (by omega)
                exact ih v1 v2 v4 (v5 + 1) (by omega) (by omega) (by omega)
              · skip
                refine wpR_lt ?_
                unfold q_Mind_brokenBy_1_184
                have z27 : (v5 + 1 : Int32).toInt = v5.toInt + 1 := iadd rfl (rfl : (1 : Int32).toInt = 1) (by omega) (by omega)
                exact ih v1 v2 (v4 ||| ((1 : Int32) <<< (v5 &&& 31))) (v5 + 1) (by omega) (by omega) (by omega)
            · skip
              refine wpR_ix (vI k5) ?_
              have z28 := hI.f45 (v := v5) (by omega) (by omega)
              refine wpR_ro (w_Mind_isWritten_1 hI (M.1 45 (v5 : Int32).toNatClampNeg) v1 v2 (by omega) (by omega)) (fun u29 h30 => ?_)
              refine wpR_eq (x := u29.toInt) (y := 0) rfl (rfl : (0 : Int32).toInt = 0) (fun c32 => ?_) (fun c32 => ?_)
              · skip
                unfold q_Mind_brokenBy_1_120
                unfold q_Mind_brokenBy_1_121
                unfold q_Mind_brokenBy_1_170
                refine wpR_eq (x := 0) (y := 0) (rfl : (0 : Int32).toInt = 0) (rfl : (0 : Int32).toInt = 0) (fun c33 => ?_) (fun c33 => ?_)
                · skip
                  unfold q_Mind_brokenBy_1_184
                  have z34 : (v5 + 1 : Int32).toInt = v5.toInt + 1 := iadd rfl (rfl : (1 : Int32).toInt = 1) (by omega) (by omega)
                  exact ih v1 v2 v4 (v5 + 1) (by omega) (by omega) (by omega)
                · skip
                  refine wpR_lt ?_
                  unfold q_Mind_brokenBy_1_184
                  have z35 : (v5 + 1 : Int32).toInt = v5.toInt + 1 := iadd rfl (rfl : (1 : Int32).toInt = 1) (by omega) (by omega)
                  exact ih v1 v2 (v4 ||| ((1 : Int32) <<< (v5 &&& 31))) (v5 + 1) (by omega) (by omega) (by omega)
              · skip
                unfold q_Mind_brokenBy_1_121
                unfold q_Mind_brokenBy_1_170
                refine wpR_eq (x := 1) (y := 0) (rfl : (1 : Int32).toInt = 1) (rfl : (0 : Int32).toInt = 0) (fun c36 => ?_) (fun c36 => ?_)
                · skip
                  unfold q_Mind_brokenBy_1_184
                  have z37 : (v5 + 1 : Int32).toInt = v5.toInt + 1 := iadd rfl (rfl : (1 : Int32).toInt = 1) (by omega) (by omega)
                  exact ih v1 v2 v4 (v5 + 1) (by omega) (by omega) (by omega)
                · skip
                  refine wpR_lt ?_
                  unfold q_Mind_brokenBy_1_184
                  have z38 : (v5 + 1 : Int32).toInt = v5.toInt + 1 := iadd rfl (rfl : (1 : Int32).toInt = 1) (by omega) (by omega)
                  exact ih v1 v2 (v4 ||| ((1 : Int32) <<< (v5 &&& 31))) (v5 + 1) (by omega) (by omega) (by omega)
          · skip
            refine wpR_ix (vI k5) ?_
            have z39 := hI.f45 (v := v5) (by omega) (by omega)
            refine wpR_ro (w_Mind_isWritten_1 hI (M.1 45 (v5 : Int32).toNatClampNeg) v1 v2 (by omega) (by omega)) (fun u40 h41 => ?_)
            refine wpR_eq (x := u40.toInt) (y := 0) rfl (rfl : (0 : Int32).toInt = 0) (fun c43 => ?_) (fun c43 => ?_)
            · skip
              unfold q_Mind_brokenBy_1_167
              unfold q_Mind_brokenBy_1_168
              unfold q_Mind_brokenBy_1_170
              refine wpR_eq (x := 0) (y := 0) (rfl : (0 : Int32).toInt = 0) (rfl : (0 : Int32).toInt = 0) (fun c44 => ?_) (fun c44 => ?_)
              · skip
                unfold q_Mind_brokenBy_1_184
                have z45 : (v5 + 1 : Int32).toInt = v5.toInt + 1 := iadd rfl (rfl : (1 : Int32).toInt = 1) (by omega) (by omega)
                exact ih v1 v2 v4 (v5 + 1) (by omega) (by omega) (by omega)
              · skip
                refine wpR_lt ?_
                unfold q_Mind_brokenBy_1_184
                have z46 : (v5 + 1 : Int32).toInt = v5.toInt + 1 := iadd rfl (rfl : (1 : Int32).toInt = 1) (by omega) (by omega)
                exact ih v1 v2 (v4 ||| ((1 : Int32) <<< (v5 &&& 31))) (v5 + 1) (by omega) (by omega) (by omega)
            · skip
              refine wpR_ix (vI k5) ?_
              have f47 := hI.f46 (v := v5) (by omega) (by omega)
              have z48 := f47.r
              refine wpR_ro (w_Mind_knownValue_1 hI (M.1 46 (v5 : Int32).toNatClampNeg) f47) (fun u49 _ => ?_)
              refine wpR_ix (vI k5) ?_
              refine wpR_eq (x := u49.toInt) (y := (M.1 47 (v5 : Int32).toNatClampNeg : Int32).toInt) rfl rfl (fun c51 => ?_) (fun c51 => ?_)
              · skip
                unfold q_Mind_brokenBy_1_167
                unfold q_Mind_brokenBy_1_168
                unfold q_Mind_brokenBy_1_170
                refine wpR_eq (x := 0) (y := 0) (rfl : (0 : Int32).toInt = 0) (rfl : (0 : Int32).toInt = 0) (fun c52 => ?_) (fun c52 => ?_)
                · skip
                  unfold q_Mind_brokenBy_1_184
                  have z53 : (v5 + 1 : Int32).toInt = v5.toInt + 1 := iadd rfl (rfl : (1 : Int32).toInt = 1) (by omega) (by omega)
                  exact ih v1 v2 v4 (v5 + 1) (by omega) (by omega) (by omega)
                · skip
                  refine wpR_lt ?_
                  unfold q_Mind_brokenBy_1_184
                  have z54 : (v5 + 1 : Int32).toInt = v5.toInt + 1 := iadd rfl (rfl : (1 : Int32).toInt = 1) (by omega) (by omega)
                  exact ih v1 v2 (v4 ||| ((1 : Int32) <<< (v5 &&& 31))) (v5 + 1) (by omega) (by omega) (by omega)
              · skip
                unfold q_Mind_brokenBy_1_168
                unfold q_Mind_brokenBy_1_170
                refine wpR_eq (x := 1) (y := 0) (rfl : (1 : Int32).toInt = 1) (rfl : (0 : Int32).toInt = 0) (fun c55 => ?_) (fun c55 => ?_)
                · skip
                  unfold q_Mind_brokenBy_1_184
                  have z56 : (v5 + 1 : Int32).toInt = v5.toInt + 1 := iadd rfl (rfl : (1 : Int32).toInt = 1) (by omega) (by omega)
                  exact ih v1 v2 v4 (v5 + 1) (by omega) (by omega) (by omega)
                · skip
                  refine wpR_lt ?_
                  unfold q_Mind_brokenBy_1_184
                  have z57 : (v5 + 1 : Int32).toInt = v5.toInt + 1 := iadd rfl (rfl : (1 : Int32).toInt = 1) (by omega) (by omega)
                  exact ih v1 v2 (v4 ||| ((1 : Int32) <<< (v5 &&& 31))) (v5 + 1) (by omega) (by omega) (by omega)
      · skip
        unfold q_Mind_brokenBy_1_41
        have k58 : 0 ≤ (v5 : Int32).toInt ∧ (v5 : Int32).toInt < ((12 : Nat) : Int) := by omega
        refine wpR_ix (vI k58) ?_
        refine wpR_eq (x := (M.1 44 (v5 : Int32).toNatClampNeg : Int32).toInt) (y := 0) rfl (rfl : (0 : Int32).toInt = 0) (fun c59 => ?_) (fun c59 => ?_)
        · skip
          refine wpR_eq (x := 0) (y := 0) (rfl : (0 : Int32).toInt = 0) (rfl : (0 : Int32).toInt = 0) (fun c60 => ?_) (fun c60 => ?_)
          · skip
            refine wpR_ix (vI k58) ?_
            have f61 := hI.f46 (v := v5) (by omega) (by omega)
            have z62 := f61.r
            refine wpR_ro (w_Mind_isWritten_1 hI (M.1 46 (v5 : Int32).toNatClampNeg) v1 v2 (by omega) (by omega)) (fun u63 h64 => ?_)
            refine wpR_eq (x := u63.toInt) (y := 0) rfl (rfl : (0 : Int32).toInt = 0) (fun c66 => ?_) (fun c66 => ?_)
            · skip
              unfold q_Mind_brokenBy_1_78
              unfold q_Mind_brokenBy_1_79
              unfold q_Mind_brokenBy_1_170
              refine wpR_eq (x := 0) (y := 0) (rfl : (0 : Int32).toInt = 0) (rfl : (0 : Int32).toInt = 0) (fun c67 => ?_) (fun c67 => ?_)
              · skip
                unfold q_Mind_brokenBy_1_184
                have z68 : (v5 + 1 : Int32).toInt = v5.toInt + 1 := iadd rfl (rfl : (1 : Int32).toInt = 1) (by omega) (by omega)
                exact ih v1 v2 v4 (v5 + 1) (by omega) (by omega) (by omega)
              · skip
                refine wpR_lt ?_
                unfold q_Mind_brokenBy_1_184
                have z69 : (v5 + 1 : Int32).toInt = v5.toInt + 1 := iadd rfl (rfl : (1 : Int32).toInt = 1) (by omega) (by omega)
                exact ih v1 v2 (v4 ||| ((1 : Int32) <<< (v5 &&& 31))) (v5 + 1) (by omega) (by omega) (by omega)
            · skip
              unfold q_Mind_brokenBy_1_79
              unfold q_Mind_brokenBy_1_170
              refine wpR_eq (x := 1) (y := 0) (rfl : (1 : Int32).toInt = 1) (rfl : (0 : Int32).toInt = 0) (fun c70 => ?_) (fun c70 => ?_)
              · skip
                unfold q_Mind_brokenBy_1_184
                have z71 : (v5 + 1 : Int32).toInt = v5.toInt + 1 := iadd rfl (rfl : (1 : Int32).toInt = 1) (by omega) (by omega)
                exact ih v1 v2 v4 (v5 + 1) (by omega) (by omega) (by omega)
              · skip
                refine wpR_lt ?_
                unfold q_Mind_brokenBy_1_184
                have z72 : (v5 + 1 : Int32).toInt = v5.toInt + 1 := iadd rfl (rfl : (1 : Int32).toInt = 1) (by omega) (by omega)
                exact ih v1 v2 (v4 ||| ((1 : Int32) <<< (v5 &&& 31))) (v5 + 1) (by omega) (by omega) (by omega)
          · skip
            unfold q_Mind_brokenBy_1_78
            unfold q_Mind_brokenBy_1_79
            unfold q_Mind_brokenBy_1_170
            refine wpR_eq (x := 0) (y := 0) (rfl : (0 : Int32).toInt = 0) (rfl : (0 : Int32).toInt = 0) (fun c73 => ?_) (fun c73 => ?_)
            · skip
              unfold q_Mind_brokenBy_1_184
              have z74 : (v5 + 1 : Int32).toInt = v5.toInt + 1 := iadd rfl (rfl : (1 : Int32).toInt = 1) (by omega) (by omega)
              exact ih v1 v2 v4 (v5 + 1) (by omega) (by omega) (by omega)
            · skip
              refine wpR_lt ?_
              unfold q_Mind_brokenBy_1_184
              have z75 : (v5 + 1 : Int32).toInt = v5.toInt + 1 := iadd rfl (rfl : (1 : Int32).toInt = 1) (by omega) (by omega)
              exact ih v1 v2 (v4 ||| ((1 : Int32) <<< (v5 &&& 31))) (v5 + 1) (by omega) (by omega) (by omega)
        · skip
          refine wpR_ix (vI k58) ?_
          refine wpR_eq (x := (M.1 44 (v5 : Int32).toNatClampNeg : Int32).toInt) (y := 2) rfl (rfl : (2 : Int32).toInt = 2) (fun c76 => ?_) (fun c76 => ?_)
          · skip
            refine wpR_eq (x := 0) (y := 0) (rfl : (0 : Int32).toInt = 0) (rfl : (0 : Int32).toInt = 0) (fun c77 => ?_) (fun c77 => ?_)
            · skip
              unfold q_Mind_brokenBy_1_120
              unfold q_Mind_brokenBy_1_121
              unfold q_Mind_brokenBy_1_170
              refine wpR_eq (x := 0) (y := 0) (rfl : (0 : Int32).toInt = 0) (rfl : (0 : Int32).toInt = 0) (fun c78 => ?_) (fun c78 => ?_)
              · skip
                unfold q_Mind_brokenBy_1_184
                have z79 : (v5 + 1 : Int32).toInt = v5.toInt + 1 := iadd rfl (rfl : (1 : Int32).toInt = 1) (by omega) (by omega)
                exact ih v1 v2 v4 (v5 + 1) (by omega) (by omega) (by omega)
              · skip
                refine wpR_lt ?_
                unfold q_Mind_brokenBy_1_184
                have z80 : (v5 + 1 : Int32).toInt = v5.toInt + 1 := iadd rfl (rfl : (1 : Int32).toInt = 1) (by omega) (by omega)
                exact ih v1 v2 (v4 ||| ((1 : Int32) <<< (v5 &&& 31))) (v5 + 1) (by omega) (by omega) (by omega)
            · skip
              refine wpR_ix (vI k58) ?_
              have z81 := hI.f45 (v := v5) (by omega) (by omega)
              refine wpR_ro (w_Mind_isWritten_1 hI (M.1 45 (v5 : Int32).toNatClampNeg) v1 v2 (by omega) (by omega)) (fun u82 h83 => ?_)
              refine wpR_eq (x := u82.toInt) (y := 0) rfl (rfl : (0 : Int32).toInt = 0) (fun c85 => ?_) (fun c85 => ?_)
              · skip
                unfold q_Mind_brokenBy_1_120
                unfold q_Mind_brokenBy_1_121
                unfold q_Mind_brokenBy_1_170
                refine wpR_eq (x := 0) (y := 0) (rfl : (0 : Int32).toInt = 0) (rfl : (0 : Int32).toInt = 0) (fun c86 => ?_) (fun c86 => ?_)
                · skip
                  unfold q_Mind_brokenBy_1_184
                  have z87 : (v5 + 1 : Int32).toInt = v5.toInt + 1 := iadd rfl (rfl : (1 : Int32).toInt = 1) (by omega) (by omega)
                  exact ih v1 v2 v4 (v5 + 1) (by omega) (by omega) (by omega)
                · skip
                  refine wpR_lt ?_
                  unfold q_Mind_brokenBy_1_184
                  have z88 : (v5 + 1 : Int32).toInt = v5.toInt + 1 := iadd rfl (rfl : (1 : Int32).toInt = 1) (by omega) (by omega)
                  exact ih v1 v2 (v4 ||| ((1 : Int32) <<< (v5 &&& 31))) (v5 + 1) (by omega) (by omega) (by omega)
              · skip
                unfold q_Mind_brokenBy_1_121
                unfold q_Mind_brokenBy_1_170
                refine wpR_eq (x := 1) (y := 0) (rfl : (1 : Int32).toInt = 1) (rfl : (0 : Int32).toInt = 0) (fun c89 => ?_) (fun c89 => ?_)
                · skip
                  unfold q_Mind_brokenBy_1_184
                  have z90 : (v5 + 1 : Int32).toInt = v5.toInt + 1 := iadd rfl (rfl : (1 : Int32).toInt = 1) (by omega) (by omega)
                  exact ih v1 v2 v4 (v5 + 1) (by omega) (by omega) (by omega)
                · skip
                  refine wpR_lt ?_
                  unfold q_Mind_brokenBy_1_184
                  have z91 : (v5 + 1 : Int32).toInt = v5.toInt + 1 := iadd rfl (rfl : (1 : Int32).toInt = 1) (by omega) (by omega)
                  exact ih v1 v2 (v4 ||| ((1 : Int32) <<< (v5 &&& 31))) (v5 + 1) (by omega) (by omega) (by omega)
          · skip
            refine wpR_ix (vI k58) ?_
            have z92 := hI.f45 (v := v5) (by omega) (by omega)
            refine wpR_ro (w_Mind_isWritten_1 hI (M.1 45 (v5 : Int32).toNatClampNeg) v1 v2 (by omega) (by omega)) (fun u93 h94 => ?_)
            refine wpR_eq (x := u93.toInt) (y := 0) rfl (rfl : (0 : Int32).toInt = 0) (fun c96 => ?_) (fun c96 => ?_)
            · skip
              unfold q_Mind_brokenBy_1_167
              unfold q_Mind_brokenBy_1_168
              unfold q_Mind_brokenBy_1_170
              refine wpR_eq (x := 0) (y := 0) (rfl : (0 : Int32).toInt = 0) (rfl : (0 : Int32).toInt = 0) (fun c97 => ?_) (fun c97 => ?_)
              · skip
                unfold q_Mind_brokenBy_1_184
                have z98 : (v5 + 1 : Int32).toInt = v5.toInt + 1 := iadd rfl (rfl : (1 : Int32).toInt = 1) (by omega) (by omega)
                exact ih v1 v2 v4 (v5 + 1) (by omega) (by omega) (by omega)
              · skip
                refine wpR_lt ?_
                unfold q_Mind_brokenBy_1_184
                have z99 : (v5 + 1 : Int32).toInt = v5.toInt + 1 := iadd rfl (rfl : (1 : Int32).toInt = 1) (by omega) (by omega)
                exact ih v1 v2 (v4 ||| ((1 : Int32) <<< (v5 &&& 31))) (v5 + 1) (by omega) (by omega) (by omega)
            · skip
              refine wpR_ix (vI k58) ?_
              have f100 := hI.f46 (v := v5) (by omega) (by omega)
              have z101 := f100.r
              refine wpR_ro (w_Mind_knownValue_1 hI (M.1 46 (v5 : Int32).toNatClampNeg) f100) (fun u102 _ => ?_)
              refine wpR_ix (vI k58) ?_
              refine wpR_eq (x := u102.toInt) (y := (M.1 47 (v5 : Int32).toNatClampNeg : Int32).toInt) rfl rfl (fun c104 => ?_) (fun c104 => ?_)
              · skip
                unfold q_Mind_brokenBy_1_167
                unfold q_Mind_brokenBy_1_168
                unfold q_Mind_brokenBy_1_170
                refine wpR_eq (x := 0) (y := 0) (rfl : (0 : Int32).toInt = 0) (rfl : (0 : Int32).toInt = 0) (fun c105 => ?_) (fun c105 => ?_)
                · skip
                  unfold q_Mind_brokenBy_1_184
                  have z106 : (v5 + 1 : Int32).toInt = v5.toInt + 1 := iadd rfl (rfl : (1 : Int32).toInt = 1) (by omega) (by omega)
                  exact ih v1 v2 v4 (v5 + 1) (by omega) (by omega) (by omega)
                · skip
                  refine wpR_lt ?_
                  unfold q_Mind_brokenBy_1_184
                  have z107 : (v5 + 1 : Int32).toInt = v5.toInt + 1 := iadd rfl (rfl : (1 : Int32).toInt = 1) (by omega) (by omega)
                  exact ih v1 v2 (v4 ||| ((1 : Int32) <<< (v5 &&& 31))) (v5 + 1) (by omega) (by omega) (by omega)
              · skip
                unfold q_Mind_brokenBy_1_168
                unfold q_Mind_brokenBy_1_170
                refine wpR_eq (x := 1) (y := 0) (rfl : (1 : Int32).toInt = 1) (rfl : (0 : Int32).toInt = 0) (fun c108 => ?_) (fun c108 => ?_)
                · skip
                  unfold q_Mind_brokenBy_1_184
                  have z109 : (v5 + 1 : Int32).toInt = v5.toInt + 1 := iadd rfl (rfl : (1 : Int32).toInt = 1) (by omega) (by omega)
                  exact ih v1 v2 v4 (v5 + 1) (by omega) (by omega) (by omega)
                · skip
                  refine wpR_lt ?_
                  unfold q_Mind_brokenBy_1_184
                  have z110 : (v5 + 1 : Int32).toInt = v5.toInt + 1 := iadd rfl (rfl : (1 : Int32).toInt = 1) (by omega) (by omega)
                  exact ih v1 v2 (v4 ||| ((1 : Int32) <<< (v5 &&& 31))) (v5 + 1) (by omega) (by omega) (by omega)
theorem w_Mind_brokenBy_1 {G : Gx} {K : Int} {M : Mm} (hI : IX G K M)  (a1 : Int32) (a2 : Int32) (p0 : 0 ≤ a1.toInt ∧ a1.toInt ≤ 15) : wpR (q_Mind_brokenBy_1 M a1 a2) (fun M' r => M = M' ∧ True) := by
  unfold q_Mind_brokenBy_1
  have z1 := hI.rgR
  have z2 : (0 : Int32).toInt = 0 := rfl
  exact w_Mind_brokenBy_1_14 hI 4000 a1 a2 0 0 (by omega) (by omega) (by omega)
theorem w_Mind_write_1_11 {G : Gx} {K : Int}  : ∀ (n' : Nat) (M : Mm) (v1 : Int32) (v2 : Int32) (v4 : Int32), IX G K M → (0 ≤ v4.toInt ∧ v4.toInt ≤ 12) → (0 ≤ v1.toInt ∧ v1.toInt ≤ 15) → 12 - v4.toInt < (n' : Int) → wpR (q_Mind_write_1_11 n' M v1 v2 v4) (fun M' r => IX G K M' ∧ ((M'.1 60 2).toInt = (M.1 60 2).toInt)) := by
  intro n'
  induction n' with
  | zero =>
    intro M v1 v2 v4 hI p0 p1 hn
    have z1 := hI.rgR
    exfalso; omega
  | succ n' ih =>
    intro M v1 v2 v4 hI p0 p1 hn
    rw [q_Mind_write_1_11]
    have z2 := hI.rgR
    have z3 := hI.rc
    refine wpR_le (x := (M.1 43 0 : Int32).toInt) (y := v4.toInt) rfl rfl (fun c4 => ?_) (fun c4 => ?_)
    · skip
      have k5 : 0 ≤ (v1 : Int32).toInt ∧ (v1 : Int32).toInt < ((16 : Nat) : Int) := by omega
      refine wpR_ix (vI k5) ?_
      refine wpR_ix (vI k5) ?_
      refine wpR_ltv (fun m6 e7 => ?_)
      have i8 : IX G K m6 := by rw [e7]; exact hI.s62 _
      have z9 : (m6.1 60 2).toInt = (M.1 60 2).toInt := by rw [e7]; rfl
      have z10 : (0 : Int32).toInt = 0 := rfl
      exact wpR_some ⟨i8, (by omega)⟩
    · skip
      have k11 : 0 ≤ (v4 : Int32).toInt ∧ (v4 : Int32).toInt < ((12 : Nat) : Int) := by omega
      refine wpR_ix (vI k11) ?_
      refine wpR_eq (x := (M.1 44 (v4 : Int32).toNatClampNeg : Int32).toInt) (y := 0) rfl (rfl : (0 : Int32).toInt = 0) (fun c12 => ?_) (fun c12 => ?_)
      · skip
        refine wpR_ix (vI k11) ?_
        have z13 := hI.f45 (v := v4) (by omega) (by omega)
        refine wpR_ro (w_Mind_isWritten_1 hI (M.1 45 (v4 : Int32).toNatClampNeg) v1 v2 (by omega) (by omega)) (fun u14 h15 => ?_)
        refine wpR_eq (x := u14.toInt) (y := 0) rfl (rfl : (0 : Int32).toInt = 0) (fun c17 => ?_) (fun c17 => ?_)
        · skip
          unfold q_Mind_write_1_62
          refine wpR_ix (vI k11) ?_
          refine wpR_eq (x := (M.1 44 (v4 : Int32).toNatClampNeg : Int32).toInt) (y := 2) rfl (rfl : (2 : Int32).toInt = 2) (fun c18 => ?_) (fun c18 => ?_)
          · skip
            refine wpR_ix (vI k11) ?_
            have f19 := hI.f46 (v := v4) (by omega) (by omega)
            have z20 := f19.r
            refine wpR_ro (w_Mind_isWritten_1 hI (M.1 46 (v4 : Int32).toNatClampNeg) v1 v2 (by omega) (by omega)) (fun u21 h22 => ?_)
            refine wpR_eq (x := u21.toInt) (y := 0) rfl (rfl : (0 : Int32).toInt = 0) (fun c24 => ?_) (fun c24 => ?_)
            · skip
              refine wpR_ix (vI k11) ?_
              refine wpR_ro (w_Mind_isWritten_1 hI (M.1 45 (v4 : Int32).toNatClampNeg) v1 v2 (by omega) (by omega)) (fun u25 h26 => ?_)
              refine wpR_eq (x := u25.toInt) (y := 0) rfl (rfl : (0 : Int32).toInt = 0) (fun c28 => ?_) (fun c28 => ?_)
              · skip
                unfold q_Mind_write_1_136
                have z29 : (v4 + 1 : Int32).toInt = v4.toInt + 1 := iadd rfl (rfl : (1 : Int32).toInt = 1) (by omega) (by omega)
                refine wpR_mono (ih M v1 v2 (v4 + 1) hI (by omega) (by omega) (by omega)) (fun _ _ h31 => ?_)
                obtain ⟨i32, h30⟩ := h31
                exact ⟨i32, (by omega)⟩
              · skip
                refine wpR_ltv (fun m33 e34 => ?_)
                have i35 : IX G K m33 := by rw [e34]; exact hI.s61_2 _
                have z36 : (m33.1 60 2).toInt = (M.1 60 2).toInt := by rw [e34]; rfl
                unfold q_Mind_write_1_136
                have z37 : (v4 + 1 : Int32).toInt = v4.toInt + 1 := iadd rfl (rfl : (1 : Int32).toInt = 1) (by omega) (by omega)
                refine wpR_mono (ih m33 v1 v2 (v4 + 1) i35 (by omega) (by omega) (by omega)) (fun _ _ h39 => ?_)
                obtain ⟨i40, h38⟩ := h39
                exact ⟨i40, (by omega)⟩
            · skip
              refine wpR_ltv (fun m41 e42 => ?_)
              have i43 : IX G K m41 := by rw [e42]; exact hI.s61_2 _
              have z44 : (m41.1 60 2).toInt = (M.1 60 2).toInt := by rw [e42]; rfl
              unfold q_Mind_write_1_136
              have z45 : (v4 + 1 : Int32).toInt = v4.toInt + 1 := iadd rfl (rfl : (1 : Int32).toInt = 1) (by omega) (by omega)
              refine wpR_mono (ih m41 v1 v2 (v4 + 1) i43 (by omega) (by omega) (by omega)) (fun _ _ h47 => ?_)
              obtain ⟨i48, h46⟩ := h47
              exact ⟨i48, (by omega)⟩
          · skip
            unfold q_Mind_write_1_136
            have z49 : (v4 + 1 : Int32).toInt = v4.toInt + 1 := iadd rfl (rfl : (1 : Int32).toInt = 1) (by omega) (by omega)
            refine wpR_mono (ih M v1 v2 (v4 + 1) hI (by omega) (by omega) (by omega)) (fun _ _ h51 => ?_)
            obtain ⟨i52, h50⟩ := h51
            exact ⟨i52, (by omega)⟩
        · skip
          refine wpR_ltv (fun m53 e54 => ?_)
          have i55 : IX G K m53 := by rw [e54]; exact hI.s61_2 _
          have z56 : (m53.1 60 2).toInt = (M.1 60 2).toInt := by rw [e54]; rfl
          unfold q_Mind_write_1_136
          have z57 : (v4 + 1 : Int32).toInt = v4.toInt + 1 := iadd rfl (rfl : (1 : Int32).toInt = 1) (by omega) (by omega)
          refine wpR_mono (ih m53 v1 v2 (v4 + 1) i55 (by omega) (by omega) (by omega)) (fun _ _ h59 => ?_)
          obtain ⟨i60, h58⟩ := h59
          exact ⟨i60, (by omega)⟩
      · skip
        unfold q_Mind_write_1_62
        refine wpR_ix (vI k11) ?_
        refine wpR_eq (x := (M.1 44 (v4 : Int32).toNatClampNeg : Int32).toInt) (y := 2) rfl (rfl : (2 : Int32).toInt = 2) (fun c61 => ?_) (fun c61 => ?_)
        · skip
          refine wpR_ix (vI k11) ?_
          have f62 := hI.f46 (v := v4) (by omega) (by omega)
          have z63 := f62.r
          refine wpR_ro (w_Mind_isWritten_1 hI (M.1 46 (v4 : Int32).toNatClampNeg) v1 v2 (by omega) (by omega)) (fun u64 h65 => ?_)
          refine wpR_eq (x := u64.toInt) (y := 0) rfl (rfl : (0 : Int32).toInt = 0) (fun c67 => ?_) (fun c67 => ?_)
          · skip
            refine wpR_ix (vI k11) ?_
            have z68 := hI.f45 (v := v4) (by omega) (by omega)
            refine wpR_ro (w_Mind_isWritten_1 hI (M.1 45 (v4 : Int32).toNatClampNeg) v1 v2 (by omega) (by omega)) (fun u69 h70 => ?_)
            refine wpR_eq (x := u69.toInt) (y := 0) rfl (rfl : (0 : Int32).toInt = 0) (fun c72 => ?_) (fun c72 => ?_)
            · skip
              unfold q_Mind_write_1_136
              have z73 : (v4 + 1 : Int32).toInt = v4.toInt + 1 := iadd rfl (rfl : (1 : Int32).toInt = 1) (by omega) (by omega)
              refine wpR_mono (ih M v1 v2 (v4 + 1) hI (by omega) (by omega) (by omega)) (fun _ _ h75 => ?_)
              obtain ⟨i76, h74⟩ := h75
              exact ⟨i76, (by omega)⟩
            · skip
              refine wpR_ltv (fun m77 e78 => ?_)
              have i79 : IX G K m77 := by rw [e78]; exact hI.s61_2 _
              have z80 : (m77.1 60 2).toInt = (M.1 60 2).toInt := by rw [e78]; rfl
              unfold q_Mind_write_1_136
              have z81 : (v4 + 1 : Int32).toInt = v4.toInt + 1 := iadd rfl (rfl : (1 : Int32).toInt = 1) (by omega) (by omega)
              refine wpR_mono (ih m77 v1 v2 (v4 + 1) i79 (by omega) (by omega) (by omega)) (fun _ _ h83 => ?_)
              obtain ⟨i84, h82⟩ := h83
              exact ⟨i84, (by omega)⟩
          · skip
            refine wpR_ltv (fun m85 e86 => ?_)
            have i87 : IX G K m85 := by rw [e86]; exact hI.s61_2 _
            have z88 : (m85.1 60 2).toInt = (M.1 60 2).toInt := by rw [e86]; rfl
            unfold q_Mind_write_1_136
            have z89 : (v4 + 1 : Int32).toInt = v4.toInt + 1 := iadd rfl (rfl : (1 : Int32).toInt = 1) (by omega) (by omega)
            refine wpR_mono (ih m85 v1 v2 (v4 + 1) i87 (by omega) (by omega) (by omega)) (fun _ _ h91 => ?_)
            obtain ⟨i92, h90⟩ := h91
            exact ⟨i92, (by omega)⟩
        · skip
          unfold q_Mind_write_1_136
          have z93 : (v4 + 1 : Int32).toInt = v4.toInt + 1 := iadd rfl (rfl : (1 : Int32).toInt = 1) (by omega) (by omega)
          refine wpR_mono (ih M v1 v2 (v4 + 1) hI (by omega) (by omega) (by omega)) (fun _ _ h95 => ?_)
          obtain ⟨i96, h94⟩ := h95
          exact ⟨i96, (by omega)⟩
theorem w_Mind_write_1 {G : Gx} {K : Int} {M : Mm} (hI : IX G K M)  (a1 : Int32) (a2 : Int32) (p0 : 0 ≤ a1.toInt ∧ a1.toInt ≤ 15) : wpR (q_Mind_write_1 M a1 a2) (fun M' r => IX G K M' ∧ ((M'.1 60 2).toInt = (M.1 60 2).toInt)) := by
  unfold q_Mind_write_1
  have z1 := hI.rgR
  have z2 : (0 : Int32).toInt = 0 := rfl
  refine wpR_mono (w_Mind_write_1_11 4000 M a1 a2 0 hI (by omega) (by omega) (by omega)) (fun _ _ h4 => ?_)
  obtain ⟨i5, h3⟩ := h4
  exact ⟨i5, (by omega)⟩
theorem w_Plan_addTold {G : Gx} {K : Int} {M : Mm} (hI : IX G K M)  (a1 : Int32) (a2 : Int32) (a3 : Int32) (p0 : 0 ≤ a1.toInt ∧ a1.toInt ≤ 15) : wpR (q_Plan_addTold M a1 a2 a3) (fun M' r => IX G K M' ∧ True) := by
  unfold q_Plan_addTold
  have z1 := hI.rgR
  refine wpR_eq (x := (M.1 60 5 : Int32).toInt) (y := 0) rfl (rfl : (0 : Int32).toInt = 0) (fun c2 => ?_) (fun c2 => ?_)
  · skip
    have z3 := hI.wr
    refine wpR_lw (x := (M.1 60 2 : Int32).toInt) (y := 16) rfl (rfl : (16 : Int32).toInt = 16) (fun c4 => ?_) (fun c4 => ?_)
    · skip
      have k5 : 0 ≤ (a1 : Int32).toInt ∧ (a1 : Int32).toInt < ((16 : Nat) : Int) := by omega
      refine wpR_ix (vI k5) ?_
      refine wpR_lt ?_
      refine wpR_ro (w_Mind_brokenBy_1 hI a1 (((M.1 62 (a1 : Int32).toNatClampNeg) &&& (a2 ^^^ (-1))) ||| a3) (by omega)) (fun u6 _ => ?_)
      refine wpR_eq (x := u6.toInt) (y := 0) rfl (rfl : (0 : Int32).toInt = 0) (fun c8 => ?_) (fun c8 => ?_)
      · skip
        refine wpR_cl (w_Mind_write_1 hI a1 (((M.1 62 (a1 : Int32).toNatClampNeg) &&& (a2 ^^^ (-1))) ||| a3) (by omega)) (fun m11 u9 h12 => ?_)
        obtain ⟨i13, h10⟩ := h12
        have z14 := i13.wr
        have k15 : 0 ≤ ((m11.1 60 2) : Int32).toInt ∧ ((m11.1 60 2) : Int32).toInt < ((16 : Nat) : Int) := by omega
        refine wpR_ix (vI k15) ?_
        refine wpR_ltv (fun m16 e17 => ?_)
        have i18 : IX G K m16 := by rw [e17]; exact i13.s63 _ (by omega)
        have z19 : (m16.1 60 2).toInt = (m11.1 60 2).toInt := by rw [e17]; rfl
        have z20 := i18.wr
        have k21 : 0 ≤ ((m16.1 60 2) : Int32).toInt ∧ ((m16.1 60 2) : Int32).toInt < ((16 : Nat) : Int) := by omega
        refine wpR_ix (vI k21) ?_
        refine wpR_ltv (fun m22 e23 => ?_)
        have i24 : IX G K m22 := by rw [e23]; exact i18.s64 _
        have z25 : (m22.1 60 2).toInt = (m16.1 60 2).toInt := by rw [e23]; rfl
        have z29 := i24.wr
        have z30 : ((m22.1 60 2) + 1 : Int32).toInt = (m22.1 60 2 : Int32).toInt + 1 := iadd rfl (rfl : (1 : Int32).toInt = 1) (by omega) (by omega)
        refine wpR_ltv (fun m26 e27 => ?_)
        have i28 : IX G K m26 := by rw [e27]; exact i24.s60_2 (by omega)
        exact wpR_some ⟨i28, trivial⟩
      · skip
        refine wpR_ro (w_Integer_numberOfTrailingZeros hI u6) (fun u31 _ => ?_)
        refine wpR_ltv (fun m33 e34 => ?_)
        have i35 : IX G K m33 := by rw [e34]; exact hI.s60_5 _
        exact wpR_some ⟨i35, trivial⟩
    · skip
      exact wpR_some ⟨hI, trivial⟩
  · skip
    exact wpR_some ⟨hI, trivial⟩
theorem w_Plan_addReach {G : Gx} {K : Int} {M : Mm} (hI : IX G K M)  (a1 : Int32) (p0 : 0 ≤ a1.toInt ∧ a1.toInt < G.rg) : wpR (q_Plan_addReach M a1) (fun M' r => IX G K M' ∧ True) := by
  unfold q_Plan_addReach
  have z1 := hI.rgR
  refine wpR_ro (w_Mind_isThere_1 hI a1 (by omega)) (fun u2 h5 => ?_)
  obtain ⟨h3, h4⟩ := h5
  refine wpR_eq (x := u2.toInt) (y := 0) rfl (rfl : (0 : Int32).toInt = 0) (fun c6 => ?_) (fun c6 => ?_)
  · skip
    have f7 : HasF G.hm (M.1 26 (a1 : Int32).toNatClampNeg) := h4 c6
    have z8 := f7.r
    have k9 : 0 ≤ (a1 : Int32).toInt ∧ (a1 : Int32).toInt < ((16 : Nat) : Int) := by omega
    refine wpR_ix (vI k9) ?_
    refine wpR_lt ?_
    have k10 : 0 ≤ ((M.1 26 (a1 : Int32).toNatClampNeg) : Int32).toInt ∧ ((M.1 26 (a1 : Int32).toNatClampNeg) : Int32).toInt < ((26 : Nat) : Int) := by omega
    refine wpR_ix (vI k10) ?_
    refine wpR_ix (vI k10) ?_
    refine wpR_ix (vI k9) ?_
    refine wpR_ix (vI k10) ?_
    have z11 := hI.f38 (((M.1 26 (a1 : Int32).toNatClampNeg) : Int32).toNatClampNeg)
    refine wpR_cl (w_Plan_addTold hI (M.1 38 ((M.1 26 (a1 : Int32).toNatClampNeg) : Int32).toNatClampNeg) (M.1 42 ((M.1 26 (a1 : Int32).toNatClampNeg) : Int32).toNatClampNeg) (((M.1 27 (a1 : Int32).toNatClampNeg) : Int32) <<< ((M.1 40 ((M.1 26 (a1 : Int32).toNatClampNeg) : Int32).toNatClampNeg) &&& 31)) (by omega)) (fun m13 u12 h14 => ?_)
    have i15 := h14.1
    exact wpR_some ⟨i15, trivial⟩
  · skip
    exact wpR_some ⟨hI, trivial⟩
theorem w_Plan_addPut {G : Gx} {K : Int} {M : Mm} (hI : IX G K M)  (a1 : Int32) (a2 : Int32) (p0 : HasF G.hm a1) : wpR (q_Plan_addPut M a1 a2) (fun M' r => IX G K M' ∧ True) := by
  unfold q_Plan_addPut
  have z1 := hI.rgR
  have z2 := p0.r
  refine wpR_ro (w_Layout_isKnown hI a1 (by omega)) (fun u3 h4 => ?_)
  refine wpR_eq (x := u3.toInt) (y := 0) rfl (rfl : (0 : Int32).toInt = 0) (fun c6 => ?_) (fun c6 => ?_)
  · skip
    unfold q_Plan_addPut_24
    have k7 : 0 ≤ (a1 : Int32).toInt ∧ (a1 : Int32).toInt < ((26 : Nat) : Int) := by omega
    refine wpR_ix (vI k7) ?_
    refine wpR_lt ?_
    have z8 := hI.f38 ((a1 : Int32).toNatClampNeg)
    refine wpR_cl (w_Plan_addReach hI (M.1 38 (a1 : Int32).toNatClampNeg) (by omega)) (fun m10 u9 h11 => ?_)
    have i12 := h11.1
    refine wpR_ix (vI k7) ?_
    refine wpR_ix (vI k7) ?_
    refine wpR_cl (w_Plan_addTold i12 (M.1 38 (a1 : Int32).toNatClampNeg) (m10.1 42 (a1 : Int32).toNatClampNeg) ((a2 : Int32) <<< ((m10.1 40 (a1 : Int32).toNatClampNeg) &&& 31)) (by omega)) (fun m14 u13 h15 => ?_)
    have i16 := h15.1
    exact wpR_some ⟨i16, trivial⟩
  · skip
    refine wpR_ro (w_Mind_knownValue_1 hI a1 p0) (fun u17 _ => ?_)
    refine wpR_eq (x := u17.toInt) (y := a2.toInt) rfl rfl (fun c19 => ?_) (fun c19 => ?_)
    · skip
      exact wpR_some ⟨hI, trivial⟩
    · skip
      unfold q_Plan_addPut_24
      have k20 : 0 ≤ (a1 : Int32).toInt ∧ (a1 : Int32).toInt < ((26 : Nat) : Int) := by omega
      refine wpR_ix (vI k20) ?_
      refine wpR_lt ?_
      have z21 := hI.f38 ((a1 : Int32).toNatClampNeg)
      refine wpR_cl (w_Plan_addReach hI (M.1 38 (a1 : Int32).toNatClampNeg) (by omega)) (fun m23 u22 h24 => ?_)
      have i25 := h24.1
      refine wpR_ix (vI k20) ?_
      refine wpR_ix (vI k20) ?_
      refine wpR_cl (w_Plan_addTold i25 (M.1 38 (a1 : Int32).toNatClampNeg) (m23.1 42 (a1 : Int32).toNatClampNeg) ((a2 : Int32) <<< ((m23.1 40 (a1 : Int32).toNatClampNeg) &&& 31)) (by omega)) (fun m27 u26 h28 => ?_)
      have i29 := h28.1
      exact wpR_some ⟨i29, trivial⟩
theorem w_ChipMap_doWrites_15 {G : Gx} {K : Int} (hK : K + 16 ≤ 2000000000)  : ∀ (n' : Nat) (M : Mm) (v1 : Int32), IX G (K + v1.toInt) M → (0 ≤ v1.toInt ∧ v1.toInt ≤ 16) → 16 - v1.toInt < (n' : Int) → wpR (q_ChipMap_doWrites_15 n' M v1) (fun M' r => IX G (K + 16) M' ∧ True) := by
  intro n'
  induction n' with
  | zero =>
    intro M v1 hI p0 hn
    have z1 := hI.rgR
    exfalso; omega
  | succ n' ih =>
    intro M v1 hI p0 hn
    rw [q_ChipMap_doWrites_15]
    have z2 := hI.rgR
    have z3 := hI.wr
    refine wpR_le (x := (M.1 60 2 : Int32).toInt) (y := v1.toInt) rfl rfl (fun c4 => ?_) (fun c4 => ?_)
    · skip
      exact wpR_some ⟨(hI.mono (by omega)), trivial⟩
    · skip
      have k5 : 0 ≤ (v1 : Int32).toInt ∧ (v1 : Int32).toInt < ((16 : Nat) : Int) := by omega
      refine wpR_ix (vI k5) ?_
      refine wpR_ix (vI k5) ?_
      have z6 := hI.wreg ((v1 : Int32).toNatClampNeg)
      refine wpR_cl (w_Device_write hI (by omega) (M.1 63 (v1 : Int32).toNatClampNeg) (M.1 64 (v1 : Int32).toNatClampNeg) (by omega)) (fun m8 u7 h9 => ?_)
      have i10 := h9.1
      have z11 : (v1 + 1 : Int32).toInt = v1.toInt + 1 := iadd rfl (rfl : (1 : Int32).toInt = 1) (by omega) (by omega)
      exact ih m8 (v1 + 1) (i10.mono (by omega)) (by omega) (by omega)
theorem w_ChipMap_doWrites {G : Gx} {K : Int} {M : Mm} (hI : IX G K M) (hK : K + 16 ≤ 2000000000)  : wpR (q_ChipMap_doWrites M) (fun M' r => IX G (K + 16) M' ∧ True) := by
  unfold q_ChipMap_doWrites
  have z1 := hI.rgR
  refine wpR_eq (x := (M.1 60 5 : Int32).toInt) (y := 0) rfl (rfl : (0 : Int32).toInt = 0) (fun c2 => ?_) (fun c2 => ?_)
  · skip
    have z3 : (0 : Int32).toInt = 0 := rfl
    exact w_ChipMap_doWrites_15 (by omega) 4000 M 0 (hI.mono (by omega)) (by omega) (by omega)
  · skip
    exact wpR_some ⟨(hI.mono (by omega)), trivial⟩
theorem w_ChipMap_put {G : Gx} {K : Int} {M : Mm} (hI : IX G K M) (hK : K + 16 ≤ 2000000000)  (a1 : Int32) (a2 : Int32) : wpR (q_ChipMap_put M a1 a2) (fun M' r => IX G (K + 16) M' ∧ True) := by
  unfold q_ChipMap_put
  have z1 := hI.rgR
  refine wpR_ro (w_Layout_canPut hI a1 a2) (fun u2 h5 => ?_)
  obtain ⟨h3, h4⟩ := h5
  refine wpR_eq (x := u2.toInt) (y := 0) rfl (rfl : (0 : Int32).toInt = 0) (fun c6 => ?_) (fun c6 => ?_)
  · skip
    exact wpR_some ⟨(hI.mono (by omega)), trivial⟩
  · skip
    have f7 : HasF G.hm a1 := h4 c6
    have z8 := f7.r
    have z9 := hI.jc
    refine wpR_le (x := (M.1 65 0 : Int32).toInt) (y := 0) rfl (rfl : (0 : Int32).toInt = 0) (fun c10 => ?_) (fun c10 => ?_)
    · skip
      refine wpR_cl (w_Plan_begin hI) (fun m12 u11 h13 => ?_)
      have i14 := h13.1
      refine wpR_cl (w_Plan_addPut i14 a1 a2 f7) (fun m16 u15 h17 => ?_)
      have i18 := h17.1
      refine wpR_cl (w_ChipMap_doWrites i18 (by omega)) (fun m20 u19 h21 => ?_)
      have i22 := h21.1
      exact wpR_some ⟨i22, trivial⟩
    · skip
      exact wpR_some ⟨(hI.mono (by omega)), trivial⟩
theorem w_Layout_canFetch {G : Gx} {K : Int} {M : Mm} (hI : IX G K M)  (a1 : Int32) : wpR (q_Layout_canFetch M a1) (fun M' r => M = M' ∧ (0 ≤ r.toInt ∧ r.toInt ≤ 1) ∧ ((r.toInt ≠ 0 → HasF G.hm a1))) := by
  unfold q_Layout_canFetch
  have z1 := hI.rgR
  refine wpR_ro (w_Layout_has hI a1) (fun u2 h5 => ?_)
  obtain ⟨h3, h4⟩ := h5
  refine wpR_eq (x := u2.toInt) (y := 0) rfl (rfl : (0 : Int32).toInt = 0) (fun c6 => ?_) (fun c6 => ?_)
  · skip
    have z7 : (0 : Int32).toInt = 0 := rfl
    exact wpR_some ⟨rfl, (by omega), (fun h => absurd rfl h)⟩
  · skip
    have f8 : HasF G.hm a1 := h4 c6
    have z9 := f8.r
    have k10 : 0 ≤ (a1 : Int32).toInt ∧ (a1 : Int32).toInt < ((26 : Nat) : Int) := by omega
    refine wpR_ix (vI k10) ?_
    refine wpR_eq (x := (M.1 39 (a1 : Int32).toNatClampNeg : Int32).toInt) (y := 2) rfl (rfl : (2 : Int32).toInt = 2) (fun c11 => ?_) (fun c11 => ?_)
    · skip
      have z12 : (0 : Int32).toInt = 0 := rfl
      exact wpR_some ⟨rfl, (by omega), (fun h => absurd rfl h)⟩
    · skip
      have z13 : (1 : Int32).toInt = 1 := rfl
      exact wpR_some ⟨rfl, (by omega), (fun _ => f8)⟩
theorem w_Plan_addFetch {G : Gx} {K : Int} {M : Mm} (hI : IX G K M)  (a1 : Int32) (p0 : HasF G.hm a1) : wpR (q_Plan_addFetch M a1) (fun M' r => IX G K M' ∧ True) := by
  unfold q_Plan_addFetch
  have z1 := hI.rgR
  have z2 := p0.r
  have k3 : 0 ≤ (a1 : Int32).toInt ∧ (a1 : Int32).toInt < ((26 : Nat) : Int) := by omega
  refine wpR_ix (vI k3) ?_
  refine wpR_eq (x := (M.1 39 (a1 : Int32).toNatClampNeg : Int32).toInt) (y := 0) rfl (rfl : (0 : Int32).toInt = 0) (fun c4 => ?_) (fun c4 => ?_)
  · skip
    exact wpR_some ⟨hI, trivial⟩
  · skip
    refine wpR_ix (vI k3) ?_
    have z5 := hI.f38 ((a1 : Int32).toNatClampNeg)
    refine wpR_cl (w_Plan_addReach hI (M.1 38 (a1 : Int32).toNatClampNeg) (by omega)) (fun m7 u6 h8 => ?_)
    have i9 := h8.1
    exact wpR_some ⟨i9, trivial⟩
theorem w_ChipMap_reachForFetch {G : Gx} {K : Int} {M : Mm} (hI : IX G K M) (hK : K + 16 ≤ 2000000000)  (a1 : Int32) (p0 : HasF G.hm a1) : wpR (q_ChipMap_reachForFetch M a1) (fun M' r => IX G (K + 16) M' ∧ (0 ≤ r.toInt ∧ r.toInt ≤ 1)) := by
  unfold q_ChipMap_reachForFetch
  have z1 := hI.rgR
  have z2 := p0.r
  refine wpR_cl (w_Plan_begin hI) (fun m4 u3 h5 => ?_)
  have i6 := h5.1
  refine wpR_cl (w_Plan_addFetch i6 a1 p0) (fun m8 u7 h9 => ?_)
  have i10 := h9.1
  refine wpR_cl (w_ChipMap_doWrites i10 (by omega)) (fun m12 u11 h13 => ?_)
  have i14 := h13.1
  refine wpR_eq (x := u11.toInt) (y := (-2)) rfl (by decide : (-2 : Int32).toInt = -2) (fun c15 => ?_) (fun c15 => ?_)
  · skip
    have z16 : (0 : Int32).toInt = 0 := rfl
    exact wpR_some ⟨i14, (by omega)⟩
  · skip
    have z17 : (1 : Int32).toInt = 1 := rfl
    exact wpR_some ⟨i14, (by omega)⟩
theorem w_Device_takeKept {G : Gx} {K : Int} {M : Mm} (hI : IX G K M)  (a1 : Int32) (p0 : HasF G.hm a1) : wpR (q_Device_takeKept M a1) (fun M' r => IX G K M' ∧ True) := by
  unfold q_Device_takeKept
  have z1 := hI.rgR
  have z2 := p0.r
  have k3 : 0 ≤ (a1 : Int32).toInt ∧ (a1 : Int32).toInt < ((26 : Nat) : Int) := by omega
  refine wpR_ix (vI k3) ?_
  refine wpR_lt ?_
  have z4 := hI.f38 ((a1 : Int32).toNatClampNeg)
  have k5 : 0 ≤ ((M.1 38 (a1 : Int32).toNatClampNeg) : Int32).toInt ∧ ((M.1 38 (a1 : Int32).toNatClampNeg) : Int32).toInt < ((16 : Nat) : Int) := by omega
  refine wpR_ix (vI k5) ?_
  refine wpR_ro (w_Layout_bitsOf hI a1 (M.1 58 ((M.1 38 (a1 : Int32).toNatClampNeg) : Int32).toNatClampNeg) (by omega)) (fun u6 _ => ?_)
  refine wpR_ix (vI k5) ?_
  refine wpR_ix (vI k3) ?_
  refine wpR_ix (vI k5) ?_
  refine wpR_ltv (fun m8 e9 => ?_)
  have i10 : IX G K m8 := by rw [e9]; exact hI.s58 _
  exact wpR_some ⟨i10, trivial⟩
theorem w_ChipMap_readOut {G : Gx} {K : Int} {M : Mm} (hI : IX G K M) (hK : K + 1 ≤ 2000000000)  (a1 : Int32) (p0 : HasF G.hm a1) : wpR (q_ChipMap_readOut M a1) (fun M' r => IX G (K + 1) M' ∧ True) := by
  unfold q_ChipMap_readOut
  have z1 := hI.rgR
  have z2 := p0.r
  have k3 : 0 ≤ (a1 : Int32).toInt ∧ (a1 : Int32).toInt < ((26 : Nat) : Int) := by omega
  refine wpR_ix (vI k3) ?_
  refine wpR_lt ?_
  refine wpR_eq (x := (M.1 39 (a1 : Int32).toNatClampNeg : Int32).toInt) (y := 0) rfl (rfl : (0 : Int32).toInt = 0) (fun c4 => ?_) (fun c4 => ?_)
  · skip
    refine wpR_ro (w_Device_valueOf hI a1 p0) (fun u5 _ => ?_)
    exact wpR_some ⟨(hI.mono (by omega)), trivial⟩
  · skip
    refine wpR_ix (vI k3) ?_
    refine wpR_lt ?_
    have z7 := hI.f38 ((a1 : Int32).toNatClampNeg)
    refine wpR_cl (w_Device_read hI (by omega) (M.1 38 (a1 : Int32).toNatClampNeg) (by omega)) (fun m9 u8 h10 => ?_)
    have i11 := h10.1
    refine wpR_eq (x := (M.1 39 (a1 : Int32).toNatClampNeg : Int32).toInt) (y := 3) rfl (rfl : (3 : Int32).toInt = 3) (fun c12 => ?_) (fun c12 => ?_)
    · skip
      refine wpR_cl (w_Device_takeKept i11 a1 p0) (fun m14 u13 h15 => ?_)
      have i16 := h15.1
      exact wpR_some ⟨i16, trivial⟩
    · skip
      refine wpR_ro (w_Layout_bitsOf i11 a1 u8 (by omega)) (fun u17 _ => ?_)
      exact wpR_some ⟨i11, trivial⟩
theorem w_Steps_isFull {G : Gx} {K : Int} {M : Mm} (hI : IX G K M)  : wpR (q_Steps_isFull M) (fun M' r => M = M' ∧ (0 ≤ r.toInt ∧ r.toInt ≤ 1) ∧ (r.toInt = 0 → (M.1 65 0).toInt < 8)) := by
  unfold q_Steps_isFull
  have z1 := hI.rgR
  have z2 := hI.jc
  refine wpR_lw (x := (M.1 65 0 : Int32).toInt) (y := 8) rfl (rfl : (8 : Int32).toInt = 8) (fun c3 => ?_) (fun c3 => ?_)
  · skip
    have z4 : (0 : Int32).toInt = 0 := rfl
    exact wpR_some ⟨rfl, (by omega), (by omega)⟩
  · skip
    have z5 : (1 : Int32).toInt = 1 := rfl
    exact wpR_some ⟨rfl, (by omega), (by omega)⟩
theorem w_ChipMap_join {G : Gx} {K : Int} {M : Mm} (hI : IX G K M)  (a1 : Int32) (a2 : Int32) : wpR (q_ChipMap_join M a1 a2) (fun M' r => IX G K M' ∧ True) := by
  unfold q_ChipMap_join
  have z1 := hI.rgR
  refine wpR_ro (w_Layout_canPut hI a1 a2) (fun u2 h5 => ?_)
  obtain ⟨h3, h4⟩ := h5
  refine wpR_eq (x := u2.toInt) (y := 0) rfl (rfl : (0 : Int32).toInt = 0) (fun c6 => ?_) (fun c6 => ?_)
  · skip
    exact wpR_some ⟨hI, trivial⟩
  · skip
    have f7 : HasF G.hm a1 := h4 c6
    have z8 := f7.r
    refine wpR_ro (w_Steps_isFull hI) (fun u9 h12 => ?_)
    obtain ⟨h10, h11⟩ := h12
    refine wpR_eq (x := u9.toInt) (y := 0) rfl (rfl : (0 : Int32).toInt = 0) (fun c13 => ?_) (fun c13 => ?_)
    · skip
      have z14 := hI.jc
      refine wpR_cl (w_Steps_append hI 0 a1 a2 (by omega) f7) (fun m16 u15 h17 => ?_)
      have i18 := h17.1
      exact wpR_some ⟨i18, trivial⟩
    · skip
      exact wpR_some ⟨hI, trivial⟩
theorem w_Plan_isFirstOfRegister_18 {G : Gx} {K : Int} {M : Mm} (hI : IX G K M) : ∀ (n' : Nat) (v2 : Int32) (v3 : Int32) (v4 : Int32), (0 ≤ v4.toInt ∧ v4.toInt ≤ v2.toInt ∧ v2.toInt < (M.1 65 0).toInt) → v2.toInt - v4.toInt < (n' : Int) → wpR (q_Plan_isFirstOfRegister_18 n' M v2 v3 v4) (fun M' r => M = M' ∧ (0 ≤ r.toInt ∧ r.toInt ≤ 1)) := by
  intro n'
  induction n' with
  | zero =>
    intro v2 v3 v4 p0 hn
    exfalso; omega
  | succ n' ih =>
    intro v2 v3 v4 p0 hn
    rw [q_Plan_isFirstOfRegister_18]
    have z1 := hI.rgR
    have z2 := hI.jc
    refine wpR_le (x := v2.toInt) (y := v4.toInt) rfl rfl (fun c3 => ?_) (fun c3 => ?_)
    · skip
      have z4 : (1 : Int32).toInt = 1 := rfl
      exact wpR_some ⟨rfl, (by omega)⟩
    · skip
      have k5 : 0 ≤ (v4 : Int32).toInt ∧ (v4 : Int32).toInt < ((8 : Nat) : Int) := by omega
      refine wpR_ix (vI k5) ?_
      have f6 := hI.f67 (v := v4) (by omega) (by omega)
      have z7 := f6.r
      have k8 : 0 ≤ ((M.1 67 (v4 : Int32).toNatClampNeg) : Int32).toInt ∧ ((M.1 67 (v4 : Int32).toNatClampNeg) : Int32).toInt < ((26 : Nat) : Int) := by omega
      refine wpR_ix (vI k8) ?_
      have z9 := hI.f38 (((M.1 67 (v4 : Int32).toNatClampNeg) : Int32).toNatClampNeg)
      refine wpR_eq (x := (M.1 38 ((M.1 67 (v4 : Int32).toNatClampNeg) : Int32).toNatClampNeg : Int32).toInt) (y := v3.toInt) rfl rfl (fun c10 => ?_) (fun c10 => ?_)
      · skip
        have z11 : (0 : Int32).toInt = 0 := rfl
        exact wpR_some ⟨rfl, (by omega)⟩
      · skip
        have z12 : (v4 + 1 : Int32).toInt = v4.toInt + 1 := iadd rfl (rfl : (1 : Int32).toInt = 1) (by omega) (by omega)
        exact ih v2 v3 (v4 + 1) (by omega) (by omega)
theorem w_Plan_isFirstOfRegister {G : Gx} {K : Int} {M : Mm} (hI : IX G K M)  (a2 : Int32) (p0 : 0 ≤ a2.toInt ∧ a2.toInt < (M.1 65 0).toInt) : wpR (q_Plan_isFirstOfRegister M a2) (fun M' r => M = M' ∧ (0 ≤ r.toInt ∧ r.toInt ≤ 1)) := by
  unfold q_Plan_isFirstOfRegister
  have z1 := hI.rgR
  have z2 := hI.jc
  have k3 : 0 ≤ (a2 : Int32).toInt ∧ (a2 : Int32).toInt < ((8 : Nat) : Int) := by omega
  refine wpR_ix (vI k3) ?_
  have f4 := hI.f67 (v := a2) (by omega) (by omega)
  have z5 := f4.r
  have k6 : 0 ≤ ((M.1 67 (a2 : Int32).toNatClampNeg) : Int32).toInt ∧ ((M.1 67 (a2 : Int32).toNatClampNeg) : Int32).toInt < ((26 : Nat) : Int) := by omega
  refine wpR_ix (vI k6) ?_
  refine wpR_lt ?_
  have z7 : (0 : Int32).toInt = 0 := rfl
  exact w_Plan_isFirstOfRegister_18 hI 4000 a2 (M.1 38 ((M.1 67 (a2 : Int32).toNatClampNeg) : Int32).toNatClampNeg) 0 (by omega) (by omega)
theorem w_Plan_addRegister_8 {G : Gx} {K : Int}  : ∀ (n' : Nat) (M : Mm) (v2 : Int32) (v3 : Int32) (v4 : Int32) (v5 : Int32), IX G K M → (0 ≤ v5.toInt ∧ v5.toInt ≤ 8) → (0 ≤ v2.toInt ∧ v2.toInt < G.rg) → 8 - v5.toInt < (n' : Int) → wpR (q_Plan_addRegister_8 n' M v2 v3 v4 v5) (fun M' r => IX G K M' ∧ True) := by
  intro n'
  induction n' with
  | zero =>
    intro M v2 v3 v4 v5 hI p0 p1 hn
    have z1 := hI.rgR
    exfalso; omega
  | succ n' ih =>
    intro M v2 v3 v4 v5 hI p0 p1 hn
    rw [q_Plan_addRegister_8]
    have z2 := hI.rgR
    have z3 := hI.jc
    refine wpR_le (x := (M.1 65 0 : Int32).toInt) (y := v5.toInt) rfl rfl (fun c4 => ?_) (fun c4 => ?_)
    · skip
      have k5 : 0 ≤ (v2 : Int32).toInt ∧ (v2 : Int32).toInt < ((16 : Nat) : Int) := by omega
      refine wpR_ix (vI k5) ?_
      refine wpR_eq (x := (v3 &&& ((M.1 29 (v2 : Int32).toNatClampNeg) ^^^ (-1)) : Int32).toInt) (y := 0) rfl (rfl : (0 : Int32).toInt = 0) (fun c6 => ?_) (fun c6 => ?_)
      · skip
        unfold q_Plan_addRegister_131
        refine wpR_eq (x := 1) (y := 0) (rfl : (1 : Int32).toInt = 1) (rfl : (0 : Int32).toInt = 0) (fun c7 => ?_) (fun c7 => ?_)
        · skip
          unfold q_Plan_addRegister_155
          refine wpR_cl (w_Plan_addReach hI v2 (by omega)) (fun m9 u8 h10 => ?_)
          have i11 := h10.1
          refine wpR_cl (w_Plan_addTold i11 v2 v3 v4 (by omega)) (fun m13 u12 h14 => ?_)
          have i15 := h14.1
          exact wpR_some ⟨i15, trivial⟩
        · skip
          refine wpR_ix (vI k5) ?_
          refine wpR_eq (x := ((M.1 62 (v2 : Int32).toNatClampNeg) &&& v3 : Int32).toInt) (y := v4.toInt) rfl rfl (fun c16 => ?_) (fun c16 => ?_)
          · skip
            exact wpR_some ⟨hI, trivial⟩
          · skip
            unfold q_Plan_addRegister_155
            refine wpR_cl (w_Plan_addReach hI v2 (by omega)) (fun m18 u17 h19 => ?_)
            have i20 := h19.1
            refine wpR_cl (w_Plan_addTold i20 v2 v3 v4 (by omega)) (fun m22 u21 h23 => ?_)
            have i24 := h23.1
            exact wpR_some ⟨i24, trivial⟩
      · skip
        unfold q_Plan_addRegister_131
        refine wpR_eq (x := 0) (y := 0) (rfl : (0 : Int32).toInt = 0) (rfl : (0 : Int32).toInt = 0) (fun c25 => ?_) (fun c25 => ?_)
        · skip
          unfold q_Plan_addRegister_155
          refine wpR_cl (w_Plan_addReach hI v2 (by omega)) (fun m27 u26 h28 => ?_)
          have i29 := h28.1
          refine wpR_cl (w_Plan_addTold i29 v2 v3 v4 (by omega)) (fun m31 u30 h32 => ?_)
          have i33 := h32.1
          exact wpR_some ⟨i33, trivial⟩
        · skip
          refine wpR_ix (vI k5) ?_
          refine wpR_eq (x := ((M.1 62 (v2 : Int32).toNatClampNeg) &&& v3 : Int32).toInt) (y := v4.toInt) rfl rfl (fun c34 => ?_) (fun c34 => ?_)
          · skip
            exact wpR_some ⟨hI, trivial⟩
          · skip
            unfold q_Plan_addRegister_155
            refine wpR_cl (w_Plan_addReach hI v2 (by omega)) (fun m36 u35 h37 => ?_)
            have i38 := h37.1
            refine wpR_cl (w_Plan_addTold i38 v2 v3 v4 (by omega)) (fun m40 u39 h41 => ?_)
            have i42 := h41.1
            exact wpR_some ⟨i42, trivial⟩
    · skip
      have k43 : 0 ≤ (v5 : Int32).toInt ∧ (v5 : Int32).toInt < ((8 : Nat) : Int) := by omega
      refine wpR_ix (vI k43) ?_
      refine wpR_lt ?_
      have f44 := hI.f67 (v := v5) (by omega) (by omega)
      have z45 := f44.r
      have k46 : 0 ≤ ((M.1 67 (v5 : Int32).toNatClampNeg) : Int32).toInt ∧ ((M.1 67 (v5 : Int32).toNatClampNeg) : Int32).toInt < ((26 : Nat) : Int) := by omega
      refine wpR_ix (vI k46) ?_
      have z47 := hI.f38 (((M.1 67 (v5 : Int32).toNatClampNeg) : Int32).toNatClampNeg)
      refine wpR_eq (x := (M.1 38 ((M.1 67 (v5 : Int32).toNatClampNeg) : Int32).toNatClampNeg : Int32).toInt) (y := v2.toInt) rfl rfl (fun c48 => ?_) (fun c48 => ?_)
      · skip
        refine wpR_ix (vI k46) ?_
        refine wpR_lt ?_
        refine wpR_ro (w_Layout_isKnown hI (M.1 67 (v5 : Int32).toNatClampNeg) (by omega)) (fun u49 h50 => ?_)
        refine wpR_eq (x := u49.toInt) (y := 0) rfl (rfl : (0 : Int32).toInt = 0) (fun c52 => ?_) (fun c52 => ?_)
        · skip
          unfold q_Plan_addRegister_76
          refine wpR_lt ?_
          refine wpR_ix (vI k43) ?_
          refine wpR_ix (vI k46) ?_
          refine wpR_lt ?_
          unfold q_Plan_addRegister_104
          have z53 : (v5 + 1 : Int32).toInt = v5.toInt + 1 := iadd rfl (rfl : (1 : Int32).toInt = 1) (by omega) (by omega)
          exact ih M v2 (v3 ||| (M.1 42 ((M.1 67 (v5 : Int32).toNatClampNeg) : Int32).toNatClampNeg)) (v4 ||| (((M.1 68 (v5 : Int32).toNatClampNeg) : Int32) <<< ((M.1 40 ((M.1 67 (v5 : Int32).toNatClampNeg) : Int32).toNatClampNeg) &&& 31))) (v5 + 1) hI (by omega) (by omega) (by omega)
        · skip
          refine wpR_lt ?_
          unfold q_Plan_addRegister_76
          refine wpR_lt ?_
          refine wpR_ix (vI k43) ?_
          refine wpR_ix (vI k46) ?_
          refine wpR_lt ?_
          unfold q_Plan_addRegister_104
          have z54 : (v5 + 1 : Int32).toInt = v5.toInt + 1 := iadd rfl (rfl : (1 : Int32).toInt = 1) (by omega) (by omega)
          exact ih M v2 (v3 ||| (M.1 42 ((M.1 67 (v5 : Int32).toNatClampNeg) : Int32).toNatClampNeg)) ((v4 &&& ((M.1 42 ((M.1 67 (v5 : Int32).toNatClampNeg) : Int32).toNatClampNeg) ^^^ (-1))) ||| (((M.1 68 (v5 : Int32).toNatClampNeg) : Int32) <<< ((M.1 40 ((M.1 67 (v5 : Int32).toNatClampNeg) : Int32).toNatClampNeg) &&& 31))) (v5 + 1) hI (by omega) (by omega) (by omega)
      · skip
        unfold q_Plan_addRegister_104
        have z55 : (v5 + 1 : Int32).toInt = v5.toInt + 1 := iadd rfl (rfl : (1 : Int32).toInt = 1) (by omega) (by omega)
        exact ih M v2 v3 v4 (v5 + 1) hI (by omega) (by omega) (by omega)
theorem w_Plan_addRegister {G : Gx} {K : Int} {M : Mm} (hI : IX G K M)  (a2 : Int32) (p0 : 0 ≤ a2.toInt ∧ a2.toInt < G.rg) : wpR (q_Plan_addRegister M a2) (fun M' r => IX G K M' ∧ True) := by
  unfold q_Plan_addRegister
  have z1 := hI.rgR
  have z2 : (0 : Int32).toInt = 0 := rfl
  exact w_Plan_addRegister_8 4000 M a2 0 0 0 hI (by omega) (by omega) (by omega)
theorem w_Plan_addJoined_2 {G : Gx} {K : Int}  : ∀ (n' : Nat) (M : Mm) (v2 : Int32), IX G K M → (0 ≤ v2.toInt ∧ v2.toInt ≤ 8) → 8 - v2.toInt < (n' : Int) → wpR (q_Plan_addJoined_2 n' M v2) (fun M' r => IX G K M' ∧ True) := by
  intro n'
  induction n' with
  | zero =>
    intro M v2 hI p0 hn
    have z1 := hI.rgR
    exfalso; omega
  | succ n' ih =>
    intro M v2 hI p0 hn
    rw [q_Plan_addJoined_2]
    have z2 := hI.rgR
    have z3 := hI.jc
    refine wpR_le (x := (M.1 65 0 : Int32).toInt) (y := v2.toInt) rfl rfl (fun c4 => ?_) (fun c4 => ?_)
    · skip
      exact wpR_some ⟨hI, trivial⟩
    · skip
      refine wpR_ro (w_Plan_isFirstOfRegister hI v2 (by omega)) (fun u5 h6 => ?_)
      refine wpR_eq (x := u5.toInt) (y := 0) rfl (rfl : (0 : Int32).toInt = 0) (fun c8 => ?_) (fun c8 => ?_)
      · skip
        unfold q_Plan_addJoined_38
        have z9 : (v2 + 1 : Int32).toInt = v2.toInt + 1 := iadd rfl (rfl : (1 : Int32).toInt = 1) (by omega) (by omega)
        exact ih M (v2 + 1) hI (by omega) (by omega)
      · skip
        have k10 : 0 ≤ (v2 : Int32).toInt ∧ (v2 : Int32).toInt < ((8 : Nat) : Int) := by omega
        refine wpR_ix (vI k10) ?_
        have f11 := hI.f67 (v := v2) (by omega) (by omega)
        have z12 := f11.r
        have k13 : 0 ≤ ((M.1 67 (v2 : Int32).toNatClampNeg) : Int32).toInt ∧ ((M.1 67 (v2 : Int32).toNatClampNeg) : Int32).toInt < ((26 : Nat) : Int) := by omega
        refine wpR_ix (vI k13) ?_
        have z14 := hI.f38 (((M.1 67 (v2 : Int32).toNatClampNeg) : Int32).toNatClampNeg)
        refine wpR_cl (w_Plan_addRegister hI (M.1 38 ((M.1 67 (v2 : Int32).toNatClampNeg) : Int32).toNatClampNeg) (by omega)) (fun m16 u15 h17 => ?_)
        have i18 := h17.1
        unfold q_Plan_addJoined_38
        have z19 : (v2 + 1 : Int32).toInt = v2.toInt + 1 := iadd rfl (rfl : (1 : Int32).toInt = 1) (by omega) (by omega)
        exact ih m16 (v2 + 1) i18 (by omega) (by omega)
theorem w_Plan_addJoined {G : Gx} {K : Int} {M : Mm} (hI : IX G K M)  : wpR (q_Plan_addJoined M) (fun M' r => IX G K M' ∧ True) := by
  unfold q_Plan_addJoined
  have z1 := hI.rgR
  have z2 : (0 : Int32).toInt = 0 := rfl
  exact w_Plan_addJoined_2 4000 M 0 hI (by omega) (by omega)
theorem w_ChipMap_flush {G : Gx} {K : Int} {M : Mm} (hI : IX G K M) (hK : K + 16 ≤ 2000000000)  : wpR (q_ChipMap_flush M) (fun M' r => IX G (K + 16) M' ∧ True) := by
  unfold q_ChipMap_flush
  have z1 := hI.rgR
  refine wpR_cl (w_Plan_begin hI) (fun m3 u2 h4 => ?_)
  have i5 := h4.1
  refine wpR_cl (w_Plan_addJoined i5) (fun m7 u6 h8 => ?_)
  have i9 := h8.1
  refine wpR_cl (w_ChipMap_doWrites i9 (by omega)) (fun m11 u10 h12 => ?_)
  have i13 := h12.1
  refine wpR_eq (x := u10.toInt) (y := (-2)) rfl (by decide : (-2 : Int32).toInt = -2) (fun c14 => ?_) (fun c14 => ?_)
  · skip
    exact wpR_some ⟨i13, trivial⟩
  · skip
    refine wpR_ltv (fun m15 e16 => ?_)
    have i17 : IX G (K + 16) m15 := by rw [e16]; exact i13.s65_0
    exact wpR_some ⟨i17, trivial⟩
theorem w_Steps_empty {G : Gx} {K : Int} {M : Mm} (hI : IX G K M)  : wpR (q_Steps_empty M) (fun M' r => IX G K M' ∧ True) := by
  unfold q_Steps_empty
  have z1 := hI.rgR
  refine wpR_lt ?_
  refine wpR_ltv (fun m2 e3 => ?_)
  have i4 : IX G K m2 := by rw [e3]; exact hI.s65_0
  exact wpR_some ⟨i4, trivial⟩
theorem w_ChipMap_drop {G : Gx} {K : Int} {M : Mm} (hI : IX G K M)  : wpR (q_ChipMap_drop M) (fun M' r => IX G K M' ∧ True) := by
  unfold q_ChipMap_drop
  have z1 := hI.rgR
  refine wpR_cl (w_Steps_empty hI) (fun m3 u2 h4 => ?_)
  have i5 := h4.1
  exact wpR_some ⟨i5, trivial⟩
theorem w_Log_rowOf {G : Gx} {K : Int} {M : Mm} (hI : IX G K M)  (a1 : Int32) : wpR (q_Log_rowOf M a1) (fun M' r => M = M' ∧ (r.toInt = -1 ∨ (0 ≤ r.toInt ∧ r.toInt ≤ 63))) := by
  unfold q_Log_rowOf
  have z1 := hI.rgR
  refine wpR_lw (x := a1.toInt) (y := 0) rfl (rfl : (0 : Int32).toInt = 0) (fun c2 => ?_) (fun c2 => ?_)
  · skip
    have z3 : (-1 : Int32).toInt = -1 := by decide
    exact wpR_some ⟨rfl, (by omega)⟩
  · skip
    refine wpR_le (x := 64) (y := a1.toInt) (rfl : (64 : Int32).toInt = 64) rfl (fun c4 => ?_) (fun c4 => ?_)
    · skip
      have z5 : (-1 : Int32).toInt = -1 := by decide
      exact wpR_some ⟨rfl, (by omega)⟩
    · skip
      have z6 := hI.f53
      refine wpR_lw (x := a1.toInt) (y := (M.1 53 0 : Int32).toInt) rfl rfl (fun c7 => ?_) (fun c7 => ?_)
      · skip
        have z8 : ((M.1 53 0) - 1 : Int32).toInt = (M.1 53 0 : Int32).toInt - 1 := isub rfl (rfl : (1 : Int32).toInt = 1) (by omega) (by omega)
        have z9 : (((M.1 53 0) - 1) - a1 : Int32).toInt = (((M.1 53 0) - 1 : Int32).toInt) - a1.toInt := isub rfl rfl (by omega) (by omega)
        have z10 := irem (a := (((M.1 53 0) - 1) - a1)) rfl (by omega) (by omega)
        exact wpR_some ⟨rfl, (by omega)⟩
      · skip
        have z11 : (-1 : Int32).toInt = -1 := by decide
        exact wpR_some ⟨rfl, (by omega)⟩
theorem w_ChipMap_trace {G : Gx} {K : Int} {M : Mm} (hI : IX G K M)  (a1 : Int32) (a2 : Int32) : wpR (q_ChipMap_trace M a1 a2) (fun M' r => M = M' ∧ True) := by
  unfold q_ChipMap_trace
  have z1 := hI.rgR
  refine wpR_ro (w_Log_rowOf hI a1) (fun u2 h3 => ?_)
  refine wpR_eq (x := u2.toInt) (y := (-1)) rfl (by decide : (-1 : Int32).toInt = -1) (fun c5 => ?_) (fun c5 => ?_)
  · skip
    exact wpR_some ⟨rfl, trivial⟩
  · skip
    refine wpR_eq (x := a2.toInt) (y := 0) rfl (rfl : (0 : Int32).toInt = 0) (fun c6 => ?_) (fun c6 => ?_)
    · skip
      have k7 : 0 ≤ (u2 : Int32).toInt ∧ (u2 : Int32).toInt < ((64 : Nat) : Int) := by omega
      refine wpR_ix (vI k7) ?_
      exact wpR_some ⟨rfl, trivial⟩
    · skip
      refine wpR_eq (x := a2.toInt) (y := 1) rfl (rfl : (1 : Int32).toInt = 1) (fun c8 => ?_) (fun c8 => ?_)
      · skip
        have k9 : 0 ≤ (u2 : Int32).toInt ∧ (u2 : Int32).toInt < ((64 : Nat) : Int) := by omega
        refine wpR_ix (vI k9) ?_
        exact wpR_some ⟨rfl, trivial⟩
      · skip
        refine wpR_eq (x := a2.toInt) (y := 2) rfl (rfl : (2 : Int32).toInt = 2) (fun c10 => ?_) (fun c10 => ?_)
        · skip
          have k11 : 0 ≤ (u2 : Int32).toInt ∧ (u2 : Int32).toInt < ((64 : Nat) : Int) := by omega
          refine wpR_ix (vI k11) ?_
          exact wpR_some ⟨rfl, trivial⟩
        · skip
          exact wpR_some ⟨rfl, trivial⟩
theorem w_Steps_isFull_1 {G : Gx} {K : Int} {M : Mm} (hI : IX G K M)  : wpR (q_Steps_isFull_1 M) (fun M' r => M = M' ∧ (0 ≤ r.toInt ∧ r.toInt ≤ 1) ∧ (r.toInt = 0 → (M.1 69 0).toInt < 40)) := by
  unfold q_Steps_isFull_1
  have z1 := hI.rgR
  have z2 := hI.sc
  refine wpR_lw (x := (M.1 69 0 : Int32).toInt) (y := 40) rfl (rfl : (40 : Int32).toInt = 40) (fun c3 => ?_) (fun c3 => ?_)
  · skip
    have z4 : (0 : Int32).toInt = 0 := rfl
    exact wpR_some ⟨rfl, (by omega), (by omega)⟩
  · skip
    have z5 : (1 : Int32).toInt = 1 := rfl
    exact wpR_some ⟨rfl, (by omega), (by omega)⟩
theorem w_ChipMap_isStep {G : Gx} {K : Int} {M : Mm} (hI : IX G K M)  (a1 : Int32) (a2 : Int32) (a3 : Int32) : wpR (q_ChipMap_isStep M a1 a2 a3) (fun M' r => M = M' ∧ (0 ≤ r.toInt ∧ r.toInt ≤ 1) ∧ ((r.toInt ≠ 0 → stp G.hm a1 a2 a3))) := by
  unfold q_ChipMap_isStep
  have z1 := hI.rgR
  refine wpR_eq (x := a1.toInt) (y := 0) rfl (rfl : (0 : Int32).toInt = 0) (fun c2 => ?_) (fun c2 => ?_)
  · skip
    refine wpR_ro (w_Layout_canPut hI a2 a3) (fun u3 h6 => ?_)
    obtain ⟨h4, h5⟩ := h6
    refine wpR_bz (b01 (by omega)) ?_
    exact wpR_some ⟨rfl, (by omega), (fun h => Or.inr (Or.inr ⟨by omega, h5 h⟩))⟩
  · skip
    refine wpR_eq (x := a1.toInt) (y := 1) rfl (rfl : (1 : Int32).toInt = 1) (fun c7 => ?_) (fun c7 => ?_)
    · skip
      refine wpR_ro (w_Layout_canFetch hI a2) (fun u8 h11 => ?_)
      obtain ⟨h9, h10⟩ := h11
      refine wpR_bz (b01 (by omega)) ?_
      exact wpR_some ⟨rfl, (by omega), (fun h => Or.inr (Or.inr ⟨by omega, h10 h⟩))⟩
    · skip
      refine wpR_eq (x := a1.toInt) (y := 2) rfl (rfl : (2 : Int32).toInt = 2) (fun c12 => ?_) (fun c12 => ?_)
      · skip
        refine wpR_lw (x := a3.toInt) (y := 0) rfl (rfl : (0 : Int32).toInt = 0) (fun c13 => ?_) (fun c13 => ?_)
        · skip
          have z14 : (0 : Int32).toInt = 0 := rfl
          exact wpR_some ⟨rfl, (by omega), (fun h => absurd rfl h)⟩
        · skip
          refine wpR_lw (x := 40) (y := a3.toInt) (rfl : (40 : Int32).toInt = 40) rfl (fun c15 => ?_) (fun c15 => ?_)
          · skip
            have z16 : (0 : Int32).toInt = 0 := rfl
            exact wpR_some ⟨rfl, (by omega), (fun h => absurd rfl h)⟩
          · skip
            have z17 : (1 : Int32).toInt = 1 := rfl
            exact wpR_some ⟨rfl, (by omega), (fun _ => by first | exact Or.inl (by omega) | exact Or.inr (Or.inl ⟨by omega, by omega, by omega⟩))⟩
      · skip
        refine wpR_eq (x := a1.toInt) (y := 3) rfl (rfl : (3 : Int32).toInt = 3) (fun c18 => ?_) (fun c18 => ?_)
        · skip
          have z19 : (1 : Int32).toInt = 1 := rfl
          exact wpR_some ⟨rfl, (by omega), (fun _ => by first | exact Or.inl (by omega) | exact Or.inr (Or.inl ⟨by omega, by omega, by omega⟩))⟩
        · skip
          have z20 : (0 : Int32).toInt = 0 := rfl
          exact wpR_some ⟨rfl, (by omega), (fun h => absurd rfl h)⟩
theorem w_Steps_empty_1 {G : Gx} {K : Int} {M : Mm} (hI : IX G K M)  : wpR (q_Steps_empty_1 M) (fun M' r => IX G K M' ∧ True) := by
  unfold q_Steps_empty_1
  have z1 := hI.rgR
  refine wpR_lt ?_
  refine wpR_ltv (fun m2 e3 => ?_)
  have i4 : IX G K m2 := by rw [e3]; exact hI.s69_0
  exact wpR_some ⟨i4, trivial⟩
theorem w_ChipMap_erase {G : Gx} {K : Int} {M : Mm} (hI : IX G K M)  : wpR (q_ChipMap_erase M) (fun M' r => IX G K M' ∧ True) := by
  unfold q_ChipMap_erase
  have z1 := hI.rgR
  refine wpR_cl (w_Steps_empty_1 hI) (fun m3 u2 h4 => ?_)
  have i5 := h4.1
  exact wpR_some ⟨i5, trivial⟩
theorem w_Mind_restart_1_2 {G : Gx} {K : Int}  : ∀ (n' : Nat) (M : Mm) (v1 : Int32), IX G K M → (0 ≤ v1.toInt ∧ v1.toInt ≤ 16) → 16 - v1.toInt < (n' : Int) → wpR (q_Mind_restart_1_2 n' M v1) (fun M' r => IX G K M' ∧ True) := by
  intro n'
  induction n' with
  | zero =>
    intro M v1 hI p0 hn
    have z1 := hI.rgR
    exfalso; omega
  | succ n' ih =>
    intro M v1 hI p0 hn
    rw [q_Mind_restart_1_2]
    have z2 := hI.rgR
    refine wpR_le (x := 16) (y := v1.toInt) (rfl : (16 : Int32).toInt = 16) rfl (fun c3 => ?_) (fun c3 => ?_)
    · skip
      refine wpR_ltv (fun m4 e5 => ?_)
      have i6 : IX G K m4 := by rw [e5]; exact hI.s61_2 _
      exact wpR_some ⟨i6, trivial⟩
    · skip
      have k7 : 0 ≤ (v1 : Int32).toInt ∧ (v1 : Int32).toInt < ((16 : Nat) : Int) := by omega
      refine wpR_ix (vI k7) ?_
      refine wpR_ix (vI k7) ?_
      refine wpR_ix (vI k7) ?_
      refine wpR_ltv (fun m8 e9 => ?_)
      have i10 : IX G K m8 := by rw [e9]; exact hI.s62 _
      have z11 : (v1 + 1 : Int32).toInt = v1.toInt + 1 := iadd rfl (rfl : (1 : Int32).toInt = 1) (by omega) (by omega)
      exact ih m8 (v1 + 1) i10 (by omega) (by omega)
theorem w_Mind_restart_1 {G : Gx} {K : Int} {M : Mm} (hI : IX G K M)  : wpR (q_Mind_restart_1 M) (fun M' r => IX G K M' ∧ True) := by
  unfold q_Mind_restart_1
  have z1 := hI.rgR
  have z2 : (0 : Int32).toInt = 0 := rfl
  exact w_Mind_restart_1_2 4000 M 0 hI (by omega) (by omega)
theorem w_Checker_makeKey_10 {G : Gx} {K : Int}  : ∀ (n' : Nat) (M : Mm) (v1 : Int32) (v2 : Int32), IX G K M → (0 ≤ v2.toInt ∧ v2.toInt ≤ 16) → 16 - v2.toInt < (n' : Int) → wpR (q_Checker_makeKey_10 n' M v1 v2) (fun M' r => IX G K M' ∧ True) := by
  intro n'
  induction n' with
  | zero =>
    intro M v1 v2 hI p0 hn
    have z1 := hI.rgR
    exfalso; omega
  | succ n' ih =>
    intro M v1 v2 hI p0 hn
    rw [q_Checker_makeKey_10]
    have z2 := hI.rgR
    have z3 := hI.f24_0
    refine wpR_le (x := (M.1 24 0 : Int32).toInt) (y := v2.toInt) rfl rfl (fun c4 => ?_) (fun c4 => ?_)
    · skip
      refine wpR_ltv (fun m5 e6 => ?_)
      have i7 : IX G K m5 := by rw [e6]; exact hI.j75 _
      exact wpR_some ⟨i7, trivial⟩
    · skip
      have z8 := shr2 (v := v2) (by omega)
      have k9 : 0 ≤ (((v2 : Int32) >>> (2 &&& 31)) : Int32).toInt ∧ (((v2 : Int32) >>> (2 &&& 31)) : Int32).toInt < ((5 : Nat) : Int) := by omega
      refine wpR_ix (vI k9) ?_
      have k10 : 0 ≤ (v2 : Int32).toInt ∧ (v2 : Int32).toInt < ((16 : Nat) : Int) := by omega
      refine wpR_ix (vI k10) ?_
      refine wpR_ix (vI k9) ?_
      refine wpR_ltv (fun m11 e12 => ?_)
      have i13 : IX G K m11 := by rw [e12]; exact hI.j75 _
      have z14 : (v2 + 1 : Int32).toInt = v2.toInt + 1 := iadd rfl (rfl : (1 : Int32).toInt = 1) (by omega) (by omega)
      exact ih m11 v1 (v2 + 1) i13 (by omega) (by omega)
theorem w_Checker_makeKey {G : Gx} {K : Int} {M : Mm} (hI : IX G K M)  (a1 : Int32) : wpR (q_Checker_makeKey M a1) (fun M' r => IX G K M' ∧ True) := by
  unfold q_Checker_makeKey
  have z1 := hI.rgR
  refine wpR_ltv (fun m2 e3 => ?_)
  have i4 : IX G K m2 := by rw [e3]; exact hI.j75 _
  have z5 : (0 : Int32).toInt = 0 := rfl
  exact w_Checker_makeKey_10 4000 m2 a1 0 i4 (by omega) (by omega)
theorem w_Checker_hashOfKey_4 {G : Gx} {K : Int} {M : Mm} (hI : IX G K M) : ∀ (n' : Nat) (v1 : Int64) (v3 : Int32), (0 ≤ v3.toInt ∧ v3.toInt ≤ 5) → 5 - v3.toInt < (n' : Int) → wpR (q_Checker_hashOfKey_4 n' M v1 v3) (fun M' r => M = M' ∧ (0 ≤ r.toInt ∧ r.toInt ≤ 2047)) := by
  intro n'
  induction n' with
  | zero =>
    intro v1 v3 p0 hn
    exfalso; omega
  | succ n' ih =>
    intro v1 v3 p0 hn
    rw [q_Checker_hashOfKey_4]
    have z1 := hI.rgR
    refine wpR_le (x := 5) (y := v3.toInt) (rfl : (5 : Int32).toInt = 5) rfl (fun c2 => ?_) (fun c2 => ?_)
    · skip
      have z4 : (2047 : Int32).toInt = 2047 := rfl
      have z3 := iand (a := (((((v1 : Int64).toUInt64 >>> ((32 : Int32).toInt64.toUInt64 &&& Int64.toUInt64 63)).toInt64) : Int64).toInt32)) (c := 2047) (by omega)
      exact wpR_some ⟨rfl, (by omega)⟩
    · skip
      have k5 : 0 ≤ (v3 : Int32).toInt ∧ (v3 : Int32).toInt < ((5 : Nat) : Int) := by omega
      refine wpR_ix (vI k5) ?_
      refine wpR_lt ?_
      refine wpR_lt ?_
      have z6 : (v3 + 1 : Int32).toInt = v3.toInt + 1 := iadd rfl (rfl : (1 : Int32).toInt = 1) (by omega) (by omega)
      exact ih (((v1 ^^^ (M.2 75 (v3 : Int32).toNatClampNeg)) * (-7046029254386353131)) ^^^ (((((v1 ^^^ (M.2 75 (v3 : Int32).toNatClampNeg)) * (-7046029254386353131)) : Int64).toUInt64 >>> ((29 : Int32).toInt64.toUInt64 &&& Int64.toUInt64 63)).toInt64)) (v3 + 1) (by omega) (by omega)
theorem w_Checker_hashOfKey {G : Gx} {K : Int} {M : Mm} (hI : IX G K M)  : wpR (q_Checker_hashOfKey M) (fun M' r => M = M' ∧ (0 ≤ r.toInt ∧ r.toInt ≤ 2047)) := by
  unfold q_Checker_hashOfKey
  have z1 := hI.rgR
  have z2 : (0 : Int32).toInt = 0 := rfl
  exact w_Checker_hashOfKey_4 hI 4000 0 0 (by omega) (by omega)
theorem w_Checker_isKey_2 {G : Gx} {K : Int} {M : Mm} (hI : IX G K M) : ∀ (n' : Nat) (v1 : Int32) (v2 : Int32), (0 ≤ v2.toInt ∧ v2.toInt ≤ 5) → (0 ≤ v1.toInt ∧ v1.toInt ≤ 4995) → 5 - v2.toInt < (n' : Int) → wpR (q_Checker_isKey_2 n' M v1 v2) (fun M' r => M = M' ∧ True) := by
  intro n'
  induction n' with
  | zero =>
    intro v1 v2 p0 p1 hn
    exfalso; omega
  | succ n' ih =>
    intro v1 v2 p0 p1 hn
    rw [q_Checker_isKey_2]
    have z1 := hI.rgR
    refine wpR_le (x := 5) (y := v2.toInt) (rfl : (5 : Int32).toInt = 5) rfl (fun c2 => ?_) (fun c2 => ?_)
    · skip
      exact wpR_some ⟨rfl, trivial⟩
    · skip
      have z3 : (v1 + v2 : Int32).toInt = v1.toInt + v2.toInt := iadd rfl rfl (by omega) (by omega)
      have k4 : 0 ≤ ((v1 + v2) : Int32).toInt ∧ ((v1 + v2) : Int32).toInt < ((5000 : Nat) : Int) := by omega
      refine wpR_ix (vI k4) ?_
      have k5 : 0 ≤ (v2 : Int32).toInt ∧ (v2 : Int32).toInt < ((5 : Nat) : Int) := by omega
      refine wpR_ix (vI k5) ?_
      refine wpR_eq (x := (lg_cmp (M.2 74 ((v1 + v2) : Int32).toNatClampNeg) (M.2 75 (v2 : Int32).toNatClampNeg) : Int32).toInt) (y := 0) rfl (rfl : (0 : Int32).toInt = 0) (fun c6 => ?_) (fun c6 => ?_)
      · skip
        have z7 : (v2 + 1 : Int32).toInt = v2.toInt + 1 := iadd rfl (rfl : (1 : Int32).toInt = 1) (by omega) (by omega)
        exact ih v1 (v2 + 1) (by omega) (by omega) (by omega)
      · skip
        exact wpR_some ⟨rfl, trivial⟩
theorem w_Checker_isKey {G : Gx} {K : Int} {M : Mm} (hI : IX G K M)  (a1 : Int32) (p0 : 0 ≤ a1.toInt ∧ a1.toInt ≤ 4995) : wpR (q_Checker_isKey M a1) (fun M' r => M = M' ∧ True) := by
  unfold q_Checker_isKey
  have z1 := hI.rgR
  have z2 : (0 : Int32).toInt = 0 := rfl
  exact w_Checker_isKey_2 hI 4000 a1 0 (by omega) (by omega) (by omega)
theorem w_Checker_add {G : Gx} {K : Int} {M : Mm} (hI : IX G K M)  (a1 : Int32) (p0 : 0 ≤ a1.toInt ∧ a1.toInt ≤ 2047) : wpR (q_Checker_add M a1) (fun M' r => IX G K M' ∧ True) := by
  unfold q_Checker_add
  have z1 := hI.rgR
  have z2 := hI.cc
  refine wpR_lw (x := (M.1 73 6 : Int32).toInt) (y := 1000) rfl (rfl : (1000 : Int32).toInt = 1000) (fun c3 => ?_) (fun c3 => ?_)
  · skip
    have z4 : ((M.1 73 6) * 5 : Int32).toInt = (M.1 73 6 : Int32).toInt * 5 := imul rfl (rfl : (5 : Int32).toInt = 5) (by omega) (by omega)
    refine wpR_cpk (cp5 (by omega)) ?_
    refine wpR_ltv (fun m5 e6 => ?_)
    have i7 : IX G K m5 := by rw [e6]; exact hI.j74 _
    have z8 : (m5.1 73 6).toInt = (M.1 73 6).toInt := by rw [e6]; rfl
    have z12 := i7.cc
    have z13 : ((m5.1 73 6) + 1 : Int32).toInt = (m5.1 73 6 : Int32).toInt + 1 := iadd rfl (rfl : (1 : Int32).toInt = 1) (by omega) (by omega)
    refine wpR_ltv (fun m9 e10 => ?_)
    have i11 : IX G K m9 := by rw [e10]; exact i7.s73_6 (by omega)
    have k14 : 0 ≤ (a1 : Int32).toInt ∧ (a1 : Int32).toInt < ((2048 : Nat) : Int) := by omega
    refine wpR_ix (vI k14) ?_
    have z18 := i11.cc
    refine wpR_ltv (fun m15 e16 => ?_)
    have i17 : IX G K m15 := by rw [e16]; exact i11.s76 _ (by omega)
    exact wpR_some ⟨i17, trivial⟩
  · skip
    refine wpR_ltv (fun m19 e20 => ?_)
    have i21 : IX G K m19 := by rw [e20]; exact hI.s73_7 _
    exact wpR_some ⟨i21, trivial⟩
theorem w_Checker_meet_22 {G : Gx} {K : Int}  : ∀ (n' : Nat) (M : Mm) (v2 : Int32) (v3 : Int32), IX G K M → (0 ≤ v3.toInt ∧ v3.toInt ≤ 2048) → (0 ≤ v2.toInt ∧ v2.toInt ≤ 2047) → 2048 - v3.toInt < (n' : Int) → wpR (q_Checker_meet_22 n' M v2 v3) (fun M' r => IX G K M' ∧ True) := by
  intro n'
  induction n' with
  | zero =>
    intro M v2 v3 hI p0 p1 hn
    have z1 := hI.rgR
    exfalso; omega
  | succ n' ih =>
    intro M v2 v3 hI p0 p1 hn
    rw [q_Checker_meet_22]
    have z2 := hI.rgR
    refine wpR_le (x := 2048) (y := v3.toInt) (rfl : (2048 : Int32).toInt = 2048) rfl (fun c3 => ?_) (fun c3 => ?_)
    · skip
      exact wpR_some ⟨hI, trivial⟩
    · skip
      refine wpR_lt ?_
      have z5 : (2047 : Int32).toInt = 2047 := rfl
      have z4 := iand (a := (v2 + v3)) (c := 2047) (by omega)
      have k6 : 0 ≤ (((v2 + v3) &&& 2047) : Int32).toInt ∧ (((v2 + v3) &&& 2047) : Int32).toInt < ((2048 : Nat) : Int) := by omega
      refine wpR_ix (vI k6) ?_
      have z7 := hI.cs ((((v2 + v3) &&& 2047) : Int32).toNatClampNeg)
      refine wpR_eq (x := (M.1 76 (((v2 + v3) &&& 2047) : Int32).toNatClampNeg : Int32).toInt) (y := 0) rfl (rfl : (0 : Int32).toInt = 0) (fun c8 => ?_) (fun c8 => ?_)
      · skip
        refine wpR_cl (w_Checker_add hI ((v2 + v3) &&& 2047) (by omega)) (fun m10 u9 h11 => ?_)
        have i12 := h11.1
        exact wpR_some ⟨i12, trivial⟩
      · skip
        refine wpR_ix (vI k6) ?_
        have z13 : ((M.1 76 (((v2 + v3) &&& 2047) : Int32).toNatClampNeg) - 1 : Int32).toInt = (M.1 76 (((v2 + v3) &&& 2047) : Int32).toNatClampNeg : Int32).toInt - 1 := isub rfl (rfl : (1 : Int32).toInt = 1) (by omega) (by omega)
        have z14 : (((M.1 76 (((v2 + v3) &&& 2047) : Int32).toNatClampNeg) - 1) * 5 : Int32).toInt = (((M.1 76 (((v2 + v3) &&& 2047) : Int32).toNatClampNeg) - 1 : Int32).toInt) * 5 := imul rfl (rfl : (5 : Int32).toInt = 5) (by omega) (by omega)
        refine wpR_ro (w_Checker_isKey hI (((M.1 76 (((v2 + v3) &&& 2047) : Int32).toNatClampNeg) - 1) * 5) (by omega)) (fun u15 _ => ?_)
        refine wpR_eq (x := u15.toInt) (y := 0) rfl (rfl : (0 : Int32).toInt = 0) (fun c17 => ?_) (fun c17 => ?_)
        · skip
          have z18 : (v3 + 1 : Int32).toInt = v3.toInt + 1 := iadd rfl (rfl : (1 : Int32).toInt = 1) (by omega) (by omega)
          exact ih M v2 (v3 + 1) hI (by omega) (by omega) (by omega)
        · skip
          exact wpR_some ⟨hI, trivial⟩
