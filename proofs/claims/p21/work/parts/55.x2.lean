theorem w_Checker_meet {G : Gx} {K : Int} {M : Mm} (hI : IX G K M)  (a1 : Int32) : wpR (q_Checker_meet M a1) (fun M' r => IX G K M' ∧ True) := by
  unfold q_Checker_meet
  have z1 := hI.rgR
  refine wpR_lt ?_
  refine wpR_cl (w_Checker_makeKey hI (if ((M.1 69 0) : Int32) < a1 then (M.1 69 0) else a1)) (fun m3 u2 h4 => ?_)
  have i5 := h4.1
  refine wpR_ro (w_Checker_hashOfKey i5) (fun u6 h7 => ?_)
  have z9 : (0 : Int32).toInt = 0 := rfl
  exact w_Checker_meet_22 4000 m3 u6 0 i5 (by omega) (by omega) (by omega)
theorem w_Checker_begin {G : Gx} {K : Int} {M : Mm} (hI : IX G K M)  : wpR (q_Checker_begin M) (fun M' r => IX G K M' ∧ True) := by
  unfold q_Checker_begin
  have z1 := hI.rgR
  refine wpR_ltv (fun m2 e3 => ?_)
  have i4 : IX G K m2 := by rw [e3]; exact hI.s76f
  have z8 : (0 : Int32).toInt = 0 := rfl
  refine wpR_ltv (fun m5 e6 => ?_)
  have i7 : IX G K m5 := by rw [e6]; exact i4.s73_6 (by omega)
  refine wpR_ltv (fun m9 e10 => ?_)
  have i11 : IX G K m9 := by rw [e10]; exact i7.s73_7 _
  refine wpR_ltv (fun m12 e13 => ?_)
  have i14 : IX G K m12 := by rw [e13]; exact i11.s73_8 _
  refine wpR_ltv (fun m15 e16 => ?_)
  have i17 : IX G K m15 := by rw [e16]; exact i14.s73_9 _
  refine wpR_cl (w_Mind_restart_1 i17) (fun m19 u18 h20 => ?_)
  have i21 := h20.1
  refine wpR_cl (w_Checker_meet i21 0) (fun m23 u22 h24 => ?_)
  have i25 := h24.1
  exact wpR_some ⟨i25, trivial⟩
theorem w_Checker_load_6 {G : Gx} {K : Int}  : ∀ (n' : Nat) (M : Mm) (v2 : Int32) (v3 : Int32), IX G K M → (0 ≤ v3.toInt ∧ v3.toInt ≤ 16) → (0 ≤ v2.toInt ∧ v2.toInt ≤ 4995) → 16 - v3.toInt < (n' : Int) → wpR (q_Checker_load_6 n' M v2 v3) (fun M' r => IX G K M' ∧ (0 ≤ r.toInt ∧ r.toInt ≤ 255)) := by
  intro n'
  induction n' with
  | zero =>
    intro M v2 v3 hI p0 p1 hn
    have z1 := hI.rgR
    exfalso; omega
  | succ n' ih =>
    intro M v2 v3 hI p0 p1 hn
    rw [q_Checker_load_6]
    have z2 := hI.rgR
    have z3 := hI.f24_0
    refine wpR_le (x := (M.1 24 0 : Int32).toInt) (y := v3.toInt) rfl rfl (fun c4 => ?_) (fun c4 => ?_)
    · skip
      have z5 : (v2 + 4 : Int32).toInt = v2.toInt + 4 := iadd rfl (rfl : (4 : Int32).toInt = 4) (by omega) (by omega)
      have k6 : 0 ≤ ((v2 + 4) : Int32).toInt ∧ ((v2 + 4) : Int32).toInt < ((5000 : Nat) : Int) := by omega
      refine wpR_ix (vI k6) ?_
      refine wpR_lt ?_
      refine wpR_ltv (fun m7 e8 => ?_)
      have i9 : IX G K m7 := by rw [e8]; exact hI.s61_2 _
      have z11 : (255 : Int32).toInt = 255 := rfl
      have z10 := iand (a := (((M.2 74 ((v2 + 4) : Int32).toNatClampNeg) : Int64).toInt32)) (c := 255) (by omega)
      exact wpR_some ⟨i9, (by omega)⟩
    · skip
      have z12 := shr2 (v := v3) (by omega)
      have z13 : (v2 + ((v3 : Int32) >>> (2 &&& 31)) : Int32).toInt = v2.toInt + ((v3 : Int32) >>> (2 &&& 31) : Int32).toInt := iadd rfl rfl (by omega) (by omega)
      have k14 : 0 ≤ ((v2 + ((v3 : Int32) >>> (2 &&& 31))) : Int32).toInt ∧ ((v2 + ((v3 : Int32) >>> (2 &&& 31))) : Int32).toInt < ((5000 : Nat) : Int) := by omega
      refine wpR_ix (vI k14) ?_
      have k15 : 0 ≤ (v3 : Int32).toInt ∧ (v3 : Int32).toInt < ((16 : Nat) : Int) := by omega
      refine wpR_ix (vI k15) ?_
      refine wpR_ltv (fun m16 e17 => ?_)
      have i18 : IX G K m16 := by rw [e17]; exact hI.s62 _
      have z19 : (v3 + 1 : Int32).toInt = v3.toInt + 1 := iadd rfl (rfl : (1 : Int32).toInt = 1) (by omega) (by omega)
      exact ih m16 v2 (v3 + 1) i18 (by omega) (by omega) (by omega)
theorem w_Checker_load {G : Gx} {K : Int} {M : Mm} (hI : IX G K M)  (a1 : Int32) (p0 : 0 ≤ a1.toInt ∧ a1.toInt ≤ 999) : wpR (q_Checker_load M a1) (fun M' r => IX G K M' ∧ (0 ≤ r.toInt ∧ r.toInt ≤ 255)) := by
  unfold q_Checker_load
  have z1 := hI.rgR
  refine wpR_lt ?_
  have z2 : (0 : Int32).toInt = 0 := rfl
  have z3 : (a1 * 5 : Int32).toInt = a1.toInt * 5 := imul rfl (rfl : (5 : Int32).toInt = 5) (by omega) (by omega)
  exact w_Checker_load_6 4000 M (a1 * 5) 0 hI (by omega) (by omega) (by omega)
theorem w_Checker_tell {G : Gx} {K : Int} {M : Mm} (hI : IX G K M)  (a1 : Int32) (a2 : Int32) : wpR (q_Checker_tell M a1 a2) (fun M' r => IX G K M' ∧ True) := by
  unfold q_Checker_tell
  have z1 := hI.rgR
  refine wpR_eq (x := (M.1 73 8 : Int32).toInt) (y := (-1)) rfl (by decide : (-1 : Int32).toInt = -1) (fun c2 => ?_) (fun c2 => ?_)
  · skip
    unfold q_Checker_tell_16
    refine wpR_ltv (fun m3 e4 => ?_)
    have i5 : IX G K m3 := by rw [e4]; exact hI.s73_8 _
    refine wpR_ltv (fun m6 e7 => ?_)
    have i8 : IX G K m6 := by rw [e7]; exact i5.s73_9 _
    exact wpR_some ⟨i8, trivial⟩
  · skip
    refine wpR_le (x := (M.1 73 8 : Int32).toInt) (y := a1.toInt) rfl rfl (fun c9 => ?_) (fun c9 => ?_)
    · skip
      refine wpR_eq (x := a1.toInt) (y := (M.1 73 8 : Int32).toInt) rfl rfl (fun c10 => ?_) (fun c10 => ?_)
      · skip
        refine wpR_le (x := (M.1 73 9 : Int32).toInt) (y := a2.toInt) rfl rfl (fun c11 => ?_) (fun c11 => ?_)
        · skip
          exact wpR_some ⟨hI, trivial⟩
        · skip
          refine wpR_ltv (fun m12 e13 => ?_)
          have i14 : IX G K m12 := by rw [e13]; exact hI.s73_9 _
          exact wpR_some ⟨i14, trivial⟩
      · skip
        exact wpR_some ⟨hI, trivial⟩
    · skip
      unfold q_Checker_tell_16
      refine wpR_ltv (fun m15 e16 => ?_)
      have i17 : IX G K m15 := by rw [e16]; exact hI.s73_8 _
      refine wpR_ltv (fun m18 e19 => ?_)
      have i20 : IX G K m18 := by rw [e19]; exact i17.s73_9 _
      exact wpR_some ⟨i20, trivial⟩
theorem w_Checker_visit {G : Gx} {K : Int} {M : Mm} (hI : IX G K M)  (a1 : Int32) (p0 : 0 ≤ a1.toInt ∧ a1.toInt ≤ 999) : wpR (q_Checker_visit M a1) (fun M' r => IX G K M' ∧ True) := by
  unfold q_Checker_visit
  have z1 := hI.rgR
  refine wpR_cl (w_Checker_load hI a1 (by omega)) (fun m4 u2 h5 => ?_)
  obtain ⟨i6, h3⟩ := h5
  have z7 := i6.sc
  refine wpR_lw (x := u2.toInt) (y := (m4.1 69 0 : Int32).toInt) rfl rfl (fun c8 => ?_) (fun c8 => ?_)
  · skip
    have k9 : 0 ≤ (u2 : Int32).toInt ∧ (u2 : Int32).toInt < ((40 : Nat) : Int) := by omega
    refine wpR_ix (vI k9) ?_
    refine wpR_lt ?_
    have z10 := i6.f70 ((u2 : Int32).toNatClampNeg)
    refine wpR_eq (x := (m4.1 70 (u2 : Int32).toNatClampNeg : Int32).toInt) (y := 3) rfl (rfl : (3 : Int32).toInt = 3) (fun c11 => ?_) (fun c11 => ?_)
    · skip
      refine wpR_cl (w_Checker_meet i6 (m4.1 69 0)) (fun m13 u12 h14 => ?_)
      have i15 := h14.1
      exact wpR_some ⟨i15, trivial⟩
    · skip
      refine wpR_eq (x := (m4.1 70 (u2 : Int32).toNatClampNeg : Int32).toInt) (y := 2) rfl (rfl : (2 : Int32).toInt = 2) (fun c16 => ?_) (fun c16 => ?_)
      · skip
        refine wpR_cl (w_Checker_meet i6 (u2 + 1)) (fun m18 u17 h19 => ?_)
        have i20 := h19.1
        refine wpR_ix (vI k9) ?_
        refine wpR_cl (w_Checker_meet i20 (m18.1 72 (u2 : Int32).toNatClampNeg)) (fun m22 u21 h23 => ?_)
        have i24 := h23.1
        exact wpR_some ⟨i24, trivial⟩
      · skip
        refine wpR_cl (w_Plan_beginHere i6) (fun m26 u25 h27 => ?_)
        have i28 := h27.1
        refine wpR_eq (x := (m4.1 70 (u2 : Int32).toNatClampNeg : Int32).toInt) (y := 0) rfl (rfl : (0 : Int32).toInt = 0) (fun c29 => ?_) (fun c29 => ?_)
        · skip
          refine wpR_ix (vI k9) ?_
          refine wpR_ix (vI k9) ?_
          refine wpR_cl (w_Plan_addPut i28 (m26.1 71 (u2 : Int32).toNatClampNeg) (m26.1 72 (u2 : Int32).toNatClampNeg) (i28.stG (i6.stF (v := u2) (by omega) (by omega) (by omega) (by omega)))) (fun m31 u30 h32 => ?_)
          have i33 := h32.1
          unfold q_Checker_visit_130
          refine wpR_eq (x := (m31.1 60 5 : Int32).toInt) (y := 0) rfl (rfl : (0 : Int32).toInt = 0) (fun c34 => ?_) (fun c34 => ?_)
          · skip
            refine wpR_cl (w_Checker_meet i33 (u2 + 1)) (fun m36 u35 h37 => ?_)
            have i38 := h37.1
            exact wpR_some ⟨i38, trivial⟩
          · skip
            refine wpR_cl (w_Checker_tell i33 u2 (m31.1 60 5)) (fun m40 u39 h41 => ?_)
            have i42 := h41.1
            exact wpR_some ⟨i42, trivial⟩
        · skip
          refine wpR_ix (vI k9) ?_
          refine wpR_cl (w_Plan_addFetch i28 (m26.1 71 (u2 : Int32).toNatClampNeg) (i28.stG (i6.stF (v := u2) (by omega) (by omega) (by omega) (by omega)))) (fun m44 u43 h45 => ?_)
          have i46 := h45.1
          unfold q_Checker_visit_130
          refine wpR_eq (x := (m44.1 60 5 : Int32).toInt) (y := 0) rfl (rfl : (0 : Int32).toInt = 0) (fun c47 => ?_) (fun c47 => ?_)
          · skip
            refine wpR_cl (w_Checker_meet i46 (u2 + 1)) (fun m49 u48 h50 => ?_)
            have i51 := h50.1
            exact wpR_some ⟨i51, trivial⟩
          · skip
            refine wpR_cl (w_Checker_tell i46 u2 (m44.1 60 5)) (fun m53 u52 h54 => ?_)
            have i55 := h54.1
            exact wpR_some ⟨i55, trivial⟩
  · skip
    exact wpR_some ⟨i6, trivial⟩
theorem w_ChipMap_check_18 {G : Gx} {K : Int}  : ∀ (n' : Nat) (M : Mm) (v1 : Int32), IX G K M → (0 ≤ v1.toInt ∧ v1.toInt ≤ 1000) → 1000 - v1.toInt < (n' : Int) → wpR (q_ChipMap_check_18 n' M v1) (fun M' r => IX G K M' ∧ True) := by
  intro n'
  induction n' with
  | zero =>
    intro M v1 hI p0 hn
    have z1 := hI.rgR
    exfalso; omega
  | succ n' ih =>
    intro M v1 hI p0 hn
    rw [q_ChipMap_check_18]
    have z2 := hI.rgR
    refine wpR_le (x := 1000) (y := v1.toInt) (rfl : (1000 : Int32).toInt = 1000) rfl (fun c3 => ?_) (fun c3 => ?_)
    · skip
      unfold q_ChipMap_check_63
      refine wpR_eq (x := (M.1 73 7 : Int32).toInt) (y := 0) rfl (rfl : (0 : Int32).toInt = 0) (fun c4 => ?_) (fun c4 => ?_)
      · skip
        exact wpR_some ⟨hI, trivial⟩
      · skip
        exact wpR_some ⟨hI, trivial⟩
    · skip
      have z5 := hI.cc
      refine wpR_le (x := (M.1 73 6 : Int32).toInt) (y := v1.toInt) rfl rfl (fun c6 => ?_) (fun c6 => ?_)
      · skip
        unfold q_ChipMap_check_63
        refine wpR_eq (x := (M.1 73 7 : Int32).toInt) (y := 0) rfl (rfl : (0 : Int32).toInt = 0) (fun c7 => ?_) (fun c7 => ?_)
        · skip
          exact wpR_some ⟨hI, trivial⟩
        · skip
          exact wpR_some ⟨hI, trivial⟩
      · skip
        refine wpR_eq (x := (M.1 73 7 : Int32).toInt) (y := 0) rfl (rfl : (0 : Int32).toInt = 0) (fun c8 => ?_) (fun c8 => ?_)
        · skip
          refine wpR_cl (w_Checker_visit hI v1 (by omega)) (fun m10 u9 h11 => ?_)
          have i12 := h11.1
          have z13 : (v1 + 1 : Int32).toInt = v1.toInt + 1 := iadd rfl (rfl : (1 : Int32).toInt = 1) (by omega) (by omega)
          exact ih m10 (v1 + 1) i12 (by omega) (by omega)
        · skip
          unfold q_ChipMap_check_63
          refine wpR_eq (x := (M.1 73 7 : Int32).toInt) (y := 0) rfl (rfl : (0 : Int32).toInt = 0) (fun c14 => ?_) (fun c14 => ?_)
          · skip
            exact wpR_some ⟨hI, trivial⟩
          · skip
            exact wpR_some ⟨hI, trivial⟩
theorem w_ChipMap_check {G : Gx} {K : Int} {M : Mm} (hI : IX G K M)  : wpR (q_ChipMap_check M) (fun M' r => IX G K M' ∧ True) := by
  unfold q_ChipMap_check
  have z1 := hI.rgR
  refine wpR_ro (w_ChipMap_hasMap hI) (fun u2 h3 => ?_)
  refine wpR_eq (x := u2.toInt) (y := 0) rfl (rfl : (0 : Int32).toInt = 0) (fun c5 => ?_) (fun c5 => ?_)
  · skip
    exact wpR_some ⟨hI, trivial⟩
  · skip
    refine wpR_cl (w_Checker_begin hI) (fun m7 u6 h8 => ?_)
    have i9 := h8.1
    have z10 : (0 : Int32).toInt = 0 := rfl
    exact w_ChipMap_check_18 4000 m7 0 i9 (by omega) (by omega)
theorem w_ChipMap_found {G : Gx} {K : Int} {M : Mm} (hI : IX G K M)  (a1 : Int32) : wpR (q_ChipMap_found M a1) (fun M' r => M = M' ∧ True) := by
  unfold q_ChipMap_found
  have z1 := hI.rgR
  refine wpR_eq (x := a1.toInt) (y := 0) rfl (rfl : (0 : Int32).toInt = 0) (fun c2 => ?_) (fun c2 => ?_)
  · skip
    exact wpR_some ⟨rfl, trivial⟩
  · skip
    refine wpR_eq (x := a1.toInt) (y := 1) rfl (rfl : (1 : Int32).toInt = 1) (fun c3 => ?_) (fun c3 => ?_)
    · skip
      refine wpR_eq (x := (M.1 73 7 : Int32).toInt) (y := 0) rfl (rfl : (0 : Int32).toInt = 0) (fun c4 => ?_) (fun c4 => ?_)
      · skip
        exact wpR_some ⟨rfl, trivial⟩
      · skip
        exact wpR_some ⟨rfl, trivial⟩
    · skip
      exact wpR_some ⟨rfl, trivial⟩
theorem w_ChipMap_doStep {G : Gx} {K : Int} {M : Mm} (hI : IX G K M) (hK : K + 17 ≤ 2000000000)  (a1 : Int32) (p0 : 0 ≤ a1.toInt ∧ a1.toInt < (M.1 69 0).toInt) (p1 : (G.sk a1.toNatClampNeg).toInt ≠ 3 ∧ (G.sk a1.toNatClampNeg).toInt ≠ 2) : wpR (q_ChipMap_doStep M a1) (fun M' r => IX G (K + 17) M' ∧ (0 ≤ r.toInt ∧ r.toInt ≤ 1)) := by
  unfold q_ChipMap_doStep
  have z1 := hI.rgR
  have z2 := hI.sc
  have k3 : 0 ≤ (a1 : Int32).toInt ∧ (a1 : Int32).toInt < ((40 : Nat) : Int) := by omega
  refine wpR_ix (vI k3) ?_
  refine wpR_lt ?_
  refine wpR_ix (vI k3) ?_
  have z4 := hI.f70 ((a1 : Int32).toNatClampNeg)
  refine wpR_eq (x := (M.1 70 (a1 : Int32).toNatClampNeg : Int32).toInt) (y := 1) rfl (rfl : (1 : Int32).toInt = 1) (fun c5 => ?_) (fun c5 => ?_)
  · skip
    refine wpR_cl (w_ChipMap_reachForFetch hI (by omega) (M.1 71 (a1 : Int32).toNatClampNeg) (hI.stG (hI.stF (v := a1) (by omega) (by omega) (by omega) (by omega)))) (fun m8 u6 h9 => ?_)
    obtain ⟨i10, h7⟩ := h9
    refine wpR_eq (x := u6.toInt) (y := 0) rfl (rfl : (0 : Int32).toInt = 0) (fun c11 => ?_) (fun c11 => ?_)
    · skip
      have z12 : (0 : Int32).toInt = 0 := rfl
      exact wpR_some ⟨(i10.mono (by omega)), (by omega)⟩
    · skip
      refine wpR_cl (w_ChipMap_readOut i10 (by omega) (M.1 71 (a1 : Int32).toNatClampNeg) (hI.stG (hI.stF (v := a1) (by omega) (by omega) (by omega) (by omega)))) (fun m14 u13 h15 => ?_)
      have i16 := h15.1
      have z17 : (1 : Int32).toInt = 1 := rfl
      exact wpR_some ⟨(i16.mono (by omega)), (by omega)⟩
  · skip
    refine wpR_cl (w_Plan_begin hI) (fun m19 u18 h20 => ?_)
    have i21 := h20.1
    refine wpR_ix (vI k3) ?_
    refine wpR_cl (w_Plan_addPut i21 (M.1 71 (a1 : Int32).toNatClampNeg) (m19.1 72 (a1 : Int32).toNatClampNeg) (hI.stG (hI.stF (v := a1) (by omega) (by omega) (by omega) (by omega)))) (fun m23 u22 h24 => ?_)
    have i25 := h24.1
    refine wpR_cl (w_ChipMap_doWrites i25 (by omega)) (fun m27 u26 h28 => ?_)
    have i29 := h28.1
    refine wpR_eq (x := u26.toInt) (y := (-2)) rfl (by decide : (-2 : Int32).toInt = -2) (fun c30 => ?_) (fun c30 => ?_)
    · skip
      have z31 : (0 : Int32).toInt = 0 := rfl
      exact wpR_some ⟨(i29.mono (by omega)), (by omega)⟩
    · skip
      have z32 : (1 : Int32).toInt = 1 := rfl
      exact wpR_some ⟨(i29.mono (by omega)), (by omega)⟩
theorem w_ChipMap_run_26 {G : Gx} {K : Int} (hK : K + 5100 ≤ 2000000000)  : ∀ (n' : Nat) (M : Mm) (v1 : Int32) (v2 : Int32) (v3 : Int32) (v4 : Int32), IX G (K + 17 * v4.toInt) M → (0 ≤ v4.toInt ∧ v4.toInt ≤ 300) → (0 ≤ v2.toInt ∧ v2.toInt ≤ 40) → 300 - v4.toInt < (n' : Int) → wpR (q_ChipMap_run_26 n' M v1 v2 v3 v4) (fun M' r => IX G (K + 5100) M' ∧ True) := by
  intro n'
  induction n' with
  | zero =>
    intro M v1 v2 v3 v4 hI p0 p1 hn
    have z1 := hI.rgR
    exfalso; omega
  | succ n' ih =>
    intro M v1 v2 v3 v4 hI p0 p1 hn
    rw [q_ChipMap_run_26]
    have z2 := hI.rgR
    refine wpR_le (x := 300) (y := v4.toInt) (rfl : (300 : Int32).toInt = 300) rfl (fun c3 => ?_) (fun c3 => ?_)
    · skip
      have z4 := hI.sc
      refine wpR_lw (x := v2.toInt) (y := (M.1 69 0 : Int32).toInt) rfl rfl (fun c5 => ?_) (fun c5 => ?_)
      · skip
        exact wpR_some ⟨(hI.mono (by omega)), trivial⟩
      · skip
        exact wpR_some ⟨(hI.mono (by omega)), trivial⟩
    · skip
      have z6 := hI.sc
      refine wpR_le (x := (M.1 69 0 : Int32).toInt) (y := v2.toInt) rfl rfl (fun c7 => ?_) (fun c7 => ?_)
      · skip
        exact wpR_some ⟨(hI.mono (by omega)), trivial⟩
      · skip
        have k8 : 0 ≤ (v2 : Int32).toInt ∧ (v2 : Int32).toInt < ((40 : Nat) : Int) := by omega
        refine wpR_ix (vI k8) ?_
        have z9 := hI.f70 ((v2 : Int32).toNatClampNeg)
        refine wpR_eq (x := (M.1 70 (v2 : Int32).toNatClampNeg : Int32).toInt) (y := 3) rfl (rfl : (3 : Int32).toInt = 3) (fun c10 => ?_) (fun c10 => ?_)
        · skip
          exact wpR_some ⟨(hI.mono (by omega)), trivial⟩
        · skip
          refine wpR_ix (vI k8) ?_
          refine wpR_eq (x := (M.1 70 (v2 : Int32).toNatClampNeg : Int32).toInt) (y := 2) rfl (rfl : (2 : Int32).toInt = 2) (fun c11 => ?_) (fun c11 => ?_)
          · skip
            refine wpR_eq (x := ((((v1 : Int32).toUInt32 >>> (((v3 &&& 31) : Int32).toUInt32 &&& Int32.toUInt32 31)).toInt32) &&& 1 : Int32).toInt) (y := 1) rfl (rfl : (1 : Int32).toInt = 1) (fun c12 => ?_) (fun c12 => ?_)
            · skip
              unfold q_ChipMap_run_90
              refine wpR_eq (x := 1) (y := 0) (rfl : (1 : Int32).toInt = 1) (rfl : (0 : Int32).toInt = 0) (fun c13 => ?_) (fun c13 => ?_)
              · skip
                unfold q_ChipMap_run_115
                unfold q_ChipMap_run_137
                have z14 : (v4 + 1 : Int32).toInt = v4.toInt + 1 := iadd rfl (rfl : (1 : Int32).toInt = 1) (by omega) (by omega)
                have z15 : (v2 + 1 : Int32).toInt = v2.toInt + 1 := iadd rfl (rfl : (1 : Int32).toInt = 1) (by omega) (by omega)
                exact ih M v1 (v2 + 1) (v3 + 1) (v4 + 1) (hI.mono (by omega)) (by omega) (by omega) (by omega)
              · skip
                refine wpR_ix (vI k8) ?_
                unfold q_ChipMap_run_115
                unfold q_ChipMap_run_137
                have z16 : (v4 + 1 : Int32).toInt = v4.toInt + 1 := iadd rfl (rfl : (1 : Int32).toInt = 1) (by omega) (by omega)
                have z17 := hI.f72 ((v2 : Int32).toNatClampNeg)
                have z18 := hI.st2 (v := v2) (by omega) (by omega)
                exact ih M v1 (M.1 72 (v2 : Int32).toNatClampNeg) (v3 + 1) (v4 + 1) (hI.mono (by omega)) (by omega) (by omega) (by omega)
            · skip
              unfold q_ChipMap_run_90
              refine wpR_eq (x := 0) (y := 0) (rfl : (0 : Int32).toInt = 0) (rfl : (0 : Int32).toInt = 0) (fun c19 => ?_) (fun c19 => ?_)
              · skip
                unfold q_ChipMap_run_115
                unfold q_ChipMap_run_137
                have z20 : (v4 + 1 : Int32).toInt = v4.toInt + 1 := iadd rfl (rfl : (1 : Int32).toInt = 1) (by omega) (by omega)
                have z21 : (v2 + 1 : Int32).toInt = v2.toInt + 1 := iadd rfl (rfl : (1 : Int32).toInt = 1) (by omega) (by omega)
                exact ih M v1 (v2 + 1) (v3 + 1) (v4 + 1) (hI.mono (by omega)) (by omega) (by omega) (by omega)
              · skip
                refine wpR_ix (vI k8) ?_
                unfold q_ChipMap_run_115
                unfold q_ChipMap_run_137
                have z22 : (v4 + 1 : Int32).toInt = v4.toInt + 1 := iadd rfl (rfl : (1 : Int32).toInt = 1) (by omega) (by omega)
                have z23 := hI.f72 ((v2 : Int32).toNatClampNeg)
                have z24 := hI.st2 (v := v2) (by omega) (by omega)
                exact ih M v1 (M.1 72 (v2 : Int32).toNatClampNeg) (v3 + 1) (v4 + 1) (hI.mono (by omega)) (by omega) (by omega) (by omega)
          · skip
            refine wpR_cl (w_ChipMap_doStep hI (by omega) v2 (by omega) ⟨by omega, by omega⟩) (fun m27 u25 h28 => ?_)
            obtain ⟨i29, h26⟩ := h28
            refine wpR_eq (x := u25.toInt) (y := 0) rfl (rfl : (0 : Int32).toInt = 0) (fun c30 => ?_) (fun c30 => ?_)
            · skip
              exact wpR_some ⟨(i29.mono (by omega)), trivial⟩
            · skip
              unfold q_ChipMap_run_137
              have z31 : (v4 + 1 : Int32).toInt = v4.toInt + 1 := iadd rfl (rfl : (1 : Int32).toInt = 1) (by omega) (by omega)
              have z32 : (v2 + 1 : Int32).toInt = v2.toInt + 1 := iadd rfl (rfl : (1 : Int32).toInt = 1) (by omega) (by omega)
              exact ih m27 v1 (v2 + 1) v3 (v4 + 1) (i29.mono (by omega)) (by omega) (by omega) (by omega)
theorem w_ChipMap_run {G : Gx} {K : Int} {M : Mm} (hI : IX G K M) (hK : K + 5100 ≤ 2000000000)  (a1 : Int32) : wpR (q_ChipMap_run M a1) (fun M' r => IX G (K + 5100) M' ∧ True) := by
  unfold q_ChipMap_run
  have z1 := hI.rgR
  refine wpR_ro (w_ChipMap_hasMap hI) (fun u2 h3 => ?_)
  refine wpR_eq (x := u2.toInt) (y := 0) rfl (rfl : (0 : Int32).toInt = 0) (fun c5 => ?_) (fun c5 => ?_)
  · skip
    exact wpR_some ⟨(hI.mono (by omega)), trivial⟩
  · skip
    have z6 := hI.jc
    refine wpR_le (x := (M.1 65 0 : Int32).toInt) (y := 0) rfl (rfl : (0 : Int32).toInt = 0) (fun c7 => ?_) (fun c7 => ?_)
    · skip
      have z8 : (0 : Int32).toInt = 0 := rfl
      exact w_ChipMap_run_26 (by omega) 4000 M a1 0 0 0 (hI.mono (by omega)) (by omega) (by omega) (by omega)
    · skip
      exact wpR_some ⟨(hI.mono (by omega)), trivial⟩
theorem w_ChipMap_state {G : Gx} {K : Int} {M : Mm} (hI : IX G K M)  (a1 : Int32) : wpR (q_ChipMap_state M a1) (fun M' r => M = M' ∧ True) := by
  unfold q_ChipMap_state
  have z1 := hI.rgR
  refine wpR_eq (x := a1.toInt) (y := 0) rfl (rfl : (0 : Int32).toInt = 0) (fun c2 => ?_) (fun c2 => ?_)
  · skip
    exact wpR_some ⟨rfl, trivial⟩
  · skip
    refine wpR_eq (x := a1.toInt) (y := 1) rfl (rfl : (1 : Int32).toInt = 1) (fun c3 => ?_) (fun c3 => ?_)
    · skip
      exact wpR_some ⟨rfl, trivial⟩
    · skip
      refine wpR_eq (x := a1.toInt) (y := 2) rfl (rfl : (2 : Int32).toInt = 2) (fun c4 => ?_) (fun c4 => ?_)
      · skip
        exact wpR_some ⟨rfl, trivial⟩
      · skip
        refine wpR_eq (x := a1.toInt) (y := 3) rfl (rfl : (3 : Int32).toInt = 3) (fun c5 => ?_) (fun c5 => ?_)
        · skip
          exact wpR_some ⟨rfl, trivial⟩
        · skip
          refine wpR_eq (x := a1.toInt) (y := 4) rfl (rfl : (4 : Int32).toInt = 4) (fun c6 => ?_) (fun c6 => ?_)
          · skip
            exact wpR_some ⟨rfl, trivial⟩
          · skip
            exact wpR_some ⟨rfl, trivial⟩
