theorem w_ChipMapModel_registersRight_103 {G : Gy} {K : Int}  : ∀ (n' : Nat) (M : Mm) (v1 : Int32), IY G K M → (0 ≤ v1.toInt ∧ v1.toInt ≤ 16) → 16 - v1.toInt < (n' : Int) → wpR (q_ChipMapModel_registersRight_103 n' M v1) (fun M' r => IY G K M' ∧ (0 ≤ r.toInt ∧ r.toInt ≤ 1)) := by
  intro n'
  induction n' with
  | zero =>
    intro M v1 hI p0 hn
    exfalso; omega
  | succ n' ih =>
    intro M v1 hI p0 hn
    rw [q_ChipMapModel_registersRight_103]
    have z1 := hI.rr
    refine wpR_le (x := (M.1 0 6 : Int32).toInt) (y := v1.toInt) rfl rfl (fun c2 => ?_) (fun c2 => ?_)
    · skip
      have z3 : (1 : Int32).toInt = 1 := rfl
      exact wpR_some ⟨hI, (by omega)⟩
    · skip
      have z4 : (0 : Int32).toInt = 0 := rfl
      exact w_ChipMapModel_registersRight_113 (n103 := n') ih 4000 M v1 0 hI (by omega) (by omega) (by omega) (by omega)
theorem w_ChipMapModel_registersRight_2 {G : Gy} {K : Int}  : ∀ (n' : Nat) (M : Mm) (v1 : Int32), IY G K M → (0 ≤ v1.toInt ∧ v1.toInt ≤ 16) → 16 - v1.toInt < (n' : Int) → wpR (q_ChipMapModel_registersRight_2 n' M v1) (fun M' r => IY G K M' ∧ (0 ≤ r.toInt ∧ r.toInt ≤ 1)) := by
  intro n'
  induction n' with
  | zero =>
    intro M v1 hI p0 hn
    exfalso; omega
  | succ n' ih =>
    intro M v1 hI p0 hn
    rw [q_ChipMapModel_registersRight_2]
    have z1 := hI.rr
    refine wpR_le (x := (M.1 0 6 : Int32).toInt) (y := v1.toInt) rfl rfl (fun c2 => ?_) (fun c2 => ?_)
    · skip
      have z3 : (0 : Int32).toInt = 0 := rfl
      exact w_ChipMapModel_registersRight_103 4000 M 0 hI (by omega) (by omega)
    · skip
      have k4 : 0 ≤ (v1 : Int32).toInt ∧ (v1 : Int32).toInt < ((17 : Nat) : Int) := by omega
      refine wpR_ix (vI k4) ?_
      refine wpR_eq (x := (M.1 3 (v1 : Int32).toNatClampNeg : Int32).toInt) (y := (-1)) rfl (by decide : (-1 : Int32).toInt = -1) (fun c5 => ?_) (fun c5 => ?_)
      · skip
        unfold q_ChipMapModel_registersRight_95
        have z6 : (v1 + 1 : Int32).toInt = v1.toInt + 1 := iadd rfl (rfl : (1 : Int32).toInt = 1) (by omega) (by omega)
        exact ih M (v1 + 1) hI (by omega) (by omega)
      · skip
        refine wpR_ix (vI k4) ?_
        have z7 := hI.rf
        refine wpR_ro (w_ChipMapModel_named hI (M.1 3 (v1 : Int32).toNatClampNeg) (M.1 0 12) (by omega)) (fun u8 h9 => ?_)
        refine wpR_eq (x := u8.toInt) (y := (-1)) rfl (by decide : (-1 : Int32).toInt = -1) (fun c11 => ?_) (fun c11 => ?_)
        · skip
          unfold q_ChipMapModel_registersRight_83
          refine wpR_ix (vI k4) ?_
          refine wpR_cl (w_ChipMapModel_wrong hI 3 (M.1 6 (v1 : Int32).toNatClampNeg)) (fun m15 u12 h16 => ?_)
          obtain ⟨i17, h13, h14⟩ := h16
          refine wpR_bz (b01 (by omega)) ?_
          exact wpR_some ⟨i17, (by omega)⟩
        · skip
          have k18 : 0 ≤ (u8 : Int32).toInt ∧ (u8 : Int32).toInt < ((140 : Nat) : Int) := by omega
          refine wpR_ix (vI k18) ?_
          refine wpR_eq (x := (M.1 8 (u8 : Int32).toNatClampNeg : Int32).toInt) (y := 119) rfl (rfl : (119 : Int32).toInt = 119) (fun c19 => ?_) (fun c19 => ?_)
          · skip
            refine wpR_ix (vI k18) ?_
            have z20 := hI.rin ((u8 : Int32).toNatClampNeg)
            have k21 : 0 ≤ ((M.1 12 (u8 : Int32).toNatClampNeg) : Int32).toInt ∧ ((M.1 12 (u8 : Int32).toNatClampNeg) : Int32).toInt < ((17 : Nat) : Int) := by omega
            refine wpR_ix (vI k21) ?_
            refine wpR_eq (x := (M.1 3 ((M.1 12 (u8 : Int32).toNatClampNeg) : Int32).toNatClampNeg : Int32).toInt) (y := (-1)) rfl (by decide : (-1 : Int32).toInt = -1) (fun c22 => ?_) (fun c22 => ?_)
            · skip
              refine wpR_ix (vI k4) ?_
              refine wpR_ro (w_ChipMapModel_fits hI u8 (M.1 4 (v1 : Int32).toNatClampNeg) (by omega)) (fun u23 h24 => ?_)
              refine wpR_eq (x := u23.toInt) (y := 0) rfl (rfl : (0 : Int32).toInt = 0) (fun c26 => ?_) (fun c26 => ?_)
              · skip
                unfold q_ChipMapModel_registersRight_83
                refine wpR_ix (vI k4) ?_
                refine wpR_cl (w_ChipMapModel_wrong hI 3 (M.1 6 (v1 : Int32).toNatClampNeg)) (fun m30 u27 h31 => ?_)
                obtain ⟨i32, h28, h29⟩ := h31
                refine wpR_bz (b01 (by omega)) ?_
                exact wpR_some ⟨i32, (by omega)⟩
              · skip
                unfold q_ChipMapModel_registersRight_95
                have z33 : (v1 + 1 : Int32).toInt = v1.toInt + 1 := iadd rfl (rfl : (1 : Int32).toInt = 1) (by omega) (by omega)
                exact ih M (v1 + 1) hI (by omega) (by omega)
            · skip
              unfold q_ChipMapModel_registersRight_83
              refine wpR_ix (vI k4) ?_
              refine wpR_cl (w_ChipMapModel_wrong hI 3 (M.1 6 (v1 : Int32).toNatClampNeg)) (fun m37 u34 h38 => ?_)
              obtain ⟨i39, h35, h36⟩ := h38
              refine wpR_bz (b01 (by omega)) ?_
              exact wpR_some ⟨i39, (by omega)⟩
          · skip
            unfold q_ChipMapModel_registersRight_83
            refine wpR_ix (vI k4) ?_
            refine wpR_cl (w_ChipMapModel_wrong hI 3 (M.1 6 (v1 : Int32).toNatClampNeg)) (fun m43 u40 h44 => ?_)
            obtain ⟨i45, h41, h42⟩ := h44
            refine wpR_bz (b01 (by omega)) ?_
            exact wpR_some ⟨i45, (by omega)⟩
theorem w_ChipMapModel_registersRight {G : Gy} {K : Int} {M : Mm} (hI : IY G K M)  : wpR (q_ChipMapModel_registersRight M) (fun M' r => IY G K M' ∧ (0 ≤ r.toInt ∧ r.toInt ≤ 1)) := by
  unfold q_ChipMapModel_registersRight
  have z1 : (0 : Int32).toInt = 0 := rfl
  exact w_ChipMapModel_registersRight_2 4000 M 0 hI (by omega) (by omega)
theorem w_ChipMapModel_isLooked {G : Gy} {K : Int} {M : Mm} (hI : IY G K M)  (a1 : Int32) (p0 : -1 ≤ a1.toInt ∧ a1.toInt ≤ 139) : wpR (q_ChipMapModel_isLooked M a1) (fun M' r => M = M' ∧ (0 ≤ r.toInt ∧ r.toInt ≤ 1)) := by
  unfold q_ChipMapModel_isLooked
  refine wpR_eq (x := a1.toInt) (y := (-1)) rfl (by decide : (-1 : Int32).toInt = -1) (fun c1 => ?_) (fun c1 => ?_)
  · skip
    have z2 : (0 : Int32).toInt = 0 := rfl
    exact wpR_some ⟨rfl, (by omega)⟩
  · skip
    have k3 : 0 ≤ (a1 : Int32).toInt ∧ (a1 : Int32).toInt < ((140 : Nat) : Int) := by omega
    refine wpR_ix (vI k3) ?_
    refine wpR_eq (x := (M.1 8 (a1 : Int32).toNatClampNeg : Int32).toInt) (y := 114) rfl (rfl : (114 : Int32).toInt = 114) (fun c4 => ?_) (fun c4 => ?_)
    · skip
      have z5 : (0 : Int32).toInt = 0 := rfl
      exact wpR_some ⟨rfl, (by omega)⟩
    · skip
      refine wpR_ix (vI k3) ?_
      refine wpR_eq (x := (M.1 8 (a1 : Int32).toNatClampNeg : Int32).toInt) (y := 99) rfl (rfl : (99 : Int32).toInt = 99) (fun c6 => ?_) (fun c6 => ?_)
      · skip
        have z7 : (0 : Int32).toInt = 0 := rfl
        exact wpR_some ⟨rfl, (by omega)⟩
      · skip
        have z8 : (1 : Int32).toInt = 1 := rfl
        exact wpR_some ⟨rfl, (by omega)⟩
theorem w_ChipMapModel_rulesRight_2 {G : Gy} {K : Int}  : ∀ (n' : Nat) (M : Mm) (v1 : Int32), IY G K M → (0 ≤ v1.toInt ∧ v1.toInt ≤ 12) → 12 - v1.toInt < (n' : Int) → wpR (q_ChipMapModel_rulesRight_2 n' M v1) (fun M' r => IY G K M' ∧ (0 ≤ r.toInt ∧ r.toInt ≤ 1)) := by
  intro n'
  induction n' with
  | zero =>
    intro M v1 hI p0 hn
    exfalso; omega
  | succ n' ih =>
    intro M v1 hI p0 hn
    rw [q_ChipMapModel_rulesRight_2]
    have z1 := hI.ru
    refine wpR_le (x := (M.1 0 20 : Int32).toInt) (y := v1.toInt) rfl rfl (fun c2 => ?_) (fun c2 => ?_)
    · skip
      have z3 : (1 : Int32).toInt = 1 := rfl
      exact wpR_some ⟨hI, (by omega)⟩
    · skip
      have k4 : 0 ≤ (v1 : Int32).toInt ∧ (v1 : Int32).toInt < ((13 : Nat) : Int) := by omega
      refine wpR_ix (vI k4) ?_
      have z5 := hI.rf
      refine wpR_ro (w_ChipMapModel_named hI (M.1 15 (v1 : Int32).toNatClampNeg) (M.1 0 12) (by omega)) (fun u6 h7 => ?_)
      refine wpR_ix (vI k4) ?_
      refine wpR_ro (w_ChipMapModel_named hI (M.1 16 (v1 : Int32).toNatClampNeg) (M.1 0 12) (by omega)) (fun u9 h10 => ?_)
      refine wpR_ro (w_ChipMapModel_isLooked hI u6 (by omega)) (fun u12 h13 => ?_)
      refine wpR_eq (x := u12.toInt) (y := 0) rfl (rfl : (0 : Int32).toInt = 0) (fun c15 => ?_) (fun c15 => ?_)
      · skip
        refine wpR_ix (vI k4) ?_
        refine wpR_cl (w_ChipMapModel_wrong hI 4 (M.1 18 (v1 : Int32).toNatClampNeg)) (fun m19 u16 h20 => ?_)
        obtain ⟨i21, h17, h18⟩ := h20
        refine wpR_bz (b01 (by omega)) ?_
        exact wpR_some ⟨i21, (by omega)⟩
      · skip
        refine wpR_ix (vI k4) ?_
        refine wpR_eq (x := (M.1 14 (v1 : Int32).toNatClampNeg : Int32).toInt) (y := 38) rfl (rfl : (38 : Int32).toInt = 38) (fun c22 => ?_) (fun c22 => ?_)
        · skip
          refine wpR_eq (x := u9.toInt) (y := (-1)) rfl (by decide : (-1 : Int32).toInt = -1) (fun c23 => ?_) (fun c23 => ?_)
          · skip
            unfold q_ChipMapModel_rulesRight_116
            unfold q_ChipMapModel_rulesRight_125
            refine wpR_eq (x := 0) (y := 0) (rfl : (0 : Int32).toInt = 0) (rfl : (0 : Int32).toInt = 0) (fun c24 => ?_) (fun c24 => ?_)
            · skip
              refine wpR_ix (vI k4) ?_
              refine wpR_cl (w_ChipMapModel_wrong hI 4 (M.1 19 (v1 : Int32).toNatClampNeg)) (fun m28 u25 h29 => ?_)
              obtain ⟨i30, h26, h27⟩ := h29
              refine wpR_bz (b01 (by omega)) ?_
              exact wpR_some ⟨i30, (by omega)⟩
            · skip
              have z31 : (v1 + 1 : Int32).toInt = v1.toInt + 1 := iadd rfl (rfl : (1 : Int32).toInt = 1) (by omega) (by omega)
              exact ih M (v1 + 1) hI (by omega) (by omega)
          · skip
            have k32 : 0 ≤ (u9 : Int32).toInt ∧ (u9 : Int32).toInt < ((140 : Nat) : Int) := by omega
            refine wpR_ix (vI k32) ?_
            refine wpR_eq (x := (M.1 8 (u9 : Int32).toNatClampNeg : Int32).toInt) (y := 119) rfl (rfl : (119 : Int32).toInt = 119) (fun c33 => ?_) (fun c33 => ?_)
            · skip
              unfold q_ChipMapModel_rulesRight_98
              refine wpR_ix (vI k4) ?_
              refine wpR_ro (w_ChipMapModel_fits hI u9 (M.1 17 (v1 : Int32).toNatClampNeg) (by omega)) (fun u34 h35 => ?_)
              refine wpR_eq (x := u34.toInt) (y := 0) rfl (rfl : (0 : Int32).toInt = 0) (fun c37 => ?_) (fun c37 => ?_)
              · skip
                unfold q_ChipMapModel_rulesRight_116
                unfold q_ChipMapModel_rulesRight_125
                refine wpR_eq (x := 0) (y := 0) (rfl : (0 : Int32).toInt = 0) (rfl : (0 : Int32).toInt = 0) (fun c38 => ?_) (fun c38 => ?_)
                · skip
                  refine wpR_ix (vI k4) ?_
                  refine wpR_cl (w_ChipMapModel_wrong hI 4 (M.1 19 (v1 : Int32).toNatClampNeg)) (fun m42 u39 h43 => ?_)
                  obtain ⟨i44, h40, h41⟩ := h43
                  refine wpR_bz (b01 (by omega)) ?_
                  exact wpR_some ⟨i44, (by omega)⟩
                · skip
                  have z45 : (v1 + 1 : Int32).toInt = v1.toInt + 1 := iadd rfl (rfl : (1 : Int32).toInt = 1) (by omega) (by omega)
                  exact ih M (v1 + 1) hI (by omega) (by omega)
              · skip
                unfold q_ChipMapModel_rulesRight_125
                refine wpR_eq (x := 1) (y := 0) (rfl : (1 : Int32).toInt = 1) (rfl : (0 : Int32).toInt = 0) (fun c46 => ?_) (fun c46 => ?_)
                · skip
                  refine wpR_ix (vI k4) ?_
                  refine wpR_cl (w_ChipMapModel_wrong hI 4 (M.1 19 (v1 : Int32).toNatClampNeg)) (fun m50 u47 h51 => ?_)
                  obtain ⟨i52, h48, h49⟩ := h51
                  refine wpR_bz (b01 (by omega)) ?_
                  exact wpR_some ⟨i52, (by omega)⟩
                · skip
                  have z53 : (v1 + 1 : Int32).toInt = v1.toInt + 1 := iadd rfl (rfl : (1 : Int32).toInt = 1) (by omega) (by omega)
                  exact ih M (v1 + 1) hI (by omega) (by omega)
            · skip
              refine wpR_ix (vI k32) ?_
              refine wpR_eq (x := (M.1 8 (u9 : Int32).toNatClampNeg : Int32).toInt) (y := 111) rfl (rfl : (111 : Int32).toInt = 111) (fun c54 => ?_) (fun c54 => ?_)
              · skip
                unfold q_ChipMapModel_rulesRight_98
                refine wpR_ix (vI k4) ?_
                refine wpR_ro (w_ChipMapModel_fits hI u9 (M.1 17 (v1 : Int32).toNatClampNeg) (by omega)) (fun u55 h56 => ?_)
                refine wpR_eq (x := u55.toInt) (y := 0) rfl (rfl : (0 : Int32).toInt = 0) (fun c58 => ?_) (fun c58 => ?_)
                · skip
                  unfold q_ChipMapModel_rulesRight_116
                  unfold q_ChipMapModel_rulesRight_125
                  refine wpR_eq (x := 0) (y := 0) (rfl : (0 : Int32).toInt = 0) (rfl : (0 : Int32).toInt = 0) (fun c59 => ?_) (fun c59 => ?_)
                  · skip
                    refine wpR_ix (vI k4) ?_
                    refine wpR_cl (w_ChipMapModel_wrong hI 4 (M.1 19 (v1 : Int32).toNatClampNeg)) (fun m63 u60 h64 => ?_)
                    obtain ⟨i65, h61, h62⟩ := h64
                    refine wpR_bz (b01 (by omega)) ?_
                    exact wpR_some ⟨i65, (by omega)⟩
                  · skip
                    have z66 : (v1 + 1 : Int32).toInt = v1.toInt + 1 := iadd rfl (rfl : (1 : Int32).toInt = 1) (by omega) (by omega)
                    exact ih M (v1 + 1) hI (by omega) (by omega)
                · skip
                  unfold q_ChipMapModel_rulesRight_125
                  refine wpR_eq (x := 1) (y := 0) (rfl : (1 : Int32).toInt = 1) (rfl : (0 : Int32).toInt = 0) (fun c67 => ?_) (fun c67 => ?_)
                  · skip
                    refine wpR_ix (vI k4) ?_
                    refine wpR_cl (w_ChipMapModel_wrong hI 4 (M.1 19 (v1 : Int32).toNatClampNeg)) (fun m71 u68 h72 => ?_)
                    obtain ⟨i73, h69, h70⟩ := h72
                    refine wpR_bz (b01 (by omega)) ?_
                    exact wpR_some ⟨i73, (by omega)⟩
                  · skip
                    have z74 : (v1 + 1 : Int32).toInt = v1.toInt + 1 := iadd rfl (rfl : (1 : Int32).toInt = 1) (by omega) (by omega)
                    exact ih M (v1 + 1) hI (by omega) (by omega)
              · skip
                unfold q_ChipMapModel_rulesRight_116
                unfold q_ChipMapModel_rulesRight_125
                refine wpR_eq (x := 0) (y := 0) (rfl : (0 : Int32).toInt = 0) (rfl : (0 : Int32).toInt = 0) (fun c75 => ?_) (fun c75 => ?_)
                · skip
                  refine wpR_ix (vI k4) ?_
                  refine wpR_cl (w_ChipMapModel_wrong hI 4 (M.1 19 (v1 : Int32).toNatClampNeg)) (fun m79 u76 h80 => ?_)
                  obtain ⟨i81, h77, h78⟩ := h80
                  refine wpR_bz (b01 (by omega)) ?_
                  exact wpR_some ⟨i81, (by omega)⟩
                · skip
                  have z82 : (v1 + 1 : Int32).toInt = v1.toInt + 1 := iadd rfl (rfl : (1 : Int32).toInt = 1) (by omega) (by omega)
                  exact ih M (v1 + 1) hI (by omega) (by omega)
        · skip
          refine wpR_ro (w_ChipMapModel_isLooked hI u9 (by omega)) (fun u83 h84 => ?_)
          unfold q_ChipMapModel_rulesRight_125
          refine wpR_eq (x := u83.toInt) (y := 0) rfl (rfl : (0 : Int32).toInt = 0) (fun c86 => ?_) (fun c86 => ?_)
          · skip
            refine wpR_ix (vI k4) ?_
            refine wpR_cl (w_ChipMapModel_wrong hI 4 (M.1 19 (v1 : Int32).toNatClampNeg)) (fun m90 u87 h91 => ?_)
            obtain ⟨i92, h88, h89⟩ := h91
            refine wpR_bz (b01 (by omega)) ?_
            exact wpR_some ⟨i92, (by omega)⟩
          · skip
            have z93 : (v1 + 1 : Int32).toInt = v1.toInt + 1 := iadd rfl (rfl : (1 : Int32).toInt = 1) (by omega) (by omega)
            exact ih M (v1 + 1) hI (by omega) (by omega)
theorem w_ChipMapModel_rulesRight {G : Gy} {K : Int} {M : Mm} (hI : IY G K M)  : wpR (q_ChipMapModel_rulesRight M) (fun M' r => IY G K M' ∧ (0 ≤ r.toInt ∧ r.toInt ≤ 1)) := by
  unfold q_ChipMapModel_rulesRight
  have z1 : (0 : Int32).toInt = 0 := rfl
  exact w_ChipMapModel_rulesRight_2 4000 M 0 hI (by omega) (by omega)
theorem w_ChipMapModel_readAll_38 {G : Gy} {K : Int}  : ∀ (n' : Nat) (M : Mm), IY G K M → 13 - (M.1 0 20).toInt < (n' : Int) → wpR (q_ChipMapModel_readAll_38 n' M) (fun M' r => IY G K M' ∧ (0 ≤ r.toInt ∧ r.toInt ≤ 1)) := by
  intro n'
  induction n' with
  | zero =>
    intro M hI hn
    have z1 := hI.rf
    have z2 := hI.rr
    have z3 := hI.ru
    exfalso; omega
  | succ n' ih =>
    intro M hI hn
    rw [q_ChipMapModel_readAll_38]
    have z4 := hI.rf
    have z5 := hI.rr
    have z6 := hI.ru
    have z7 := hI.f2
    have z8 := hI.atR
    refine wpR_le (x := (M.1 0 2 : Int32).toInt) (y := (M.1 0 3 : Int32).toInt) rfl rfl (fun c9 => ?_) (fun c9 => ?_)
    · skip
      refine wpR_cl (w_ChipMapModel_fieldsRight hI) (fun m12 u10 h13 => ?_)
      obtain ⟨i14, h11⟩ := h13
      refine wpR_eq (x := u10.toInt) (y := 0) rfl (rfl : (0 : Int32).toInt = 0) (fun c15 => ?_) (fun c15 => ?_)
      · skip
        have z16 : (0 : Int32).toInt = 0 := rfl
        exact wpR_some ⟨i14, (by omega)⟩
      · skip
        refine wpR_cl (w_ChipMapModel_registersRight i14) (fun m19 u17 h20 => ?_)
        obtain ⟨i21, h18⟩ := h20
        refine wpR_eq (x := u17.toInt) (y := 0) rfl (rfl : (0 : Int32).toInt = 0) (fun c22 => ?_) (fun c22 => ?_)
        · skip
          have z23 : (0 : Int32).toInt = 0 := rfl
          exact wpR_some ⟨i21, (by omega)⟩
        · skip
          refine wpR_cl (w_ChipMapModel_rulesRight i21) (fun m26 u24 h27 => ?_)
          obtain ⟨i28, h25⟩ := h27
          refine wpR_eq (x := u24.toInt) (y := 0) rfl (rfl : (0 : Int32).toInt = 0) (fun c29 => ?_) (fun c29 => ?_)
          · skip
            have z30 : (0 : Int32).toInt = 0 := rfl
            exact wpR_some ⟨i28, (by omega)⟩
          · skip
            have z31 : (1 : Int32).toInt = 1 := rfl
            exact wpR_some ⟨i28, (by omega)⟩
    · skip
      refine wpR_cl (w_ChipMapModel_readRule hI) (fun m35 u32 h36 => ?_)
      obtain ⟨i37, h33, h34⟩ := h36
      refine wpR_eq (x := u32.toInt) (y := 0) rfl (rfl : (0 : Int32).toInt = 0) (fun c38 => ?_) (fun c38 => ?_)
      · skip
        have z39 : (0 : Int32).toInt = 0 := rfl
        exact wpR_some ⟨i37, (by omega)⟩
      · skip
        have z40 := i37.ru
        exact ih m35 i37 (by omega)
theorem w_ChipMapModel_readAll_20 {G : Gy} {K : Int}  : ∀ (n' : Nat) (M : Mm), IY G K M → ((M.1 0 12).toInt ≤ 8 * (M.1 0 6).toInt) → 17 - (M.1 0 6).toInt < (n' : Int) → wpR (q_ChipMapModel_readAll_20 n' M) (fun M' r => IY G K M' ∧ (0 ≤ r.toInt ∧ r.toInt ≤ 1)) := by
  intro n'
  induction n' with
  | zero =>
    intro M hI p0 hn
    have z1 := hI.rf
    have z2 := hI.rr
    have z3 := hI.ru
    exfalso; omega
  | succ n' ih =>
    intro M hI p0 hn
    rw [q_ChipMapModel_readAll_20]
    have z4 := hI.rf
    have z5 := hI.rr
    have z6 := hI.ru
    have z7 := hI.rf
    have z8 := hI.rr
    refine wpR_cl (w_ChipMapModel_readRegister hI (by omega)) (fun m12 u9 h13 => ?_)
    obtain ⟨i14, h10, h11⟩ := h13
    refine wpR_eq (x := u9.toInt) (y := 0) rfl (rfl : (0 : Int32).toInt = 0) (fun c15 => ?_) (fun c15 => ?_)
    · skip
      have z16 : (0 : Int32).toInt = 0 := rfl
      exact wpR_some ⟨i14, (by omega)⟩
    · skip
      refine wpR_ro (w_ChipMapModel_here i14) (fun u17 h20 => ?_)
      obtain ⟨h18, h19⟩ := h20
      refine wpR_eq (x := u17.toInt) (y := 64) rfl (rfl : (64 : Int32).toInt = 64) (fun c21 => ?_) (fun c21 => ?_)
      · skip
        have z22 := i14.rf
        have z23 := i14.rr
        exact ih m12 i14 (by omega) (by omega)
      · skip
        have z24 := i14.ru
        exact w_ChipMapModel_readAll_38 4000 m12 i14 (by omega)
theorem w_ChipMapModel_readAll {G : Gy} {K : Int} {M : Mm} (hI : IY G K M)  : wpR (q_ChipMapModel_readAll M) (fun M' r => IY G K M' ∧ (0 ≤ r.toInt ∧ r.toInt ≤ 1)) := by
  unfold q_ChipMapModel_readAll
  have z1 := hI.rf
  have z2 := hI.rr
  have z3 := hI.ru
  have z7 : (0 : Int32).toInt = 0 := rfl
  refine wpR_ltv (fun m4 e5 => ?_)
  have i6 : IY G K m4 := by rw [e5]; exact hI.s0_3 (by omega)
  have z8 : (m4.1 0 12).toInt = (M.1 0 12).toInt := by rw [e5]; rfl
  have z9 : (m4.1 0 6).toInt = (M.1 0 6).toInt := by rw [e5]; rfl
  have z10 : (m4.1 0 20).toInt = (M.1 0 20).toInt := by rw [e5]; rfl
  refine wpR_ltv (fun m11 e12 => ?_)
  have i13 : IY G K m11 := by rw [e12]; exact i6.s0_6z
  have z14 : (m11.1 0 12).toInt = (m4.1 0 12).toInt := by rw [e12]; rfl
  have z15 : (m11.1 0 6).toInt = (0 : Int32).toInt := by rw [e12]; rfl
  have z16 : (m11.1 0 20).toInt = (m4.1 0 20).toInt := by rw [e12]; rfl
  refine wpR_ltv (fun m17 e18 => ?_)
  have i19 : IY G K m17 := by rw [e18]; exact i13.s0_12z
  have z20 : (m17.1 0 12).toInt = (0 : Int32).toInt := by rw [e18]; rfl
  have z21 : (m17.1 0 6).toInt = (m11.1 0 6).toInt := by rw [e18]; rfl
  have z22 : (m17.1 0 20).toInt = (m11.1 0 20).toInt := by rw [e18]; rfl
  refine wpR_ltv (fun m23 e24 => ?_)
  have i25 : IY G K m23 := by rw [e24]; exact i19.s0_20z
  have z26 : (m23.1 0 12).toInt = (m17.1 0 12).toInt := by rw [e24]; rfl
  have z27 : (m23.1 0 6).toInt = (m17.1 0 6).toInt := by rw [e24]; rfl
  have z28 : (m23.1 0 20).toInt = (0 : Int32).toInt := by rw [e24]; rfl
  have z29 := i25.rf
  have z30 := i25.rr
  exact w_ChipMapModel_readAll_20 4000 m23 i25 (by omega) (by omega)
theorem w_ChipMapModel_resetDevice_55 {G : Gy} {K : Int}  : ∀ (n' : Nat) (M : Mm) (v1 : Int32), IY G K M → (0 ≤ v1.toInt ∧ v1.toInt ≤ 12) → 12 - v1.toInt < (n' : Int) → wpR (q_ChipMapModel_resetDevice_55 n' M v1) (fun M' r => IY G K M' ∧ True) := by
  intro n'
  induction n' with
  | zero =>
    intro M v1 hI p0 hn
    exfalso; omega
  | succ n' ih =>
    intro M v1 hI p0 hn
    rw [q_ChipMapModel_resetDevice_55]
    refine wpR_le (x := 12) (y := v1.toInt) (rfl : (12 : Int32).toInt = 12) rfl (fun c1 => ?_) (fun c1 => ?_)
    · skip
      exact wpR_some ⟨hI, trivial⟩
    · skip
      have k2 : 0 ≤ (v1 : Int32).toInt ∧ (v1 : Int32).toInt < ((36 : Nat) : Int) := by omega
      refine wpR_ix (vI k2) ?_
      refine wpR_ltv (fun m3 e4 => ?_)
      have i5 : IY G K m3 := by rw [e4]; exact hI.s36 _
      have z6 : (v1 + 1 : Int32).toInt = v1.toInt + 1 := iadd rfl (rfl : (1 : Int32).toInt = 1) (by omega) (by omega)
      exact ih m3 (v1 + 1) i5 (by omega) (by omega)
theorem w_ChipMapModel_resetDevice_2 {G : Gy} {K : Int}  : ∀ (n' : Nat) (M : Mm) (v1 : Int32), IY G K M → (0 ≤ v1.toInt ∧ v1.toInt ≤ 26) → 26 - v1.toInt < (n' : Int) → wpR (q_ChipMapModel_resetDevice_2 n' M v1) (fun M' r => IY G K M' ∧ True) := by
  intro n'
  induction n' with
  | zero =>
    intro M v1 hI p0 hn
    exfalso; omega
  | succ n' ih =>
    intro M v1 hI p0 hn
    rw [q_ChipMapModel_resetDevice_2]
    refine wpR_le (x := 26) (y := v1.toInt) (rfl : (26 : Int32).toInt = 26) rfl (fun c1 => ?_) (fun c1 => ?_)
    · skip
      have z2 : (0 : Int32).toInt = 0 := rfl
      exact w_ChipMapModel_resetDevice_55 4000 M 0 hI (by omega) (by omega)
    · skip
      have k3 : 0 ≤ (v1 : Int32).toInt ∧ (v1 : Int32).toInt < ((26 : Nat) : Int) := by omega
      refine wpR_ix (vI k3) ?_
      refine wpR_eq (x := (M.1 23 (v1 : Int32).toNatClampNeg : Int32).toInt) (y := 0) rfl (rfl : (0 : Int32).toInt = 0) (fun c4 => ?_) (fun c4 => ?_)
      · skip
        unfold q_ChipMapModel_resetDevice_32
        have k5 : 0 ≤ (v1 : Int32).toInt ∧ (v1 : Int32).toInt < ((78 : Nat) : Int) := by omega
        refine wpR_ix (vI k5) ?_
        refine wpR_ltv (fun m6 e7 => ?_)
        have i8 : IY G K m6 := by rw [e7]; exact hI.s33 _
        refine wpR_ix (vI k5) ?_
        refine wpR_ltv (fun m9 e10 => ?_)
        have i11 : IY G K m9 := by rw [e10]; exact i8.s34 _
        refine wpR_ix (vI k5) ?_
        refine wpR_ltv (fun m12 e13 => ?_)
        have i14 : IY G K m12 := by rw [e13]; exact i11.s35 _
        have z15 : (v1 + 1 : Int32).toInt = v1.toInt + 1 := iadd rfl (rfl : (1 : Int32).toInt = 1) (by omega) (by omega)
        exact ih m12 (v1 + 1) i14 (by omega) (by omega)
      · skip
        refine wpR_ix (vI k3) ?_
        unfold q_ChipMapModel_resetDevice_32
        have k16 : 0 ≤ (v1 : Int32).toInt ∧ (v1 : Int32).toInt < ((78 : Nat) : Int) := by omega
        refine wpR_ix (vI k16) ?_
        refine wpR_ltv (fun m17 e18 => ?_)
        have i19 : IY G K m17 := by rw [e18]; exact hI.s33 _
        refine wpR_ix (vI k16) ?_
        refine wpR_ltv (fun m20 e21 => ?_)
        have i22 : IY G K m20 := by rw [e21]; exact i19.s34 _
        refine wpR_ix (vI k16) ?_
        refine wpR_ltv (fun m23 e24 => ?_)
        have i25 : IY G K m23 := by rw [e24]; exact i22.s35 _
        have z26 : (v1 + 1 : Int32).toInt = v1.toInt + 1 := iadd rfl (rfl : (1 : Int32).toInt = 1) (by omega) (by omega)
        exact ih m23 (v1 + 1) i25 (by omega) (by omega)
theorem w_ChipMapModel_resetDevice {G : Gy} {K : Int} {M : Mm} (hI : IY G K M)  : wpR (q_ChipMapModel_resetDevice M) (fun M' r => IY G K M' ∧ True) := by
  unfold q_ChipMapModel_resetDevice
  have z1 : (0 : Int32).toInt = 0 := rfl
  exact w_ChipMapModel_resetDevice_2 4000 M 0 hI (by omega) (by omega)
theorem w_ChipMapModel_resetAll {G : Gy} {K : Int} {M : Mm} (hI : IY G K M)  : wpR (q_ChipMapModel_resetAll M) (fun M' r => IY G K M' ∧ True) := by
  unfold q_ChipMapModel_resetAll
  refine wpR_cl (w_ChipMapModel_resetDevice hI) (fun m2 u1 h3 => ?_)
  have i4 := h3.1
  have z8 : (0 : Int32).toInt = 0 := rfl
  have z9 := i4.f47
  refine wpR_ltv (fun m5 e6 => ?_)
  have i7 : IY G K m5 := by rw [e6]; exact i4.s0_47 (by omega)
  refine wpR_ltv (fun m10 e11 => ?_)
  have i12 : IY G K m10 := by rw [e11]; exact i7.s0_48 _
  refine wpR_ltv (fun m13 e14 => ?_)
  have i15 : IY G K m13 := by rw [e14]; exact i12.s0_52 (by omega)
  exact wpR_some ⟨i15, trivial⟩
theorem w_ChipMapModel_compile_230 {G : Gy} {K : Int}  : ∀ (n' : Nat) (M : Mm) (v2 : Int32), IY G K M → (0 ≤ v2.toInt ∧ v2.toInt ≤ 12) → ((M.1 0 38).toInt = (M.1 0 20).toInt) → 12 - v2.toInt < (n' : Int) → wpR (q_ChipMapModel_compile_230 n' M v2) (fun M' r => IY G K M' ∧ True) := by
  intro n'
  induction n' with
  | zero =>
    intro M v2 hI p0 p1 hn
    exfalso; omega
  | succ n' ih =>
    intro M v2 hI p0 p1 hn
    rw [q_ChipMapModel_compile_230]
    have z1 := hI.rules
    have z2 := hI.ru
    refine wpR_le (x := (M.1 0 38 : Int32).toInt) (y := v2.toInt) rfl rfl (fun c3 => ?_) (fun c3 => ?_)
    · skip
      have z7 : (0 : Int32).toInt = 0 := rfl
      refine wpR_ltv (fun m4 e5 => ?_)
      have i6 : IY G K m4 := by rw [e5]; exact hI.s0_59 (by omega)
      have z8 : (m4.1 0 28).toInt = (M.1 0 28).toInt := by rw [e5]; rfl
      have z9 : (m4.1 0 6).toInt = (M.1 0 6).toInt := by rw [e5]; rfl
      have z10 : (m4.1 0 38).toInt = (M.1 0 38).toInt := by rw [e5]; rfl
      have z11 : (m4.1 0 20).toInt = (M.1 0 20).toInt := by rw [e5]; rfl
      have z12 : (m4.1 0 12).toInt = (M.1 0 12).toInt := by rw [e5]; rfl
      refine wpR_ltv (fun m13 e14 => ?_)
      have i15 : IY G K m13 := by rw [e14]; exact i6.s0_67 _
      have z16 : (m13.1 0 28).toInt = (m4.1 0 28).toInt := by rw [e14]; rfl
      have z17 : (m13.1 0 6).toInt = (m4.1 0 6).toInt := by rw [e14]; rfl
      have z18 : (m13.1 0 38).toInt = (m4.1 0 38).toInt := by rw [e14]; rfl
      have z19 : (m13.1 0 20).toInt = (m4.1 0 20).toInt := by rw [e14]; rfl
      have z20 : (m13.1 0 12).toInt = (m4.1 0 12).toInt := by rw [e14]; rfl
      refine wpR_ltv (fun m21 e22 => ?_)
      have i23 : IY G K m21 := by rw [e22]; exact i15.s0_68 _
      have z24 : (m21.1 0 28).toInt = (m13.1 0 28).toInt := by rw [e22]; rfl
      have z25 : (m21.1 0 6).toInt = (m13.1 0 6).toInt := by rw [e22]; rfl
      have z26 : (m21.1 0 38).toInt = (m13.1 0 38).toInt := by rw [e22]; rfl
      have z27 : (m21.1 0 20).toInt = (m13.1 0 20).toInt := by rw [e22]; rfl
      have z28 : (m21.1 0 12).toInt = (m13.1 0 12).toInt := by rw [e22]; rfl
      refine wpR_cl (w_ChipMapModel_resetAll i23) (fun m30 u29 h31 => ?_)
      have i32 := h31.1
      exact wpR_some ⟨i32, trivial⟩
    · skip
      have k33 : 0 ≤ (v2 : Int32).toInt ∧ (v2 : Int32).toInt < ((13 : Nat) : Int) := by omega
      refine wpR_ix (vI k33) ?_
      have k34 : 0 ≤ (v2 : Int32).toInt ∧ (v2 : Int32).toInt < ((12 : Nat) : Int) := by omega
      refine wpR_ix (vI k34) ?_
      refine wpR_ltv (fun m35 e36 => ?_)
      have i37 : IY G K m35 := by rw [e36]; exact hI.s29 _
      have z38 : (m35.1 0 28).toInt = (M.1 0 28).toInt := by rw [e36]; rfl
      have z39 : (m35.1 0 6).toInt = (M.1 0 6).toInt := by rw [e36]; rfl
      have z40 : (m35.1 0 38).toInt = (M.1 0 38).toInt := by rw [e36]; rfl
      have z41 : (m35.1 0 20).toInt = (M.1 0 20).toInt := by rw [e36]; rfl
      have z42 : (m35.1 0 12).toInt = (M.1 0 12).toInt := by rw [e36]; rfl
      refine wpR_ix (vI k33) ?_
      refine wpR_ix (vI k34) ?_
      have z46 := i37.ru
      have z47 := i37.f15 (v := v2) (by omega) (by omega)
      refine wpR_ltv (fun m43 e44 => ?_)
      have i45 : IY G K m43 := by rw [e44]; exact i37.s30 _ (by omega)
      have z48 : (m43.1 0 28).toInt = (m35.1 0 28).toInt := by rw [e44]; rfl
      have z49 : (m43.1 0 6).toInt = (m35.1 0 6).toInt := by rw [e44]; rfl
      have z50 : (m43.1 0 38).toInt = (m35.1 0 38).toInt := by rw [e44]; rfl
      have z51 : (m43.1 0 20).toInt = (m35.1 0 20).toInt := by rw [e44]; rfl
      have z52 : (m43.1 0 12).toInt = (m35.1 0 12).toInt := by rw [e44]; rfl
      refine wpR_ix (vI k33) ?_
      refine wpR_ix (vI k34) ?_
      have z56 := i45.ru
      have z57 := i45.f16 (v := v2) (by omega) (by omega)
      refine wpR_ltv (fun m53 e54 => ?_)
      have i55 : IY G K m53 := by rw [e54]; exact i45.s31 _ (by omega)
      have z58 : (m53.1 0 28).toInt = (m43.1 0 28).toInt := by rw [e54]; rfl
      have z59 : (m53.1 0 6).toInt = (m43.1 0 6).toInt := by rw [e54]; rfl
      have z60 : (m53.1 0 38).toInt = (m43.1 0 38).toInt := by rw [e54]; rfl
      have z61 : (m53.1 0 20).toInt = (m43.1 0 20).toInt := by rw [e54]; rfl
      have z62 : (m53.1 0 12).toInt = (m43.1 0 12).toInt := by rw [e54]; rfl
      refine wpR_ix (vI k33) ?_
      refine wpR_ix (vI k34) ?_
      refine wpR_ltv (fun m63 e64 => ?_)
      have i65 : IY G K m63 := by rw [e64]; exact i55.s32 _
      have z66 : (m63.1 0 28).toInt = (m53.1 0 28).toInt := by rw [e64]; rfl
      have z67 : (m63.1 0 6).toInt = (m53.1 0 6).toInt := by rw [e64]; rfl
      have z68 : (m63.1 0 38).toInt = (m53.1 0 38).toInt := by rw [e64]; rfl
      have z69 : (m63.1 0 20).toInt = (m53.1 0 20).toInt := by rw [e64]; rfl
      have z70 : (m63.1 0 12).toInt = (m53.1 0 12).toInt := by rw [e64]; rfl
      have z71 : (v2 + 1 : Int32).toInt = v2.toInt + 1 := iadd rfl (rfl : (1 : Int32).toInt = 1) (by omega) (by omega)
      have z72 := i65.rules
      have z73 := i65.ru
      exact ih m63 (v2 + 1) i65 (by omega) (by omega) (by omega)
theorem w_ChipMapModel_compile_123 {G : Gy} {K : Int}  : ∀ (n' : Nat) (M : Mm) (v2 : Int32), IY G K M → (0 ≤ v2.toInt ∧ v2.toInt ≤ 128) → 128 - v2.toInt < (n' : Int) → wpR (q_ChipMapModel_compile_123 n' M v2) (fun M' r => IY G K M' ∧ True) := by
  intro n'
  induction n' with
  | zero =>
    intro M v2 hI p0 hn
    exfalso; omega
  | succ n' ih =>
    intro M v2 hI p0 hn
    rw [q_ChipMapModel_compile_123]
    have z1 := hI.rf
    refine wpR_le (x := (M.1 0 12 : Int32).toInt) (y := v2.toInt) rfl rfl (fun c2 => ?_) (fun c2 => ?_)
    · skip
      have z6 := hI.ru
      refine wpR_ltv (fun m3 e4 => ?_)
      have i5 : IY G K m3 := by rw [e4]; exact hI.s0_38 (by omega)
      have z7 : (m3.1 0 28).toInt = (M.1 0 28).toInt := by rw [e4]; rfl
      have z8 : (m3.1 0 6).toInt = (M.1 0 6).toInt := by rw [e4]; rfl
      have z9 : (m3.1 0 38).toInt = ((M.1 0 20) : Int32).toInt := by rw [e4]; rfl
      have z10 : (m3.1 0 20).toInt = (M.1 0 20).toInt := by rw [e4]; rfl
      have z11 : (m3.1 0 12).toInt = (M.1 0 12).toInt := by rw [e4]; rfl
      have z12 : (0 : Int32).toInt = 0 := rfl
      have z13 := i5.rules
      have z14 := i5.ru
      exact w_ChipMapModel_compile_230 4000 m3 0 i5 (by omega) (by omega) (by omega)
    · skip
      have k15 : 0 ≤ (v2 : Int32).toInt ∧ (v2 : Int32).toInt < ((140 : Nat) : Int) := by omega
      refine wpR_ix (vI k15) ?_
      refine wpR_lt ?_
      have z16 := hI.f7 (v := v2) (by omega) (by omega)
      have k17 : 0 ≤ ((M.1 7 (v2 : Int32).toNatClampNeg) : Int32).toInt ∧ ((M.1 7 (v2 : Int32).toNatClampNeg) : Int32).toInt < ((26 : Nat) : Int) := by omega
      refine wpR_ix (vI k17) ?_
      refine wpR_ltv (fun m18 e19 => ?_)
      have i20 : IY G K m18 := by rw [e19]; exact hI.s23 _
      have z21 : (m18.1 0 28).toInt = (M.1 0 28).toInt := by rw [e19]; rfl
      have z22 : (m18.1 0 6).toInt = (M.1 0 6).toInt := by rw [e19]; rfl
      have z23 : (m18.1 0 38).toInt = (M.1 0 38).toInt := by rw [e19]; rfl
      have z24 : (m18.1 0 20).toInt = (M.1 0 20).toInt := by rw [e19]; rfl
      have z25 : (m18.1 0 12).toInt = (M.1 0 12).toInt := by rw [e19]; rfl
      refine wpR_ix (vI k15) ?_
      refine wpR_ix (vI k17) ?_
      refine wpR_ltv (fun m26 e27 => ?_)
      have i28 : IY G K m26 := by rw [e27]; exact i20.s24 _
      have z29 : (m26.1 0 28).toInt = (m18.1 0 28).toInt := by rw [e27]; rfl
      have z30 : (m26.1 0 6).toInt = (m18.1 0 6).toInt := by rw [e27]; rfl
      have z31 : (m26.1 0 38).toInt = (m18.1 0 38).toInt := by rw [e27]; rfl
      have z32 : (m26.1 0 20).toInt = (m18.1 0 20).toInt := by rw [e27]; rfl
      have z33 : (m26.1 0 12).toInt = (m18.1 0 12).toInt := by rw [e27]; rfl
      refine wpR_ix (vI k15) ?_
      refine wpR_ix (vI k17) ?_
      have z37 := i28.rin ((v2 : Int32).toNatClampNeg)
      refine wpR_ltv (fun m34 e35 => ?_)
      have i36 : IY G K m34 := by rw [e35]; exact i28.s25 _ (by omega)
      have z38 : (m34.1 0 28).toInt = (m26.1 0 28).toInt := by rw [e35]; rfl
      have z39 : (m34.1 0 6).toInt = (m26.1 0 6).toInt := by rw [e35]; rfl
      have z40 : (m34.1 0 38).toInt = (m26.1 0 38).toInt := by rw [e35]; rfl
      have z41 : (m34.1 0 20).toInt = (m26.1 0 20).toInt := by rw [e35]; rfl
      have z42 : (m34.1 0 12).toInt = (m26.1 0 12).toInt := by rw [e35]; rfl
      refine wpR_ix (vI k15) ?_
      refine wpR_ix (vI k17) ?_
      refine wpR_ltv (fun m43 e44 => ?_)
      have i45 : IY G K m43 := by rw [e44]; exact i36.s26 _
      have z46 : (m43.1 0 28).toInt = (m34.1 0 28).toInt := by rw [e44]; rfl
      have z47 : (m43.1 0 6).toInt = (m34.1 0 6).toInt := by rw [e44]; rfl
      have z48 : (m43.1 0 38).toInt = (m34.1 0 38).toInt := by rw [e44]; rfl
      have z49 : (m43.1 0 20).toInt = (m34.1 0 20).toInt := by rw [e44]; rfl
      have z50 : (m43.1 0 12).toInt = (m34.1 0 12).toInt := by rw [e44]; rfl
      refine wpR_ix (vI k15) ?_
      refine wpR_ix (vI k15) ?_
      refine wpR_ix (vI k17) ?_
      refine wpR_ltv (fun m51 e52 => ?_)
      have i53 : IY G K m51 := by rw [e52]; exact i45.s27 _
      have z54 : (m51.1 0 28).toInt = (m43.1 0 28).toInt := by rw [e52]; rfl
      have z55 : (m51.1 0 6).toInt = (m43.1 0 6).toInt := by rw [e52]; rfl
      have z56 : (m51.1 0 38).toInt = (m43.1 0 38).toInt := by rw [e52]; rfl
      have z57 : (m51.1 0 20).toInt = (m43.1 0 20).toInt := by rw [e52]; rfl
      have z58 : (m51.1 0 12).toInt = (m43.1 0 12).toInt := by rw [e52]; rfl
      refine wpR_ix (vI k15) ?_
      refine wpR_ix (vI k17) ?_
      refine wpR_ltv (fun m59 e60 => ?_)
      have i61 : IY G K m59 := by rw [e60]; exact i53.s28 _
      have z62 : (m59.1 0 28).toInt = (m51.1 0 28).toInt := by rw [e60]; rfl
      have z63 : (m59.1 0 6).toInt = (m51.1 0 6).toInt := by rw [e60]; rfl
      have z64 : (m59.1 0 38).toInt = (m51.1 0 38).toInt := by rw [e60]; rfl
      have z65 : (m59.1 0 20).toInt = (m51.1 0 20).toInt := by rw [e60]; rfl
      have z66 : (m59.1 0 12).toInt = (m51.1 0 12).toInt := by rw [e60]; rfl
      have z67 : (v2 + 1 : Int32).toInt = v2.toInt + 1 := iadd rfl (rfl : (1 : Int32).toInt = 1) (by omega) (by omega)
      exact ih m59 (v2 + 1) i61 (by omega) (by omega)
theorem w_ChipMapModel_compile_102 {G : Gy} {K : Int}  : ∀ (n' : Nat) (M : Mm) (v2 : Int32), IY G K M → (0 ≤ v2.toInt ∧ v2.toInt ≤ 26) → 26 - v2.toInt < (n' : Int) → wpR (q_ChipMapModel_compile_102 n' M v2) (fun M' r => IY G K M' ∧ True) := by
  intro n'
  induction n' with
  | zero =>
    intro M v2 hI p0 hn
    exfalso; omega
  | succ n' ih =>
    intro M v2 hI p0 hn
    rw [q_ChipMapModel_compile_102]
    refine wpR_le (x := 26) (y := v2.toInt) (rfl : (26 : Int32).toInt = 26) rfl (fun c1 => ?_) (fun c1 => ?_)
    · skip
      have z2 : (0 : Int32).toInt = 0 := rfl
      exact w_ChipMapModel_compile_123 4000 M 0 hI (by omega) (by omega)
    · skip
      have k3 : 0 ≤ (v2 : Int32).toInt ∧ (v2 : Int32).toInt < ((26 : Nat) : Int) := by omega
      refine wpR_ix (vI k3) ?_
      refine wpR_ltv (fun m4 e5 => ?_)
      have i6 : IY G K m4 := by rw [e5]; exact hI.s23 _
      have z7 : (m4.1 0 28).toInt = (M.1 0 28).toInt := by rw [e5]; rfl
      have z8 : (m4.1 0 6).toInt = (M.1 0 6).toInt := by rw [e5]; rfl
      have z9 : (m4.1 0 38).toInt = (M.1 0 38).toInt := by rw [e5]; rfl
      have z10 : (m4.1 0 20).toInt = (M.1 0 20).toInt := by rw [e5]; rfl
      have z11 : (m4.1 0 12).toInt = (M.1 0 12).toInt := by rw [e5]; rfl
      have z12 : (v2 + 1 : Int32).toInt = v2.toInt + 1 := iadd rfl (rfl : (1 : Int32).toInt = 1) (by omega) (by omega)
      exact ih m4 (v2 + 1) i6 (by omega) (by omega)
theorem w_ChipMapModel_compile_50 {G : Gy} {K : Int}  : ∀ (n' : Nat) (M : Mm) (v2 : Int32), IY G K M → (0 ≤ v2.toInt ∧ v2.toInt ≤ 16) → ((M.1 0 28).toInt = (M.1 0 6).toInt) → 16 - v2.toInt < (n' : Int) → wpR (q_ChipMapModel_compile_50 n' M v2) (fun M' r => IY G K M' ∧ True) := by
  intro n'
  induction n' with
  | zero =>
    intro M v2 hI p0 p1 hn
    exfalso; omega
  | succ n' ih =>
    intro M v2 hI p0 p1 hn
    rw [q_ChipMapModel_compile_50]
    have z1 := hI.regs
    have z2 := hI.rr
    refine wpR_le (x := (M.1 0 28 : Int32).toInt) (y := v2.toInt) rfl rfl (fun c3 => ?_) (fun c3 => ?_)
    · skip
      have z4 : (0 : Int32).toInt = 0 := rfl
      exact w_ChipMapModel_compile_102 4000 M 0 hI (by omega) (by omega)
    · skip
      have k5 : 0 ≤ (v2 : Int32).toInt ∧ (v2 : Int32).toInt < ((17 : Nat) : Int) := by omega
      refine wpR_ix (vI k5) ?_
      have k6 : 0 ≤ (v2 : Int32).toInt ∧ (v2 : Int32).toInt < ((16 : Nat) : Int) := by omega
      refine wpR_ix (vI k6) ?_
      refine wpR_ltv (fun m7 e8 => ?_)
      have i9 : IY G K m7 := by rw [e8]; exact hI.s20 _
      have z10 : (m7.1 0 28).toInt = (M.1 0 28).toInt := by rw [e8]; rfl
      have z11 : (m7.1 0 6).toInt = (M.1 0 6).toInt := by rw [e8]; rfl
      have z12 : (m7.1 0 38).toInt = (M.1 0 38).toInt := by rw [e8]; rfl
      have z13 : (m7.1 0 20).toInt = (M.1 0 20).toInt := by rw [e8]; rfl
      have z14 : (m7.1 0 12).toInt = (M.1 0 12).toInt := by rw [e8]; rfl
      refine wpR_ix (vI k5) ?_
      refine wpR_ix (vI k6) ?_
      have z18 := i9.rr
      have z19 := i9.f3 (v := v2) (by omega) (by omega)
      refine wpR_ltv (fun m15 e16 => ?_)
      have i17 : IY G K m15 := by rw [e16]; exact i9.s21 _ (by omega)
      have z20 : (m15.1 0 28).toInt = (m7.1 0 28).toInt := by rw [e16]; rfl
      have z21 : (m15.1 0 6).toInt = (m7.1 0 6).toInt := by rw [e16]; rfl
      have z22 : (m15.1 0 38).toInt = (m7.1 0 38).toInt := by rw [e16]; rfl
      have z23 : (m15.1 0 20).toInt = (m7.1 0 20).toInt := by rw [e16]; rfl
      have z24 : (m15.1 0 12).toInt = (m7.1 0 12).toInt := by rw [e16]; rfl
      refine wpR_ix (vI k5) ?_
      refine wpR_ix (vI k6) ?_
      refine wpR_ltv (fun m25 e26 => ?_)
      have i27 : IY G K m25 := by rw [e26]; exact i17.s22 _
      have z28 : (m25.1 0 28).toInt = (m15.1 0 28).toInt := by rw [e26]; rfl
      have z29 : (m25.1 0 6).toInt = (m15.1 0 6).toInt := by rw [e26]; rfl
      have z30 : (m25.1 0 38).toInt = (m15.1 0 38).toInt := by rw [e26]; rfl
      have z31 : (m25.1 0 20).toInt = (m15.1 0 20).toInt := by rw [e26]; rfl
      have z32 : (m25.1 0 12).toInt = (m15.1 0 12).toInt := by rw [e26]; rfl
      have z33 : (v2 + 1 : Int32).toInt = v2.toInt + 1 := iadd rfl (rfl : (1 : Int32).toInt = 1) (by omega) (by omega)
      have z34 := i27.regs
      have z35 := i27.rr
      exact ih m25 (v2 + 1) i27 (by omega) (by omega) (by omega)
theorem w_ChipMapModel_fault {G : Gy} {K : Int} {M : Mm} (hI : IY G K M)  (a1 : Int32) : wpR (q_ChipMapModel_fault M a1) (fun M' r => IY G K M' ∧ True) := by
  unfold q_ChipMapModel_fault
  refine wpR_ltv (fun m1 e2 => ?_)
  have i3 : IY G K m1 := by rw [e2]; exact hI.s0_0 _
  refine wpR_eq (x := a1.toInt) (y := 0) rfl (rfl : (0 : Int32).toInt = 0) (fun c4 => ?_) (fun c4 => ?_)
  · skip
    exact wpR_some ⟨i3, trivial⟩
  · skip
    refine wpR_eq (x := a1.toInt) (y := 1) rfl (rfl : (1 : Int32).toInt = 1) (fun c5 => ?_) (fun c5 => ?_)
    · skip
      exact wpR_some ⟨i3, trivial⟩
    · skip
      exact wpR_some ⟨i3, trivial⟩
theorem w_ChipMapModel_copyDevice_82 {G : Gy} {K : Int}  : ∀ (n' : Nat) (M : Mm) (v1 : Int32) (v2 : Int32) (v3 : Int32), IY G K M → (0 ≤ v3.toInt ∧ v3.toInt ≤ 12) → (0 ≤ v1.toInt ∧ v1.toInt ≤ 2) → (0 ≤ v2.toInt ∧ v2.toInt ≤ 2) → 12 - v3.toInt < (n' : Int) → wpR (q_ChipMapModel_copyDevice_82 n' M v1 v2 v3) (fun M' r => IY G K M' ∧ True) := by
  intro n'
  induction n' with
  | zero =>
    intro M v1 v2 v3 hI p0 p1 p2 hn
    exfalso; omega
  | succ n' ih =>
    intro M v1 v2 v3 hI p0 p1 p2 hn
    rw [q_ChipMapModel_copyDevice_82]
    refine wpR_le (x := 12) (y := v3.toInt) (rfl : (12 : Int32).toInt = 12) rfl (fun c1 => ?_) (fun c1 => ?_)
    · skip
      exact wpR_some ⟨hI, trivial⟩
    · skip
      have z2 : (12 * v1 : Int32).toInt = 12 * v1.toInt := imul (rfl : (12 : Int32).toInt = 12) rfl (by omega) (by omega)
      have z3 : ((12 * v1) + v3 : Int32).toInt = ((12 * v1 : Int32).toInt) + v3.toInt := iadd rfl rfl (by omega) (by omega)
      have k4 : 0 ≤ (((12 * v1) + v3) : Int32).toInt ∧ (((12 * v1) + v3) : Int32).toInt < ((36 : Nat) : Int) := by omega
      refine wpR_ix (vI k4) ?_
      have z5 : (12 * v2 : Int32).toInt = 12 * v2.toInt := imul (rfl : (12 : Int32).toInt = 12) rfl (by omega) (by omega)
      have z6 : ((12 * v2) + v3 : Int32).toInt = ((12 * v2 : Int32).toInt) + v3.toInt := iadd rfl rfl (by omega) (by omega)
      have k7 : 0 ≤ (((12 * v2) + v3) : Int32).toInt ∧ (((12 * v2) + v3) : Int32).toInt < ((36 : Nat) : Int) := by omega
      refine wpR_ix (vI k7) ?_
      refine wpR_ltv (fun m8 e9 => ?_)
      have i10 : IY G K m8 := by rw [e9]; exact hI.s36 _
      have z11 : (v3 + 1 : Int32).toInt = v3.toInt + 1 := iadd rfl (rfl : (1 : Int32).toInt = 1) (by omega) (by omega)
      exact ih m8 v1 v2 (v3 + 1) i10 (by omega) (by omega) (by omega) (by omega)
theorem w_ChipMapModel_copyDevice_2 {G : Gy} {K : Int}  : ∀ (n' : Nat) (M : Mm) (v1 : Int32) (v2 : Int32) (v3 : Int32), IY G K M → (0 ≤ v3.toInt ∧ v3.toInt ≤ 26) → (0 ≤ v1.toInt ∧ v1.toInt ≤ 2) → (0 ≤ v2.toInt ∧ v2.toInt ≤ 2) → 26 - v3.toInt < (n' : Int) → wpR (q_ChipMapModel_copyDevice_2 n' M v1 v2 v3) (fun M' r => IY G K M' ∧ True) := by
  intro n'
  induction n' with
  | zero =>
    intro M v1 v2 v3 hI p0 p1 p2 hn
    exfalso; omega
  | succ n' ih =>
    intro M v1 v2 v3 hI p0 p1 p2 hn
    rw [q_ChipMapModel_copyDevice_2]
    refine wpR_le (x := 26) (y := v3.toInt) (rfl : (26 : Int32).toInt = 26) rfl (fun c1 => ?_) (fun c1 => ?_)
    · skip
      have z2 : (0 : Int32).toInt = 0 := rfl
      exact w_ChipMapModel_copyDevice_82 4000 M v1 v2 0 hI (by omega) (by omega) (by omega) (by omega)
    · skip
      have z3 : (26 * v1 : Int32).toInt = 26 * v1.toInt := imul (rfl : (26 : Int32).toInt = 26) rfl (by omega) (by omega)
      have z4 : ((26 * v1) + v3 : Int32).toInt = ((26 * v1 : Int32).toInt) + v3.toInt := iadd rfl rfl (by omega) (by omega)
      have k5 : 0 ≤ (((26 * v1) + v3) : Int32).toInt ∧ (((26 * v1) + v3) : Int32).toInt < ((78 : Nat) : Int) := by omega
      refine wpR_ix (vI k5) ?_
      have z6 : (26 * v2 : Int32).toInt = 26 * v2.toInt := imul (rfl : (26 : Int32).toInt = 26) rfl (by omega) (by omega)
      have z7 : ((26 * v2) + v3 : Int32).toInt = ((26 * v2 : Int32).toInt) + v3.toInt := iadd rfl rfl (by omega) (by omega)
      have k8 : 0 ≤ (((26 * v2) + v3) : Int32).toInt ∧ (((26 * v2) + v3) : Int32).toInt < ((78 : Nat) : Int) := by omega
      refine wpR_ix (vI k8) ?_
      refine wpR_ltv (fun m9 e10 => ?_)
      have i11 : IY G K m9 := by rw [e10]; exact hI.s33 _
      refine wpR_ix (vI k5) ?_
      refine wpR_ix (vI k8) ?_
      refine wpR_ltv (fun m12 e13 => ?_)
      have i14 : IY G K m12 := by rw [e13]; exact i11.s34 _
      refine wpR_ix (vI k5) ?_
      refine wpR_ix (vI k8) ?_
      refine wpR_ltv (fun m15 e16 => ?_)
      have i17 : IY G K m15 := by rw [e16]; exact i14.s35 _
      have z18 : (v3 + 1 : Int32).toInt = v3.toInt + 1 := iadd rfl (rfl : (1 : Int32).toInt = 1) (by omega) (by omega)
      exact ih m15 v1 v2 (v3 + 1) i17 (by omega) (by omega) (by omega) (by omega)
theorem w_ChipMapModel_copyDevice {G : Gy} {K : Int} {M : Mm} (hI : IY G K M)  (a1 : Int32) (a2 : Int32) (p0 : 0 ≤ a1.toInt ∧ a1.toInt ≤ 2) (p1 : 0 ≤ a2.toInt ∧ a2.toInt ≤ 2) : wpR (q_ChipMapModel_copyDevice M a1 a2) (fun M' r => IY G K M' ∧ True) := by
  unfold q_ChipMapModel_copyDevice
  have z1 : (0 : Int32).toInt = 0 := rfl
  exact w_ChipMapModel_copyDevice_2 4000 M a1 a2 0 hI (by omega) (by omega) (by omega) (by omega)
theorem w_ChipMapModel_isIn {G : Gy} {K : Int} {M : Mm} (hI : IY G K M)  (a1 : Int32) (a2 : Int32) (p0 : 0 ≤ a1.toInt ∧ a1.toInt ≤ 25) : wpR (q_ChipMapModel_isIn M a1 a2) (fun M' r => M = M' ∧ (0 ≤ r.toInt ∧ r.toInt ≤ 1)) := by
  unfold q_ChipMapModel_isIn
  have k1 : 0 ≤ (a1 : Int32).toInt ∧ (a1 : Int32).toInt < ((26 : Nat) : Int) := by omega
  refine wpR_ix (vI k1) ?_
  refine wpR_eq (x := (M.1 23 (a1 : Int32).toNatClampNeg : Int32).toInt) (y := 0) rfl (rfl : (0 : Int32).toInt = 0) (fun c2 => ?_) (fun c2 => ?_)
  · skip
    have z3 : (0 : Int32).toInt = 0 := rfl
    exact wpR_some ⟨rfl, (by omega)⟩
  · skip
    refine wpR_ix (vI k1) ?_
    have z4 := hI.inn ((a1 : Int32).toNatClampNeg)
    refine wpR_eq (x := (M.1 25 (a1 : Int32).toNatClampNeg : Int32).toInt) (y := a2.toInt) rfl rfl (fun c5 => ?_) (fun c5 => ?_)
    · skip
      have z6 : (1 : Int32).toInt = 1 := rfl
      exact wpR_some ⟨rfl, (by omega)⟩
    · skip
      have z7 : (0 : Int32).toInt = 0 := rfl
      exact wpR_some ⟨rfl, (by omega)⟩
theorem w_ChipMapModel_part {G : Gy} {K : Int} {M : Mm} (hI : IY G K M)  (a1 : Int32) (a2 : Int32) (p0 : 0 ≤ a1.toInt ∧ a1.toInt ≤ 25) : wpR (q_ChipMapModel_part M a1 a2) (fun M' r => M = M' ∧ True) := by
  unfold q_ChipMapModel_part
  have k1 : 0 ≤ (a1 : Int32).toInt ∧ (a1 : Int32).toInt < ((26 : Nat) : Int) := by omega
  refine wpR_ix (vI k1) ?_
  refine wpR_ix (vI k1) ?_
  exact wpR_some ⟨rfl, trivial⟩
theorem w_ChipMapModel_isStored {G : Gy} {K : Int} {M : Mm} (hI : IY G K M)  (a1 : Int32) (p0 : 0 ≤ a1.toInt ∧ a1.toInt ≤ 25) : wpR (q_ChipMapModel_isStored M a1) (fun M' r => M = M' ∧ (0 ≤ r.toInt ∧ r.toInt ≤ 1)) := by
  unfold q_ChipMapModel_isStored
  have k1 : 0 ≤ (a1 : Int32).toInt ∧ (a1 : Int32).toInt < ((26 : Nat) : Int) := by omega
  refine wpR_ix (vI k1) ?_
  refine wpR_eq (x := (M.1 24 (a1 : Int32).toNatClampNeg : Int32).toInt) (y := 119) rfl (rfl : (119 : Int32).toInt = 119) (fun c2 => ?_) (fun c2 => ?_)
  · skip
    have z3 : (1 : Int32).toInt = 1 := rfl
    exact wpR_some ⟨rfl, (by omega)⟩
  · skip
    refine wpR_ix (vI k1) ?_
    refine wpR_eq (x := (M.1 24 (a1 : Int32).toNatClampNeg : Int32).toInt) (y := 111) rfl (rfl : (111 : Int32).toInt = 111) (fun c4 => ?_) (fun c4 => ?_)
    · skip
      have z5 : (1 : Int32).toInt = 1 := rfl
      exact wpR_some ⟨rfl, (by omega)⟩
    · skip
      have z6 : (0 : Int32).toInt = 0 := rfl
      exact wpR_some ⟨rfl, (by omega)⟩
theorem w_ChipMapModel_isWritten {G : Gy} {K : Int} {M : Mm} (hI : IY G K M)  (a1 : Int32) (a2 : Int32) (a3 : Int32) (p0 : 0 ≤ a1.toInt ∧ a1.toInt ≤ 25) : wpR (q_ChipMapModel_isWritten M a1 a2 a3) (fun M' r => M = M' ∧ (0 ≤ r.toInt ∧ r.toInt ≤ 1)) := by
  unfold q_ChipMapModel_isWritten
  refine wpR_ro (w_ChipMapModel_isIn hI a1 a2 (by omega)) (fun u1 h2 => ?_)
  refine wpR_eq (x := u1.toInt) (y := 0) rfl (rfl : (0 : Int32).toInt = 0) (fun c4 => ?_) (fun c4 => ?_)
  · skip
    have z5 : (0 : Int32).toInt = 0 := rfl
    exact wpR_some ⟨rfl, (by omega)⟩
  · skip
    have k6 : 0 ≤ (a1 : Int32).toInt ∧ (a1 : Int32).toInt < ((26 : Nat) : Int) := by omega
    refine wpR_ix (vI k6) ?_
    refine wpR_eq (x := (M.1 24 (a1 : Int32).toNatClampNeg : Int32).toInt) (y := 114) rfl (rfl : (114 : Int32).toInt = 114) (fun c7 => ?_) (fun c7 => ?_)
    · skip
      have z8 : (0 : Int32).toInt = 0 := rfl
      exact wpR_some ⟨rfl, (by omega)⟩
    · skip
      refine wpR_ix (vI k6) ?_
      refine wpR_eq (x := (M.1 24 (a1 : Int32).toNatClampNeg : Int32).toInt) (y := 99) rfl (rfl : (99 : Int32).toInt = 99) (fun c9 => ?_) (fun c9 => ?_)
      · skip
        have z10 : (0 : Int32).toInt = 0 := rfl
        exact wpR_some ⟨rfl, (by omega)⟩
      · skip
        refine wpR_ro (w_ChipMapModel_part hI a1 a3 (by omega)) (fun u11 _ => ?_)
        refine wpR_ro (w_ChipMapModel_isStored hI a1 (by omega)) (fun u13 h14 => ?_)
        refine wpR_eq (x := u13.toInt) (y := 0) rfl (rfl : (0 : Int32).toInt = 0) (fun c16 => ?_) (fun c16 => ?_)
        · skip
          refine wpR_eq (x := u11.toInt) (y := 0) rfl (rfl : (0 : Int32).toInt = 0) (fun c17 => ?_) (fun c17 => ?_)
          · skip
            have z18 : (0 : Int32).toInt = 0 := rfl
            exact wpR_some ⟨rfl, (by omega)⟩
          · skip
            have z19 : (1 : Int32).toInt = 1 := rfl
            exact wpR_some ⟨rfl, (by omega)⟩
        · skip
          have k20 : 0 ≤ (a1 : Int32).toInt ∧ (a1 : Int32).toInt < ((78 : Nat) : Int) := by omega
          refine wpR_ix (vI k20) ?_
          refine wpR_eq (x := u11.toInt) (y := (M.1 33 (a1 : Int32).toNatClampNeg : Int32).toInt) rfl rfl (fun c21 => ?_) (fun c21 => ?_)
          · skip
            have z22 : (0 : Int32).toInt = 0 := rfl
            exact wpR_some ⟨rfl, (by omega)⟩
          · skip
            have z23 : (1 : Int32).toInt = 1 := rfl
            exact wpR_some ⟨rfl, (by omega)⟩
theorem w_ChipMapModel_breaks {G : Gy} {K : Int} {M : Mm} (hI : IY G K M)  (a1 : Int32) (a2 : Int32) (a3 : Int32) (p0 : 0 ≤ a1.toInt ∧ a1.toInt ≤ 11) : wpR (q_ChipMapModel_breaks M a1 a2 a3) (fun M' r => M = M' ∧ (0 ≤ r.toInt ∧ r.toInt ≤ 1)) := by
  unfold q_ChipMapModel_breaks
  have k1 : 0 ≤ (a1 : Int32).toInt ∧ (a1 : Int32).toInt < ((12 : Nat) : Int) := by omega
  refine wpR_ix (vI k1) ?_
  have z2 := hI.ra ((a1 : Int32).toNatClampNeg)
  refine wpR_ro (w_ChipMapModel_isWritten hI (M.1 30 (a1 : Int32).toNatClampNeg) a2 a3 (by omega)) (fun u3 h4 => ?_)
  refine wpR_ix (vI k1) ?_
  have z6 := hI.rb ((a1 : Int32).toNatClampNeg)
  refine wpR_ro (w_ChipMapModel_isWritten hI (M.1 31 (a1 : Int32).toNatClampNeg) a2 a3 (by omega)) (fun u7 h8 => ?_)
  refine wpR_ix (vI k1) ?_
  refine wpR_eq (x := (M.1 29 (a1 : Int32).toNatClampNeg : Int32).toInt) (y := 60) rfl (rfl : (60 : Int32).toInt = 60) (fun c10 => ?_) (fun c10 => ?_)
  · skip
    refine wpR_eq (x := u7.toInt) (y := 0) rfl (rfl : (0 : Int32).toInt = 0) (fun c11 => ?_) (fun c11 => ?_)
    · skip
      have z12 : (0 : Int32).toInt = 0 := rfl
      exact wpR_some ⟨rfl, (by omega)⟩
    · skip
      have k13 : 0 ≤ (a1 : Int32).toInt ∧ (a1 : Int32).toInt < ((36 : Nat) : Int) := by omega
      refine wpR_ix (vI k13) ?_
      refine wpR_eq (x := (M.1 36 (a1 : Int32).toNatClampNeg : Int32).toInt) (y := 0) rfl (rfl : (0 : Int32).toInt = 0) (fun c14 => ?_) (fun c14 => ?_)
      · skip
        have z15 : (1 : Int32).toInt = 1 := rfl
        exact wpR_some ⟨rfl, (by omega)⟩
      · skip
        have z16 : (0 : Int32).toInt = 0 := rfl
        exact wpR_some ⟨rfl, (by omega)⟩
  · skip
    refine wpR_ix (vI k1) ?_
    refine wpR_eq (x := (M.1 29 (a1 : Int32).toNatClampNeg : Int32).toInt) (y := 38) rfl (rfl : (38 : Int32).toInt = 38) (fun c17 => ?_) (fun c17 => ?_)
    · skip
      refine wpR_eq (x := u3.toInt) (y := 0) rfl (rfl : (0 : Int32).toInt = 0) (fun c18 => ?_) (fun c18 => ?_)
      · skip
        have z19 : (0 : Int32).toInt = 0 := rfl
        exact wpR_some ⟨rfl, (by omega)⟩
      · skip
        refine wpR_ix (vI k1) ?_
        have k20 : 0 ≤ ((M.1 31 (a1 : Int32).toNatClampNeg) : Int32).toInt ∧ ((M.1 31 (a1 : Int32).toNatClampNeg) : Int32).toInt < ((78 : Nat) : Int) := by omega
        refine wpR_ix (vI k20) ?_
        refine wpR_ix (vI k1) ?_
        refine wpR_eq (x := (M.1 33 ((M.1 31 (a1 : Int32).toNatClampNeg) : Int32).toNatClampNeg : Int32).toInt) (y := (M.1 32 (a1 : Int32).toNatClampNeg : Int32).toInt) rfl rfl (fun c21 => ?_) (fun c21 => ?_)
        · skip
          have z22 : (0 : Int32).toInt = 0 := rfl
          exact wpR_some ⟨rfl, (by omega)⟩
        · skip
          have z23 : (1 : Int32).toInt = 1 := rfl
          exact wpR_some ⟨rfl, (by omega)⟩
    · skip
      refine wpR_eq (x := u3.toInt) (y := 0) rfl (rfl : (0 : Int32).toInt = 0) (fun c24 => ?_) (fun c24 => ?_)
      · skip
        have z25 : (0 : Int32).toInt = 0 := rfl
        exact wpR_some ⟨rfl, (by omega)⟩
      · skip
        have k26 : 0 ≤ (a1 : Int32).toInt ∧ (a1 : Int32).toInt < ((36 : Nat) : Int) := by omega
        refine wpR_ix (vI k26) ?_
        refine wpR_eq (x := (M.1 36 (a1 : Int32).toNatClampNeg : Int32).toInt) (y := 0) rfl (rfl : (0 : Int32).toInt = 0) (fun c27 => ?_) (fun c27 => ?_)
        · skip
          have z28 : (0 : Int32).toInt = 0 := rfl
          exact wpR_some ⟨rfl, (by omega)⟩
        · skip
          have z29 : (1 : Int32).toInt = 1 := rfl
          exact wpR_some ⟨rfl, (by omega)⟩
theorem w_ChipMapModel_firstBroken_2 {G : Gy} {K : Int} {M : Mm} (hI : IY G K M) : ∀ (n' : Nat) (v1 : Int32) (v2 : Int32) (v3 : Int32), (0 ≤ v3.toInt ∧ v3.toInt ≤ 12) → 12 - v3.toInt < (n' : Int) → wpR (q_ChipMapModel_firstBroken_2 n' M v1 v2 v3) (fun M' r => M = M' ∧ (-1 ≤ r.toInt ∧ r.toInt ≤ 11)) := by
  intro n'
  induction n' with
  | zero =>
    intro v1 v2 v3 p0 hn
    exfalso; omega
  | succ n' ih =>
    intro v1 v2 v3 p0 hn
    rw [q_ChipMapModel_firstBroken_2]
    have z1 := hI.rules
    refine wpR_le (x := (M.1 0 38 : Int32).toInt) (y := v3.toInt) rfl rfl (fun c2 => ?_) (fun c2 => ?_)
    · skip
      have z3 : (-1 : Int32).toInt = -1 := by decide
      exact wpR_some ⟨rfl, (by omega)⟩
    · skip
      refine wpR_ro (w_ChipMapModel_breaks hI v3 v1 v2 (by omega)) (fun u4 h5 => ?_)
      refine wpR_eq (x := u4.toInt) (y := 0) rfl (rfl : (0 : Int32).toInt = 0) (fun c7 => ?_) (fun c7 => ?_)
      · skip
        have z8 : (v3 + 1 : Int32).toInt = v3.toInt + 1 := iadd rfl (rfl : (1 : Int32).toInt = 1) (by omega) (by omega)
        exact ih v1 v2 (v3 + 1) (by omega) (by omega)
      · skip
        exact wpR_some ⟨rfl, (by omega)⟩
theorem w_ChipMapModel_firstBroken {G : Gy} {K : Int} {M : Mm} (hI : IY G K M)  (a1 : Int32) (a2 : Int32) : wpR (q_ChipMapModel_firstBroken M a1 a2) (fun M' r => M = M' ∧ (-1 ≤ r.toInt ∧ r.toInt ≤ 11)) := by
  unfold q_ChipMapModel_firstBroken
  have z1 : (0 : Int32).toInt = 0 := rfl
  exact w_ChipMapModel_firstBroken_2 hI 4000 a1 a2 0 (by omega) (by omega)
theorem w_ChipMapModel_trace {G : Gy} {K : Int} {M : Mm} (hI : IY G K M) (hK : K + 1 ≤ 2000000000)  (a1 : Int32) (a2 : Int32) (a3 : Int32) (p0 : 0 ≤ a2.toInt ∧ a2.toInt ≤ 15) : wpR (q_ChipMapModel_trace M a1 a2 a3) (fun M' r => IY G (K + 1) M' ∧ True) := by
  unfold q_ChipMapModel_trace
  refine wpR_eq (x := (M.1 0 58 : Int32).toInt) (y := 0) rfl (rfl : (0 : Int32).toInt = 0) (fun c1 => ?_) (fun c1 => ?_)
  · skip
    refine wpR_lt ?_
    refine wpR_eq (x := a1.toInt) (y := 0) rfl (rfl : (0 : Int32).toInt = 0) (fun c2 => ?_) (fun c2 => ?_)
    · skip
      unfold q_ChipMapModel_trace_32
      have z3 := hI.f47
      have z4 := irem (a := (M.1 0 47)) rfl (by omega) (by omega)
      have k5 : 0 ≤ (((M.1 0 47) - (M.1 0 47) / 64 * 64) : Int32).toInt ∧ (((M.1 0 47) - (M.1 0 47) / 64 * 64) : Int32).toInt < ((64 : Nat) : Int) := by omega
      refine wpR_ix (vI k5) ?_
      refine wpR_ltv (fun m6 e7 => ?_)
      have i8 : IY G K m6 := by rw [e7]; exact hI.s37 _
      have z9 : (m6.1 0 47).toInt = (M.1 0 47).toInt := by rw [e7]; rfl
      have k10 : 0 ≤ (a2 : Int32).toInt ∧ (a2 : Int32).toInt < ((16 : Nat) : Int) := by omega
      refine wpR_ix (vI k10) ?_
      refine wpR_ix (vI k5) ?_
      refine wpR_ltv (fun m11 e12 => ?_)
      have i13 : IY G K m11 := by rw [e12]; exact i8.s38 _
      have z14 : (m11.1 0 47).toInt = (m6.1 0 47).toInt := by rw [e12]; rfl
      refine wpR_ix (vI k5) ?_
      refine wpR_ltv (fun m15 e16 => ?_)
      have i17 : IY G K m15 := by rw [e16]; exact i13.s39 _
      have z18 : (m15.1 0 47).toInt = (m11.1 0 47).toInt := by rw [e16]; rfl
      have z22 := i17.f47
      have z23 : ((m15.1 0 47) + 1 : Int32).toInt = (m15.1 0 47 : Int32).toInt + 1 := iadd rfl (rfl : (1 : Int32).toInt = 1) (by omega) (by omega)
      have z24 := i17.f47
      refine wpR_ltv (fun m19 e20 => ?_)
      have i21 : IY G (K + 1) m19 := by rw [e20]; exact i17.s0_47 (by omega)
      have z25 : (m19.1 0 47).toInt = (((m15.1 0 47) + 1) : Int32).toInt := by rw [e20]; rfl
      exact wpR_some ⟨i21, trivial⟩
    · skip
      unfold q_ChipMapModel_trace_32
      have z26 := hI.f47
      have z27 := irem (a := (M.1 0 47)) rfl (by omega) (by omega)
      have k28 : 0 ≤ (((M.1 0 47) - (M.1 0 47) / 64 * 64) : Int32).toInt ∧ (((M.1 0 47) - (M.1 0 47) / 64 * 64) : Int32).toInt < ((64 : Nat) : Int) := by omega
      refine wpR_ix (vI k28) ?_
      refine wpR_ltv (fun m29 e30 => ?_)
      have i31 : IY G K m29 := by rw [e30]; exact hI.s37 _
      have z32 : (m29.1 0 47).toInt = (M.1 0 47).toInt := by rw [e30]; rfl
      have k33 : 0 ≤ (a2 : Int32).toInt ∧ (a2 : Int32).toInt < ((16 : Nat) : Int) := by omega
      refine wpR_ix (vI k33) ?_
      refine wpR_ix (vI k28) ?_
      refine wpR_ltv (fun m34 e35 => ?_)
      have i36 : IY G K m34 := by rw [e35]; exact i31.s38 _
      have z37 : (m34.1 0 47).toInt = (m29.1 0 47).toInt := by rw [e35]; rfl
      refine wpR_ix (vI k28) ?_
      refine wpR_ltv (fun m38 e39 => ?_)
      have i40 : IY G K m38 := by rw [e39]; exact i36.s39 _
      have z41 : (m38.1 0 47).toInt = (m34.1 0 47).toInt := by rw [e39]; rfl
      have z45 := i40.f47
      have z46 : ((m38.1 0 47) + 1 : Int32).toInt = (m38.1 0 47 : Int32).toInt + 1 := iadd rfl (rfl : (1 : Int32).toInt = 1) (by omega) (by omega)
      have z47 := i40.f47
      refine wpR_ltv (fun m42 e43 => ?_)
      have i44 : IY G (K + 1) m42 := by rw [e43]; exact i40.s0_47 (by omega)
      have z48 : (m42.1 0 47).toInt = (((m38.1 0 47) + 1) : Int32).toInt := by rw [e43]; rfl
      exact wpR_some ⟨i44, trivial⟩
  · skip
    exact wpR_some ⟨(hI.mono (by omega)), trivial⟩
theorem w_ChipMapModel_write_136 {G : Gy} {K : Int} (hK : K + 1 ≤ 2000000000)  : ∀ (n' : Nat) (M : Mm) (v1 : Int32) (v2 : Int32) (v3 : Int32), IY G K M → (0 ≤ v3.toInt ∧ v3.toInt ≤ 26) → (0 ≤ v1.toInt ∧ v1.toInt ≤ 15) → 26 - v3.toInt < (n' : Int) → wpR (q_ChipMapModel_write_136 n' M v1 v2 v3) (fun M' r => IY G (K + 1) M' ∧ True) := by
  intro n'
  induction n' with
  | zero =>
    intro M v1 v2 v3 hI p0 p1 hn
    exfalso; omega
  | succ n' ih =>
    intro M v1 v2 v3 hI p0 p1 hn
    rw [q_ChipMapModel_write_136]
    refine wpR_le (x := 26) (y := v3.toInt) (rfl : (26 : Int32).toInt = 26) rfl (fun c1 => ?_) (fun c1 => ?_)
    · skip
      refine wpR_cl (w_ChipMapModel_trace hI (by omega) 1 v1 v2 (by omega)) (fun m3 u2 h4 => ?_)
      have i5 := h4.1
      exact wpR_some ⟨i5, trivial⟩
    · skip
      refine wpR_ro (w_ChipMapModel_isIn hI v3 v1 (by omega)) (fun u6 h7 => ?_)
      refine wpR_eq (x := u6.toInt) (y := 0) rfl (rfl : (0 : Int32).toInt = 0) (fun c9 => ?_) (fun c9 => ?_)
      · skip
        unfold q_ChipMapModel_write_255
        have z10 : (v3 + 1 : Int32).toInt = v3.toInt + 1 := iadd rfl (rfl : (1 : Int32).toInt = 1) (by omega) (by omega)
        exact ih M v1 v2 (v3 + 1) hI (by omega) (by omega) (by omega)
      · skip
        refine wpR_ro (w_ChipMapModel_part hI v3 v2 (by omega)) (fun u11 _ => ?_)
        refine wpR_ro (w_ChipMapModel_isStored hI v3 (by omega)) (fun u13 h14 => ?_)
        refine wpR_eq (x := u13.toInt) (y := 0) rfl (rfl : (0 : Int32).toInt = 0) (fun c16 => ?_) (fun c16 => ?_)
        · skip
          unfold q_ChipMapModel_write_178
          have k17 : 0 ≤ (v3 : Int32).toInt ∧ (v3 : Int32).toInt < ((26 : Nat) : Int) := by omega
          refine wpR_ix (vI k17) ?_
          refine wpR_eq (x := (M.1 24 (v3 : Int32).toNatClampNeg : Int32).toInt) (y := 116) rfl (rfl : (116 : Int32).toInt = 116) (fun c18 => ?_) (fun c18 => ?_)
          · skip
            have k19 : 0 ≤ (v3 : Int32).toInt ∧ (v3 : Int32).toInt < ((78 : Nat) : Int) := by omega
            refine wpR_ix (vI k19) ?_
            refine wpR_ix (vI k19) ?_
            refine wpR_ltv (fun m20 e21 => ?_)
            have i22 : IY G K m20 := by rw [e21]; exact hI.s33 _
            unfold q_ChipMapModel_write_202
            refine wpR_ix (vI k17) ?_
            refine wpR_eq (x := (m20.1 24 (v3 : Int32).toNatClampNeg : Int32).toInt) (y := 115) rfl (rfl : (115 : Int32).toInt = 115) (fun c23 => ?_) (fun c23 => ?_)
            · skip
              refine wpR_ix (vI k19) ?_
              refine wpR_ix (vI k19) ?_
              refine wpR_ltv (fun m24 e25 => ?_)
              have i26 : IY G K m24 := by rw [e25]; exact i22.s33 _
              unfold q_ChipMapModel_write_224
              refine wpR_ix (vI k17) ?_
              refine wpR_eq (x := (m24.1 24 (v3 : Int32).toNatClampNeg : Int32).toInt) (y := 112) rfl (rfl : (112 : Int32).toInt = 112) (fun c27 => ?_) (fun c27 => ?_)
              · skip
                refine wpR_eq (x := u11.toInt) (y := 0) rfl (rfl : (0 : Int32).toInt = 0) (fun c28 => ?_) (fun c28 => ?_)
                · skip
                  unfold q_ChipMapModel_write_255
                  have z29 : (v3 + 1 : Int32).toInt = v3.toInt + 1 := iadd rfl (rfl : (1 : Int32).toInt = 1) (by omega) (by omega)
                  exact ih m24 v1 v2 (v3 + 1) i26 (by omega) (by omega) (by omega)
                · skip
                  refine wpR_ix (vI k19) ?_
                  refine wpR_ltv (fun m30 e31 => ?_)
                  have i32 : IY G K m30 := by rw [e31]; exact i26.s33 _
                  refine wpR_ix (vI k19) ?_
                  refine wpR_ltv (fun m33 e34 => ?_)
                  have i35 : IY G K m33 := by rw [e34]; exact i32.s34 _
                  unfold q_ChipMapModel_write_255
                  have z36 : (v3 + 1 : Int32).toInt = v3.toInt + 1 := iadd rfl (rfl : (1 : Int32).toInt = 1) (by omega) (by omega)
                  exact ih m33 v1 v2 (v3 + 1) i35 (by omega) (by omega) (by omega)
              · skip
                unfold q_ChipMapModel_write_255
                have z37 : (v3 + 1 : Int32).toInt = v3.toInt + 1 := iadd rfl (rfl : (1 : Int32).toInt = 1) (by omega) (by omega)
                exact ih m24 v1 v2 (v3 + 1) i26 (by omega) (by omega) (by omega)
            · skip
              unfold q_ChipMapModel_write_224
              refine wpR_ix (vI k17) ?_
              refine wpR_eq (x := (m20.1 24 (v3 : Int32).toNatClampNeg : Int32).toInt) (y := 112) rfl (rfl : (112 : Int32).toInt = 112) (fun c38 => ?_) (fun c38 => ?_)
              · skip
                refine wpR_eq (x := u11.toInt) (y := 0) rfl (rfl : (0 : Int32).toInt = 0) (fun c39 => ?_) (fun c39 => ?_)
                · skip
                  unfold q_ChipMapModel_write_255
                  have z40 : (v3 + 1 : Int32).toInt = v3.toInt + 1 := iadd rfl (rfl : (1 : Int32).toInt = 1) (by omega) (by omega)
                  exact ih m20 v1 v2 (v3 + 1) i22 (by omega) (by omega) (by omega)
                · skip
                  refine wpR_ix (vI k19) ?_
                  refine wpR_ltv (fun m41 e42 => ?_)
                  have i43 : IY G K m41 := by rw [e42]; exact i22.s33 _
                  refine wpR_ix (vI k19) ?_
                  refine wpR_ltv (fun m44 e45 => ?_)
                  have i46 : IY G K m44 := by rw [e45]; exact i43.s34 _
                  unfold q_ChipMapModel_write_255
                  have z47 : (v3 + 1 : Int32).toInt = v3.toInt + 1 := iadd rfl (rfl : (1 : Int32).toInt = 1) (by omega) (by omega)
                  exact ih m44 v1 v2 (v3 + 1) i46 (by omega) (by omega) (by omega)
              · skip
                unfold q_ChipMapModel_write_255
                have z48 : (v3 + 1 : Int32).toInt = v3.toInt + 1 := iadd rfl (rfl : (1 : Int32).toInt = 1) (by omega) (by omega)
                exact ih m20 v1 v2 (v3 + 1) i22 (by omega) (by omega) (by omega)
          · skip
            unfold q_ChipMapModel_write_202
            refine wpR_ix (vI k17) ?_
            refine wpR_eq (x := (M.1 24 (v3 : Int32).toNatClampNeg : Int32).toInt) (y := 115) rfl (rfl : (115 : Int32).toInt = 115) (fun c49 => ?_) (fun c49 => ?_)
            · skip
              have k50 : 0 ≤ (v3 : Int32).toInt ∧ (v3 : Int32).toInt < ((78 : Nat) : Int) := by omega
              refine wpR_ix (vI k50) ?_
              refine wpR_ix (vI k50) ?_
              refine wpR_ltv (fun m51 e52 => ?_)
              have i53 : IY G K m51 := by rw [e52]; exact hI.s33 _
              unfold q_ChipMapModel_write_224
              refine wpR_ix (vI k17) ?_
              refine wpR_eq (x := (m51.1 24 (v3 : Int32).toNatClampNeg : Int32).toInt) (y := 112) rfl (rfl : (112 : Int32).toInt = 112) (fun c54 => ?_) (fun c54 => ?_)
              · skip
                refine wpR_eq (x := u11.toInt) (y := 0) rfl (rfl : (0 : Int32).toInt = 0) (fun c55 => ?_) (fun c55 => ?_)
                · skip
                  unfold q_ChipMapModel_write_255
                  have z56 : (v3 + 1 : Int32).toInt = v3.toInt + 1 := iadd rfl (rfl : (1 : Int32).toInt = 1) (by omega) (by omega)
                  exact ih m51 v1 v2 (v3 + 1) i53 (by omega) (by omega) (by omega)
                · skip
                  refine wpR_ix (vI k50) ?_
                  refine wpR_ltv (fun m57 e58 => ?_)
                  have i59 : IY G K m57 := by rw [e58]; exact i53.s33 _
                  refine wpR_ix (vI k50) ?_
                  refine wpR_ltv (fun m60 e61 => ?_)
                  have i62 : IY G K m60 := by rw [e61]; exact i59.s34 _
                  unfold q_ChipMapModel_write_255
                  have z63 : (v3 + 1 : Int32).toInt = v3.toInt + 1 := iadd rfl (rfl : (1 : Int32).toInt = 1) (by omega) (by omega)
                  exact ih m60 v1 v2 (v3 + 1) i62 (by omega) (by omega) (by omega)
              · skip
                unfold q_ChipMapModel_write_255
                have z64 : (v3 + 1 : Int32).toInt = v3.toInt + 1 := iadd rfl (rfl : (1 : Int32).toInt = 1) (by omega) (by omega)
                exact ih m51 v1 v2 (v3 + 1) i53 (by omega) (by omega) (by omega)
            · skip
              unfold q_ChipMapModel_write_224
              refine wpR_ix (vI k17) ?_
              refine wpR_eq (x := (M.1 24 (v3 : Int32).toNatClampNeg : Int32).toInt) (y := 112) rfl (rfl : (112 : Int32).toInt = 112) (fun c65 => ?_) (fun c65 => ?_)
              · skip
                refine wpR_eq (x := u11.toInt) (y := 0) rfl (rfl : (0 : Int32).toInt = 0) (fun c66 => ?_) (fun c66 => ?_)
                · skip
                  unfold q_ChipMapModel_write_255
                  have z67 : (v3 + 1 : Int32).toInt = v3.toInt + 1 := iadd rfl (rfl : (1 : Int32).toInt = 1) (by omega) (by omega)
                  exact ih M v1 v2 (v3 + 1) hI (by omega) (by omega) (by omega)
                · skip
                  have k68 : 0 ≤ (v3 : Int32).toInt ∧ (v3 : Int32).toInt < ((78 : Nat) : Int) := by omega
                  refine wpR_ix (vI k68) ?_
                  refine wpR_ltv (fun m69 e70 => ?_)
                  have i71 : IY G K m69 := by rw [e70]; exact hI.s33 _
                  refine wpR_ix (vI k68) ?_
                  refine wpR_ltv (fun m72 e73 => ?_)
                  have i74 : IY G K m72 := by rw [e73]; exact i71.s34 _
                  unfold q_ChipMapModel_write_255
                  have z75 : (v3 + 1 : Int32).toInt = v3.toInt + 1 := iadd rfl (rfl : (1 : Int32).toInt = 1) (by omega) (by omega)
                  exact ih m72 v1 v2 (v3 + 1) i74 (by omega) (by omega) (by omega)
              · skip
                unfold q_ChipMapModel_write_255
                have z76 : (v3 + 1 : Int32).toInt = v3.toInt + 1 := iadd rfl (rfl : (1 : Int32).toInt = 1) (by omega) (by omega)
                exact ih M v1 v2 (v3 + 1) hI (by omega) (by omega) (by omega)
        · skip
          have k77 : 0 ≤ (v3 : Int32).toInt ∧ (v3 : Int32).toInt < ((78 : Nat) : Int) := by omega
          refine wpR_ix (vI k77) ?_
          refine wpR_ltv (fun m78 e79 => ?_)
          have i80 : IY G K m78 := by rw [e79]; exact hI.s33 _
          unfold q_ChipMapModel_write_178
          have k81 : 0 ≤ (v3 : Int32).toInt ∧ (v3 : Int32).toInt < ((26 : Nat) : Int) := by omega
          refine wpR_ix (vI k81) ?_
          refine wpR_eq (x := (m78.1 24 (v3 : Int32).toNatClampNeg : Int32).toInt) (y := 116) rfl (rfl : (116 : Int32).toInt = 116) (fun c82 => ?_) (fun c82 => ?_)
          · skip
            refine wpR_ix (vI k77) ?_
            refine wpR_ix (vI k77) ?_
            refine wpR_ltv (fun m83 e84 => ?_)
            have i85 : IY G K m83 := by rw [e84]; exact i80.s33 _
            unfold q_ChipMapModel_write_202
            refine wpR_ix (vI k81) ?_
            refine wpR_eq (x := (m83.1 24 (v3 : Int32).toNatClampNeg : Int32).toInt) (y := 115) rfl (rfl : (115 : Int32).toInt = 115) (fun c86 => ?_) (fun c86 => ?_)
            · skip
              refine wpR_ix (vI k77) ?_
              refine wpR_ix (vI k77) ?_
              refine wpR_ltv (fun m87 e88 => ?_)
              have i89 : IY G K m87 := by rw [e88]; exact i85.s33 _
              unfold q_ChipMapModel_write_224
              refine wpR_ix (vI k81) ?_
              refine wpR_eq (x := (m87.1 24 (v3 : Int32).toNatClampNeg : Int32).toInt) (y := 112) rfl (rfl : (112 : Int32).toInt = 112) (fun c90 => ?_) (fun c90 => ?_)
              · skip
                refine wpR_eq (x := u11.toInt) (y := 0) rfl (rfl : (0 : Int32).toInt = 0) (fun c91 => ?_) (fun c91 => ?_)
                · skip
                  unfold q_ChipMapModel_write_255
                  have z92 : (v3 + 1 : Int32).toInt = v3.toInt + 1 := iadd rfl (rfl : (1 : Int32).toInt = 1) (by omega) (by omega)
                  exact ih m87 v1 v2 (v3 + 1) i89 (by omega) (by omega) (by omega)
                · skip
                  refine wpR_ix (vI k77) ?_
                  refine wpR_ltv (fun m93 e94 => ?_)
                  have i95 : IY G K m93 := by rw [e94]; exact i89.s33 _
                  refine wpR_ix (vI k77) ?_
                  refine wpR_ltv (fun m96 e97 => ?_)
                  have i98 : IY G K m96 := by rw [e97]; exact i95.s34 _
                  unfold q_ChipMapModel_write_255
                  have z99 : (v3 + 1 : Int32).toInt = v3.toInt + 1 := iadd rfl (rfl : (1 : Int32).toInt = 1) (by omega) (by omega)
                  exact ih m96 v1 v2 (v3 + 1) i98 (by omega) (by omega) (by omega)
              · skip
                unfold q_ChipMapModel_write_255
                have z100 : (v3 + 1 : Int32).toInt = v3.toInt + 1 := iadd rfl (rfl : (1 : Int32).toInt = 1) (by omega) (by omega)
                exact ih m87 v1 v2 (v3 + 1) i89 (by omega) (by omega) (by omega)
            · skip
              unfold q_ChipMapModel_write_224
              refine wpR_ix (vI k81) ?_
              refine wpR_eq (x := (m83.1 24 (v3 : Int32).toNatClampNeg : Int32).toInt) (y := 112) rfl (rfl : (112 : Int32).toInt = 112) (fun c101 => ?_) (fun c101 => ?_)
              · skip
                refine wpR_eq (x := u11.toInt) (y := 0) rfl (rfl : (0 : Int32).toInt = 0) (fun c102 => ?_) (fun c102 => ?_)
                · skip
                  unfold q_ChipMapModel_write_255
                  have z103 : (v3 + 1 : Int32).toInt = v3.toInt + 1 := iadd rfl (rfl : (1 : Int32).toInt = 1) (by omega) (by omega)
                  exact ih m83 v1 v2 (v3 + 1) i85 (by omega) (by omega) (by omega)
                · skip
                  refine wpR_ix (vI k77) ?_
                  refine wpR_ltv (fun m104 e105 => ?_)
                  have i106 : IY G K m104 := by rw [e105]; exact i85.s33 _
                  refine wpR_ix (vI k77) ?_
                  refine wpR_ltv (fun m107 e108 => ?_)
                  have i109 : IY G K m107 := by rw [e108]; exact i106.s34 _
                  unfold q_ChipMapModel_write_255
                  have z110 : (v3 + 1 : Int32).toInt = v3.toInt + 1 := iadd rfl (rfl : (1 : Int32).toInt = 1) (by omega) (by omega)
                  exact ih m107 v1 v2 (v3 + 1) i109 (by omega) (by omega) (by omega)
              · skip
                unfold q_ChipMapModel_write_255
                have z111 : (v3 + 1 : Int32).toInt = v3.toInt + 1 := iadd rfl (rfl : (1 : Int32).toInt = 1) (by omega) (by omega)
                exact ih m83 v1 v2 (v3 + 1) i85 (by omega) (by omega) (by omega)
          · skip
            unfold q_ChipMapModel_write_202
            refine wpR_ix (vI k81) ?_
            refine wpR_eq (x := (m78.1 24 (v3 : Int32).toNatClampNeg : Int32).toInt) (y := 115) rfl (rfl : (115 : Int32).toInt = 115) (fun c112 => ?_) (fun c112 => ?_)
            · skip
              refine wpR_ix (vI k77) ?_
              refine wpR_ix (vI k77) ?_
              refine wpR_ltv (fun m113 e114 => ?_)
              have i115 : IY G K m113 := by rw [e114]; exact i80.s33 _
              unfold q_ChipMapModel_write_224
              refine wpR_ix (vI k81) ?_
              refine wpR_eq (x := (m113.1 24 (v3 : Int32).toNatClampNeg : Int32).toInt) (y := 112) rfl (rfl : (112 : Int32).toInt = 112) (fun c116 => ?_) (fun c116 => ?_)
              · skip
                refine wpR_eq (x := u11.toInt) (y := 0) rfl (rfl : (0 : Int32).toInt = 0) (fun c117 => ?_) (fun c117 => ?_)
                · skip
                  unfold q_ChipMapModel_write_255
                  have z118 : (v3 + 1 : Int32).toInt = v3.toInt + 1 := iadd rfl (rfl : (1 : Int32).toInt = 1) (by omega) (by omega)
                  exact ih m113 v1 v2 (v3 + 1) i115 (by omega) (by omega) (by omega)
                · skip
                  refine wpR_ix (vI k77) ?_
                  refine wpR_ltv (fun m119 e120 => ?_)
                  have i121 : IY G K m119 := by rw [e120]; exact i115.s33 _
                  refine wpR_ix (vI k77) ?_
                  refine wpR_ltv (fun m122 e123 => ?_)
                  have i124 : IY G K m122 := by rw [e123]; exact i121.s34 _
                  unfold q_ChipMapModel_write_255
                  have z125 : (v3 + 1 : Int32).toInt = v3.toInt + 1 := iadd rfl (rfl : (1 : Int32).toInt = 1) (by omega) (by omega)
                  exact ih m122 v1 v2 (v3 + 1) i124 (by omega) (by omega) (by omega)
              · skip
                unfold q_ChipMapModel_write_255
                have z126 : (v3 + 1 : Int32).toInt = v3.toInt + 1 := iadd rfl (rfl : (1 : Int32).toInt = 1) (by omega) (by omega)
                exact ih m113 v1 v2 (v3 + 1) i115 (by omega) (by omega) (by omega)
            · skip
              unfold q_ChipMapModel_write_224
              refine wpR_ix (vI k81) ?_
              refine wpR_eq (x := (m78.1 24 (v3 : Int32).toNatClampNeg : Int32).toInt) (y := 112) rfl (rfl : (112 : Int32).toInt = 112) (fun c127 => ?_) (fun c127 => ?_)
              · skip
                refine wpR_eq (x := u11.toInt) (y := 0) rfl (rfl : (0 : Int32).toInt = 0) (fun c128 => ?_) (fun c128 => ?_)
                · skip
                  unfold q_ChipMapModel_write_255
                  have z129 : (v3 + 1 : Int32).toInt = v3.toInt + 1 := iadd rfl (rfl : (1 : Int32).toInt = 1) (by omega) (by omega)
                  exact ih m78 v1 v2 (v3 + 1) i80 (by omega) (by omega) (by omega)
                · skip
                  refine wpR_ix (vI k77) ?_
                  refine wpR_ltv (fun m130 e131 => ?_)
                  have i132 : IY G K m130 := by rw [e131]; exact i80.s33 _
                  refine wpR_ix (vI k77) ?_
                  refine wpR_ltv (fun m133 e134 => ?_)
                  have i135 : IY G K m133 := by rw [e134]; exact i132.s34 _
                  unfold q_ChipMapModel_write_255
                  have z136 : (v3 + 1 : Int32).toInt = v3.toInt + 1 := iadd rfl (rfl : (1 : Int32).toInt = 1) (by omega) (by omega)
                  exact ih m133 v1 v2 (v3 + 1) i135 (by omega) (by omega) (by omega)
              · skip
                unfold q_ChipMapModel_write_255
                have z137 : (v3 + 1 : Int32).toInt = v3.toInt + 1 := iadd rfl (rfl : (1 : Int32).toInt = 1) (by omega) (by omega)
                exact ih m78 v1 v2 (v3 + 1) i80 (by omega) (by omega) (by omega)
theorem w_ChipMapModel_write_2 {G : Gy} {K : Int} (hK : K + 1 ≤ 2000000000)  : ∀ (n' : Nat) (M : Mm) (v1 : Int32) (v2 : Int32) (v3 : Int32), IY G K M → (0 ≤ v3.toInt ∧ v3.toInt ≤ 12) → (0 ≤ v1.toInt ∧ v1.toInt ≤ 15) → 12 - v3.toInt < (n' : Int) → wpR (q_ChipMapModel_write_2 n' M v1 v2 v3) (fun M' r => IY G (K + 1) M' ∧ True) := by
  intro n'
  induction n' with
  | zero =>
    intro M v1 v2 v3 hI p0 p1 hn
    exfalso; omega
  | succ n' ih =>
    intro M v1 v2 v3 hI p0 p1 hn
    rw [q_ChipMapModel_write_2]
    have z1 := hI.rules
    refine wpR_le (x := (M.1 0 38 : Int32).toInt) (y := v3.toInt) rfl rfl (fun c2 => ?_) (fun c2 => ?_)
    · skip
      have z3 : (0 : Int32).toInt = 0 := rfl
      exact w_ChipMapModel_write_136 (by omega) 4000 M v1 v2 0 hI (by omega) (by omega) (by omega)
    · skip
      have k4 : 0 ≤ (v3 : Int32).toInt ∧ (v3 : Int32).toInt < ((12 : Nat) : Int) := by omega
      refine wpR_ix (vI k4) ?_
      have z5 := hI.ra ((v3 : Int32).toNatClampNeg)
      refine wpR_ro (w_ChipMapModel_isWritten hI (M.1 30 (v3 : Int32).toNatClampNeg) v1 v2 (by omega)) (fun u6 h7 => ?_)
      refine wpR_ix (vI k4) ?_
      have z9 := hI.rb ((v3 : Int32).toNatClampNeg)
      refine wpR_ro (w_ChipMapModel_isWritten hI (M.1 31 (v3 : Int32).toNatClampNeg) v1 v2 (by omega)) (fun u10 h11 => ?_)
      refine wpR_ix (vI k4) ?_
      refine wpR_eq (x := (M.1 29 (v3 : Int32).toNatClampNeg : Int32).toInt) (y := 60) rfl (rfl : (60 : Int32).toInt = 60) (fun c13 => ?_) (fun c13 => ?_)
      · skip
        have k14 : 0 ≤ (v3 : Int32).toInt ∧ (v3 : Int32).toInt < ((36 : Nat) : Int) := by omega
        refine wpR_ix (vI k14) ?_
        refine wpR_eq (x := (M.1 36 (v3 : Int32).toNatClampNeg : Int32).toInt) (y := 0) rfl (rfl : (0 : Int32).toInt = 0) (fun c15 => ?_) (fun c15 => ?_)
        · skip
          refine wpR_eq (x := u6.toInt) (y := 0) rfl (rfl : (0 : Int32).toInt = 0) (fun c16 => ?_) (fun c16 => ?_)
          · skip
            unfold q_ChipMapModel_write_73
            refine wpR_ix (vI k14) ?_
            refine wpR_ltv (fun m17 e18 => ?_)
            have i19 : IY G K m17 := by rw [e18]; exact hI.s36 _
            unfold q_ChipMapModel_write_74
            refine wpR_ix (vI k4) ?_
            refine wpR_eq (x := (m17.1 29 (v3 : Int32).toNatClampNeg : Int32).toInt) (y := 33) rfl (rfl : (33 : Int32).toInt = 33) (fun c20 => ?_) (fun c20 => ?_)
            · skip
              refine wpR_eq (x := u6.toInt) (y := 0) rfl (rfl : (0 : Int32).toInt = 0) (fun c21 => ?_) (fun c21 => ?_)
              · skip
                refine wpR_ix (vI k14) ?_
                refine wpR_eq (x := (m17.1 36 (v3 : Int32).toNatClampNeg : Int32).toInt) (y := 0) rfl (rfl : (0 : Int32).toInt = 0) (fun c22 => ?_) (fun c22 => ?_)
                · skip
                  unfold q_ChipMapModel_write_126
                  unfold q_ChipMapModel_write_127
                  refine wpR_ix (vI k14) ?_
                  refine wpR_ltv (fun m23 e24 => ?_)
                  have i25 : IY G K m23 := by rw [e24]; exact i19.s36 _
                  unfold q_ChipMapModel_write_128
                  have z26 : (v3 + 1 : Int32).toInt = v3.toInt + 1 := iadd rfl (rfl : (1 : Int32).toInt = 1) (by omega) (by omega)
                  exact ih m23 v1 v2 (v3 + 1) i25 (by omega) (by omega) (by omega)
                · skip
                  refine wpR_eq (x := u10.toInt) (y := 0) rfl (rfl : (0 : Int32).toInt = 0) (fun c27 => ?_) (fun c27 => ?_)
                  · skip
                    unfold q_ChipMapModel_write_127
                    refine wpR_ix (vI k14) ?_
                    refine wpR_ltv (fun m28 e29 => ?_)
                    have i30 : IY G K m28 := by rw [e29]; exact i19.s36 _
                    unfold q_ChipMapModel_write_128
                    have z31 : (v3 + 1 : Int32).toInt = v3.toInt + 1 := iadd rfl (rfl : (1 : Int32).toInt = 1) (by omega) (by omega)
                    exact ih m28 v1 v2 (v3 + 1) i30 (by omega) (by omega) (by omega)
                  · skip
                    unfold q_ChipMapModel_write_126
                    unfold q_ChipMapModel_write_127
                    refine wpR_ix (vI k14) ?_
                    refine wpR_ltv (fun m32 e33 => ?_)
                    have i34 : IY G K m32 := by rw [e33]; exact i19.s36 _
                    unfold q_ChipMapModel_write_128
                    have z35 : (v3 + 1 : Int32).toInt = v3.toInt + 1 := iadd rfl (rfl : (1 : Int32).toInt = 1) (by omega) (by omega)
                    exact ih m32 v1 v2 (v3 + 1) i34 (by omega) (by omega) (by omega)
              · skip
                refine wpR_eq (x := u10.toInt) (y := 0) rfl (rfl : (0 : Int32).toInt = 0) (fun c36 => ?_) (fun c36 => ?_)
                · skip
                  unfold q_ChipMapModel_write_127
                  refine wpR_ix (vI k14) ?_
                  refine wpR_ltv (fun m37 e38 => ?_)
                  have i39 : IY G K m37 := by rw [e38]; exact i19.s36 _
                  unfold q_ChipMapModel_write_128
                  have z40 : (v3 + 1 : Int32).toInt = v3.toInt + 1 := iadd rfl (rfl : (1 : Int32).toInt = 1) (by omega) (by omega)
                  exact ih m37 v1 v2 (v3 + 1) i39 (by omega) (by omega) (by omega)
                · skip
                  unfold q_ChipMapModel_write_127
                  refine wpR_ix (vI k14) ?_
                  refine wpR_ltv (fun m41 e42 => ?_)
                  have i43 : IY G K m41 := by rw [e42]; exact i19.s36 _
                  unfold q_ChipMapModel_write_128
                  have z44 : (v3 + 1 : Int32).toInt = v3.toInt + 1 := iadd rfl (rfl : (1 : Int32).toInt = 1) (by omega) (by omega)
                  exact ih m41 v1 v2 (v3 + 1) i43 (by omega) (by omega) (by omega)
            · skip
              unfold q_ChipMapModel_write_128
              have z45 : (v3 + 1 : Int32).toInt = v3.toInt + 1 := iadd rfl (rfl : (1 : Int32).toInt = 1) (by omega) (by omega)
              exact ih m17 v1 v2 (v3 + 1) i19 (by omega) (by omega) (by omega)
          · skip
            unfold q_ChipMapModel_write_68
            unfold q_ChipMapModel_write_73
            refine wpR_ix (vI k14) ?_
            refine wpR_ltv (fun m46 e47 => ?_)
            have i48 : IY G K m46 := by rw [e47]; exact hI.s36 _
            unfold q_ChipMapModel_write_74
            refine wpR_ix (vI k4) ?_
            refine wpR_eq (x := (m46.1 29 (v3 : Int32).toNatClampNeg : Int32).toInt) (y := 33) rfl (rfl : (33 : Int32).toInt = 33) (fun c49 => ?_) (fun c49 => ?_)
            · skip
              refine wpR_eq (x := u6.toInt) (y := 0) rfl (rfl : (0 : Int32).toInt = 0) (fun c50 => ?_) (fun c50 => ?_)
              · skip
                refine wpR_ix (vI k14) ?_
                refine wpR_eq (x := (m46.1 36 (v3 : Int32).toNatClampNeg : Int32).toInt) (y := 0) rfl (rfl : (0 : Int32).toInt = 0) (fun c51 => ?_) (fun c51 => ?_)
                · skip
                  unfold q_ChipMapModel_write_126
                  unfold q_ChipMapModel_write_127
                  refine wpR_ix (vI k14) ?_
                  refine wpR_ltv (fun m52 e53 => ?_)
                  have i54 : IY G K m52 := by rw [e53]; exact i48.s36 _
                  unfold q_ChipMapModel_write_128
                  have z55 : (v3 + 1 : Int32).toInt = v3.toInt + 1 := iadd rfl (rfl : (1 : Int32).toInt = 1) (by omega) (by omega)
                  exact ih m52 v1 v2 (v3 + 1) i54 (by omega) (by omega) (by omega)
                · skip
                  refine wpR_eq (x := u10.toInt) (y := 0) rfl (rfl : (0 : Int32).toInt = 0) (fun c56 => ?_) (fun c56 => ?_)
                  · skip
                    unfold q_ChipMapModel_write_127
                    refine wpR_ix (vI k14) ?_
                    refine wpR_ltv (fun m57 e58 => ?_)
                    have i59 : IY G K m57 := by rw [e58]; exact i48.s36 _
                    unfold q_ChipMapModel_write_128
                    have z60 : (v3 + 1 : Int32).toInt = v3.toInt + 1 := iadd rfl (rfl : (1 : Int32).toInt = 1) (by omega) (by omega)
                    exact ih m57 v1 v2 (v3 + 1) i59 (by omega) (by omega) (by omega)
                  · skip
                    unfold q_ChipMapModel_write_126
                    unfold q_ChipMapModel_write_127
                    refine wpR_ix (vI k14) ?_
                    refine wpR_ltv (fun m61 e62 => ?_)
                    have i63 : IY G K m61 := by rw [e62]; exact i48.s36 _
                    unfold q_ChipMapModel_write_128
                    have z64 : (v3 + 1 : Int32).toInt = v3.toInt + 1 := iadd rfl (rfl : (1 : Int32).toInt = 1) (by omega) (by omega)
                    exact ih m61 v1 v2 (v3 + 1) i63 (by omega) (by omega) (by omega)
              · skip
                refine wpR_eq (x := u10.toInt) (y := 0) rfl (rfl : (0 : Int32).toInt = 0) (fun c65 => ?_) (fun c65 => ?_)
                · skip
                  unfold q_ChipMapModel_write_127
                  refine wpR_ix (vI k14) ?_
                  refine wpR_ltv (fun m66 e67 => ?_)
                  have i68 : IY G K m66 := by rw [e67]; exact i48.s36 _
                  unfold q_ChipMapModel_write_128
                  have z69 : (v3 + 1 : Int32).toInt = v3.toInt + 1 := iadd rfl (rfl : (1 : Int32).toInt = 1) (by omega) (by omega)
                  exact ih m66 v1 v2 (v3 + 1) i68 (by omega) (by omega) (by omega)
                · skip
                  unfold q_ChipMapModel_write_127
                  refine wpR_ix (vI k14) ?_
                  refine wpR_ltv (fun m70 e71 => ?_)
                  have i72 : IY G K m70 := by rw [e71]; exact i48.s36 _
                  unfold q_ChipMapModel_write_128
                  have z73 : (v3 + 1 : Int32).toInt = v3.toInt + 1 := iadd rfl (rfl : (1 : Int32).toInt = 1) (by omega) (by omega)
                  exact ih m70 v1 v2 (v3 + 1) i72 (by omega) (by omega) (by omega)
            · skip
              unfold q_ChipMapModel_write_128
              have z74 : (v3 + 1 : Int32).toInt = v3.toInt + 1 := iadd rfl (rfl : (1 : Int32).toInt = 1) (by omega) (by omega)
              exact ih m46 v1 v2 (v3 + 1) i48 (by omega) (by omega) (by omega)
        · skip
          unfold q_ChipMapModel_write_68
          unfold q_ChipMapModel_write_73
          refine wpR_ix (vI k14) ?_
          refine wpR_ltv (fun m75 e76 => ?_)
          have i77 : IY G K m75 := by rw [e76]; exact hI.s36 _
          unfold q_ChipMapModel_write_74
          refine wpR_ix (vI k4) ?_
          refine wpR_eq (x := (m75.1 29 (v3 : Int32).toNatClampNeg : Int32).toInt) (y := 33) rfl (rfl : (33 : Int32).toInt = 33) (fun c78 => ?_) (fun c78 => ?_)
          · skip
            refine wpR_eq (x := u6.toInt) (y := 0) rfl (rfl : (0 : Int32).toInt = 0) (fun c79 => ?_) (fun c79 => ?_)
            · skip
              refine wpR_ix (vI k14) ?_
              refine wpR_eq (x := (m75.1 36 (v3 : Int32).toNatClampNeg : Int32).toInt) (y := 0) rfl (rfl : (0 : Int32).toInt = 0) (fun c80 => ?_) (fun c80 => ?_)
              · skip
                unfold q_ChipMapModel_write_126
                unfold q_ChipMapModel_write_127
                refine wpR_ix (vI k14) ?_
                refine wpR_ltv (fun m81 e82 => ?_)
                have i83 : IY G K m81 := by rw [e82]; exact i77.s36 _
                unfold q_ChipMapModel_write_128
                have z84 : (v3 + 1 : Int32).toInt = v3.toInt + 1 := iadd rfl (rfl : (1 : Int32).toInt = 1) (by omega) (by omega)
                exact ih m81 v1 v2 (v3 + 1) i83 (by omega) (by omega) (by omega)
              · skip
                refine wpR_eq (x := u10.toInt) (y := 0) rfl (rfl : (0 : Int32).toInt = 0) (fun c85 => ?_) (fun c85 => ?_)
                · skip
                  unfold q_ChipMapModel_write_127
                  refine wpR_ix (vI k14) ?_
                  refine wpR_ltv (fun m86 e87 => ?_)
                  have i88 : IY G K m86 := by rw [e87]; exact i77.s36 _
                  unfold q_ChipMapModel_write_128
                  have z89 : (v3 + 1 : Int32).toInt = v3.toInt + 1 := iadd rfl (rfl : (1 : Int32).toInt = 1) (by omega) (by omega)
                  exact ih m86 v1 v2 (v3 + 1) i88 (by omega) (by omega) (by omega)
                · skip
                  unfold q_ChipMapModel_write_126
                  unfold q_ChipMapModel_write_127
                  refine wpR_ix (vI k14) ?_
                  refine wpR_ltv (fun m90 e91 => ?_)
                  have i92 : IY G K m90 := by rw [e91]; exact i77.s36 _
                  unfold q_ChipMapModel_write_128
                  have z93 : (v3 + 1 : Int32).toInt = v3.toInt + 1 := iadd rfl (rfl : (1 : Int32).toInt = 1) (by omega) (by omega)
                  exact ih m90 v1 v2 (v3 + 1) i92 (by omega) (by omega) (by omega)
            · skip
              refine wpR_eq (x := u10.toInt) (y := 0) rfl (rfl : (0 : Int32).toInt = 0) (fun c94 => ?_) (fun c94 => ?_)
              · skip
                unfold q_ChipMapModel_write_127
                refine wpR_ix (vI k14) ?_
                refine wpR_ltv (fun m95 e96 => ?_)
                have i97 : IY G K m95 := by rw [e96]; exact i77.s36 _
                unfold q_ChipMapModel_write_128
                have z98 : (v3 + 1 : Int32).toInt = v3.toInt + 1 := iadd rfl (rfl : (1 : Int32).toInt = 1) (by omega) (by omega)
                exact ih m95 v1 v2 (v3 + 1) i97 (by omega) (by omega) (by omega)
              · skip
                unfold q_ChipMapModel_write_127
                refine wpR_ix (vI k14) ?_
                refine wpR_ltv (fun m99 e100 => ?_)
                have i101 : IY G K m99 := by rw [e100]; exact i77.s36 _
                unfold q_ChipMapModel_write_128
                have z102 : (v3 + 1 : Int32).toInt = v3.toInt + 1 := iadd rfl (rfl : (1 : Int32).toInt = 1) (by omega) (by omega)
                exact ih m99 v1 v2 (v3 + 1) i101 (by omega) (by omega) (by omega)
          · skip
            unfold q_ChipMapModel_write_128
            have z103 : (v3 + 1 : Int32).toInt = v3.toInt + 1 := iadd rfl (rfl : (1 : Int32).toInt = 1) (by omega) (by omega)
            exact ih m75 v1 v2 (v3 + 1) i77 (by omega) (by omega) (by omega)
      · skip
        unfold q_ChipMapModel_write_74
        refine wpR_ix (vI k4) ?_
        refine wpR_eq (x := (M.1 29 (v3 : Int32).toNatClampNeg : Int32).toInt) (y := 33) rfl (rfl : (33 : Int32).toInt = 33) (fun c104 => ?_) (fun c104 => ?_)
        · skip
          refine wpR_eq (x := u6.toInt) (y := 0) rfl (rfl : (0 : Int32).toInt = 0) (fun c105 => ?_) (fun c105 => ?_)
          · skip
            have k106 : 0 ≤ (v3 : Int32).toInt ∧ (v3 : Int32).toInt < ((36 : Nat) : Int) := by omega
            refine wpR_ix (vI k106) ?_
            refine wpR_eq (x := (M.1 36 (v3 : Int32).toNatClampNeg : Int32).toInt) (y := 0) rfl (rfl : (0 : Int32).toInt = 0) (fun c107 => ?_) (fun c107 => ?_)
            · skip
              unfold q_ChipMapModel_write_126
              unfold q_ChipMapModel_write_127
              refine wpR_ix (vI k106) ?_
              refine wpR_ltv (fun m108 e109 => ?_)
              have i110 : IY G K m108 := by rw [e109]; exact hI.s36 _
              unfold q_ChipMapModel_write_128
              have z111 : (v3 + 1 : Int32).toInt = v3.toInt + 1 := iadd rfl (rfl : (1 : Int32).toInt = 1) (by omega) (by omega)
              exact ih m108 v1 v2 (v3 + 1) i110 (by omega) (by omega) (by omega)
            · skip
              refine wpR_eq (x := u10.toInt) (y := 0) rfl (rfl : (0 : Int32).toInt = 0) (fun c112 => ?_) (fun c112 => ?_)
              · skip
                unfold q_ChipMapModel_write_127
                refine wpR_ix (vI k106) ?_
                refine wpR_ltv (fun m113 e114 => ?_)
                have i115 : IY G K m113 := by rw [e114]; exact hI.s36 _
                unfold q_ChipMapModel_write_128
                have z116 : (v3 + 1 : Int32).toInt = v3.toInt + 1 := iadd rfl (rfl : (1 : Int32).toInt = 1) (by omega) (by omega)
                exact ih m113 v1 v2 (v3 + 1) i115 (by omega) (by omega) (by omega)
              · skip
                unfold q_ChipMapModel_write_126
                unfold q_ChipMapModel_write_127
                refine wpR_ix (vI k106) ?_
                refine wpR_ltv (fun m117 e118 => ?_)
                have i119 : IY G K m117 := by rw [e118]; exact hI.s36 _
                unfold q_ChipMapModel_write_128
                have z120 : (v3 + 1 : Int32).toInt = v3.toInt + 1 := iadd rfl (rfl : (1 : Int32).toInt = 1) (by omega) (by omega)
                exact ih m117 v1 v2 (v3 + 1) i119 (by omega) (by omega) (by omega)
          · skip
            refine wpR_eq (x := u10.toInt) (y := 0) rfl (rfl : (0 : Int32).toInt = 0) (fun c121 => ?_) (fun c121 => ?_)
            · skip
              unfold q_ChipMapModel_write_127
              have k122 : 0 ≤ (v3 : Int32).toInt ∧ (v3 : Int32).toInt < ((36 : Nat) : Int) := by omega
              refine wpR_ix (vI k122) ?_
              refine wpR_ltv (fun m123 e124 => ?_)
              have i125 : IY G K m123 := by rw [e124]; exact hI.s36 _
              unfold q_ChipMapModel_write_128
              have z126 : (v3 + 1 : Int32).toInt = v3.toInt + 1 := iadd rfl (rfl : (1 : Int32).toInt = 1) (by omega) (by omega)
              exact ih m123 v1 v2 (v3 + 1) i125 (by omega) (by omega) (by omega)
            · skip
              unfold q_ChipMapModel_write_127
              have k127 : 0 ≤ (v3 : Int32).toInt ∧ (v3 : Int32).toInt < ((36 : Nat) : Int) := by omega
              refine wpR_ix (vI k127) ?_
              refine wpR_ltv (fun m128 e129 => ?_)
              have i130 : IY G K m128 := by rw [e129]; exact hI.s36 _
              unfold q_ChipMapModel_write_128
              have z131 : (v3 + 1 : Int32).toInt = v3.toInt + 1 := iadd rfl (rfl : (1 : Int32).toInt = 1) (by omega) (by omega)
              exact ih m128 v1 v2 (v3 + 1) i130 (by omega) (by omega) (by omega)
        · skip
          unfold q_ChipMapModel_write_128
          have z132 : (v3 + 1 : Int32).toInt = v3.toInt + 1 := iadd rfl (rfl : (1 : Int32).toInt = 1) (by omega) (by omega)
          exact ih M v1 v2 (v3 + 1) hI (by omega) (by omega) (by omega)
theorem w_ChipMapModel_write {G : Gy} {K : Int} {M : Mm} (hI : IY G K M) (hK : K + 1 ≤ 2000000000)  (a1 : Int32) (a2 : Int32) (p0 : 0 ≤ a1.toInt ∧ a1.toInt ≤ 15) : wpR (q_ChipMapModel_write M a1 a2) (fun M' r => IY G (K + 1) M' ∧ True) := by
  unfold q_ChipMapModel_write
  have z1 : (0 : Int32).toInt = 0 := rfl
  exact w_ChipMapModel_write_2 (by omega) 4000 M a1 a2 0 hI (by omega) (by omega) (by omega)
theorem w_ChipMapModel_read_4 {G : Gy} {K : Int} (hK : K + 1 ≤ 2000000000)  : ∀ (n' : Nat) (M : Mm) (v1 : Int32) (v2 : Int32) (v3 : Int32), IY G K M → (0 ≤ v3.toInt ∧ v3.toInt ≤ 26) → (0 ≤ v1.toInt ∧ v1.toInt ≤ 15) → 26 - v3.toInt < (n' : Int) → wpR (q_ChipMapModel_read_4 n' M v1 v2 v3) (fun M' r => IY G (K + 1) M' ∧ True) := by
  intro n'
  induction n' with
  | zero =>
    intro M v1 v2 v3 hI p0 p1 hn
    exfalso; omega
  | succ n' ih =>
    intro M v1 v2 v3 hI p0 p1 hn
    rw [q_ChipMapModel_read_4]
    refine wpR_le (x := 26) (y := v3.toInt) (rfl : (26 : Int32).toInt = 26) rfl (fun c1 => ?_) (fun c1 => ?_)
    · skip
      refine wpR_cl (w_ChipMapModel_trace hI (by omega) 0 v1 v2 (by omega)) (fun m3 u2 h4 => ?_)
      have i5 := h4.1
      exact wpR_some ⟨i5, trivial⟩
    · skip
      refine wpR_ro (w_ChipMapModel_isIn hI v3 v1 (by omega)) (fun u6 h7 => ?_)
      refine wpR_eq (x := u6.toInt) (y := 0) rfl (rfl : (0 : Int32).toInt = 0) (fun c9 => ?_) (fun c9 => ?_)
      · skip
        unfold q_ChipMapModel_read_119
        have z10 : (v3 + 1 : Int32).toInt = v3.toInt + 1 := iadd rfl (rfl : (1 : Int32).toInt = 1) (by omega) (by omega)
        exact ih M v1 v2 (v3 + 1) hI (by omega) (by omega) (by omega)
      · skip
        have k11 : 0 ≤ (v3 : Int32).toInt ∧ (v3 : Int32).toInt < ((26 : Nat) : Int) := by omega
        refine wpR_ix (vI k11) ?_
        refine wpR_eq (x := (M.1 24 (v3 : Int32).toNatClampNeg : Int32).toInt) (y := 111) rfl (rfl : (111 : Int32).toInt = 111) (fun c12 => ?_) (fun c12 => ?_)
        · skip
          unfold q_ChipMapModel_read_119
          have z13 : (v3 + 1 : Int32).toInt = v3.toInt + 1 := iadd rfl (rfl : (1 : Int32).toInt = 1) (by omega) (by omega)
          exact ih M v1 v2 (v3 + 1) hI (by omega) (by omega) (by omega)
        · skip
          have k14 : 0 ≤ (v3 : Int32).toInt ∧ (v3 : Int32).toInt < ((78 : Nat) : Int) := by omega
          refine wpR_ix (vI k14) ?_
          refine wpR_ix (vI k11) ?_
          refine wpR_lt ?_
          refine wpR_ix (vI k11) ?_
          refine wpR_eq (x := (M.1 24 (v3 : Int32).toNatClampNeg : Int32).toInt) (y := 99) rfl (rfl : (99 : Int32).toInt = 99) (fun c15 => ?_) (fun c15 => ?_)
          · skip
            refine wpR_ix (vI k14) ?_
            refine wpR_ix (vI k14) ?_
            refine wpR_ix (vI k14) ?_
            refine wpR_ltv (fun m16 e17 => ?_)
            have i18 : IY G K m16 := by rw [e17]; exact hI.s35 _
            refine wpR_ix (vI k14) ?_
            refine wpR_ltv (fun m19 e20 => ?_)
            have i21 : IY G K m19 := by rw [e20]; exact i18.s33 _
            unfold q_ChipMapModel_read_82
            refine wpR_ix (vI k11) ?_
            refine wpR_eq (x := (m19.1 24 (v3 : Int32).toNatClampNeg : Int32).toInt) (y := 112) rfl (rfl : (112 : Int32).toInt = 112) (fun c22 => ?_) (fun c22 => ?_)
            · skip
              refine wpR_ix (vI k14) ?_
              refine wpR_ix (vI k14) ?_
              refine wpR_ltv (fun m23 e24 => ?_)
              have i25 : IY G K m23 := by rw [e24]; exact i21.s34 _
              refine wpR_ix (vI k14) ?_
              refine wpR_lw (x := 0) (y := (m23.1 34 (v3 : Int32).toNatClampNeg : Int32).toInt) (rfl : (0 : Int32).toInt = 0) rfl (fun c26 => ?_) (fun c26 => ?_)
              · skip
                unfold q_ChipMapModel_read_119
                have z27 : (v3 + 1 : Int32).toInt = v3.toInt + 1 := iadd rfl (rfl : (1 : Int32).toInt = 1) (by omega) (by omega)
                exact ih m23 v1 (v2 ||| (((M.1 33 (v3 : Int32).toNatClampNeg) : Int32) <<< ((M.1 26 (v3 : Int32).toNatClampNeg) &&& 31))) (v3 + 1) i25 (by omega) (by omega) (by omega)
              · skip
                refine wpR_ix (vI k14) ?_
                refine wpR_ltv (fun m28 e29 => ?_)
                have i30 : IY G K m28 := by rw [e29]; exact i25.s33 _
                unfold q_ChipMapModel_read_119
                have z31 : (v3 + 1 : Int32).toInt = v3.toInt + 1 := iadd rfl (rfl : (1 : Int32).toInt = 1) (by omega) (by omega)
                exact ih m28 v1 (v2 ||| (((M.1 33 (v3 : Int32).toNatClampNeg) : Int32) <<< ((M.1 26 (v3 : Int32).toNatClampNeg) &&& 31))) (v3 + 1) i30 (by omega) (by omega) (by omega)
            · skip
              unfold q_ChipMapModel_read_119
              have z32 : (v3 + 1 : Int32).toInt = v3.toInt + 1 := iadd rfl (rfl : (1 : Int32).toInt = 1) (by omega) (by omega)
              exact ih m19 v1 (v2 ||| (((M.1 33 (v3 : Int32).toNatClampNeg) : Int32) <<< ((M.1 26 (v3 : Int32).toNatClampNeg) &&& 31))) (v3 + 1) i21 (by omega) (by omega) (by omega)
          · skip
            unfold q_ChipMapModel_read_82
            refine wpR_ix (vI k11) ?_
            refine wpR_eq (x := (M.1 24 (v3 : Int32).toNatClampNeg : Int32).toInt) (y := 112) rfl (rfl : (112 : Int32).toInt = 112) (fun c33 => ?_) (fun c33 => ?_)
            · skip
              refine wpR_ix (vI k14) ?_
              refine wpR_ix (vI k14) ?_
              refine wpR_ltv (fun m34 e35 => ?_)
              have i36 : IY G K m34 := by rw [e35]; exact hI.s34 _
              refine wpR_ix (vI k14) ?_
              refine wpR_lw (x := 0) (y := (m34.1 34 (v3 : Int32).toNatClampNeg : Int32).toInt) (rfl : (0 : Int32).toInt = 0) rfl (fun c37 => ?_) (fun c37 => ?_)
              · skip
                unfold q_ChipMapModel_read_119
                have z38 : (v3 + 1 : Int32).toInt = v3.toInt + 1 := iadd rfl (rfl : (1 : Int32).toInt = 1) (by omega) (by omega)
                exact ih m34 v1 (v2 ||| (((M.1 33 (v3 : Int32).toNatClampNeg) : Int32) <<< ((M.1 26 (v3 : Int32).toNatClampNeg) &&& 31))) (v3 + 1) i36 (by omega) (by omega) (by omega)
              · skip
                refine wpR_ix (vI k14) ?_
                refine wpR_ltv (fun m39 e40 => ?_)
                have i41 : IY G K m39 := by rw [e40]; exact i36.s33 _
                unfold q_ChipMapModel_read_119
                have z42 : (v3 + 1 : Int32).toInt = v3.toInt + 1 := iadd rfl (rfl : (1 : Int32).toInt = 1) (by omega) (by omega)
                exact ih m39 v1 (v2 ||| (((M.1 33 (v3 : Int32).toNatClampNeg) : Int32) <<< ((M.1 26 (v3 : Int32).toNatClampNeg) &&& 31))) (v3 + 1) i41 (by omega) (by omega) (by omega)
            · skip
              unfold q_ChipMapModel_read_119
              have z43 : (v3 + 1 : Int32).toInt = v3.toInt + 1 := iadd rfl (rfl : (1 : Int32).toInt = 1) (by omega) (by omega)
              exact ih M v1 (v2 ||| (((M.1 33 (v3 : Int32).toNatClampNeg) : Int32) <<< ((M.1 26 (v3 : Int32).toNatClampNeg) &&& 31))) (v3 + 1) hI (by omega) (by omega) (by omega)
theorem w_ChipMapModel_read {G : Gy} {K : Int} {M : Mm} (hI : IY G K M) (hK : K + 1 ≤ 2000000000)  (a1 : Int32) (p0 : 0 ≤ a1.toInt ∧ a1.toInt ≤ 15) : wpR (q_ChipMapModel_read M a1) (fun M' r => IY G (K + 1) M' ∧ True) := by
  unfold q_ChipMapModel_read
  have z1 : (0 : Int32).toInt = 0 := rfl
  exact w_ChipMapModel_read_4 (by omega) 4000 M a1 0 0 hI (by omega) (by omega) (by omega)
theorem w_ChipMapModel_isThere {G : Gy} {K : Int} {M : Mm} (hI : IY G K M)  (a1 : Int32) (p0 : 0 ≤ a1.toInt ∧ a1.toInt ≤ 15) : wpR (q_ChipMapModel_isThere M a1) (fun M' r => M = M' ∧ (0 ≤ r.toInt ∧ r.toInt ≤ 1 ∧ (r.toInt = 0 → (M.1 21 a1.toNatClampNeg).toInt ≠ -1))) := by
  unfold q_ChipMapModel_isThere
  have k1 : 0 ≤ (a1 : Int32).toInt ∧ (a1 : Int32).toInt < ((16 : Nat) : Int) := by omega
  refine wpR_ix (vI k1) ?_
  have z2 := hI.bank ((a1 : Int32).toNatClampNeg)
  refine wpR_eq (x := (M.1 21 (a1 : Int32).toNatClampNeg : Int32).toInt) (y := (-1)) rfl (by decide : (-1 : Int32).toInt = -1) (fun c3 => ?_) (fun c3 => ?_)
  · skip
    have z4 : (1 : Int32).toInt = 1 := rfl
    exact wpR_some ⟨rfl, (by omega)⟩
  · skip
    refine wpR_ix (vI k1) ?_
    have k5 : 0 ≤ ((M.1 21 (a1 : Int32).toNatClampNeg) : Int32).toInt ∧ ((M.1 21 (a1 : Int32).toNatClampNeg) : Int32).toInt < ((78 : Nat) : Int) := by omega
    refine wpR_ix (vI k5) ?_
    refine wpR_ix (vI k1) ?_
    refine wpR_eq (x := (M.1 33 ((M.1 21 (a1 : Int32).toNatClampNeg) : Int32).toNatClampNeg : Int32).toInt) (y := (M.1 22 (a1 : Int32).toNatClampNeg : Int32).toInt) rfl rfl (fun c6 => ?_) (fun c6 => ?_)
    · skip
      have z7 : (1 : Int32).toInt = 1 := rfl
      exact wpR_some ⟨rfl, (by omega)⟩
    · skip
      have z8 : (0 : Int32).toInt = 0 := rfl
      exact wpR_some ⟨rfl, (by omega)⟩
theorem w_ChipMapModel_registerAt_2 {G : Gy} {K : Int} {M : Mm} (hI : IY G K M) : ∀ (n' : Nat) (v1 : Int32) (v2 : Int32), (0 ≤ v2.toInt ∧ v2.toInt ≤ 16) → 16 - v2.toInt < (n' : Int) → wpR (q_ChipMapModel_registerAt_2 n' M v1 v2) (fun M' r => M = M' ∧ (-1 ≤ r.toInt ∧ r.toInt ≤ 15)) := by
  intro n'
  induction n' with
  | zero =>
    intro v1 v2 p0 hn
    exfalso; omega
  | succ n' ih =>
    intro v1 v2 p0 hn
    rw [q_ChipMapModel_registerAt_2]
    have z1 := hI.regs
    refine wpR_le (x := (M.1 0 28 : Int32).toInt) (y := v2.toInt) rfl rfl (fun c2 => ?_) (fun c2 => ?_)
    · skip
      have z3 : (-1 : Int32).toInt = -1 := by decide
      exact wpR_some ⟨rfl, (by omega)⟩
    · skip
      have k4 : 0 ≤ (v2 : Int32).toInt ∧ (v2 : Int32).toInt < ((16 : Nat) : Int) := by omega
      refine wpR_ix (vI k4) ?_
      refine wpR_eq (x := (M.1 20 (v2 : Int32).toNatClampNeg : Int32).toInt) (y := v1.toInt) rfl rfl (fun c5 => ?_) (fun c5 => ?_)
      · skip
        refine wpR_ro (w_ChipMapModel_isThere hI v2 (by omega)) (fun u6 h7 => ?_)
        refine wpR_eq (x := u6.toInt) (y := 0) rfl (rfl : (0 : Int32).toInt = 0) (fun c9 => ?_) (fun c9 => ?_)
        · skip
          unfold q_ChipMapModel_registerAt_30
          have z10 : (v2 + 1 : Int32).toInt = v2.toInt + 1 := iadd rfl (rfl : (1 : Int32).toInt = 1) (by omega) (by omega)
          exact ih v1 (v2 + 1) (by omega) (by omega)
        · skip
          exact wpR_some ⟨rfl, (by omega)⟩
      · skip
        unfold q_ChipMapModel_registerAt_30
        have z11 : (v2 + 1 : Int32).toInt = v2.toInt + 1 := iadd rfl (rfl : (1 : Int32).toInt = 1) (by omega) (by omega)
        exact ih v1 (v2 + 1) (by omega) (by omega)
theorem w_ChipMapModel_registerAt {G : Gy} {K : Int} {M : Mm} (hI : IY G K M)  (a1 : Int32) : wpR (q_ChipMapModel_registerAt M a1) (fun M' r => M = M' ∧ (-1 ≤ r.toInt ∧ r.toInt ≤ 15)) := by
  unfold q_ChipMapModel_registerAt
  have z1 : (0 : Int32).toInt = 0 := rfl
  exact w_ChipMapModel_registerAt_2 hI 4000 a1 0 (by omega) (by omega)
theorem w_ChipMapModel_isField {G : Gy} {K : Int} {M : Mm} (hI : IY G K M)  (a1 : Int32) : wpR (q_ChipMapModel_isField M a1) (fun M' r => M = M' ∧ (0 ≤ r.toInt ∧ r.toInt ≤ 1 ∧ (r.toInt ≠ 0 → 0 ≤ a1.toInt ∧ a1.toInt ≤ 25))) := by
  unfold q_ChipMapModel_isField
  refine wpR_eq (x := (M.1 0 27 : Int32).toInt) (y := 0) rfl (rfl : (0 : Int32).toInt = 0) (fun c1 => ?_) (fun c1 => ?_)
  · skip
    have z2 : (0 : Int32).toInt = 0 := rfl
    exact wpR_some ⟨rfl, (by omega)⟩
  · skip
    refine wpR_lw (x := a1.toInt) (y := 0) rfl (rfl : (0 : Int32).toInt = 0) (fun c3 => ?_) (fun c3 => ?_)
    · skip
      have z4 : (0 : Int32).toInt = 0 := rfl
      exact wpR_some ⟨rfl, (by omega)⟩
    · skip
      refine wpR_le (x := 26) (y := a1.toInt) (rfl : (26 : Int32).toInt = 26) rfl (fun c5 => ?_) (fun c5 => ?_)
      · skip
        have z6 : (0 : Int32).toInt = 0 := rfl
        exact wpR_some ⟨rfl, (by omega)⟩
      · skip
        have k7 : 0 ≤ (a1 : Int32).toInt ∧ (a1 : Int32).toInt < ((26 : Nat) : Int) := by omega
        refine wpR_ix (vI k7) ?_
        refine wpR_eq (x := (M.1 23 (a1 : Int32).toNatClampNeg : Int32).toInt) (y := 0) rfl (rfl : (0 : Int32).toInt = 0) (fun c8 => ?_) (fun c8 => ?_)
        · skip
          have z9 : (0 : Int32).toInt = 0 := rfl
          exact wpR_some ⟨rfl, (by omega)⟩
        · skip
          have z10 : (1 : Int32).toInt = 1 := rfl
          exact wpR_some ⟨rfl, (by omega)⟩
theorem w_ChipMapModel_isFit {G : Gy} {K : Int} {M : Mm} (hI : IY G K M)  (a1 : Int32) (a2 : Int32) (p0 : 0 ≤ a1.toInt ∧ a1.toInt ≤ 25) : wpR (q_ChipMapModel_isFit M a1 a2) (fun M' r => M = M' ∧ (0 ≤ r.toInt ∧ r.toInt ≤ 1)) := by
  unfold q_ChipMapModel_isFit
  refine wpR_lw (x := a2.toInt) (y := 0) rfl (rfl : (0 : Int32).toInt = 0) (fun c1 => ?_) (fun c1 => ?_)
  · skip
    have z2 : (0 : Int32).toInt = 0 := rfl
    exact wpR_some ⟨rfl, (by omega)⟩
  · skip
    have k3 : 0 ≤ (a1 : Int32).toInt ∧ (a1 : Int32).toInt < ((26 : Nat) : Int) := by omega
    refine wpR_ix (vI k3) ?_
    refine wpR_le (x := ((1 : Int32) <<< ((M.1 27 (a1 : Int32).toNatClampNeg) &&& 31) : Int32).toInt) (y := a2.toInt) rfl rfl (fun c4 => ?_) (fun c4 => ?_)
    · skip
      have z5 : (0 : Int32).toInt = 0 := rfl
      exact wpR_some ⟨rfl, (by omega)⟩
    · skip
      have z6 : (1 : Int32).toInt = 1 := rfl
      exact wpR_some ⟨rfl, (by omega)⟩
theorem w_ChipMapModel_field {G : Gy} {K : Int} {M : Mm} (hI : IY G K M)  (a1 : Int32) (a2 : Int32) : wpR (q_ChipMapModel_field M a1 a2) (fun M' r => IY G K M' ∧ True) := by
  unfold q_ChipMapModel_field
  refine wpR_ltv (fun m1 e2 => ?_)
  have i3 : IY G K m1 := by rw [e2]; exact hI.s0_0 _
  refine wpR_ro (w_ChipMapModel_isField i3 a1) (fun u4 h5 => ?_)
  refine wpR_eq (x := u4.toInt) (y := 0) rfl (rfl : (0 : Int32).toInt = 0) (fun c7 => ?_) (fun c7 => ?_)
  · skip
    exact wpR_some ⟨i3, trivial⟩
  · skip
    refine wpR_lw (x := a2.toInt) (y := 0) rfl (rfl : (0 : Int32).toInt = 0) (fun c8 => ?_) (fun c8 => ?_)
    · skip
      exact wpR_some ⟨i3, trivial⟩
    · skip
      refine wpR_le (x := a2.toInt) (y := 4) rfl (rfl : (4 : Int32).toInt = 4) (fun c9 => ?_) (fun c9 => ?_)
      · skip
        refine wpR_eq (x := a2.toInt) (y := 0) rfl (rfl : (0 : Int32).toInt = 0) (fun c10 => ?_) (fun c10 => ?_)
        · skip
          have k11 : 0 ≤ (a1 : Int32).toInt ∧ (a1 : Int32).toInt < ((26 : Nat) : Int) := by omega
          refine wpR_ix (vI k11) ?_
          exact wpR_some ⟨i3, trivial⟩
        · skip
          refine wpR_eq (x := a2.toInt) (y := 1) rfl (rfl : (1 : Int32).toInt = 1) (fun c12 => ?_) (fun c12 => ?_)
          · skip
            have k13 : 0 ≤ (a1 : Int32).toInt ∧ (a1 : Int32).toInt < ((26 : Nat) : Int) := by omega
            refine wpR_ix (vI k13) ?_
            exact wpR_some ⟨i3, trivial⟩
          · skip
            refine wpR_eq (x := a2.toInt) (y := 2) rfl (rfl : (2 : Int32).toInt = 2) (fun c14 => ?_) (fun c14 => ?_)
            · skip
              have k15 : 0 ≤ (a1 : Int32).toInt ∧ (a1 : Int32).toInt < ((26 : Nat) : Int) := by omega
              refine wpR_ix (vI k15) ?_
              exact wpR_some ⟨i3, trivial⟩
            · skip
              refine wpR_eq (x := a2.toInt) (y := 3) rfl (rfl : (3 : Int32).toInt = 3) (fun c16 => ?_) (fun c16 => ?_)
              · skip
                have k17 : 0 ≤ (a1 : Int32).toInt ∧ (a1 : Int32).toInt < ((78 : Nat) : Int) := by omega
                refine wpR_ix (vI k17) ?_
                exact wpR_some ⟨i3, trivial⟩
              · skip
                have k18 : 0 ≤ (a1 : Int32).toInt ∧ (a1 : Int32).toInt < ((78 : Nat) : Int) := by omega
                refine wpR_ix (vI k18) ?_
                exact wpR_some ⟨i3, trivial⟩
      · skip
        exact wpR_some ⟨i3, trivial⟩
theorem w_ChipMapModel_reset {G : Gy} {K : Int} {M : Mm} (hI : IY G K M)  : wpR (q_ChipMapModel_reset M) (fun M' r => IY G K M' ∧ True) := by
  unfold q_ChipMapModel_reset
  refine wpR_ltv (fun m1 e2 => ?_)
  have i3 : IY G K m1 := by rw [e2]; exact hI.s0_0 _
  refine wpR_eq (x := (m1.1 0 27 : Int32).toInt) (y := 0) rfl (rfl : (0 : Int32).toInt = 0) (fun c4 => ?_) (fun c4 => ?_)
  · skip
    exact wpR_some ⟨i3, trivial⟩
  · skip
    refine wpR_cl (w_ChipMapModel_resetAll i3) (fun m6 u5 h7 => ?_)
    have i8 := h7.1
    exact wpR_some ⟨i8, trivial⟩
