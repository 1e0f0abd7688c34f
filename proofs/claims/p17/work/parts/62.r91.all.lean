def tpR (M N : Mm) : Prop := M.1 21 2 = N.1 0 2 ∧ (∀ j : Nat, (j : Int) < (M.1 21 2).toInt → M.1 22 j = N.1 1 j) ∧ (0 ≤ (M.1 21 2).toInt ∧ (M.1 21 2).toInt ≤ 480) ∧ ∀ j, ((M.1 22 j).toUInt32 % 65536).toInt32 = M.1 22 j
theorem nlz {i : Nat} {P : Prop} (h : i < 0) : P := absurd h (Nat.not_lt_zero _)
theorem fR0 {M N : Mm} : fR 0 M N := ⟨fun _ h => nlz h, fun _ h => nlz h, fun _ h => nlz h, fun _ h => nlz h, fun _ h => nlz h, fun _ h => nlz h, fun _ h => nlz h, fun _ h => nlz h, fun _ h => nlz h, fun _ h => nlz h, fun _ h => nlz h, fun _ h => nlz h⟩
theorem gR0 {M N : Mm} : gR 0 M N := ⟨fun _ h => nlz h, fun _ h => nlz h, fun _ h => nlz h, fun _ h => nlz h, fun _ h => nlz h⟩
theorem ruR0 {M N : Mm} : ruR 0 M N := ⟨fun _ h => nlz h, fun _ h => nlz h, fun _ h => nlz h, fun _ h => nlz h, fun _ h => nlz h, fun _ h => nlz h, fun _ h => nlz h, fun _ h => nlz h, fun _ h => nlz h, fun _ h => nlz h, fun _ h => nlz h⟩
theorem hS0 {a : Int32} {M : Mm} : hS 0 a M := ⟨fun _ h => nlz h, fun _ _ _ h => nlz h⟩
theorem e41 (M : Mm) : q_Reader_readAll_41 M = some (stI M 21 (upd (M.1 21) 2 0), 0) := by
  unfold q_Reader_readAll_41 q_Reader_readAll_42
  rw [lq_s, bz_e0]
theorem e42 (M : Mm) : q_Reader_readAll_42 M 1 = some (stI M 21 (upd (M.1 21) 2 0), 1) := by
  unfold q_Reader_readAll_42
  rw [lq_s, bz_e1]
theorem rul_at {M N : Mm} (h : rdR M N) (c : hrX M = 64) : ∃ M' : Mm, q_Reader_readRules M = some (M', 0) ∧ M'.1 21 = M.1 21 := by
  have hz : (hrX M).toInt ≠ 0 := by rw [c]; decide
  have hl := hr_lt h hz
  unfold q_Reader_readRules
  show ∃ M' : Mm, q_Reader_readRules_2 (3999 + 1) M 0 = some (M', 0) ∧ M'.1 21 = M.1 21
  rw [q_Reader_readRules_2, if_neg (by decide), if_pos (Int32.lt_iff_toInt_lt.mpr hl)]
  unfold q_Reader_readRule
  have hx : vp_in (0 : Int32) 12 := vI (by decide)
  have h1 : rdR (stI M 19 (upd (M.1 19) (0 : Int32).toNatClampNeg (M.1 21 3))) N := h
  have e1 : nmv (hrX (stI M 19 (upd (M.1 19) (0 : Int32).toNatClampNeg (M.1 21 3)))) = -1 := by
    have e2 : hrX (stI M 19 (upd (M.1 19) (0 : Int32).toNatClampNeg (M.1 21 3))) = hrX M := rfl
    rw [e2, c]
    decide
  rw [ix_e hx, lq_s, nm_x h1, if_pos e1, cal_s, ix_e hx, lq_s, ix_e hx, if_pos st_up, cal_s, if_pos rfl]
  exact ⟨_, rfl, rfl⟩
theorem all_rel {M N : Mm} (h : tpR M N) (hz : nf N) : (∃ M' N' : Mm, q_Reader_readAll M = some (M', 0) ∧ q_ChipMapModel_readAll N = some (N', 0) ∧ M'.1 21 3 = N'.1 0 3 ∧ flt N') ∨ (∃ M' N' : Mm, q_Reader_readAll M = some (M', 1) ∧ q_ChipMapModel_readAll N = jdY N' ∧ dR M' N' ∧ nf N') := by
  unfold q_Reader_readAll q_Draft_clear q_ChipMapModel_readAll
  rw [lq_s, lq_s, lq_s, cal_s, lq_s, lq_s, lq_s, lq_s, lq_s]
  obtain ⟨M3, eM3⟩ : ∃ z, z = stI (stI (stI (stI M 1 (upd (M.1 1) 0 0)) 1 (upd ((stI M 1 (upd (M.1 1) 0 0)).1 1) 6 0)) 14 (upd ((stI (stI M 1 (upd (M.1 1) 0 0)) 1 (upd ((stI M 1 (upd (M.1 1) 0 0)).1 1) 6 0)).1 14) 0 0)) 21 (upd ((stI (stI (stI M 1 (upd (M.1 1) 0 0)) 1 (upd ((stI M 1 (upd (M.1 1) 0 0)).1 1) 6 0)) 14 (upd ((stI (stI M 1 (upd (M.1 1) 0 0)) 1 (upd ((stI M 1 (upd (M.1 1) 0 0)).1 1) 6 0)).1 14) 0 0)).1 21) 3 0) := ⟨_, rfl⟩
  rw [← eM3]
  obtain ⟨N4, eN4⟩ : ∃ z, z = stI (stI (stI (stI N 0 (upd (N.1 0) 3 0)) 0 (upd ((stI N 0 (upd (N.1 0) 3 0)).1 0) 6 0)) 0 (upd ((stI (stI N 0 (upd (N.1 0) 3 0)) 0 (upd ((stI N 0 (upd (N.1 0) 3 0)).1 0) 6 0)).1 0) 12 0)) 0 (upd ((stI (stI (stI N 0 (upd (N.1 0) 3 0)) 0 (upd ((stI N 0 (upd (N.1 0) 3 0)).1 0) 6 0)) 0 (upd ((stI (stI N 0 (upd (N.1 0) 3 0)) 0 (upd ((stI N 0 (upd (N.1 0) 3 0)).1 0) 6 0)).1 0) 12 0)).1 0) 20 0) := ⟨_, rfl⟩
  rw [← eN4]
  have z0 : (0 : Int32).toInt = 0 := rfl
  have h3 : rdR M3 N4 := by
    subst eM3 eN4
    exact ⟨rfl, h.1, h.2.1, (by decide : 0 ≤ (0 : Int32).toInt ∧ (0 : Int32).toInt ≤ 480), h.2.2.1, h.2.2.2, h.2.2.1.1, hz⟩
  have e16 : M3.1 1 6 = 0 := by subst eM3; rfl
  have hs : stP M3 N4 0 := by
    unfold stP
    rw [e16]
    exact ⟨h3, by subst eN4; rfl, by subst eN4; rfl, by decide, by subst eN4; rfl, by subst eM3; rfl, fR0, gR0, hS0⟩
  have er : q_Reader_readRegisters M3 = q_Reader_readRegisters_24 (q_Reader_readRegisters_2 3999) M3 0 := by
    show q_Reader_readRegisters_2 (3999 + 1) M3 0 = _
    rw [q_Reader_readRegisters_2, if_neg (by decide), if_pos (by decide)]
  rw [er]
  rcases rg_loop 16 3999 4000 M3 N4 0 (by decide) (by decide) (by decide) (by decide) (by decide) hs with ⟨M5, N5, e1, e2, h5, hf⟩ | ⟨M5, N5, e1, e2, h5, hr1, hr2⟩ | ⟨M5, N5, e1, e2, h5, hf, hc, N0, h0⟩
  · rw [e1, e2, cal_s, if_pos rfl, e41]
    exact Or.inl ⟨_, _, rfl, rfl, h5.1, hf⟩
  · rw [e1, e2, cal_s, if_neg (by decide)]
    obtain ⟨s1, s2, s3, s4, s5, s6, s7, s8, s9⟩ := h5
    have hd : dR M5 N5 := by
      unfold dR
      rw [s6]
      exact ⟨s2, ⟨hr1, hr2⟩, s3, ⟨s4.1, by omega⟩, s5, by decide, s7, s8, s9, ruR0⟩
    unfold q_Reader_readRules
    rcases ru_loop 12 4000 4000 M5 N5 0 (by decide) (by decide) (by decide) (by decide) s1 hd s6 with ⟨M6, N6, e3, e4, h6, hf⟩ | ⟨M6, N6, e3, e4, h6, hd6, hl⟩ | ⟨M6, N6, e3, e4, h6, hf, hl⟩
    · rw [e3, e4, cal_s, if_pos rfl, e41]
      exact Or.inl ⟨_, _, rfl, rfl, h6.1, hf⟩
    · rw [e3, e4, cal_s, if_neg (by decide), if_pos hl, e42]
      exact Or.inr ⟨_, _, rfl, rfl, hd6, h6.f⟩
    · rw [e3, e4, cal_s, if_neg (by decide), if_neg hl, e41]
      exact Or.inl ⟨_, _, rfl, rfl, h6.1, hf⟩
  · rw [e1, e2, cal_s, if_neg (by decide)]
    obtain ⟨M6, e3, e4⟩ := rul_at h0 hc
    rw [e3, cal_s, if_pos rfl, e41]
    refine Or.inl ⟨_, _, rfl, rfl, ?_, hf⟩
    show M6.1 21 3 = _
    rw [e4]
    exact h5.1
