section
def hS (n : Nat) (a : Int32) (M : Mm) : Prop := (∀ i : Nat, i < n → 0 ≤ (M.1 9 i).toInt ∧ (M.1 9 i).toInt < a.toInt) ∧ ∀ i j : Nat, i ≤ j → j < n → (M.1 9 i).toInt ≤ (M.1 9 j).toInt
theorem hS.r {n : Nat} {a : Int32} {M : Mm} (h : hS n a M) : hR n a M := ⟨fun i hi => by have := h.1 i hi; omega, h.2⟩
theorem hS.of {n : Nat} {a b : Int32} {M : Mm} (h : hR n a M) (e : b.toInt = a.toInt + 1) : hS n b M := ⟨fun i hi => by have := h.1 i hi; omega, h.2⟩
def stP (M N : Mm) (a : Int32) : Prop := rdR M N ∧ N.1 0 6 = a ∧ N.1 0 12 = M.1 1 6 ∧ (0 ≤ (M.1 1 6).toInt ∧ (M.1 1 6).toInt ≤ 8 * a.toInt) ∧ N.1 0 20 = 0 ∧ M.1 14 0 = 0 ∧ fR (M.1 1 6).toNatClampNeg M N ∧ gR a.toNatClampNeg M N ∧ hS (M.1 1 6).toNatClampNeg a M
theorem st_next {M N M1 N1 : Mm} {a : Int32} (h : stP M N a) (ha : 0 ≤ a.toInt ∧ a.toInt < 16) (q : rgQ M N M1 1 N1 1) : stP (stI M1 1 (upd (M1.1 1) 0 (a + 1))) N1 (a + 1) := by
  obtain ⟨h1, h2, h3, h4, h5, h6, h7, h8, h9⟩ := h
  rcases q with q | ⟨_, _, q3, q4, q5, q6, q7, q8, q9, q10, q11, q12⟩
  · exact absurd q.1 (by decide)
  rw [h2] at q6 q11 q12
  have ea : (a + 1).toInt = a.toInt + 1 := iadd rfl (rfl : (1 : Int32).toInt = 1) (by omega) (by omega)
  have e6 : (stI M1 1 (upd (M1.1 1) 0 (a + 1))).1 1 6 = M1.1 1 6 := rfl
  refine ⟨q3, q6, q4, ?_, q7.trans h5, ?_, q10 h7, ?_, ?_⟩
  · rw [e6]
    omega
  · show M1.1 14 0 = 0
    rw [q8 14 (by decide) (by decide)]
    exact h6
  · rw [tnS (by omega)]
    exact q12 h8
  · exact hS.of (q11 h9.r) ea
def f3 (x y : Rs) (z : Mm → Rs) (P Q : Mm → Mm → Prop) : Prop := (∃ M N : Mm, x = some (M, 0) ∧ y = some (N, 0) ∧ rd0 M N ∧ flt N) ∨ (∃ M N : Mm, x = some (M, 1) ∧ y = z N ∧ P M N) ∨ (∃ M N : Mm, x = some (M, 1) ∧ y = some (N, 0) ∧ rd0 M N ∧ flt N ∧ Q M N)
theorem rg17 {N : Mm} (h6 : N.1 0 6 = 16) : ∃ N' : Mm, q_ChipMapModel_readRegister N = some (N', 0) ∧ flt N' ∧ ∀ M, rdR M N → rd0 M N' := by
  have hy : vp_in (16 : Int32) 17 := vI (by decide)
  unfold q_ChipMapModel_readRegister
  rw [h6, lq_s, ix_e hy, lq_s, if_pos rfl, wg_e, cal_s, bz_e0]
  exact ⟨_, rfl, wr_f, fun M h => h.z⟩
theorem rg_loop : ∀ (j n' m' : Nat) (M N : Mm) (a : Int32), 16 - a.toInt = (j : Int) → 0 ≤ a.toInt → 0 < j → j < n' → j < m' → stP M N a → f3 (q_Reader_readRegisters_24 (q_Reader_readRegisters_2 n') M a) (q_ChipMapModel_readAll_20 m' N) (q_ChipMapModel_readAll_38 4000) (fun M' N' => stP M' N' (M'.1 1 0) ∧ 1 ≤ (M'.1 1 0).toInt ∧ (M'.1 1 0).toInt ≤ 16) (fun M' _ => hrX M' = 64 ∧ ∃ N0, rdR M' N0) := by
  intro j
  induction j with
  | zero =>
    intro n' m' M N a _ _ hj
    exact absurd hj (by decide)
  | succ j ih =>
    intro n' m' M N a hj a0 _ hn' hm' h
    obtain ⟨n', rfl⟩ : ∃ q, n' = q + 1 := ⟨n' - 1, by omega⟩
    obtain ⟨m', rfl⟩ : ∃ q, m' = q + 1 + 1 := ⟨m' - 2, by omega⟩
    have z16 : (16 : Int32).toInt = 16 := rfl
    have z0 : (0 : Int32).toInt = 0 := rfl
    have ea : (a + 1).toInt = a.toInt + 1 := iadd rfl (rfl : (1 : Int32).toInt = 1) (by omega) (by omega)
    have h4 := h.2.2.2.1
    unfold q_Reader_readRegisters_24
    rw [q_ChipMapModel_readAll_20]
    obtain ⟨M1, r, N1, s, e1, e2, hq⟩ := reg_rel h.1 h.2.1 (by omega) h.2.2.1 (by omega)
    rw [e1, e2, cal_s, cal_s]
    have hq0 := hq
    rcases hq with hq | hq
    · rw [hq.1, hq.2.1, if_pos rfl, if_pos rfl]
      exact Or.inl ⟨_, _, rfl, rfl, hq.2.2⟩
    rw [hq.1, hq.2.1] at hq0
    rw [hq.1, hq.2.1, if_neg (by decide), if_neg (by decide), lq_s]
    have hS := st_next h (by omega) hq0
    obtain ⟨M3, eM3⟩ : ∃ z, z = stI M1 1 (upd (M1.1 1) 0 (a + 1)) := ⟨_, rfl⟩
    have e0 : M3.1 1 0 = a + 1 := by rw [eM3]; exact st_up
    rw [← eM3] at hS ⊢
    have h3 := hS.1
    rw [hr_e h3, cal_s, q_Reader_readRegisters_2, ← hr_eq h3]
    by_cases c16 : 16 ≤ a + 1
    · rw [if_pos c16]
      have e16 : a + 1 = 16 := Int32.toInt_inj.mp (by have := Int32.le_iff_toInt_le.mp c16; omega)
      by_cases c : hrX M3 = 64
      · rw [if_pos c, q_ChipMapModel_readAll_20]
        obtain ⟨N4, q1, q2, q3⟩ := rg17 (N := N1) (hS.2.1.trans e16)
        rw [q1, cal_s, if_pos rfl]
        exact Or.inr (Or.inr ⟨_, _, rfl, rfl, q3 _ h3, q2, c, _, h3⟩)
      · rw [if_neg c]
        refine Or.inr (Or.inl ⟨_, _, rfl, rfl, ?_, ?_, ?_⟩)
        · rw [e0]; exact hS
        · rw [e0]; omega
        · rw [e0]; omega
    · have c16z : ¬ 16 ≤ (a + 1).toInt := fun z => c16 (Int32.le_iff_toInt_le.mpr (by omega))
      rw [if_neg c16, if_neg (fun z => by have := Int32.le_iff_toInt_le.mp z; omega), nx_e h3, cal_s]
      by_cases c : hrX M3 = 64
      · rw [if_pos c, if_pos c]
        exact ih n' (m' + 1) M3 N1 (a + 1) (by omega) (by omega) (by omega) (by omega) (by omega) hS
      · rw [if_neg c, if_neg c]
        refine Or.inr (Or.inl ⟨_, _, rfl, rfl, ?_, ?_, ?_⟩)
        · rw [e0]; exact hS
        · rw [e0]; omega
        · rw [e0]; omega
def jdY (N : Mm) : Rs := cal (q_ChipMapModel_fieldsRight N) fun M1 r2 => if r2 = 0 then (some (M1, 0)) else (cal (q_ChipMapModel_registersRight M1) fun M3 r4 => if r4 = 0 then (some (M3, 0)) else (cal (q_ChipMapModel_rulesRight M3) fun M5 r6 => if r6 = 0 then (some (M5, 0)) else (some (M5, 1))))
def dR (M N : Mm) : Prop := N.1 0 6 = M.1 1 0 ∧ (1 ≤ (M.1 1 0).toInt ∧ (M.1 1 0).toInt ≤ 16) ∧ N.1 0 12 = M.1 1 6 ∧ (0 ≤ (M.1 1 6).toInt ∧ (M.1 1 6).toInt ≤ 128) ∧ N.1 0 20 = M.1 14 0 ∧ (0 ≤ (M.1 14 0).toInt ∧ (M.1 14 0).toInt ≤ 12) ∧ fR (M.1 1 6).toNatClampNeg M N ∧ gR (M.1 1 0).toNatClampNeg M N ∧ hS (M.1 1 6).toNatClampNeg (M.1 1 0) M ∧ ruR (M.1 14 0).toNatClampNeg M N
theorem dR.nx {M N M1 N1 : Mm} {k : Int32} (h : dR M N) (hk : M.1 14 0 = k) (h0 : 0 ≤ k.toInt ∧ k.toInt < 12) (q : ruQ M N M1 1 N1 1) : dR (stI M1 14 (upd (M1.1 14) 0 (k + 1))) N1 := by
  obtain ⟨h1, h2, h3, h4, h5, h6, h7, h8, h9, h10⟩ := h
  rcases q with q | ⟨_, _, q3, q4, q5, q6, q7, q8, q9⟩
  · exact absurd q.1 (by decide)
  rw [h5, hk] at q4 q9
  rw [hk] at h10
  have ek : (k + 1).toInt = k.toInt + 1 := iadd rfl (rfl : (1 : Int32).toInt = 1) (by omega) (by omega)
  have e1 : (stI M1 14 (upd (M1.1 14) 0 (k + 1))).1 1 = M.1 1 := q7 1 (by decide)
  have e14 : (stI M1 14 (upd (M1.1 14) 0 (k + 1))).1 14 0 = k + 1 := st_up
  have eo : ∀ p, p < 14 → (stI M1 14 (upd (M1.1 14) 0 (k + 1))).1 p = M.1 p := fun p hp => (stI_ne _ _ (by omega)).trans (q7 p (by omega))
  have en : ∀ p, p < 14 → p ≠ 0 → N1.1 p = N.1 p := fun p hp p0 => q8 p (by omega) p0
  unfold dR
  rw [e1, e14]
  refine ⟨q5.trans h1, h2, q6.trans h3, h4, q4, by omega, h7.cg (fun p p1 p2 => eo p (by omega)) (fun p p1 p2 => en p (by omega) (by omega)), ?_, ?_, ?_⟩
  · unfold gR
    rw [eo 2 (by decide), eo 3 (by decide), en 5 (by decide) (by decide), en 2 (by decide) (by decide)]
    exact ⟨h8.1, h8.2.1, h8.2.2.1, h8.2.2.2.1, h8.2.2.2.2.cg (eo 4 (by decide)) (eo 5 (by decide)) (eo 6 (by decide)) (en 3 (by decide) (by decide)) (en 4 (by decide) (by decide)) (en 6 (by decide) (by decide))⟩
  · unfold hS
    rw [eo 9 (by decide)]
    exact h9
  · rw [tnS (by omega)]
    exact q9 h10
theorem rul13 {N : Mm} (h20 : N.1 0 20 = 12) : ∃ N' : Mm, q_ChipMapModel_readRule N = some (N', 0) ∧ flt N' ∧ ∀ M, rdR M N → rd0 M N' := by
  unfold q_ChipMapModel_readRule
  rw [h20, lq_s, if_pos rfl, wg_e, cal_s, bz_e0]
  exact ⟨_, rfl, wr_f, fun M h => h.z⟩
theorem ru_loop : ∀ (j n' m' : Nat) (M N : Mm) (k : Int32), 12 - k.toInt = (j : Int) → 0 ≤ k.toInt → j < n' → j < m' → rdR M N → dR M N → M.1 14 0 = k → f3 (q_Reader_readRules_2 n' M k) (q_ChipMapModel_readAll_38 m' N) jdY (fun M' N' => rdR M' N' ∧ dR M' N' ∧ M'.1 21 3 = M'.1 21 2) (fun M' _ => M'.1 21 3 ≠ M'.1 21 2) := by
  intro j
  induction j with
  | zero =>
    intro n' m' M N k hj k0 hn' hm' h hd hk
    obtain ⟨n', rfl⟩ : ∃ q, n' = q + 1 := ⟨n' - 1, by omega⟩
    obtain ⟨m', rfl⟩ : ∃ q, m' = q + 1 := ⟨m' - 1, by omega⟩
    have z12 : (12 : Int32).toInt = 12 := rfl
    have hl := h.2.2.2.2.2.2.1
    rw [q_Reader_readRules_2, q_ChipMapModel_readAll_38, if_pos (Int32.le_iff_toInt_le.mpr (by omega)), ← h.1, ← h.2.1]
    by_cases c : M.1 21 2 ≤ M.1 21 3
    · rw [if_pos c]
      exact Or.inr (Or.inl ⟨_, _, rfl, rfl, h, hd, Int32.toInt_inj.mp (by have := Int32.le_iff_toInt_le.mp c; omega)⟩)
    · rw [if_neg c]
      have e12 : k = 12 := Int32.toInt_inj.mp (by omega)
      obtain ⟨N4, q1, q2, q3⟩ := rul13 (N := N) (by rw [hd.2.2.2.2.1, hk, e12])
      rw [q1, cal_s, if_pos rfl]
      exact Or.inr (Or.inr ⟨_, _, rfl, rfl, q3 _ h, q2, fun z => c (by rw [z]; exact Int32.le_iff_toInt_le.mpr (Int.le_refl _))⟩)
  | succ j ih =>
    intro n' m' M N k hj k0 hn' hm' h hd hk
    obtain ⟨n', rfl⟩ : ∃ q, n' = q + 1 := ⟨n' - 1, by omega⟩
    obtain ⟨m', rfl⟩ : ∃ q, m' = q + 1 := ⟨m' - 1, by omega⟩
    have z12 : (12 : Int32).toInt = 12 := rfl
    have hl := h.2.2.2.2.2.2.1
    have ek : (k + 1).toInt = k.toInt + 1 := iadd rfl (rfl : (1 : Int32).toInt = 1) (by omega) (by omega)
    rw [q_Reader_readRules_2, q_ChipMapModel_readAll_38, if_neg (fun z => by have := Int32.le_iff_toInt_le.mp z; omega), ← h.1, ← h.2.1]
    by_cases c : M.1 21 2 ≤ M.1 21 3
    · rw [if_pos c, if_neg (fun z => by have := Int32.lt_iff_toInt_lt.mp z; have := Int32.le_iff_toInt_le.mp c; omega)]
      exact Or.inr (Or.inl ⟨_, _, rfl, rfl, h, hd, Int32.toInt_inj.mp (by have := Int32.le_iff_toInt_le.mp c; omega)⟩)
    · have cz : ¬ (M.1 21 2).toInt ≤ (M.1 21 3).toInt := fun z => c (Int32.le_iff_toInt_le.mpr z)
      rw [if_neg c, if_pos (Int32.lt_iff_toInt_lt.mpr (by omega))]
      obtain ⟨M1, r, N1, s, e1, e2, hq⟩ := rul_rel h (by rw [hd.2.2.2.2.1, hk]) (by omega)
      rw [e1, e2, cal_s, cal_s]
      have hq0 := hq
      rcases hq with hq | hq
      · rw [hq.1, hq.2.1, if_pos rfl, if_pos rfl]
        exact Or.inl ⟨_, _, rfl, rfl, hq.2.2⟩
      rw [hq.1, hq.2.1] at hq0
      rw [hq.1, hq.2.1, if_neg (by decide), if_neg (by decide), lq_s]
      exact ih n' m' _ N1 (k + 1) (by omega) (by omega) (by omega) (by omega) hq.2.2.1 (hd.nx hk (by omega) hq0) st_up
end
section
def tpR (M N : Mm) : Prop := M.1 21 2 = N.1 0 2 ∧ (∀ j : Nat, (j : Int) < (M.1 21 2).toInt → M.1 22 j = N.1 1 j) ∧ (0 ≤ (M.1 21 2).toInt ∧ (M.1 21 2).toInt ≤ 480) ∧ ∀ j, ((M.1 22 j).toUInt32 % 65536).toInt32 = M.1 22 j
theorem nlz {i : Nat} {P : Prop} (h : i < 0) : P := absurd h (Nat.not_lt_zero _)
theorem fR0 {M N : Mm} : fR 0 M N := ⟨fun _ h => nlz h, fun _ h => nlz h, fun _ h => nlz h, fun _ h => nlz h, fun _ h => nlz h, fun _ h => nlz h, fun _ h => nlz h, fun _ h => nlz h, fun _ h => nlz h, fun _ h => nlz h, fun _ h => nlz h, fun _ h => nlz h⟩
theorem gR0 {M N : Mm} : gR 0 M N := ⟨fun _ h => nlz h, fun _ h => nlz h, fun _ h => nlz h, fun _ h => nlz h, fun _ h => nlz h⟩
theorem ruR0 {M N : Mm} : ruR 0 M N := ⟨fun _ h => nlz h, fun _ h => nlz h, fun _ h => nlz h, fun _ h => nlz h, fun _ h => nlz h, fun _ h => nlz h, fun _ h => nlz h, fun _ h => nlz h, fun _ h => nlz h, fun _ h => nlz h, fun _ h => nlz h⟩
theorem hS0 {a : Int32} {M : Mm} : hS 0 a M := ⟨fun _ h => nlz h, fun _ _ _ h => nlz h⟩
theorem e41 (M : Mm) : q_Reader_readAll_41 M = some (stI M 21 (upd (M.1 21) 2 0), 0) := by
  unfold q_Reader_readAll_41 q_Reader_readAll_42
  rw [lq_s, bz_e0]
theorem e42 (M : Mm) : q_Reader_readAll_42 M 1 = some (stI M 21 (upd (M.1 21) 2 0), 1) := by
  unfold q_Reader_readAll_42
  rw [lq_s, bz_e1]
theorem rul_at {M N : Mm} (h : rdR M N) (c : hrX M = 64) : ∃ M' : Mm, q_Reader_readRules M = some (M', 0) ∧ M'.1 21 = M.1 21 := by
  have hz : (hrX M).toInt ≠ 0 := by rw [c]; decide
  have hl := hr_lt h hz
  unfold q_Reader_readRules
  show ∃ M' : Mm, q_Reader_readRules_2 (3999 + 1) M 0 = some (M', 0) ∧ M'.1 21 = M.1 21
  rw [q_Reader_readRules_2, if_neg (by decide), if_pos (Int32.lt_iff_toInt_lt.mpr hl)]
  unfold q_Reader_readRule
  have hx : vp_in (0 : Int32) 12 := vI (by decide)
  have h1 : rdR (stI M 19 (upd (M.1 19) (0 : Int32).toNatClampNeg (M.1 21 3))) N := h
  have e1 : nmv (hrX (stI M 19 (upd (M.1 19) (0 : Int32).toNatClampNeg (M.1 21 3)))) = -1 := by
    have e2 : hrX (stI M 19 (upd (M.1 19) (0 : Int32).toNatClampNeg (M.1 21 3))) = hrX M := rfl
    rw [e2, c]
    decide
  rw [ix_e hx, lq_s, nm_x h1, if_pos e1, cal_s, ix_e hx, lq_s, ix_e hx, if_pos st_up, cal_s, if_pos rfl]
  exact ⟨_, rfl, rfl⟩
theorem all_rel {M N : Mm} (h : tpR M N) (hz : nf N) : (∃ M' N' : Mm, q_Reader_readAll M = some (M', 0) ∧ q_ChipMapModel_readAll N = some (N', 0) ∧ M'.1 21 3 = N'.1 0 3 ∧ flt N') ∨ (∃ M' N' : Mm, q_Reader_readAll M = some (M', 1) ∧ q_ChipMapModel_readAll N = jdY N' ∧ dR M' N' ∧ nf N') := by
  unfold q_Reader_readAll q_Draft_clear q_ChipMapModel_readAll
  rw [lq_s, lq_s, lq_s, cal_s, lq_s, lq_s, lq_s, lq_s, lq_s]
  obtain ⟨M3, eM3⟩ : ∃ z, z = stI (stI (stI (stI M 1 (upd (M.1 1) 0 0)) 1 (upd ((stI M 1 (upd (M.1 1) 0 0)).1 1) 6 0)) 14 (upd ((stI (stI M 1 (upd (M.1 1) 0 0)) 1 (upd ((stI M 1 (upd (M.1 1) 0 0)).1 1) 6 0)).1 14) 0 0)) 21 (upd ((stI (stI (stI M 1 (upd (M.1 1) 0 0)) 1 (upd ((stI M 1 (upd (M.1 1) 0 0)).1 1) 6 0)) 14 (upd ((stI (stI M 1 (upd (M.1 1) 0 0)) 1 (upd ((stI M 1 (upd (M.1 1) 0 0)).1 1) 6 0)).1 14) 0 0)).1 21) 3 0) := ⟨_, rfl⟩
  rw [← eM3]
  obtain ⟨N4, eN4⟩ : ∃ z, z = stI (stI (stI (stI N 0 (upd (N.1 0) 3 0)) 0 (upd ((stI N 0 (upd (N.1 0) 3 0)).1 0) 6 0)) 0 (upd ((stI (stI N 0 (upd (N.1 0) 3 0)) 0 (upd ((stI N 0 (upd (N.1 0) 3 0)).1 0) 6 0)).1 0) 12 0)) 0 (upd ((stI (stI (stI N 0 (upd (N.1 0) 3 0)) 0 (upd ((stI N 0 (upd (N.1 0) 3 0)).1 0) 6 0)) 0 (upd ((stI (stI N 0 (upd (N.1 0) 3 0)) 0 (upd ((stI N 0 (upd (N.1 0) 3 0)).1 0) 6 0)).1 0) 12 0)).1 0) 20 0) := ⟨_, rfl⟩
  rw [← eN4]
  have z0 : (0 : Int32).toInt = 0 := rfl
  have h3 : rdR M3 N4 := by
    subst eM3 eN4
    exact ⟨rfl, h.1, h.2.1, (by decide : 0 ≤ (0 : Int32).toInt ∧ (0 : Int32).toInt ≤ 480), h.2.2.1, h.2.2.2, h.2.2.1.1, hz⟩
  have e16 : M3.1 1 6 = 0 := by subst eM3; rfl
  have hs : stP M3 N4 0 := by
    unfold stP
    rw [e16]
    exact ⟨h3, by subst eN4; rfl, by subst eN4; rfl, by decide, by subst eN4; rfl, by subst eM3; rfl, fR0, gR0, hS0⟩
  have er : q_Reader_readRegisters M3 = q_Reader_readRegisters_24 (q_Reader_readRegisters_2 3999) M3 0 := by
    show q_Reader_readRegisters_2 (3999 + 1) M3 0 = _
    rw [q_Reader_readRegisters_2, if_neg (by decide), if_pos (by decide)]
  rw [er]
  rcases rg_loop 16 3999 4000 M3 N4 0 (by decide) (by decide) (by decide) (by decide) (by decide) hs with ⟨M5, N5, e1, e2, h5, hf⟩ | ⟨M5, N5, e1, e2, h5, hr1, hr2⟩ | ⟨M5, N5, e1, e2, h5, hf, hc, N0, h0⟩
  · rw [e1, e2, cal_s, if_pos rfl, e41]
    exact Or.inl ⟨_, _, rfl, rfl, h5.1, hf⟩
  · rw [e1, e2, cal_s, if_neg (by decide)]
    obtain ⟨s1, s2, s3, s4, s5, s6, s7, s8, s9⟩ := h5
    have hd : dR M5 N5 := by
      unfold dR
      rw [s6]
      exact ⟨s2, ⟨hr1, hr2⟩, s3, ⟨s4.1, by omega⟩, s5, by decide, s7, s8, s9, ruR0⟩
    unfold q_Reader_readRules
    rcases ru_loop 12 4000 4000 M5 N5 0 (by decide) (by decide) (by decide) (by decide) s1 hd s6 with ⟨M6, N6, e3, e4, h6, hf⟩ | ⟨M6, N6, e3, e4, h6, hd6, hl⟩ | ⟨M6, N6, e3, e4, h6, hf, hl⟩
    · rw [e3, e4, cal_s, if_pos rfl, e41]
      exact Or.inl ⟨_, _, rfl, rfl, h6.1, hf⟩
    · rw [e3, e4, cal_s, if_neg (by decide), if_pos hl, e42]
      exact Or.inr ⟨_, _, rfl, rfl, hd6, h6.f⟩
    · rw [e3, e4, cal_s, if_neg (by decide), if_neg hl, e41]
      exact Or.inl ⟨_, _, rfl, rfl, h6.1, hf⟩
  · rw [e1, e2, cal_s, if_neg (by decide)]
    obtain ⟨M6, e3, e4⟩ := rul_at h0 hc
    rw [e3, cal_s, if_pos rfl, e41]
    refine Or.inl ⟨_, _, rfl, rfl, ?_, hf⟩
    show M6.1 21 3 = _
    rw [e4]
    exact h5.1
end
section
def tb (x : Int32) (b : Nat) : Bool := x.toBitVec.getLsbD b
theorem tb_and {x y : Int32} {b : Nat} : tb (x &&& y) b = (tb x b && tb y b) := by
  unfold tb
  rw [Int32.toBitVec_and, BitVec.getLsbD_and]
theorem tb_or {x y : Int32} {b : Nat} : tb (x ||| y) b = (tb x b || tb y b) := by
  unfold tb
  rw [Int32.toBitVec_or, BitVec.getLsbD_or]
theorem tb_0 {b : Nat} : tb 0 b = false := by
  unfold tb
  show (0#32).getLsbD b = false
  exact BitVec.getLsbD_zero
theorem tb_ext {x y : Int32} (h : ∀ b, b < 32 → tb x b = tb y b) : x = y := by
  apply Int32.toBitVec_inj.mp
  exact BitVec.eq_of_getLsbD_eq (fun b hb => h b hb)
theorem tb_32 {x : Int32} {b : Nat} (h : 32 ≤ b) : tb x b = false := BitVec.getLsbD_of_ge _ _ h
theorem of_i {v : Int32} (h : 0 ≤ v.toInt) : v = Int32.ofNat v.toInt.toNat := by
  apply Int32.toInt_inj.mp
  have := v.toInt_lt
  rw [Int32.toInt_ofNat_of_lt (by omega)]
  omega
def mkm (lo hi : Int32) : Int32 := (((((1 : Int32) <<< (((hi - lo) + 1) &&& 31)) - 1) : Int32) <<< (lo &&& 31))
set_option maxRecDepth 20000 in
theorem mk_fin : ∀ lo hi : Fin 16, lo.val ≤ hi.val → (mkm (Int32.ofNat lo.val) (Int32.ofNat hi.val)).toBitVec = BitVec.ofNat 32 ((2 ^ (hi.val + 1 - lo.val) - 1) <<< lo.val) := by decide
theorem tb_mk {lo hi : Int32} {b : Nat} (h : 0 ≤ lo.toInt ∧ lo.toInt ≤ hi.toInt ∧ hi.toInt ≤ 15) : tb (mkm lo hi) b = decide (lo.toInt ≤ (b : Int) ∧ (b : Int) ≤ hi.toInt) := by
  have k := mk_fin ⟨lo.toInt.toNat, by omega⟩ ⟨hi.toInt.toNat, by omega⟩ (show lo.toInt.toNat ≤ hi.toInt.toNat by omega)
  have k2 : (mkm lo hi).toBitVec = BitVec.ofNat 32 ((2 ^ (hi.toInt.toNat + 1 - lo.toInt.toNat) - 1) <<< lo.toInt.toNat) := by
    rw [of_i h.1, of_i (Int.le_trans h.1 h.2.1), ← of_i h.1, ← of_i (Int.le_trans h.1 h.2.1)]
    rw [← of_i h.1, ← of_i (Int.le_trans h.1 h.2.1)] at k
    exact k
  unfold tb
  rw [k2, BitVec.getLsbD_ofNat, Nat.testBit_shiftLeft, Nat.testBit_two_pow_sub_one]
  by_cases c : lo.toInt ≤ (b : Int) ∧ (b : Int) ≤ hi.toInt
  · have a1 : b < 32 := by omega
    have a2 : b ≥ lo.toInt.toNat := by omega
    have a3 : b - lo.toInt.toNat < hi.toInt.toNat + 1 - lo.toInt.toNat := by omega
    rw [decide_eq_true a1, decide_eq_true a2, decide_eq_true a3, decide_eq_true c]
    rfl
  · have a4 : ¬ (b ≥ lo.toInt.toNat ∧ b - lo.toInt.toNat < hi.toInt.toNat + 1 - lo.toInt.toNat) := by omega
    by_cases a2 : b ≥ lo.toInt.toNat
    · have a3 : ¬ b - lo.toInt.toNat < hi.toInt.toNat + 1 - lo.toInt.toNat := fun z => a4 ⟨a2, z⟩
      rw [decide_eq_false a3, decide_eq_false c, Bool.and_false, Bool.and_false]
    · rw [decide_eq_false a2, decide_eq_false c, Bool.false_and, Bool.and_false]
theorem and_0 {x y : Int32} : x &&& y = 0 ↔ ∀ b, ¬ (tb x b = true ∧ tb y b = true) := by
  constructor
  · intro h b hb
    have e := congrArg (fun z => tb z b) h
    simp only [tb_and, tb_0, hb.1, hb.2] at e
    exact absurd e (by decide)
  · intro h
    refine tb_ext (fun b _ => ?_)
    rw [tb_and, tb_0]
    have := h b
    cases hx : tb x b <;> cases hy : tb y b <;> simp_all
def fs (n : Nat) (f : Nat → Int32) (c r : Int32) : Prop := (r = -1 ∧ ∀ j : Nat, j < n → f j ≠ c) ∨ ((0 ≤ r.toInt ∧ r.toNatClampNeg < n) ∧ f r.toNatClampNeg = c ∧ ∀ j : Nat, j < r.toNatClampNeg → f j ≠ c)
theorem fs_u {n : Nat} {f g : Nat → Int32} {c r s : Int32} (h : fs n f c r) (k : fs n g c s) (e : eqTo n f g) : r = s := by
  rcases h with ⟨h1, h2⟩ | ⟨h1, h2, h3⟩
  · rcases k with ⟨k1, k2⟩ | ⟨k1, k2, k3⟩
    · rw [h1, k1]
    · exact absurd ((e _ k1.2).trans k2) (h2 _ k1.2)
  · rcases k with ⟨k1, k2⟩ | ⟨k1, k2, k3⟩
    · exact absurd ((e _ h1.2).symm.trans h2) (k2 _ h1.2)
    · have t1 := tnc h1.1
      have t2 := tnc k1.1
      by_cases a : r.toNatClampNeg < s.toNatClampNeg
      · exact absurd ((e _ h1.2).symm.trans h2) (k3 _ a)
      by_cases b : s.toNatClampNeg < r.toNatClampNeg
      · exact absurd ((e _ k1.2).trans k2) (h3 _ b)
      exact Int32.toInt_inj.mp (by omega)
theorem row_l {M : Mm} {c : Int32} (hn : 0 ≤ (M.1 1 6).toInt ∧ (M.1 1 6).toInt ≤ 128) : ∀ (j n' : Nat) (i : Int32), (M.1 1 6).toInt - i.toInt = (j : Int) → 0 ≤ i.toInt → j < n' → (∀ q : Nat, q < i.toNatClampNeg → M.1 7 q ≠ c) → ∃ r, q_Draft_rowOf_2 n' M c i = some (M, r) ∧ fs (M.1 1 6).toNatClampNeg (M.1 7) c r := by
  intro j
  induction j with
  | zero =>
    intro n' i hj i0 hn' hq
    obtain ⟨n', rfl⟩ : ∃ q, n' = q + 1 := ⟨n' - 1, by omega⟩
    rw [q_Draft_rowOf_2, if_pos (Int32.le_iff_toInt_le.mpr (by omega))]
    have t1 := tnc i0
    have t2 := tnc hn.1
    exact ⟨-1, rfl, Or.inl ⟨rfl, fun q hq2 => hq q (by omega)⟩⟩
  | succ j ih =>
    intro n' i hj i0 hn' hq
    obtain ⟨n', rfl⟩ : ∃ q, n' = q + 1 := ⟨n' - 1, by omega⟩
    have t1 := tnc i0
    have t2 := tnc hn.1
    rw [q_Draft_rowOf_2, if_neg (fun z => by have := Int32.le_iff_toInt_le.mp z; omega), ix_e (vI (by omega))]
    by_cases e : M.1 7 i.toNatClampNeg = c
    · rw [if_pos e]
      exact ⟨i, rfl, Or.inr ⟨⟨i0, by omega⟩, e, hq⟩⟩
    · rw [if_neg e]
      have ez : (i + 1).toInt = i.toInt + 1 := iadd rfl (rfl : (1 : Int32).toInt = 1) (by omega) (by omega)
      have es : (i + 1).toNatClampNeg = i.toNatClampNeg + 1 := tnS (by omega)
      refine ih n' (i + 1) (by omega) (by omega) (by omega) (fun q hq2 => ?_)
      by_cases d : q = i.toNatClampNeg
      · rw [d]; exact e
      · exact hq q (by omega)
theorem row_s {M : Mm} (hn : 0 ≤ (M.1 1 6).toInt ∧ (M.1 1 6).toInt ≤ 128) (c : Int32) : ∃ r, q_Draft_rowOf M c = some (M, r) ∧ fs (M.1 1 6).toNatClampNeg (M.1 7) c r := by
  have z0 : (0 : Int32).toInt = 0 := rfl
  exact row_l hn (M.1 1 6).toInt.toNat 4000 0 (by omega) (by omega) (by omega) (fun q hq => nlz hq)
theorem nmd_l {N : Mm} {c n : Int32} (hn : 0 ≤ n.toInt ∧ n.toInt ≤ 128) : ∀ (j n' : Nat) (i : Int32), n.toInt - i.toInt = (j : Int) → 0 ≤ i.toInt → j < n' → (∀ q : Nat, q < i.toNatClampNeg → N.1 7 q ≠ c) → ∃ r, q_ChipMapModel_named_2 n' N c n i = some (N, r) ∧ fs n.toNatClampNeg (N.1 7) c r := by
  intro j
  induction j with
  | zero =>
    intro n' i hj i0 hn' hq
    obtain ⟨n', rfl⟩ : ∃ q, n' = q + 1 := ⟨n' - 1, by omega⟩
    rw [q_ChipMapModel_named_2, if_pos (Int32.le_iff_toInt_le.mpr (by omega))]
    have t1 := tnc i0
    have t2 := tnc hn.1
    exact ⟨-1, rfl, Or.inl ⟨rfl, fun q hq2 => hq q (by omega)⟩⟩
  | succ j ih =>
    intro n' i hj i0 hn' hq
    obtain ⟨n', rfl⟩ : ∃ q, n' = q + 1 := ⟨n' - 1, by omega⟩
    have t1 := tnc i0
    have t2 := tnc hn.1
    rw [q_ChipMapModel_named_2, if_neg (fun z => by have := Int32.le_iff_toInt_le.mp z; omega), ix_e (vI (by omega))]
    by_cases e : N.1 7 i.toNatClampNeg = c
    · rw [if_pos e]
      exact ⟨i, rfl, Or.inr ⟨⟨i0, by omega⟩, e, hq⟩⟩
    · rw [if_neg e]
      have ez : (i + 1).toInt = i.toInt + 1 := iadd rfl (rfl : (1 : Int32).toInt = 1) (by omega) (by omega)
      have es : (i + 1).toNatClampNeg = i.toNatClampNeg + 1 := tnS (by omega)
      refine ih n' (i + 1) (by omega) (by omega) (by omega) (fun q hq2 => ?_)
      by_cases d : q = i.toNatClampNeg
      · rw [d]; exact e
      · exact hq q (by omega)
theorem nmd_s {N : Mm} {n : Int32} (hn : 0 ≤ n.toInt ∧ n.toInt ≤ 128) (c : Int32) : ∃ r, q_ChipMapModel_named N c n = some (N, r) ∧ fs n.toNatClampNeg (N.1 7) c r := by
  have z0 : (0 : Int32).toInt = 0 := rfl
  exact nmd_l hn n.toInt.toNat 4000 0 (by omega) (by omega) (by omega) (fun q hq => nlz hq)
theorem nam_rel {M N : Mm} (h : dR M N) (c : Int32) : ∃ r, q_Draft_rowOf M c = some (M, r) ∧ q_ChipMapModel_named N c (N.1 0 12) = some (N, r) ∧ (r = -1 ∨ (0 ≤ r.toInt ∧ r.toNatClampNeg < (M.1 1 6).toNatClampNeg)) := by
  obtain ⟨h1, h2, h3, h4, h5, h6, h7, h8, h9, h10⟩ := h
  obtain ⟨r, e1, f1⟩ := row_s h4 c
  obtain ⟨s, e2, f2⟩ := nmd_s (N := N) (n := M.1 1 6) h4 c
  have e := fs_u f1 f2 h7.1
  rw [h3]
  refine ⟨r, e1, by rw [e]; exact e2, ?_⟩
  rcases f1 with f1 | f1
  · exact Or.inl f1.1
  · exact Or.inr f1.1
end
section
def jZ (M N : Mm) (k : Int32) (x y z : Rs) : Prop := (x = some (M, -1) ∧ y = z) ∨ ∃ v : Int32, 0 ≤ v.toInt ∧ x = some (M, v) ∧ y = some (wrY N k v, 0)
theorem acE {v : Int32} (h : 0 ≤ v.toInt ∧ v.toInt < 7) : (v = 0 ↔ sB 0 v.toNatClampNeg = 119) ∧ (v = 1 ↔ sB 0 v.toNatClampNeg = 114) ∧ (v = 2 ↔ sB 0 v.toNatClampNeg = 111) ∧ (v = 3 ↔ sB 0 v.toNatClampNeg = 99) := by
  have key : ∀ k : Fin 7, (Int32.ofNat k.val = 0 ↔ sB 0 k.val = 119) ∧ (Int32.ofNat k.val = 1 ↔ sB 0 k.val = 114) ∧ (Int32.ofNat k.val = 2 ↔ sB 0 k.val = 111) ∧ (Int32.ofNat k.val = 3 ↔ sB 0 k.val = 99) := by decide
  have k := key ⟨v.toInt.toNat, by omega⟩
  have e : v.toNatClampNeg = v.toInt.toNat := rfl
  rw [e]
  rw [← of_i h.1] at k
  exact k
theorem sgE {v : Int32} (h : 0 ≤ v.toInt ∧ v.toInt < 3) : v = 1 ↔ sB 1 v.toNatClampNeg = 38 := by
  have key : ∀ k : Fin 3, (Int32.ofNat k.val = 1 ↔ sB 1 k.val = 38) := by decide
  have k := key ⟨v.toInt.toNat, by omega⟩
  have e : v.toNatClampNeg = v.toInt.toNat := rfl
  rw [e]
  rw [← of_i h.1] at k
  exact k
theorem fit_rel {M N : Mm} (h : dR M N) {r v : Int32} (hr : 0 ≤ r.toInt ∧ r.toNatClampNeg < (M.1 1 6).toNatClampNeg) : ∃ t, q_Draft_fits M r v = some (M, t) ∧ q_ChipMapModel_fits N r v = some (N, t) ∧ (t = 0 ∨ t = 1) := by
  obtain ⟨h1, h2, h3, h4, h5, h6, h7, h8, h9, h10⟩ := h
  have t1 := tnc hr.1
  have t2 := tnc h4.1
  have hx : vp_in r 128 := vI (by omega)
  have hy : vp_in r 140 := vI (by omega)
  unfold q_Draft_fits q_ChipMapModel_fits
  rw [ix_e hx, ix_e hx, ix_e hy, ix_e hy, ← h7.2.2.2.2.1 _ hr.2, ← h7.2.2.2.2.2.1 _ hr.2]
  split
  · exact ⟨1, rfl, rfl, Or.inr rfl⟩
  · exact ⟨0, rfl, rfl, Or.inl rfl⟩
theorem wri_rel {M N : Mm} (h : dR M N) {r : Int32} (hr : r = -1 ∨ (0 ≤ r.toInt ∧ r.toNatClampNeg < (M.1 1 6).toNatClampNeg)) : ∃ t, q_Judge_isWritable M r = some (M, t) ∧ q_ChipMapModel_isLooked N r = some (N, t) ∧ (t = 0 ∨ t = 1) := by
  obtain ⟨h1, h2, h3, h4, h5, h6, h7, h8, h9, h10⟩ := h
  unfold q_Judge_isWritable q_ChipMapModel_isLooked
  rcases hr with hr | hr
  · rw [if_pos hr, if_pos hr]
    exact ⟨0, rfl, rfl, Or.inl rfl⟩
  have t1 := tnc hr.1
  have t2 := tnc h4.1
  have em : (-1 : Int32).toInt = -1 := by decide
  have hx : vp_in r 128 := vI (by omega)
  have hy : vp_in r 140 := vI (by omega)
  have n1 : ¬ r = -1 := fun z => by rw [z] at hr; omega
  have ha := h7.2.2.2.1 _ hr.2
  have hc := acE ha.1
  rw [ha.2] at hc
  rw [if_neg n1, if_neg n1, ix_e hx, ix_e hx, ix_e hy, ix_e hy]
  by_cases c1 : M.1 10 r.toNatClampNeg = 1
  · rw [if_pos c1, if_pos (hc.2.1.mp c1)]
    exact ⟨0, rfl, rfl, Or.inl rfl⟩
  rw [if_neg c1, if_neg (fun z => c1 (hc.2.1.mpr z))]
  by_cases c3 : M.1 10 r.toNatClampNeg = 3
  · rw [if_pos c3, if_pos (hc.2.2.2.mp c3)]
    exact ⟨0, rfl, rfl, Or.inl rfl⟩
  rw [if_neg c3, if_neg (fun z => c3 (hc.2.2.2.mpr z))]
  exact ⟨1, rfl, rfl, Or.inr rfl⟩
theorem bb_loop {M N : Mm} (h : dR M N) : ∀ (j n' m' : Nat) (i : Int32), (M.1 1 0).toInt - i.toInt = (j : Int) → 0 ≤ i.toInt → j < n' → j < m' → jZ M N 3 (q_Judge_badBank_2 n' M i) (q_ChipMapModel_registersRight_2 m' N i) (q_ChipMapModel_registersRight_103 4000 N 0) := by
  intro j
  induction j with
  | zero =>
    intro n' m' i hj i0 hn' hm'
    obtain ⟨n', rfl⟩ : ∃ q, n' = q + 1 := ⟨n' - 1, by omega⟩
    obtain ⟨m', rfl⟩ : ∃ q, m' = q + 1 := ⟨m' - 1, by omega⟩
    have c : M.1 1 0 ≤ i := Int32.le_iff_toInt_le.mpr (by omega)
    rw [q_Judge_badBank_2, q_ChipMapModel_registersRight_2, h.1, if_pos c, if_pos c]
    exact Or.inl ⟨rfl, rfl⟩
  | succ j ih =>
    intro n' m' i hj i0 hn' hm'
    obtain ⟨n', rfl⟩ : ∃ q, n' = q + 1 := ⟨n' - 1, by omega⟩
    obtain ⟨m', rfl⟩ : ∃ q, m' = q + 1 := ⟨m' - 1, by omega⟩
    have h0 := h
    obtain ⟨h1, h2, h3, h4, h5, h6, h7, h8, h9, h10⟩ := h0
    have ez : (i + 1).toInt = i.toInt + 1 := iadd rfl (rfl : (1 : Int32).toInt = 1) (by omega) (by omega)
    have t1 := tnc i0
    have t2 := tnc (Int.le_trans (by decide : (0 : Int) ≤ 1) h2.1)
    have t3 := tnc h4.1
    have hx : vp_in i 16 := vI (by omega)
    have hy : vp_in i 17 := vI (by omega)
    have c : ¬ M.1 1 0 ≤ i := fun z => by have := Int32.le_iff_toInt_le.mp z; omega
    have hb := h8.2.2.2.2 i.toNatClampNeg (by omega)
    have hI := ih n' m' (i + 1) (by omega) (by omega) (by omega) (by omega)
    rw [q_Judge_badBank_2, q_ChipMapModel_registersRight_2, h1, if_neg c, if_neg c, ix_e hx, ix_e hx, ix_e hy, ix_e hy, ← hb.1]
    by_cases cb : M.1 4 i.toNatClampNeg = -1
    · rw [if_pos cb, if_pos cb]
      exact hI
    rw [if_neg cb, if_neg cb]
    have hb2 := hb.2.2 cb
    obtain ⟨r, e1, e2, hr⟩ := nam_rel h (M.1 4 i.toNatClampNeg)
    have em : (-1 : Int32).toInt = -1 := by decide
    have eW : q_ChipMapModel_registersRight_83 N i = some (wrY N 3 (M.1 5 i.toNatClampNeg), 0) := by
      unfold q_ChipMapModel_registersRight_83
      rw [ix_e hy, wg_e, cal_s, bz_e0, hb2.1]
    have bad : jZ M N 3 (some (M, M.1 5 i.toNatClampNeg)) (q_ChipMapModel_registersRight_83 N i) (q_ChipMapModel_registersRight_103 4000 N 0) := Or.inr ⟨_, hb2.2.2.1, rfl, eW⟩
    rw [e1, e2, cal_s, cal_s, ix_e hx]
    unfold q_Judge_canBeBank
    rcases hr with hr | hr
    · rw [if_pos hr, if_pos hr, cal_s, if_pos rfl, ix_e hx]
      exact bad
    have n1 : ¬ r = -1 := fun z => by rw [z] at hr; omega
    have t4 := tnc hr.1
    have hrx : vp_in r 128 := vI (by omega)
    have hry : vp_in r 140 := vI (by omega)
    have ha := h7.2.2.2.1 _ hr.2
    have hc := acE ha.1
    rw [ha.2] at hc
    rw [if_neg n1, if_neg n1, ix_e hrx, ix_e hry]
    by_cases c0 : M.1 10 r.toNatClampNeg = 0
    rotate_left
    · rw [if_neg c0, if_neg (fun z => c0 (hc.1.mpr z)), cal_s, if_pos rfl, ix_e hx]
      exact bad
    rw [if_pos c0, if_pos (hc.1.mp c0), ix_e hrx, ix_e hry, ← h7.2.2.1 _ hr.2]
    have hh := h9.1 _ hr.2
    have t5 := tnc hh.1
    have hb3 := h8.2.2.2.2 (M.1 9 r.toNatClampNeg).toNatClampNeg (by omega)
    rw [ix_e (vI (by omega)), ix_e (vI (by omega)), ← hb3.1]
    by_cases c4 : M.1 4 (M.1 9 r.toNatClampNeg).toNatClampNeg = -1
    rotate_left
    · rw [if_neg c4, if_neg c4, cal_s, if_pos rfl, ix_e hx]
      exact bad
    rw [if_pos c4, if_pos c4, ix_e hy, ← hb2.2.1]
    obtain ⟨t, q1, q2, ht⟩ := fit_rel h (v := M.1 6 i.toNatClampNeg) hr
    rw [q1, q2, cal_s, cal_s]
    rcases ht with ht | ht
    · rw [ht, if_pos rfl, if_pos rfl, cal_s, if_pos rfl, ix_e hx]
      exact bad
    · rw [ht, if_neg (by decide), if_neg (by decide), cal_s, if_neg (by decide)]
      exact hI
theorem ap_rel {M N : Mm} (h : dR M N) {kx : Mm → Int32 → Rs} {ky : Mm → Int32 → Int32 → Rs} {r q : Int32} (hr : 0 ≤ r.toInt ∧ r.toInt < (M.1 1 0).toInt) (hq : 0 ≤ q.toInt ∧ q.toInt < (M.1 1 0).toInt) : ∃ t, q_Judge_areApart M r q = some (M, t) ∧ (ix r 17 <| if (N.1 3 (r : Int32).toNatClampNeg) = (-1) then (q_ChipMapModel_registersRight_162 kx ky N r q) else (ix q 17 <| ix r 17 <| if (N.1 3 (q : Int32).toNatClampNeg) = (N.1 3 (r : Int32).toNatClampNeg) then (ix q 17 <| ix r 17 <| if (N.1 4 (q : Int32).toNatClampNeg) = (N.1 4 (r : Int32).toNatClampNeg) then (q_ChipMapModel_registersRight_162 kx ky N r q) else (q_ChipMapModel_registersRight_163 kx ky N r q 1)) else (q_ChipMapModel_registersRight_162 kx ky N r q))) = q_ChipMapModel_registersRight_163 kx ky N r q t ∧ (t = 0 ∨ t = 1) := by
  obtain ⟨h1, h2, h3, h4, h5, h6, h7, h8, h9, h10⟩ := h
  have t1 := tnc hr.1
  have t2 := tnc hq.1
  have t3 := tnc (Int.le_trans (by decide : (0 : Int) ≤ 1) h2.1)
  have hx : vp_in r 16 := vI (by omega)
  have hy : vp_in r 17 := vI (by omega)
  have gx : vp_in q 16 := vI (by omega)
  have gy : vp_in q 17 := vI (by omega)
  have hb := h8.2.2.2.2 r.toNatClampNeg (by omega)
  have gb := h8.2.2.2.2 q.toNatClampNeg (by omega)
  unfold q_Judge_areApart
  rw [ix_e hx, ix_e hx, ix_e gx, ix_e hx, ix_e gx, ix_e hy, ix_e gy, ix_e hy, ix_e gy, ix_e hy, ← hb.1, ← gb.1]
  by_cases c1 : M.1 4 r.toNatClampNeg = -1
  · rw [if_pos c1, if_pos c1]
    exact ⟨0, rfl, rfl, Or.inl rfl⟩
  rw [if_neg c1, if_neg c1]
  by_cases c2 : M.1 4 r.toNatClampNeg = M.1 4 q.toNatClampNeg
  rotate_left
  · rw [if_neg c2, if_neg (fun z => c2 z.symm)]
    exact ⟨0, rfl, rfl, Or.inl rfl⟩
  rw [if_pos c2, if_pos c2.symm, ← (hb.2.2 c1).2.1, ← (gb.2.2 (fun z => c1 (c2.trans z))).2.1]
  by_cases c3 : M.1 6 r.toNatClampNeg = M.1 6 q.toNatClampNeg
  · rw [if_pos c3, if_pos c3.symm]
    exact ⟨0, rfl, rfl, Or.inl rfl⟩
  · rw [if_neg c3, if_neg (fun z => c3 z.symm)]
    exact ⟨1, rfl, rfl, Or.inr rfl⟩
theorem bi_loop {M N : Mm} (h : dR M N) {kx ky : Mm → Int32 → Rs} {r : Int32} (hr : 0 ≤ r.toInt ∧ r.toInt < (M.1 1 0).toInt) (hk : jZ M N 3 (kx M (r + 1)) (ky N (r + 1)) (some (N, 1))) : ∀ (j n' m' : Nat) (q : Int32), r.toInt - q.toInt = (j : Int) → 0 ≤ q.toInt → j < n' → j < m' → jZ M N 3 (q_Judge_badOffset_15 kx n' M r q) (q_ChipMapModel_registersRight_113 ky m' N r q) (some (N, 1)) := by
  intro j
  induction j with
  | zero =>
    intro n' m' q hj q0 hn' hm'
    obtain ⟨n', rfl⟩ : ∃ q, n' = q + 1 := ⟨n' - 1, by omega⟩
    obtain ⟨m', rfl⟩ : ∃ q, m' = q + 1 := ⟨m' - 1, by omega⟩
    have c : r ≤ q := Int32.le_iff_toInt_le.mpr (by omega)
    rw [q_Judge_badOffset_15, q_ChipMapModel_registersRight_113, if_pos c, if_pos c]
    exact hk
  | succ j ih =>
    intro n' m' q hj q0 hn' hm'
    obtain ⟨n', rfl⟩ : ∃ q, n' = q + 1 := ⟨n' - 1, by omega⟩
    obtain ⟨m', rfl⟩ : ∃ q, m' = q + 1 := ⟨m' - 1, by omega⟩
    have h0 := h
    obtain ⟨h1, h2, h3, h4, h5, h6, h7, h8, h9, h10⟩ := h0
    have ez : (q + 1).toInt = q.toInt + 1 := iadd rfl (rfl : (1 : Int32).toInt = 1) (by omega) (by omega)
    have t1 := tnc hr.1
    have t2 := tnc q0
    have t3 := tnc (Int.le_trans (by decide : (0 : Int) ≤ 1) h2.1)
    have hx : vp_in r 16 := vI (by omega)
    have hy : vp_in r 17 := vI (by omega)
    have gx : vp_in q 16 := vI (by omega)
    have gy : vp_in q 17 := vI (by omega)
    have c : ¬ r ≤ q := fun z => by have := Int32.le_iff_toInt_le.mp z; omega
    have hI := ih n' m' (q + 1) (by omega) (by omega) (by omega) (by omega)
    obtain ⟨t, e1, e2, ht⟩ := ap_rel h (kx := ky) (ky := q_ChipMapModel_registersRight_113 ky m') hr (q := q) (by omega)
    rw [q_Judge_badOffset_15, q_ChipMapModel_registersRight_113, if_neg c, if_neg c, e2, e1, cal_s]
    unfold q_ChipMapModel_registersRight_163
    rw [ix_e hx, ix_e gx, ix_e gy, ix_e hy, ← h8.2.1 r.toNatClampNeg (by omega), ← h8.2.1 q.toNatClampNeg (by omega)]
    by_cases c3 : M.1 3 r.toNatClampNeg = M.1 3 q.toNatClampNeg
    rotate_left
    · rw [if_neg c3, if_neg (fun z => c3 z.symm)]
      exact hI
    rw [if_pos c3, if_pos c3.symm]
    rcases ht with ht | ht
    · rw [ht, if_pos rfl, if_pos rfl, ix_e hx, ix_e hy, wg_e, cal_s, bz_e0, ← h8.1 r.toNatClampNeg (by omega)]
      exact Or.inr ⟨_, (h8.2.2.1 r.toNatClampNeg (by omega)).1, rfl, rfl⟩
    · rw [ht, if_neg (by decide), if_neg (by decide)]
      exact hI
theorem bo_loop {M N : Mm} (h : dR M N) : ∀ (j n' m' : Nat) (i : Int32), (M.1 1 0).toInt - i.toInt = (j : Int) → 0 ≤ i.toInt → j < n' → j < m' → jZ M N 3 (q_Judge_badOffset_2 n' M i) (q_ChipMapModel_registersRight_103 m' N i) (some (N, 1)) := by
  intro j
  induction j with
  | zero =>
    intro n' m' i hj i0 hn' hm'
    obtain ⟨n', rfl⟩ : ∃ q, n' = q + 1 := ⟨n' - 1, by omega⟩
    obtain ⟨m', rfl⟩ : ∃ q, m' = q + 1 := ⟨m' - 1, by omega⟩
    have c : M.1 1 0 ≤ i := Int32.le_iff_toInt_le.mpr (by omega)
    rw [q_Judge_badOffset_2, q_ChipMapModel_registersRight_103, h.1, if_pos c, if_pos c]
    exact Or.inl ⟨rfl, rfl⟩
  | succ j ih =>
    intro n' m' i hj i0 hn' hm'
    obtain ⟨n', rfl⟩ : ∃ q, n' = q + 1 := ⟨n' - 1, by omega⟩
    obtain ⟨m', rfl⟩ : ∃ q, m' = q + 1 := ⟨m' - 1, by omega⟩
    have h2 := h.2.1
    have ez : (i + 1).toInt = i.toInt + 1 := iadd rfl (rfl : (1 : Int32).toInt = 1) (by omega) (by omega)
    have z0 : (0 : Int32).toInt = 0 := rfl
    have c : ¬ M.1 1 0 ≤ i := fun z => by have := Int32.le_iff_toInt_le.mp z; omega
    rw [q_Judge_badOffset_2, q_ChipMapModel_registersRight_103, h.1, if_neg c, if_neg c]
    exact bi_loop h (by omega) (ih n' m' (i + 1) (by omega) (by omega) (by omega) (by omega)) i.toInt.toNat 4000 4000 0 (by omega) (by omega) (by omega) (by omega)
theorem bo_rel {M N : Mm} (h : dR M N) : jZ M N 3 (q_Judge_badOffset M) (q_ChipMapModel_registersRight_103 4000 N 0) (some (N, 1)) := by
  have h2 := h.2.1
  have z0 : (0 : Int32).toInt = 0 := rfl
  have z1 : (1 : Int32).toInt = 1 := rfl
  have e : q_ChipMapModel_registersRight_103 4000 N 0 = q_ChipMapModel_registersRight_103 3999 N 1 := by
    show q_ChipMapModel_registersRight_103 (3999 + 1) N 0 = _
    rw [q_ChipMapModel_registersRight_103, h.1, if_neg (fun z => by have := Int32.le_iff_toInt_le.mp z; omega)]
    show q_ChipMapModel_registersRight_113 _ (3999 + 1) N 0 0 = _
    rw [q_ChipMapModel_registersRight_113, if_pos (by decide)]
    rfl
  rw [e]
  exact bo_loop h ((M.1 1 0).toInt - 1).toNat 4000 3999 1 (by omega) (by decide) (by omega) (by omega)
theorem bb_rel {M N : Mm} (h : dR M N) : jZ M N 3 (q_Judge_badBank M) (q_ChipMapModel_registersRight N) (q_ChipMapModel_registersRight_103 4000 N 0) := by
  have h2 := h.2.1
  have z0 : (0 : Int32).toInt = 0 := rfl
  exact bb_loop h (M.1 1 0).toInt.toNat 4000 4000 0 (by omega) (by decide) (by omega) (by omega)
theorem br_loop {M N : Mm} (h : dR M N) : ∀ (j n' m' : Nat) (i : Int32), (M.1 14 0).toInt - i.toInt = (j : Int) → 0 ≤ i.toInt → j < n' → j < m' → jZ M N 4 (q_Judge_badRule_10 n' M i) (q_ChipMapModel_rulesRight_2 m' N i) (some (N, 1)) := by
  intro j
  induction j with
  | zero =>
    intro n' m' i hj i0 hn' hm'
    obtain ⟨n', rfl⟩ : ∃ q, n' = q + 1 := ⟨n' - 1, by omega⟩
    obtain ⟨m', rfl⟩ : ∃ q, m' = q + 1 := ⟨m' - 1, by omega⟩
    have c : M.1 14 0 ≤ i := Int32.le_iff_toInt_le.mpr (by omega)
    rw [q_Judge_badRule_10, q_ChipMapModel_rulesRight_2, h.2.2.2.2.1, if_pos c, if_pos c]
    exact Or.inl ⟨rfl, rfl⟩
  | succ j ih =>
    intro n' m' i hj i0 hn' hm'
    obtain ⟨n', rfl⟩ : ∃ q, n' = q + 1 := ⟨n' - 1, by omega⟩
    obtain ⟨m', rfl⟩ : ∃ q, m' = q + 1 := ⟨m' - 1, by omega⟩
    have h0 := h
    obtain ⟨h1, h2, h3, h4, h5, h6, h7, h8, h9, h10⟩ := h0
    obtain ⟨g1, g2, g3, g4, g5, g6, g7, g8, g9, g10, g11⟩ := h10
    have ez : (i + 1).toInt = i.toInt + 1 := iadd rfl (rfl : (1 : Int32).toInt = 1) (by omega) (by omega)
    have em : (-1 : Int32).toInt = -1 := by decide
    have t1 := tnc i0
    have t2 := tnc h6.1
    have t3 := tnc h4.1
    have hi : i.toNatClampNeg < (M.1 14 0).toNatClampNeg := by omega
    have hx : vp_in i 12 := vI (by omega)
    have hy : vp_in i 13 := vI (by omega)
    have c : ¬ M.1 14 0 ≤ i := fun z => by have := Int32.le_iff_toInt_le.mp z; omega
    have hI := ih n' m' (i + 1) (by omega) (by omega) (by omega) (by omega)
    have hs := sgE (g1 _ hi).1
    rw [(g1 _ hi).2] at hs
    obtain ⟨r, e1, e2, hr⟩ := nam_rel h (M.1 16 i.toNatClampNeg)
    obtain ⟨s, e3, e4, hr2⟩ := nam_rel h (M.1 17 i.toNatClampNeg)
    obtain ⟨t, e5, e6, ht⟩ := wri_rel h hr
    rw [q_Judge_badRule_10, q_ChipMapModel_rulesRight_2, h5, if_neg c, if_neg c, ix_e hx, ix_e hy, ← g2 _ hi, e1, e2, cal_s, cal_s, ix_e hy, ← g3 _ hi, e4, cal_s, e5, e6, cal_s, cal_s]
    have badA : jZ M N 4 (some (M, M.1 19 i.toNatClampNeg)) (some (wrY N 4 (N.1 18 i.toNatClampNeg), 0)) (some (N, 1)) := Or.inr ⟨_, (g10 _ hi).1, rfl, by rw [g5 _ hi]⟩
    have bad0 : jZ M N 4 (q_Judge_badRule_107 (q_Judge_badRule_10 n') M i 0) (q_ChipMapModel_rulesRight_125 (q_ChipMapModel_rulesRight_2 m') N i 0) (some (N, 1)) := by
      unfold q_Judge_badRule_107 q_ChipMapModel_rulesRight_125
      rw [if_pos rfl, if_pos rfl, ix_e hx, ix_e hy, wg_e, cal_s, bz_e0]
      exact Or.inr ⟨_, (g11 _ hi).1, rfl, by rw [g6 _ hi]⟩
    have good1 : jZ M N 4 (q_Judge_badRule_107 (q_Judge_badRule_10 n') M i 1) (q_ChipMapModel_rulesRight_125 (q_ChipMapModel_rulesRight_2 m') N i 1) (some (N, 1)) := by
      unfold q_Judge_badRule_107 q_ChipMapModel_rulesRight_125
      rw [if_neg (by decide), if_neg (by decide)]
      exact hI
    rcases ht with ht | ht
    · rw [ht, if_pos rfl, if_pos rfl, ix_e hx, ix_e hy, wg_e, cal_s, bz_e0]
      exact badA
    rw [ht, if_neg (by decide), if_neg (by decide), ix_e hx, e3, cal_s, ix_e hx, ix_e hy]
    by_cases ck : M.1 15 i.toNatClampNeg = 1
    rotate_left
    · obtain ⟨t', e7, e8, ht'⟩ := wri_rel h hr2
      rw [if_neg ck, if_neg (fun z => ck (hs.mpr z)), e7, e8, cal_s, cal_s]
      rcases ht' with ht' | ht'
      · rw [ht']
        exact bad0
      · rw [ht']
        exact good1
    rw [if_pos ck, if_pos (hs.mp ck)]
    unfold q_Judge_isKnown
    rcases hr2 with hr2 | hr2
    · rw [if_pos hr2, if_pos hr2, cal_s, if_pos rfl]
      exact bad0
    have n1 : ¬ s = -1 := fun z => by rw [z] at hr2; omega
    have t4 := tnc hr2.1
    have hrx : vp_in s 128 := vI (by omega)
    have hry : vp_in s 140 := vI (by omega)
    have ha := h7.2.2.2.1 _ hr2.2
    have hc := acE ha.1
    rw [ha.2] at hc
    obtain ⟨f, q1, q2, hf⟩ := fit_rel h (v := M.1 18 i.toNatClampNeg) hr2
    have eF : jZ M N 4 (ix i 12 <| cal (q_Draft_fits M s (M.1 18 i.toNatClampNeg)) fun M9 r10 => if r10 = 0 then (q_Judge_badRule_98 (q_Judge_badRule_10 n') M9 i) else (q_Judge_badRule_107 (q_Judge_badRule_10 n') M9 i 1)) (q_ChipMapModel_rulesRight_98 (q_ChipMapModel_rulesRight_2 m') N i s) (some (N, 1)) := by
      unfold q_ChipMapModel_rulesRight_98
      rw [ix_e hx, ix_e hy, ← g4 _ hi, q1, q2, cal_s, cal_s]
      rcases hf with hf | hf
      · rw [hf, if_pos rfl, if_pos rfl]
        exact bad0
      · rw [hf, if_neg (by decide), if_neg (by decide)]
        exact good1
    rw [if_neg n1, if_neg n1, ix_e hrx, ix_e hrx, ix_e hry, ix_e hry]
    by_cases c0 : M.1 10 s.toNatClampNeg = 0
    · rw [if_pos c0, if_pos (hc.1.mp c0), cal_s, if_neg (by decide)]
      exact eF
    rw [if_neg c0, if_neg (fun z => c0 (hc.1.mpr z))]
    by_cases c2 : M.1 10 s.toNatClampNeg = 2
    · rw [if_pos c2, if_pos (hc.2.2.1.mp c2), cal_s, if_neg (by decide)]
      exact eF
    rw [if_neg c2, if_neg (fun z => c2 (hc.2.2.1.mpr z)), cal_s, if_pos rfl]
    exact bad0
theorem br_rel {M N : Mm} (h : dR M N) : jZ M N 4 (q_Judge_badRule M) (q_ChipMapModel_rulesRight N) (some (N, 1)) := by
  have h6 := h.2.2.2.2.2.1
  have z0 : (0 : Int32).toInt = 0 := rfl
  exact br_loop h (M.1 14 0).toInt.toNat 4000 4000 0 (by omega) (by decide) (by omega) (by omega)
end
section
def cf (M : Mm) (q i : Nat) : Prop := M.1 9 q = M.1 9 i ∧ ¬ (M.1 11 q).toInt < (M.1 12 i).toInt ∧ (M.1 12 q).toInt ≤ (M.1 11 i).toInt
def gdR (M : Mm) (q : Nat) : Prop := 0 ≤ (M.1 12 q).toInt ∧ (M.1 12 q).toInt ≤ (M.1 11 q).toInt ∧ (M.1 11 q).toInt ≤ 15
def tkC (M : Mm) (n : Nat) (hm v : Int32) : Prop := ∀ b : Nat, tb v b = true ↔ ∃ q : Nat, q < n ∧ M.1 9 q = hm ∧ (M.1 12 q).toInt ≤ (b : Int) ∧ (b : Int) ≤ (M.1 11 q).toInt
theorem nm_i {M N : Mm} (h : dR M N) {i : Int32} (hi : 0 ≤ i.toInt ∧ i.toInt < (M.1 1 6).toInt) : ∃ r s, q_Draft_rowOf M (M.1 7 i.toNatClampNeg) = some (M, r) ∧ q_ChipMapModel_named N (N.1 7 i.toNatClampNeg) i = some (N, s) ∧ (r < i ↔ s ≠ -1) := by
  obtain ⟨h1, h2, h3, h4, h5, h6, h7, h8, h9, h10⟩ := h
  have t1 := tnc hi.1
  have t2 := tnc h4.1
  have hin : i.toNatClampNeg < (M.1 1 6).toNatClampNeg := by omega
  obtain ⟨r, e1, f1⟩ := row_s h4 (M.1 7 i.toNatClampNeg)
  obtain ⟨s, e2, f2⟩ := nmd_s (N := N) (n := i) (by omega) (N.1 7 i.toNatClampNeg)
  refine ⟨r, s, e1, e2, ?_⟩
  have en := h7.1 _ hin
  have em : (-1 : Int32).toInt = -1 := by decide
  rcases f1 with f1 | ⟨f1, f3, f4⟩
  · exact absurd rfl (f1.2 _ hin)
  have t3 := tnc f1.1
  rcases f2 with ⟨f5, f6⟩ | ⟨f5, f6, f7⟩
  · constructor
    · intro z
      have z2 := Int32.lt_iff_toInt_lt.mp z
      have hr : r.toNatClampNeg < i.toNatClampNeg := by omega
      exact absurd ((h7.1 _ (by omega)).symm.trans (f3.trans en)) (f6 _ hr)
    · intro z
      exact absurd f5 z
  · have t4 := tnc f5.1
    constructor
    · intro _ z
      rw [z] at f5
      omega
    · intro _
      have e3 : M.1 7 s.toNatClampNeg = M.1 7 i.toNatClampNeg := (h7.1 _ (by omega)).trans (f6.trans en.symm)
      have h11 : ¬ s.toNatClampNeg < r.toNatClampNeg := fun z => f4 _ z e3
      exact Int32.lt_iff_toInt_lt.mpr (by omega)
theorem ov {M : Mm} {n i : Nat} {v : Int32} (hv : tkC M n (M.1 9 i) v) (hg : ∀ q, q < n → gdR M q) (hi : gdR M i) : v &&& mkm (M.1 12 i) (M.1 11 i) = 0 ↔ ∀ q, q < n → ¬ cf M q i := by
  rw [and_0]
  constructor
  · intro h q hq hc
    have g := hg q hq
    obtain ⟨c1, c2, c3⟩ := hc
    unfold gdR at g hi
    by_cases d : (M.1 12 q).toInt ≤ (M.1 12 i).toInt
    · have t : ((M.1 12 i).toInt.toNat : Int) = (M.1 12 i).toInt := by omega
      refine h (M.1 12 i).toInt.toNat ⟨(hv _).mpr ⟨q, hq, c1, by omega, by omega⟩, ?_⟩
      rw [tb_mk hi]
      exact decide_eq_true (by omega)
    · have t : ((M.1 12 q).toInt.toNat : Int) = (M.1 12 q).toInt := by omega
      refine h (M.1 12 q).toInt.toNat ⟨(hv _).mpr ⟨q, hq, c1, by omega, by omega⟩, ?_⟩
      rw [tb_mk hi]
      exact decide_eq_true (by omega)
  · intro h b hb
    obtain ⟨b1, b2⟩ := hb
    obtain ⟨q, hq, q1, q2, q3⟩ := (hv b).mp b1
    rw [tb_mk hi] at b2
    have b3 := of_decide_eq_true b2
    exact h q hq ⟨q1, by omega, by omega⟩
theorem ov_n {M : Mm} {n : Nat} {v : Int32} (hv : tkC M n (M.1 9 n) v) (hi : gdR M n) : tkC M (n + 1) (M.1 9 n) (v ||| mkm (M.1 12 n) (M.1 11 n)) := by
  intro b
  rw [tb_or, tb_mk hi, Bool.or_eq_true, decide_eq_true_eq]
  constructor
  · intro z
    rcases z with z | z
    · obtain ⟨q, q1, q2, q3⟩ := (hv b).mp z
      exact ⟨q, by omega, q2, q3⟩
    · exact ⟨n, by omega, rfl, z⟩
  · intro z
    obtain ⟨q, q1, q2, q3⟩ := z
    by_cases d : q = n
    · rw [d] at q3
      exact Or.inr q3
    · exact Or.inl ((hv b).mpr ⟨q, by omega, q2, q3⟩)
theorem f149 {N : Mm} {kf : Mm → Int32 → Rs} {i : Int32} (hy : vp_in i 140) : q_ChipMapModel_fieldsRight_149 kf N i 0 = some (wrY N 2 (N.1 13 i.toNatClampNeg), 0) := by
  unfold q_ChipMapModel_fieldsRight_149
  rw [if_pos rfl, ix_e hy, wg_e, cal_s, bz_e0]
theorem f83 {N : Mm} {kf : Mm → Int32 → Rs} {i g : Int32} {n' : Nat} (hy : vp_in i 140) : q_ChipMapModel_fieldsRight_83 kf (n' + 1) N i 0 g = some (wrY N 2 (N.1 13 i.toNatClampNeg), 0) := by
  rw [q_ChipMapModel_fieldsRight_83, f149 hy]
  split
  · rfl
  · rw [if_pos rfl]
theorem f79 {N : Mm} {kf : Mm → Int32 → Rs} {i : Int32} (hy : vp_in i 140) : q_ChipMapModel_fieldsRight_79 kf N i = some (wrY N 2 (N.1 13 i.toNatClampNeg), 0) := f83 (n' := 3999) hy
theorem f55 {N : Mm} {kf : Mm → Int32 → Rs} {i : Int32} (hy : vp_in i 140) : q_ChipMapModel_fieldsRight_55 kf N i = some (wrY N 2 (N.1 13 i.toNatClampNeg), 0) := by
  unfold q_ChipMapModel_fieldsRight_55 q_ChipMapModel_fieldsRight_56
  rw [if_pos rfl]
  exact f79 hy
theorem fi_loop {M N : Mm} (h : dR M N) {kf : Mm → Int32 → Rs} {i : Int32} (hi : 0 ≤ i.toInt ∧ i.toInt < (M.1 1 6).toInt) : ∀ (j m' : Nat) (g : Int32), i.toInt - g.toInt = (j : Int) → 0 ≤ g.toInt → j + 1 < m' → ((∃ q, g.toNatClampNeg ≤ q ∧ q < i.toNatClampNeg ∧ cf M q i.toNatClampNeg) ∧ q_ChipMapModel_fieldsRight_83 kf m' N i 1 g = some (wrY N 2 (N.1 13 i.toNatClampNeg), 0)) ∨ ((∀ q, g.toNatClampNeg ≤ q → q < i.toNatClampNeg → ¬ cf M q i.toNatClampNeg) ∧ q_ChipMapModel_fieldsRight_83 kf m' N i 1 g = kf N (i + 1)) := by
  obtain ⟨h1, h2, h3, h4, h5, h6, h7, h8, h9, h10⟩ := h
  have t1 := tnc hi.1
  have t2 := tnc h4.1
  have hy : vp_in i 140 := vI (by omega)
  intro j
  induction j with
  | zero =>
    intro m' g hj g0 hm'
    obtain ⟨m', rfl⟩ : ∃ q, m' = q + 1 := ⟨m' - 1, by omega⟩
    have t3 := tnc g0
    rw [q_ChipMapModel_fieldsRight_83, if_pos (Int32.le_iff_toInt_le.mpr (by omega))]
    unfold q_ChipMapModel_fieldsRight_149
    rw [if_neg (by decide)]
    exact Or.inr ⟨fun q q1 q2 => absurd q2 (by omega), rfl⟩
  | succ j ih =>
    intro m' g hj g0 hm'
    obtain ⟨m', rfl⟩ : ∃ q, m' = q + 1 + 1 := ⟨m' - 2, by omega⟩
    have t3 := tnc g0
    have ez : (g + 1).toInt = g.toInt + 1 := iadd rfl (rfl : (1 : Int32).toInt = 1) (by omega) (by omega)
    have es : (g + 1).toNatClampNeg = g.toNatClampNeg + 1 := tnS (by omega)
    have gy : vp_in g 140 := vI (by omega)
    have hI := ih (m' + 1) (g + 1) (by omega) (by omega) (by omega)
    have hgn : g.toNatClampNeg < (M.1 1 6).toNatClampNeg := by omega
    have hin : i.toNatClampNeg < (M.1 1 6).toNatClampNeg := by omega
    rw [q_ChipMapModel_fieldsRight_83, if_neg (fun z => by have := Int32.le_iff_toInt_le.mp z; omega), if_neg (by decide : ¬ (1 : Int32) = 0), ix_e gy, ix_e hy, ix_e gy, ix_e hy, ix_e gy, ix_e hy, ← h7.2.2.1 _ hgn, ← h7.2.2.1 _ hin, ← h7.2.2.2.2.1 _ hgn, ← h7.2.2.2.2.2.1 _ hin, ← h7.2.2.2.2.1 _ hin, ← h7.2.2.2.2.2.1 _ hgn]
    have next : ¬ cf M g.toNatClampNeg i.toNatClampNeg → ((∃ q, g.toNatClampNeg ≤ q ∧ q < i.toNatClampNeg ∧ cf M q i.toNatClampNeg) ∧ q_ChipMapModel_fieldsRight_137 kf (q_ChipMapModel_fieldsRight_83 kf (m' + 1)) N i g = some (wrY N 2 (N.1 13 i.toNatClampNeg), 0)) ∨ ((∀ q, g.toNatClampNeg ≤ q → q < i.toNatClampNeg → ¬ cf M q i.toNatClampNeg) ∧ q_ChipMapModel_fieldsRight_137 kf (q_ChipMapModel_fieldsRight_83 kf (m' + 1)) N i g = kf N (i + 1)) := by
      intro hc
      rw [es] at hI
      rcases hI with ⟨⟨q, q1, q2, q3⟩, hI⟩ | ⟨hq, hI⟩
      · exact Or.inl ⟨⟨q, by omega, q2, q3⟩, hI⟩
      · refine Or.inr ⟨fun q q1 q2 => ?_, hI⟩
        by_cases d : q = g.toNatClampNeg
        · rw [d]; exact hc
        · exact hq q (by omega) q2
    by_cases c1 : M.1 9 g.toNatClampNeg = M.1 9 i.toNatClampNeg
    rotate_left
    · rw [if_neg c1]
      exact next (fun z => c1 z.1)
    rw [if_pos c1]
    by_cases c2 : M.1 11 g.toNatClampNeg < M.1 12 i.toNatClampNeg
    · rw [if_pos c2]
      exact next (fun z => z.2.1 (Int32.lt_iff_toInt_lt.mp c2))
    rw [if_neg c2]
    by_cases c3 : M.1 12 g.toNatClampNeg ≤ M.1 11 i.toNatClampNeg
    · rw [if_pos c3]
      refine Or.inl ⟨⟨g.toNatClampNeg, Nat.le_refl _, by omega, c1, fun z => c2 (Int32.lt_iff_toInt_lt.mpr z), Int32.le_iff_toInt_le.mp c3⟩, ?_⟩
      exact f83 hy
    · rw [if_neg c3]
      exact next (fun z => c3 (Int32.le_iff_toInt_le.mpr z.2.2))
theorem ff_loop {M N : Mm} (h : dR M N) : ∀ (j n' m' : Nat) (i v : Int32), (M.1 1 6).toInt - i.toInt = (j : Int) → 0 ≤ i.toInt → j < n' → j < m' → (∀ q, q < i.toNatClampNeg → gdR M q) → (0 < i.toInt → tkC M i.toNatClampNeg (M.1 9 (i - 1).toNatClampNeg) v) → jZ M N 2 (q_Judge_badField_4 n' M v i) (q_ChipMapModel_fieldsRight_2 m' N i) (some (N, 1)) := by
  intro j
  induction j with
  | zero =>
    intro n' m' i v hj i0 hn' hm' hg hv
    obtain ⟨n', rfl⟩ : ∃ q, n' = q + 1 := ⟨n' - 1, by omega⟩
    obtain ⟨m', rfl⟩ : ∃ q, m' = q + 1 := ⟨m' - 1, by omega⟩
    have c : M.1 1 6 ≤ i := Int32.le_iff_toInt_le.mpr (by omega)
    rw [q_Judge_badField_4, q_ChipMapModel_fieldsRight_2, h.2.2.1, if_pos c, if_pos c]
    exact Or.inl ⟨rfl, rfl⟩
  | succ j ih =>
    intro n' m' i v hj i0 hn' hm' hg hv
    obtain ⟨n', rfl⟩ : ∃ q, n' = q + 1 := ⟨n' - 1, by omega⟩
    obtain ⟨m', rfl⟩ : ∃ q, m' = q + 1 := ⟨m' - 1, by omega⟩
    have h0 := h
    obtain ⟨h1, h2, h3, h4, h5, h6, h7, h8, h9, h10⟩ := h0
    have ez : (i + 1).toInt = i.toInt + 1 := iadd rfl (rfl : (1 : Int32).toInt = 1) (by omega) (by omega)
    have es : (i + 1).toNatClampNeg = i.toNatClampNeg + 1 := tnS (by omega)
    have o1 : (1 : Int32).toInt = 1 := rfl
    have e11a : (i + 1 - 1).toInt = i.toInt + 1 - 1 := isub ez o1 (by omega) (by omega)
    have e11 : i + 1 - 1 = i := Int32.toInt_inj.mp (by omega)
    have z0 : (0 : Int32).toInt = 0 := rfl
    have z15 : (15 : Int32).toInt = 15 := rfl
    have z16 : (16 : Int32).toInt = 16 := rfl
    have t1 := tnc i0
    have t2 := tnc h4.1
    have hin : i.toNatClampNeg < (M.1 1 6).toNatClampNeg := by omega
    have hx : vp_in i 128 := vI (by omega)
    have hy : vp_in i 140 := vI (by omega)
    have c : ¬ M.1 1 6 ≤ i := fun z => by have := Int32.le_iff_toInt_le.mp z; omega
    have e8 := h7.2.1 _ hin
    have e11' := h7.2.2.2.2.1 _ hin
    have e12' := h7.2.2.2.2.2.1 _ hin
    have e13' := h7.2.2.2.2.2.2.1 _ hin
    have r8 := h7.2.2.2.2.2.2.2.2.1 _ hin
    have r12 := h7.2.2.2.2.2.2.2.2.2.2.1 _ hin
    obtain ⟨r, s, q1, q2, q3⟩ := nm_i h (i := i) (by omega)
    have bad : jZ M N 2 (some (M, M.1 8 i.toNatClampNeg)) (some (wrY N 2 (N.1 13 i.toNatClampNeg), 0)) (some (N, 1)) := Or.inr ⟨_, r8.1, rfl, by rw [e8]⟩
    have row : ∀ w : Int32, tkC M i.toNatClampNeg (M.1 9 i.toNatClampNeg) w → jZ M N 2 (q_Judge_badField_44 (q_Judge_badField_4 n') M w i) (q_ChipMapModel_fieldsRight_2 (m' + 1) N i) (some (N, 1)) := by
      intro w hw
      unfold q_Judge_badField_44
      rw [q_ChipMapModel_fieldsRight_2, h3, if_neg c, ix_e hx, lq_s, ix_e hx, lq_s, ix_e hx, ix_e hy, q1, q2, cal_s, cal_s]
      have e117 : q_Judge_badField_117 M i = some (M, M.1 8 i.toNatClampNeg) := by
        unfold q_Judge_badField_117
        rw [ix_e hx]
      rw [e117, f55 hy]
      by_cases cr : r < i
      · rw [if_pos cr, if_neg (q3.mp cr)]
        exact bad
      have cs : s = -1 := Classical.byContradiction (fun z => cr (q3.mpr z))
      rw [if_neg cr, if_pos cs, ix_e hy, ← e11', ix_e hy, ix_e hy, ← e12']
      by_cases c16 : 16 ≤ M.1 11 i.toNatClampNeg
      · rw [if_pos c16, if_pos (Int32.lt_iff_toInt_lt.mpr (by have := Int32.le_iff_toInt_le.mp c16; omega))]
        exact bad
      have c16' : ¬ 16 ≤ (M.1 11 i.toNatClampNeg).toInt := fun z => c16 (Int32.le_iff_toInt_le.mpr (by omega))
      have c15 : ¬ 15 < M.1 11 i.toNatClampNeg := fun z => by have := Int32.lt_iff_toInt_lt.mp z; omega
      rw [if_neg c16, if_neg c15]
      by_cases cl : M.1 11 i.toNatClampNeg < M.1 12 i.toNatClampNeg
      · rw [if_pos cl, if_pos cl]
        exact bad
      have cl' : ¬ (M.1 11 i.toNatClampNeg).toInt < (M.1 12 i.toNatClampNeg).toInt := fun z => cl (Int32.lt_iff_toInt_lt.mpr z)
      have hgi : gdR M i.toNatClampNeg := ⟨r12.1, by omega, by omega⟩
      unfold q_ChipMapModel_fieldsRight_56
      rw [if_neg cl, if_neg cl, ix_e hx, if_neg (by decide : ¬ (1 : Int32) = 0), ix_e hy, ← e13']
      obtain ⟨t, q4, q5, ht⟩ := fit_rel h (r := i) (v := M.1 13 i.toNatClampNeg) ⟨i0, hin⟩
      rw [q4, q5, cal_s, cal_s]
      rcases ht with ht | ht
      · rw [ht, if_pos rfl, if_pos rfl, f79 hy, e117]
        exact bad
      rw [ht, if_neg (by decide), if_neg (by decide), lq_s]
      have hov := ov hw hg hgi
      unfold mkm at hov
      have hin2 : ∀ q, (0 : Int32).toNatClampNeg ≤ q := fun q => Nat.zero_le q
      rcases fi_loop h (kf := q_ChipMapModel_fieldsRight_2 m') (i := i) (by omega) i.toInt.toNat 4000 0 (by omega) (by omega) (by omega) with ⟨⟨q, _, q6, q7⟩, hI⟩ | ⟨hq, hI⟩
      · have hne := fun z => (hov.mp z) q q6 q7
        rw [if_neg hne, ix_e hx]
        show jZ M N 2 _ (q_ChipMapModel_fieldsRight_83 (q_ChipMapModel_fieldsRight_2 m') 4000 N i 1 0) _
        rw [hI]
        exact bad
      · rw [if_pos (hov.mpr (fun q q6 => hq q (hin2 q) q6)), lq_s]
        show jZ M N 2 _ (q_ChipMapModel_fieldsRight_83 (q_ChipMapModel_fieldsRight_2 m') 4000 N i 1 0) _
        rw [hI]
        refine ih n' m' (i + 1) _ (by omega) (by omega) (by omega) (by omega) (fun q hq2 => ?_) (fun _ => ?_)
        · by_cases d : q = i.toNatClampNeg
          · rw [d]; exact hgi
          · exact hg q (by omega)
        · rw [e11, es]
          exact ov_n hw hgi
    have nil : (∀ q, q < i.toNatClampNeg → M.1 9 q ≠ M.1 9 i.toNatClampNeg) → tkC M i.toNatClampNeg (M.1 9 i.toNatClampNeg) 0 := by
      intro hq b
      rw [tb_0]
      constructor
      · intro z
        exact absurd z (by decide)
      · intro z
        obtain ⟨q, z1, z2, _⟩ := z
        exact absurd z2 (hq q z1)
    rw [q_Judge_badField_4, if_neg c]
    by_cases ci : i = 0
    · rw [if_pos ci]
      refine row 0 (nil (fun q hq => ?_))
      rw [ci] at hq
      exact nlz hq
    have ci' : i.toInt ≠ 0 := fun z => ci (Int32.toInt_inj.mp z)
    have ed : (i - 1).toInt = i.toInt - 1 := isub rfl (rfl : (1 : Int32).toInt = 1) (by omega) (by omega)
    have t5 := tnc (i := i - 1) (by omega)
    rw [if_neg ci, ix_e hx, ix_e (vI (by omega))]
    by_cases ch : M.1 9 i.toNatClampNeg = M.1 9 (i - 1).toNatClampNeg
    · rw [if_pos ch]
      refine row v ?_
      rw [ch]
      exact hv (by omega)
    · rw [if_neg ch]
      refine row 0 (nil (fun q hq z => ?_))
      have a1 := h9.2 q (i - 1).toNatClampNeg (by omega) (by omega)
      have a2 := h9.2 (i - 1).toNatClampNeg i.toNatClampNeg (by omega) (by omega)
      have a3 := congrArg Int32.toInt z
      exact ch (Int32.toInt_inj.mp (by omega))
theorem ff_rel {M N : Mm} (h : dR M N) : jZ M N 2 (q_Judge_badField M) (q_ChipMapModel_fieldsRight N) (some (N, 1)) := by
  have h4 := h.2.2.2.1
  have z0 : (0 : Int32).toInt = 0 := rfl
  exact ff_loop h (M.1 1 6).toInt.toNat 4000 4000 0 0 (by omega) (by decide) (by omega) (by omega) (fun q hq => nlz hq) (fun z => absurd z (by decide))
end
section
theorem d86 {M : Mm} (h : ¬ M.1 23 2 = -1) : q_Judge_decide_86 M = some (M, 0) := by
  unfold q_Judge_decide_86
  rw [if_neg h]
theorem d65 {M : Mm} (h : ¬ M.1 23 2 = -1) : q_Judge_decide_65 M = some (M, 0) := by
  unfold q_Judge_decide_65
  rw [if_neg h, d86 h]
theorem d49 {M : Mm} (h : ¬ M.1 23 2 = -1) : q_Judge_decide_49 M = some (M, 0) := by
  unfold q_Judge_decide_49
  rw [if_neg h, d65 h]
def dQ (M N : Mm) (M' : Mm) (N' : Mm) (s : Int32) : Prop := M'.1 23 1 = N'.1 0 4 ∧ M'.1 23 2 = N'.1 0 5 ∧ ((s = 1 ∧ M'.1 23 1 = 0 ∧ N' = N) ∨ (s = 0 ∧ M'.1 23 1 ≠ 0 ∧ ∃ k v, N' = wrY N k v)) ∧ (∀ p, p ≠ 23 → M'.1 p = M.1 p)
theorem nm1 {v : Int32} (h : 0 ≤ v.toInt) : ¬ v = -1 := by
  intro z
  rw [z] at h
  exact absurd h (by decide)
theorem dec_r {M N : Mm} (h : dR M N) (hz : nf N) (a : Int32) : ∃ (M' N' : Mm) (r s : Int32), q_Judge_decide M 1 a = some (M', r) ∧ jdY N = some (N', s) ∧ dQ M N M' N' s := by
  unfold q_Judge_decide jdY
  rw [if_neg (by decide : ¬ (1 : Int32) = 0), lq_s]
  obtain ⟨M1, eM1⟩ : ∃ z, z = stI M 23 (upd (M.1 23) 1 2) := ⟨_, rfl⟩
  rw [← eM1]
  have g1 : dR M1 N := by subst eM1; exact h
  have k1 : M1.1 23 1 = 2 := by subst eM1; rfl
  have f1 : ∀ p, p ≠ 23 → M1.1 p = M.1 p := fun p hp => by rw [eM1]; exact stI_ne _ _ hp
  rcases ff_rel g1 with ⟨x1, y1⟩ | ⟨v, v0, x1, y1⟩
  rotate_left
  · rw [x1, y1, cal_s, cal_s, lq_s, st_up, if_neg (nm1 v0), if_pos rfl, d49 (by rw [st_up]; exact nm1 v0)]
    refine ⟨_, _, _, _, rfl, rfl, ?_, st_up, Or.inr ⟨rfl, ?_, 2, v, rfl⟩, fun p hp => (stI_ne _ _ hp).trans (f1 p hp)⟩
    · exact k1
    · show ¬ M1.1 23 1 = 0
      rw [k1]
      decide
  rw [x1, y1, cal_s, cal_s, lq_s, st_up, if_pos rfl, if_neg (by decide : ¬ (1 : Int32) = 0), lq_s]
  obtain ⟨M5, eM5⟩ : ∃ z, z = stI (stI M1 23 (upd (M1.1 23) 2 (-1))) 23 (upd ((stI M1 23 (upd (M1.1 23) 2 (-1))).1 23) 1 3) := ⟨_, rfl⟩
  rw [← eM5]
  have g5 : dR M5 N := by subst eM5; exact g1
  have k5 : M5.1 23 1 = 3 := by subst eM5; rfl
  have f5 : ∀ p, p ≠ 23 → M5.1 p = M.1 p := fun p hp => by rw [eM5, stI_ne _ _ hp, stI_ne _ _ hp]; exact f1 p hp
  rcases bb_rel g5 with ⟨x2, y2⟩ | ⟨v, v0, x2, y2⟩
  rotate_left
  · rw [x2, y2, cal_s, cal_s, lq_s, if_pos rfl, d49 (by rw [st_up]; exact nm1 v0)]
    refine ⟨_, _, _, _, rfl, rfl, ?_, st_up, Or.inr ⟨rfl, ?_, 3, v, rfl⟩, fun p hp => (stI_ne _ _ hp).trans (f5 p hp)⟩
    · exact k5
    · show ¬ M5.1 23 1 = 0
      rw [k5]
      decide
  rw [x2, y2, cal_s, lq_s]
  obtain ⟨M8, eM8⟩ : ∃ z, z = stI M5 23 (upd (M5.1 23) 2 (-1)) := ⟨_, rfl⟩
  rw [← eM8]
  have g8 : dR M8 N := by subst eM8; exact g5
  have k8 : M8.1 23 1 = 3 := by subst eM8; exact k5
  have k82 : M8.1 23 2 = -1 := by subst eM8; rfl
  have f8 : ∀ p, p ≠ 23 → M8.1 p = M.1 p := fun p hp => by rw [eM8, stI_ne _ _ hp]; exact f5 p hp
  unfold q_Judge_decide_49
  rw [if_pos k82]
  rcases bo_rel g8 with ⟨x3, y3⟩ | ⟨v, v0, x3, y3⟩
  rotate_left
  · rw [x3, y3, cal_s, cal_s, lq_s, if_pos rfl, d65 (by rw [st_up]; exact nm1 v0)]
    refine ⟨_, _, _, _, rfl, rfl, ?_, st_up, Or.inr ⟨rfl, ?_, 3, v, rfl⟩, fun p hp => (stI_ne _ _ hp).trans (f8 p hp)⟩
    · exact k8
    · show ¬ M8.1 23 1 = 0
      rw [k8]
      decide
  rw [x3, y3, cal_s, cal_s, lq_s, if_neg (by decide : ¬ (1 : Int32) = 0)]
  unfold q_Judge_decide_65
  rw [st_up, if_pos rfl, lq_s]
  obtain ⟨M9, eM9⟩ : ∃ z, z = stI (stI M8 23 (upd (M8.1 23) 2 (-1))) 23 (upd ((stI M8 23 (upd (M8.1 23) 2 (-1))).1 23) 1 4) := ⟨_, rfl⟩
  rw [← eM9]
  have g9 : dR M9 N := by subst eM9; exact g8
  have k9 : M9.1 23 1 = 4 := by subst eM9; rfl
  have f9 : ∀ p, p ≠ 23 → M9.1 p = M.1 p := fun p hp => by rw [eM9, stI_ne _ _ hp, stI_ne _ _ hp]; exact f8 p hp
  rcases br_rel g9 with ⟨x4, y4⟩ | ⟨v, v0, x4, y4⟩
  rotate_left
  · rw [x4, y4, cal_s, cal_s, lq_s, if_pos rfl, d86 (by rw [st_up]; exact nm1 v0)]
    refine ⟨_, _, _, _, rfl, rfl, ?_, st_up, Or.inr ⟨rfl, ?_, 4, v, rfl⟩, fun p hp => (stI_ne _ _ hp).trans (f9 p hp)⟩
    · exact k9
    · show ¬ M9.1 23 1 = 0
      rw [k9]
      decide
  rw [x4, y4, cal_s, cal_s, lq_s, if_neg (by decide : ¬ (1 : Int32) = 0)]
  unfold q_Judge_decide_86
  rw [st_up, if_pos rfl, lq_s, lq_s]
  refine ⟨_, _, _, _, rfl, rfl, hz.1.symm, hz.2.symm, Or.inl ⟨rfl, rfl, rfl⟩, fun p hp => ?_⟩
  rw [stI_ne _ _ hp, stI_ne _ _ hp, stI_ne _ _ hp]
  exact f9 p hp
theorem dec_0 (M : Mm) (a : Int32) : ∃ M' : Mm, q_Judge_decide M 0 a = some (M', 0) ∧ M'.1 23 1 = 1 ∧ M'.1 23 2 = a ∧ ∀ p, p ≠ 23 → M'.1 p = M.1 p := by
  unfold q_Judge_decide
  rw [if_pos rfl, lq_s, lq_s]
  refine ⟨_, rfl, rfl, rfl, fun p hp => ?_⟩
  rw [stI_ne _ _ hp, stI_ne _ _ hp]
end
section
-- what a function leaves alone
def kp (P : Mm → Prop) (t : Rs) : Prop := ∀ (M : Mm) (r : Int32), t = some (M, r) → P M
theorem kp_some {P : Mm → Prop} {M : Mm} {r : Int32} (h : P M) : kp P (some (M, r)) := fun M' r' e => by
  obtain ⟨rfl, -⟩ := rs_e e
  exact h
theorem kp_none {P : Mm → Prop} : kp P none := fun M' r' e => by cases e
theorem kp_st {P : Mm → Prop} {x : Mm} {k : Mm → Rs} (hx : P x) (h : ∀ y, P y → kp P (k y)) : kp P (lt' x k) := h x hx
theorem kp_lv {α : Type} {P : Mm → Prop} {x : α} {k : α → Rs} (h : ∀ y, kp P (k y)) : kp P (lt' x k) := h x
theorem kp_ix {P : Mm → Prop} {i : Int32} {n : Nat} {k : Rs} (h : kp P k) : kp P (ix i n k) := fun M r e => h M r (ix_r e)
theorem kp_bz {P : Mm → Prop} {v : Int32} {k : Rs} (h : kp P k) : kp P (bz v k) := fun M r e => h M r (bz_r e)
theorem kp_cz {P : Mm → Prop} {v : Int32} {k : Rs} (h : kp P k) : kp P (cz v k) := fun M r e => by
  unfold cz at e
  split at e
  · exact h M r e
  · cases e
theorem kp_cpk {P : Mm → Prop} {sp dp n : Int32} {n0 n1 : Nat} {k : Rs} (h : kp P k) : kp P (cpk sp dp n n0 n1 k) := fun M r e => by
  unfold cpk at e
  split at e
  · exact h M r e
  · cases e
theorem kp_cal {P : Mm → Prop} {t : Rs} {k : Mm → Int32 → Rs} (h : kp P t) (h2 : ∀ M r, P M → kp P (k M r)) : kp P (cal t k) := fun M r e => by
  obtain ⟨M1, r1, e1, e2⟩ := cal_o e
  exact h2 M1 r1 (h M1 r1 e1) M r e2
theorem kp_if {P : Mm → Prop} {c : Prop} [Decidable c] {a b : Rs} (ha : kp P a) (hb : kp P b) : kp P (if c then a else b) := by
  by_cases hc : c
  · rw [if_pos hc]; exact ha
  · rw [if_neg hc]; exact hb
def kX (A M : Mm) : Prop := ∀ p, p < 50 → M.1 p = A.1 p
theorem kX.st {A M : Mm} {k : Nat} {f : Nat → Int32} (h : kX A M) (hk : 50 ≤ k) : kX A (stI M k f) := fun p hp => by rw [stI_ne M f (by omega)]; exact h p hp
theorem kX.sj {A M : Mm} {k : Nat} {f : Nat → Int64} (h : kX A M) : kX A (stJ M k f) := h
def kR (A M : Mm) : Prop := ∀ p, 24 ≤ p → M.1 p = A.1 p
theorem kR.st {A M : Mm} {k : Nat} {f : Nat → Int32} (h : kR A M) (hk : k < 24) : kR A (stI M k f) := fun p hp => by rw [stI_ne M f (by omega)]; exact h p hp
def kY (A M : Mm) : Prop := (∀ p, p ≠ 0 → p ≤ 32 → M.1 p = A.1 p) ∧ (∀ j, j ≠ 0 → j ≤ 38 → M.1 0 j = A.1 0 j)
theorem kY.st {A M : Mm} {k : Nat} {f : Nat → Int32} (h : kY A M) (hk : 33 ≤ k) : kY A (stI M k f) := ⟨fun p h0 hp => by rw [stI_ne M f (by omega)]; exact h.1 p h0 hp, fun j h0 hj => by rw [stI_ne M f (by omega)]; exact h.2 j h0 hj⟩
theorem kY.s0 {A M : Mm} {k : Nat} {x : Int32} (h : kY A M) (hk : k = 0 ∨ 39 ≤ k) : kY A (stI M 0 (upd (M.1 0) k x)) := ⟨fun p h0 hp => by rw [stI_ne M _ (by omega)]; exact h.1 p h0 hp, fun j h0 hj => by rw [stI_at, updN (by omega)]; exact h.2 j h0 hj⟩
theorem kY.sj {A M : Mm} {k : Nat} {f : Nat → Int64} (h : kY A M) : kY A (stJ M k f) := h
def kM (A M : Mm) : Prop := (∀ p, 20 ≤ p → M.1 p = A.1 p) ∧ (∀ j, 27 ≤ j → j < 70 → M.1 0 j = A.1 0 j)
theorem kM.st {A M : Mm} {k : Nat} {f : Nat → Int32} (h : kM A M) (hk : 1 ≤ k ∧ k < 20) : kM A (stI M k f) := ⟨fun p hp => by rw [stI_ne M f (by omega)]; exact h.1 p hp, fun j h0 hj => by rw [stI_ne M f (by omega)]; exact h.2 j h0 hj⟩
theorem kM.s0 {A M : Mm} {k : Nat} {x : Int32} (h : kM A M) (hk : k < 27 ∨ 70 ≤ k) : kM A (stI M 0 (upd (M.1 0) k x)) := ⟨fun p hp => by rw [stI_ne M _ (by omega)]; exact h.1 p hp, fun j h0 hj => by rw [stI_at, updN (by omega)]; exact h.2 j h0 hj⟩
def kW (A M : Mm) : Prop := (∀ p, 1 ≤ p → p < 20 → M.1 p = A.1 p) ∧ (∀ j, j < 38 → M.1 0 j = A.1 0 j)
theorem kW.st {A M : Mm} {k : Nat} {f : Nat → Int32} (h : kW A M) (hk : 20 ≤ k) : kW A (stI M k f) := ⟨fun p h0 hp => by rw [stI_ne M f (by omega)]; exact h.1 p h0 hp, fun j hj => by rw [stI_ne M f (by omega)]; exact h.2 j hj⟩
theorem kW.s0 {A M : Mm} {k : Nat} {x : Int32} (h : kW A M) (hk : 38 ≤ k) : kW A (stI M 0 (upd (M.1 0) k x)) := ⟨fun p h0 hp => by rw [stI_ne M _ (by omega)]; exact h.1 p h0 hp, fun j hj => by rw [stI_at, updN (by omega)]; exact h.2 j hj⟩
def kV (A M : Mm) : Prop := ∀ p, 20 ≤ p → p ≤ 28 → M.1 p = A.1 p
theorem kV.rf (A : Mm) : kV A A := fun _ _ _ => rfl
theorem kV.st {A M : Mm} {k : Nat} {f : Nat → Int32} (h : kV A M) (hk : k < 20 ∨ 29 ≤ k) : kV A (stI M k f) := fun p h0 hp => by rw [stI_ne M f (by omega)]; exact h p h0 hp
def kS (A M : Mm) : Prop := ∀ p, 69 ≤ p → p ≤ 72 → M.1 p = A.1 p
theorem kS.rf (A : Mm) : kS A A := fun _ _ _ => rfl
theorem kS.st {A M : Mm} {k : Nat} {f : Nat → Int32} (h : kS A M) (hk : k < 69 ∨ 73 ≤ k) : kS A (stI M k f) := fun p h0 hp => by rw [stI_ne M f (by omega)]; exact h p h0 hp
theorem kS.sj {A M : Mm} {k : Nat} {f : Nat → Int64} (h : kS A M) : kS A (stJ M k f) := h
def kT (A M : Mm) : Prop := (∀ p, 42 ≤ p → p ≤ 44 → M.1 p = A.1 p) ∧ M.1 0 59 = A.1 0 59
theorem kT.rf (A : Mm) : kT A A := ⟨fun _ _ _ => rfl, rfl⟩
theorem kT.st {A M : Mm} {k : Nat} {f : Nat → Int32} (h : kT A M) (hk : (1 ≤ k ∧ k < 42) ∨ 45 ≤ k) : kT A (stI M k f) := ⟨fun p h0 hp => by rw [stI_ne M f (by omega)]; exact h.1 p h0 hp, by rw [stI_ne M f (by omega)]; exact h.2⟩
theorem kT.s0 {A M : Mm} {k : Nat} {x : Int32} (h : kT A M) (hk : k ≠ 59) : kT A (stI M 0 (upd (M.1 0) k x)) := ⟨fun p h0 hp => by rw [stI_ne M _ (by omega)]; exact h.1 p h0 hp, by rw [stI_at, updN (by omega)]; exact h.2⟩
theorem kT.sj {A M : Mm} {k : Nat} {f : Nat → Int64} (h : kT A M) : kT A (stJ M k f) := h
def kP (A M : Mm) : Prop := ∀ p, p ≠ 57 → p ≠ 59 → M.1 p = A.1 p
theorem kP.rf (A : Mm) : kP A A := fun _ _ _ => rfl
theorem kP.st {A M : Mm} {k : Nat} {f : Nat → Int32} (h : kP A M) (hk : k = 57 ∨ k = 59) : kP A (stI M k f) := fun p h1 h2 => by rw [stI_ne M f (by omega)]; exact h p h1 h2
theorem kr_Draft_clear {A : Mm} (M : Mm) (h : kR A M) : kp (kR A) (q_Draft_clear M) := by
  unfold q_Draft_clear
  refine kp_st (kR.st h (by decide)) (fun m1 h2 => ?_)
  refine kp_st (kR.st h2 (by decide)) (fun m3 h4 => ?_)
  refine kp_st (kR.st h4 (by decide)) (fun m5 h6 => ?_)
  exact kp_some h6
theorem kr_Reader_next {A : Mm} (M : Mm) (h : kR A M) : kp (kR A) (q_Reader_next M) := by
  unfold q_Reader_next
  refine kp_if ?_ ?_
  · skip
    exact kp_some h
  · skip
    refine kp_ix ?_
    refine kp_cz ?_
    exact kp_some h
theorem kr_Reader_take {A : Mm} (M : Mm) (a1 : Int32) (h : kR A M) : kp (kR A) (q_Reader_take M a1) := by
  unfold q_Reader_take
  refine kp_cal (kr_Reader_next _ h) (fun m1 r2 h3 => ?_)
  refine kp_if ?_ ?_
  · skip
    refine kp_st (kR.st h3 (by decide)) (fun m4 h5 => ?_)
    exact kp_some h5
  · skip
    exact kp_some h3
theorem kr_Reader_digitOf_17 {A : Mm} (M : Mm) (v0 : Int32) (h : kR A M) : kp (kR A) (q_Reader_digitOf_17 M v0) := by
  unfold q_Reader_digitOf_17
  refine kp_if ?_ ?_
  · skip
    exact kp_some h
  · skip
    refine kp_if ?_ ?_
    · skip
      exact kp_some h
    · skip
      exact kp_some h
theorem kr_Reader_digitOf {A : Mm} (M : Mm) (a0 : Int32) (h : kR A M) : kp (kR A) (q_Reader_digitOf M a0) := by
  unfold q_Reader_digitOf
  refine kp_if ?_ ?_
  · skip
    exact kr_Reader_digitOf_17 _ _ h
  · skip
    refine kp_if ?_ ?_
    · skip
      exact kr_Reader_digitOf_17 _ _ h
    · skip
      exact kp_some h
theorem kr_Reader_number_67 {A : Mm} (M : Mm) (v2 : Int32) (v4 : Int32) (v5 : Int32) (h : kR A M) : kp (kR A) (q_Reader_number_67 M v2 v4 v5) := by
  unfold q_Reader_number_67
  refine kp_if ?_ ?_
  · skip
    exact kp_some h
  · skip
    exact kp_some h
theorem kr_Reader_number_9 {A : Mm} : ∀ (n' : Nat) (M : Mm) (v1 : Int32) (v2 : Int32) (v3 : Int32) (v4 : Int32) (v5 : Int32) (v6 : Int32), kR A M → kp (kR A) (q_Reader_number_9 n' M v1 v2 v3 v4 v5 v6) := by
  intro n'
  induction n' with
  | zero =>
    intro M v1 v2 v3 v4 v5 v6 h
    rw [q_Reader_number_9]
    exact kp_none
  | succ n' ih =>
    intro M v1 v2 v3 v4 v5 v6 h
    rw [q_Reader_number_9]
    refine kp_if ?_ ?_
    · skip
      exact kr_Reader_number_67 _ _ _ _ h
    · skip
      refine kp_cal (kr_Reader_next _ h) (fun m1 r2 h3 => ?_)
      refine kp_cal (kr_Reader_digitOf _ _ h3) (fun m4 r5 h6 => ?_)
      refine kp_if ?_ ?_
      · skip
        exact kr_Reader_number_67 _ _ _ _ h6
      · skip
        refine kp_if ?_ ?_
        · skip
          refine kp_lv (fun x7 => ?_)
          refine kp_st (kR.st h6 (by decide)) (fun m8 h9 => ?_)
          exact ih _ _ _ _ _ _ _ h9
        · skip
          exact kr_Reader_number_67 _ _ _ _ h6
theorem kr_Reader_number {A : Mm} (M : Mm) (a1 : Int32) (a2 : Int32) (a3 : Int32) (h : kR A M) : kp (kR A) (q_Reader_number M a1 a2 a3) := by
  unfold q_Reader_number
  exact kr_Reader_number_9 4000 _ _ _ _ _ _ _ h
theorem kr_Reader_name {A : Mm} (M : Mm) (h : kR A M) : kp (kR A) (q_Reader_name M) := by
  unfold q_Reader_name
  refine kp_cal (kr_Reader_next _ h) (fun m1 r2 h3 => ?_)
  refine kp_if ?_ ?_
  · skip
    exact kp_some h3
  · skip
    refine kp_if ?_ ?_
    · skip
      refine kp_st (kR.st h3 (by decide)) (fun m4 h5 => ?_)
      exact kp_some h5
    · skip
      exact kp_some h3
theorem kr_Reader_readBank {A : Mm} (M : Mm) (a1 : Int32) (h : kR A M) : kp (kR A) (q_Reader_readBank M a1) := by
  unfold q_Reader_readBank
  refine kp_ix ?_
  refine kp_st (kR.st h (by decide)) (fun m1 h2 => ?_)
  refine kp_cal (kr_Reader_next _ h2) (fun m3 r4 h5 => ?_)
  refine kp_if ?_ ?_
  · skip
    refine kp_st (kR.st h5 (by decide)) (fun m6 h7 => ?_)
    refine kp_ix ?_
    refine kp_st (kR.st h7 (by decide)) (fun m8 h9 => ?_)
    refine kp_cal (kr_Reader_name _ h9) (fun m10 r11 h12 => ?_)
    refine kp_ix ?_
    refine kp_st (kR.st h12 (by decide)) (fun m13 h14 => ?_)
    refine kp_ix ?_
    refine kp_if ?_ ?_
    · skip
      exact kp_some h14
    · skip
      refine kp_cal (kr_Reader_take _ _ h14) (fun m15 r16 h17 => ?_)
      refine kp_if ?_ ?_
      · skip
        exact kp_some h17
      · skip
        refine kp_cal (kr_Reader_number _ _ _ _ h17) (fun m18 r19 h20 => ?_)
        refine kp_ix ?_
        refine kp_st (kR.st h20 (by decide)) (fun m21 h22 => ?_)
        refine kp_ix ?_
        refine kp_if ?_ ?_
        · skip
          exact kp_some h22
        · skip
          exact kp_some h22
  · skip
    exact kp_some h5
theorem kr_String_isLatin1 {A : Mm} (M : Mm) (h : kR A M) : kp (kR A) (q_String_isLatin1 M) := by
  unfold q_String_isLatin1
  exact kp_some h
theorem kr_String_coder {A : Mm} (M : Mm) (h : kR A M) : kp (kR A) (q_String_coder M) := by
  unfold q_String_coder
  exact kp_some h
theorem kr_String_length {A : Mm} (M : Mm) (h : kR A M) : kp (kR A) (q_String_length M) := by
  unfold q_String_length
  refine kp_cal (kr_String_coder _ h) (fun m1 r2 h3 => ?_)
  exact kp_some h3
theorem kr_StringLatin1_canEncode {A : Mm} (M : Mm) (a0 : Int32) (h : kR A M) : kp (kR A) (q_StringLatin1_canEncode M a0) := by
  unfold q_StringLatin1_canEncode
  refine kp_if ?_ ?_
  · skip
    exact kp_some h
  · skip
    refine kp_if ?_ ?_
    · skip
      exact kp_some h
    · skip
      exact kp_some h
theorem kr_StringLatin1_indexOfChar_7 {A : Mm} : ∀ (n' : Nat) (M : Mm) (v3 : Int32) (v4 : Int32) (v5 : Int32), kR A M → kp (kR A) (q_StringLatin1_indexOfChar_7 n' M v3 v4 v5) := by
  intro n'
  induction n' with
  | zero =>
    intro M v3 v4 v5 h
    rw [q_StringLatin1_indexOfChar_7]
    exact kp_none
  | succ n' ih =>
    intro M v3 v4 v5 h
    rw [q_StringLatin1_indexOfChar_7]
    refine kp_if ?_ ?_
    · skip
      exact kp_some h
    · skip
      refine kp_ix ?_
      refine kp_if ?_ ?_
      · skip
        exact kp_some h
      · skip
        exact ih _ _ _ _ h
theorem kr_StringLatin1_indexOfChar {A : Mm} (M : Mm) (a1 : Int32) (a2 : Int32) (a3 : Int32) (h : kR A M) : kp (kR A) (q_StringLatin1_indexOfChar M a1 a2 a3) := by
  unfold q_StringLatin1_indexOfChar
  refine kp_lv (fun x1 => ?_)
  exact kr_StringLatin1_indexOfChar_7 4000 _ _ _ _ h
theorem kr_StringLatin1_indexOf {A : Mm} (M : Mm) (a1 : Int32) (a2 : Int32) (a3 : Int32) (h : kR A M) : kp (kR A) (q_StringLatin1_indexOf M a1 a2 a3) := by
  unfold q_StringLatin1_indexOf
  refine kp_cal (kr_StringLatin1_canEncode _ _ h) (fun m1 r2 h3 => ?_)
  refine kp_if ?_ ?_
  · skip
    exact kp_some h3
  · skip
    refine kp_lv (fun x4 => ?_)
    refine kp_lv (fun x5 => ?_)
    refine kp_if ?_ ?_
    · skip
      refine kp_cal (kr_StringLatin1_indexOfChar _ _ _ _ h3) (fun m6 r7 h8 => ?_)
      exact kp_some h8
    · skip
      exact kp_some h3
theorem kr_String_indexOf_1 {A : Mm} (M : Mm) (a1 : Int32) (a2 : Int32) (h : kR A M) : kp (kR A) (q_String_indexOf_1 M a1 a2) := by
  unfold q_String_indexOf_1
  refine kp_cal (kr_String_isLatin1 _ h) (fun m1 r2 h3 => ?_)
  refine kp_if ?_ ?_
  · skip
    refine kp_cal (kr_String_length _ h3) (fun m4 r5 h6 => ?_)
    exact kp_none
  · skip
    refine kp_cal (kr_String_length _ h3) (fun m7 r8 h9 => ?_)
    refine kp_cal (kr_StringLatin1_indexOf _ _ _ _ h9) (fun m10 r11 h12 => ?_)
    exact kp_some h12
theorem kr_String_indexOf {A : Mm} (M : Mm) (a1 : Int32) (h : kR A M) : kp (kR A) (q_String_indexOf M a1) := by
  unfold q_String_indexOf
  refine kp_cal (kr_String_indexOf_1 _ _ _ h) (fun m1 r2 h3 => ?_)
  exact kp_some h3
theorem kr_Reader_oneOf_23 {A : Mm} (M : Mm) (v2 : Int32) (h : kR A M) : kp (kR A) (q_Reader_oneOf_23 M v2) := by
  unfold q_Reader_oneOf_23
  refine kp_if ?_ ?_
  · skip
    exact kp_some h
  · skip
    exact kp_some h
theorem kr_Reader_oneOf {A : Mm} (M : Mm) (h : kR A M) : kp (kR A) (q_Reader_oneOf M) := by
  unfold q_Reader_oneOf
  refine kp_cal (kr_Reader_next _ h) (fun m1 r2 h3 => ?_)
  refine kp_cal (kr_String_indexOf _ _ h3) (fun m4 r5 h6 => ?_)
  refine kp_if ?_ ?_
  · skip
    exact kr_Reader_oneOf_23 _ _ h6
  · skip
    refine kp_st (kR.st h6 (by decide)) (fun m7 h8 => ?_)
    exact kr_Reader_oneOf_23 _ _ h8
theorem kr_Reader_numberBehindSign {A : Mm} (M : Mm) (h : kR A M) : kp (kR A) (q_Reader_numberBehindSign M) := by
  unfold q_Reader_numberBehindSign
  refine kp_cal (kr_Reader_take _ _ h) (fun m1 r2 h3 => ?_)
  refine kp_if ?_ ?_
  · skip
    exact kp_some h3
  · skip
    refine kp_cal (kr_Reader_number _ _ _ _ h3) (fun m4 r5 h6 => ?_)
    exact kp_some h6
theorem kr_Reader_readField_187 {A : Mm} (M : Mm) (v2 : Int32) (t0 : Int32) (t1 : Int32) (h : kR A M) : kp (kR A) (q_Reader_readField_187 M v2 t0 t1) := by
  unfold q_Reader_readField_187
  refine kp_ix ?_
  refine kp_st (kR.st h (by decide)) (fun m1 h2 => ?_)
  refine kp_st (kR.st h2 (by decide)) (fun m3 h4 => ?_)
  refine kp_ix ?_
  refine kp_if ?_ ?_
  · skip
    exact kp_some h4
  · skip
    refine kp_cal (kr_Reader_take _ _ h4) (fun m5 r6 h7 => ?_)
    refine kp_if ?_ ?_
    · skip
      exact kp_some h7
    · skip
      exact kp_some h7
theorem kr_Reader_readField {A : Mm} (M : Mm) (a1 : Int32) (h : kR A M) : kp (kR A) (q_Reader_readField M a1) := by
  unfold q_Reader_readField
  refine kp_lv (fun x1 => ?_)
  refine kp_ix ?_
  refine kp_st (kR.st h (by decide)) (fun m2 h3 => ?_)
  refine kp_ix ?_
  refine kp_st (kR.st h3 (by decide)) (fun m4 h5 => ?_)
  refine kp_cal (kr_Reader_name _ h5) (fun m6 r7 h8 => ?_)
  refine kp_ix ?_
  refine kp_st (kR.st h8 (by decide)) (fun m9 h10 => ?_)
  refine kp_ix ?_
  refine kp_if ?_ ?_
  · skip
    exact kp_some h10
  · skip
    refine kp_cal (kr_Reader_oneOf _ h10) (fun m11 r12 h13 => ?_)
    refine kp_ix ?_
    refine kp_st (kR.st h13 (by decide)) (fun m14 h15 => ?_)
    refine kp_ix ?_
    refine kp_if ?_ ?_
    · skip
      exact kp_some h15
    · skip
      refine kp_cal (kr_Reader_number _ _ _ _ h15) (fun m16 r17 h18 => ?_)
      refine kp_ix ?_
      refine kp_st (kR.st h18 (by decide)) (fun m19 h20 => ?_)
      refine kp_ix ?_
      refine kp_if ?_ ?_
      · skip
        exact kp_some h20
      · skip
        refine kp_cal (kr_Reader_take _ _ h20) (fun m21 r22 h23 => ?_)
        refine kp_if ?_ ?_
        · skip
          exact kp_some h23
        · skip
          refine kp_cal (kr_Reader_number _ _ _ _ h23) (fun m24 r25 h26 => ?_)
          refine kp_ix ?_
          refine kp_st (kR.st h26 (by decide)) (fun m27 h28 => ?_)
          refine kp_ix ?_
          refine kp_if ?_ ?_
          · skip
            exact kp_some h28
          · skip
            refine kp_cal (kr_Reader_next _ h28) (fun m29 r30 h31 => ?_)
            refine kp_if ?_ ?_
            · skip
              refine kp_cal (kr_Reader_numberBehindSign _ h31) (fun m32 r33 h34 => ?_)
              exact kr_Reader_readField_187 _ _ _ _ h34
            · skip
              exact kr_Reader_readField_187 _ _ _ _ h31
theorem kr_Reader_readRegister_113 {A : Mm} (M : Mm) (h : kR A M) : kp (kR A) (q_Reader_readRegister_113 M) := by
  unfold q_Reader_readRegister_113
  refine kp_cal (kr_Reader_take _ _ h) (fun m1 r2 h3 => ?_)
  refine kp_bz ?_
  exact kp_some h3
theorem kr_Reader_readRegister_97 {A : Mm} {kf75 : Mm → Int32 → Int32 → Rs} (hk75 : ∀ (M : Mm) (b1 : Int32) (b2 : Int32), kR A M → kp (kR A) (kf75 M b1 b2)) (M : Mm) (v1 : Int32) (v2 : Int32) (h : kR A M) : kp (kR A) (q_Reader_readRegister_97 kf75 M v1 v2) := by
  unfold q_Reader_readRegister_97
  refine kp_cal (kr_Reader_readField _ _ h) (fun m1 r2 h3 => ?_)
  refine kp_if ?_ ?_
  · skip
    exact kp_some h3
  · skip
    exact hk75 _ _ _ h3
theorem kr_Reader_readRegister_75 {A : Mm} : ∀ (n' : Nat) (M : Mm) (v1 : Int32) (v2 : Int32), kR A M → kp (kR A) (q_Reader_readRegister_75 n' M v1 v2) := by
  intro n'
  induction n' with
  | zero =>
    intro M v1 v2 h
    rw [q_Reader_readRegister_75]
    exact kp_none
  | succ n' ih =>
    intro M v1 v2 h
    rw [q_Reader_readRegister_75]
    refine kp_if ?_ ?_
    · skip
      exact kr_Reader_readRegister_113 _ h
    · skip
      refine kp_if ?_ ?_
      · skip
        exact kr_Reader_readRegister_97 ih _ _ _ h
      · skip
        refine kp_cal (kr_Reader_next _ h) (fun m1 r2 h3 => ?_)
        refine kp_if ?_ ?_
        · skip
          exact kr_Reader_readRegister_113 _ h3
        · skip
          exact kr_Reader_readRegister_97 ih _ _ _ h3
theorem kr_Reader_readRegister {A : Mm} (M : Mm) (a1 : Int32) (h : kR A M) : kp (kR A) (q_Reader_readRegister M a1) := by
  unfold q_Reader_readRegister
  refine kp_ix ?_
  refine kp_st (kR.st h (by decide)) (fun m1 h2 => ?_)
  refine kp_cal (kr_Reader_take _ _ h2) (fun m3 r4 h5 => ?_)
  refine kp_if ?_ ?_
  · skip
    exact kp_some h5
  · skip
    refine kp_cal (kr_Reader_number _ _ _ _ h5) (fun m6 r7 h8 => ?_)
    refine kp_ix ?_
    refine kp_st (kR.st h8 (by decide)) (fun m9 h10 => ?_)
    refine kp_ix ?_
    refine kp_if ?_ ?_
    · skip
      exact kp_some h10
    · skip
      refine kp_cal (kr_Reader_readBank _ _ h10) (fun m11 r12 h13 => ?_)
      refine kp_if ?_ ?_
      · skip
        exact kp_some h13
      · skip
        refine kp_cal (kr_Reader_take _ _ h13) (fun m14 r15 h16 => ?_)
        refine kp_if ?_ ?_
        · skip
          exact kp_some h16
        · skip
          exact kr_Reader_readRegister_75 4000 _ _ _ h16
theorem kr_Reader_readRegisters_24 {A : Mm} {kf2 : Mm → Int32 → Rs} (hk2 : ∀ (M : Mm) (b1 : Int32), kR A M → kp (kR A) (kf2 M b1)) (M : Mm) (v1 : Int32) (h : kR A M) : kp (kR A) (q_Reader_readRegisters_24 kf2 M v1) := by
  unfold q_Reader_readRegisters_24
  refine kp_cal (kr_Reader_readRegister _ _ h) (fun m1 r2 h3 => ?_)
  refine kp_if ?_ ?_
  · skip
    exact kp_some h3
  · skip
    refine kp_st (kR.st h3 (by decide)) (fun m4 h5 => ?_)
    exact hk2 _ _ h5
theorem kr_Reader_readRegisters_2 {A : Mm} : ∀ (n' : Nat) (M : Mm) (v1 : Int32), kR A M → kp (kR A) (q_Reader_readRegisters_2 n' M v1) := by
  intro n'
  induction n' with
  | zero =>
    intro M v1 h
    rw [q_Reader_readRegisters_2]
    exact kp_none
  | succ n' ih =>
    intro M v1 h
    rw [q_Reader_readRegisters_2]
    refine kp_if ?_ ?_
    · skip
      exact kp_some h
    · skip
      refine kp_if ?_ ?_
      · skip
        exact kr_Reader_readRegisters_24 ih _ _ h
      · skip
        refine kp_cal (kr_Reader_next _ h) (fun m1 r2 h3 => ?_)
        refine kp_if ?_ ?_
        · skip
          exact kr_Reader_readRegisters_24 ih _ _ h3
        · skip
          exact kp_some h3
theorem kr_Reader_readRegisters {A : Mm} (M : Mm) (h : kR A M) : kp (kR A) (q_Reader_readRegisters M) := by
  unfold q_Reader_readRegisters
  exact kr_Reader_readRegisters_2 4000 _ _ h
theorem kr_String_isLatin1_1 {A : Mm} (M : Mm) (h : kR A M) : kp (kR A) (q_String_isLatin1_1 M) := by
  unfold q_String_isLatin1_1
  exact kp_some h
theorem kr_String_coder_1 {A : Mm} (M : Mm) (h : kR A M) : kp (kR A) (q_String_coder_1 M) := by
  unfold q_String_coder_1
  exact kp_some h
theorem kr_String_length_1 {A : Mm} (M : Mm) (h : kR A M) : kp (kR A) (q_String_length_1 M) := by
  unfold q_String_length_1
  refine kp_cal (kr_String_coder_1 _ h) (fun m1 r2 h3 => ?_)
  exact kp_some h3
theorem kr_StringLatin1_indexOfChar_1_7 {A : Mm} : ∀ (n' : Nat) (M : Mm) (v3 : Int32) (v4 : Int32) (v5 : Int32), kR A M → kp (kR A) (q_StringLatin1_indexOfChar_1_7 n' M v3 v4 v5) := by
  intro n'
  induction n' with
  | zero =>
    intro M v3 v4 v5 h
    rw [q_StringLatin1_indexOfChar_1_7]
    exact kp_none
  | succ n' ih =>
    intro M v3 v4 v5 h
    rw [q_StringLatin1_indexOfChar_1_7]
    refine kp_if ?_ ?_
    · skip
      exact kp_some h
    · skip
      refine kp_ix ?_
      refine kp_if ?_ ?_
      · skip
        exact kp_some h
      · skip
        exact ih _ _ _ _ h
theorem kr_StringLatin1_indexOfChar_1 {A : Mm} (M : Mm) (a1 : Int32) (a2 : Int32) (a3 : Int32) (h : kR A M) : kp (kR A) (q_StringLatin1_indexOfChar_1 M a1 a2 a3) := by
  unfold q_StringLatin1_indexOfChar_1
  refine kp_lv (fun x1 => ?_)
  exact kr_StringLatin1_indexOfChar_1_7 4000 _ _ _ _ h
theorem kr_StringLatin1_indexOf_1 {A : Mm} (M : Mm) (a1 : Int32) (a2 : Int32) (a3 : Int32) (h : kR A M) : kp (kR A) (q_StringLatin1_indexOf_1 M a1 a2 a3) := by
  unfold q_StringLatin1_indexOf_1
  refine kp_cal (kr_StringLatin1_canEncode _ _ h) (fun m1 r2 h3 => ?_)
  refine kp_if ?_ ?_
  · skip
    exact kp_some h3
  · skip
    refine kp_lv (fun x4 => ?_)
    refine kp_lv (fun x5 => ?_)
    refine kp_if ?_ ?_
    · skip
      refine kp_cal (kr_StringLatin1_indexOfChar_1 _ _ _ _ h3) (fun m6 r7 h8 => ?_)
      exact kp_some h8
    · skip
      exact kp_some h3
theorem kr_String_indexOf_3 {A : Mm} (M : Mm) (a1 : Int32) (a2 : Int32) (h : kR A M) : kp (kR A) (q_String_indexOf_3 M a1 a2) := by
  unfold q_String_indexOf_3
  refine kp_cal (kr_String_isLatin1_1 _ h) (fun m1 r2 h3 => ?_)
  refine kp_if ?_ ?_
  · skip
    refine kp_cal (kr_String_length_1 _ h3) (fun m4 r5 h6 => ?_)
    exact kp_none
  · skip
    refine kp_cal (kr_String_length_1 _ h3) (fun m7 r8 h9 => ?_)
    refine kp_cal (kr_StringLatin1_indexOf_1 _ _ _ _ h9) (fun m10 r11 h12 => ?_)
    exact kp_some h12
theorem kr_String_indexOf_2 {A : Mm} (M : Mm) (a1 : Int32) (h : kR A M) : kp (kR A) (q_String_indexOf_2 M a1) := by
  unfold q_String_indexOf_2
  refine kp_cal (kr_String_indexOf_3 _ _ _ h) (fun m1 r2 h3 => ?_)
  exact kp_some h3
theorem kr_Reader_oneOf_1_23 {A : Mm} (M : Mm) (v2 : Int32) (h : kR A M) : kp (kR A) (q_Reader_oneOf_1_23 M v2) := by
  unfold q_Reader_oneOf_1_23
  refine kp_if ?_ ?_
  · skip
    exact kp_some h
  · skip
    exact kp_some h
theorem kr_Reader_oneOf_1 {A : Mm} (M : Mm) (h : kR A M) : kp (kR A) (q_Reader_oneOf_1 M) := by
  unfold q_Reader_oneOf_1
  refine kp_cal (kr_Reader_next _ h) (fun m1 r2 h3 => ?_)
  refine kp_cal (kr_String_indexOf_2 _ _ h3) (fun m4 r5 h6 => ?_)
  refine kp_if ?_ ?_
  · skip
    exact kr_Reader_oneOf_1_23 _ _ h6
  · skip
    refine kp_st (kR.st h6 (by decide)) (fun m7 h8 => ?_)
    exact kr_Reader_oneOf_1_23 _ _ h8
theorem kr_Reader_readRule_119 {A : Mm} (M : Mm) (v1 : Int32) (t0 : Int32) (t1 : Int32) (h : kR A M) : kp (kR A) (q_Reader_readRule_119 M v1 t0 t1) := by
  unfold q_Reader_readRule_119
  refine kp_ix ?_
  refine kp_st (kR.st h (by decide)) (fun m1 h2 => ?_)
  refine kp_ix ?_
  refine kp_if ?_ ?_
  · skip
    exact kp_some h2
  · skip
    refine kp_cal (kr_Reader_take _ _ h2) (fun m3 r4 h5 => ?_)
    refine kp_if ?_ ?_
    · skip
      exact kp_some h5
    · skip
      exact kp_some h5
theorem kr_Reader_readRule {A : Mm} (M : Mm) (a1 : Int32) (h : kR A M) : kp (kR A) (q_Reader_readRule M a1) := by
  unfold q_Reader_readRule
  refine kp_ix ?_
  refine kp_st (kR.st h (by decide)) (fun m1 h2 => ?_)
  refine kp_cal (kr_Reader_name _ h2) (fun m3 r4 h5 => ?_)
  refine kp_ix ?_
  refine kp_st (kR.st h5 (by decide)) (fun m6 h7 => ?_)
  refine kp_ix ?_
  refine kp_if ?_ ?_
  · skip
    exact kp_some h7
  · skip
    refine kp_cal (kr_Reader_oneOf_1 _ h7) (fun m8 r9 h10 => ?_)
    refine kp_ix ?_
    refine kp_st (kR.st h10 (by decide)) (fun m11 h12 => ?_)
    refine kp_ix ?_
    refine kp_if ?_ ?_
    · skip
      exact kp_some h12
    · skip
      refine kp_ix ?_
      refine kp_st (kR.st h12 (by decide)) (fun m13 h14 => ?_)
      refine kp_cal (kr_Reader_name _ h14) (fun m15 r16 h17 => ?_)
      refine kp_ix ?_
      refine kp_st (kR.st h17 (by decide)) (fun m18 h19 => ?_)
      refine kp_ix ?_
      refine kp_if ?_ ?_
      · skip
        exact kp_some h19
      · skip
        refine kp_ix ?_
        refine kp_if ?_ ?_
        · skip
          refine kp_cal (kr_Reader_numberBehindSign _ h19) (fun m20 r21 h22 => ?_)
          exact kr_Reader_readRule_119 _ _ _ _ h22
        · skip
          exact kr_Reader_readRule_119 _ _ _ _ h19
theorem kr_Reader_readRules_2 {A : Mm} : ∀ (n' : Nat) (M : Mm) (v1 : Int32), kR A M → kp (kR A) (q_Reader_readRules_2 n' M v1) := by
  intro n'
  induction n' with
  | zero =>
    intro M v1 h
    rw [q_Reader_readRules_2]
    exact kp_none
  | succ n' ih =>
    intro M v1 h
    rw [q_Reader_readRules_2]
    refine kp_if ?_ ?_
    · skip
      exact kp_some h
    · skip
      refine kp_if ?_ ?_
      · skip
        refine kp_cal (kr_Reader_readRule _ _ h) (fun m1 r2 h3 => ?_)
        refine kp_if ?_ ?_
        · skip
          exact kp_some h3
        · skip
          refine kp_st (kR.st h3 (by decide)) (fun m4 h5 => ?_)
          exact ih _ _ h5
      · skip
        exact kp_some h
theorem kr_Reader_readRules {A : Mm} (M : Mm) (h : kR A M) : kp (kR A) (q_Reader_readRules M) := by
  unfold q_Reader_readRules
  exact kr_Reader_readRules_2 4000 _ _ h
theorem kr_Reader_readAll_42 {A : Mm} (M : Mm) (t0 : Int32) (h : kR A M) : kp (kR A) (q_Reader_readAll_42 M t0) := by
  unfold q_Reader_readAll_42
  refine kp_st (kR.st h (by decide)) (fun m1 h2 => ?_)
  refine kp_bz ?_
  exact kp_some h2
theorem kr_Reader_readAll_41 {A : Mm} (M : Mm) (h : kR A M) : kp (kR A) (q_Reader_readAll_41 M) := by
  unfold q_Reader_readAll_41
  exact kr_Reader_readAll_42 _ _ h
theorem kr_Reader_readAll {A : Mm} (M : Mm) (h : kR A M) : kp (kR A) (q_Reader_readAll M) := by
  unfold q_Reader_readAll
  refine kp_cal (kr_Draft_clear _ h) (fun m1 r2 h3 => ?_)
  refine kp_st (kR.st h3 (by decide)) (fun m4 h5 => ?_)
  refine kp_cal (kr_Reader_readRegisters _ h5) (fun m6 r7 h8 => ?_)
  refine kp_if ?_ ?_
  · skip
    exact kr_Reader_readAll_41 _ h8
  · skip
    refine kp_cal (kr_Reader_readRules _ h8) (fun m9 r10 h11 => ?_)
    refine kp_if ?_ ?_
    · skip
      exact kr_Reader_readAll_41 _ h11
    · skip
      refine kp_if ?_ ?_
      · skip
        exact kr_Reader_readAll_42 _ _ h11
      · skip
        exact kr_Reader_readAll_41 _ h11
end
section
theorem kl_Layout_bitsOf {A : Mm} (M : Mm) (a1 : Int32) (a2 : Int32) (h : kP A M) : kp (kP A) (q_Layout_bitsOf M a1 a2) := by
  unfold q_Layout_bitsOf
  refine kp_ix ?_
  refine kp_ix ?_
  exact kp_some h
theorem kl_Device_setLoose {A : Mm} (M : Mm) (a1 : Int32) (a2 : Int32) (h : kP A M) : kp (kP A) (q_Device_setLoose M a1 a2) := by
  unfold q_Device_setLoose
  refine kp_ix ?_
  refine kp_lv (fun x1 => ?_)
  refine kp_ix ?_
  refine kp_ix ?_
  refine kp_ix ?_
  refine kp_ix ?_
  refine kp_st (kP.st h (by decide)) (fun m2 h3 => ?_)
  exact kp_some h3
theorem kl_Device_startPulses_68 {A : Mm} {kf2 : Mm → Int32 → Int32 → Int32 → Rs} (hk2 : ∀ (M : Mm) (b1 : Int32) (b2 : Int32) (b3 : Int32), kP A M → kp (kP A) (kf2 M b1 b2 b3)) (M : Mm) (v1 : Int32) (v2 : Int32) (v3 : Int32) (h : kP A M) : kp (kP A) (q_Device_startPulses_68 kf2 M v1 v2 v3) := by
  unfold q_Device_startPulses_68
  exact hk2 _ _ _ _ h
theorem kl_Device_startPulses_2 {A : Mm} : ∀ (n' : Nat) (M : Mm) (v1 : Int32) (v2 : Int32) (v3 : Int32), kP A M → kp (kP A) (q_Device_startPulses_2 n' M v1 v2 v3) := by
  intro n'
  induction n' with
  | zero =>
    intro M v1 v2 v3 h
    rw [q_Device_startPulses_2]
    exact kp_none
  | succ n' ih =>
    intro M v1 v2 v3 h
    rw [q_Device_startPulses_2]
    refine kp_if ?_ ?_
    · skip
      exact kp_some h
    · skip
      refine kp_ix ?_
      refine kp_if ?_ ?_
      · skip
        refine kp_ix ?_
        refine kp_if ?_ ?_
        · skip
          refine kp_cal (kl_Layout_bitsOf _ _ _ h) (fun m1 r2 h3 => ?_)
          refine kp_if ?_ ?_
          · skip
            exact kl_Device_startPulses_68 ih _ _ _ _ h3
          · skip
            refine kp_cal (kl_Layout_bitsOf _ _ _ h3) (fun m4 r5 h6 => ?_)
            refine kp_cal (kl_Device_setLoose _ _ _ h6) (fun m7 r8 h9 => ?_)
            refine kp_ix ?_
            refine kp_st (kP.st h9 (by decide)) (fun m10 h11 => ?_)
            exact kl_Device_startPulses_68 ih _ _ _ _ h11
        · skip
          exact kl_Device_startPulses_68 ih _ _ _ _ h
      · skip
        exact kl_Device_startPulses_68 ih _ _ _ _ h
theorem kl_Device_startPulses {A : Mm} (M : Mm) (a1 : Int32) (a2 : Int32) (h : kP A M) : kp (kP A) (q_Device_startPulses M a1 a2) := by
  unfold q_Device_startPulses
  exact kl_Device_startPulses_2 4000 _ _ _ _ h
theorem kl_Device_countPulses_55 {A : Mm} {kf2 : Mm → Int32 → Int32 → Rs} (hk2 : ∀ (M : Mm) (b1 : Int32) (b2 : Int32), kP A M → kp (kP A) (kf2 M b1 b2)) (M : Mm) (v1 : Int32) (v2 : Int32) (h : kP A M) : kp (kP A) (q_Device_countPulses_55 kf2 M v1 v2) := by
  unfold q_Device_countPulses_55
  exact hk2 _ _ _ h
theorem kl_Device_countPulses_2 {A : Mm} : ∀ (n' : Nat) (M : Mm) (v1 : Int32) (v2 : Int32), kP A M → kp (kP A) (q_Device_countPulses_2 n' M v1 v2) := by
  intro n'
  induction n' with
  | zero =>
    intro M v1 v2 h
    rw [q_Device_countPulses_2]
    exact kp_none
  | succ n' ih =>
    intro M v1 v2 h
    rw [q_Device_countPulses_2]
    refine kp_if ?_ ?_
    · skip
      exact kp_some h
    · skip
      refine kp_ix ?_
      refine kp_if ?_ ?_
      · skip
        refine kp_ix ?_
        refine kp_if ?_ ?_
        · skip
          exact kl_Device_countPulses_55 ih _ _ _ h
        · skip
          refine kp_ix ?_
          refine kp_ix ?_
          refine kp_st (kP.st h (by decide)) (fun m1 h2 => ?_)
          refine kp_ix ?_
          refine kp_if ?_ ?_
          · skip
            refine kp_cal (kl_Device_setLoose _ _ _ h2) (fun m3 r4 h5 => ?_)
            exact kl_Device_countPulses_55 ih _ _ _ h5
          · skip
            exact kl_Device_countPulses_55 ih _ _ _ h2
      · skip
        exact kl_Device_countPulses_55 ih _ _ _ h
theorem kl_Device_countPulses {A : Mm} (M : Mm) (a1 : Int32) (h : kP A M) : kp (kP A) (q_Device_countPulses M a1) := by
  unfold q_Device_countPulses
  exact kl_Device_countPulses_2 4000 _ _ _ h
end
