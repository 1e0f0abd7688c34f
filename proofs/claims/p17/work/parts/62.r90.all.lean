def hS (n : Nat) (a : Int32) (M : Mm) : Prop := (∀ i : Nat, i < n → 0 ≤ (M.1 9 i).toInt ∧ (M.1 9 i).toInt < a.toInt) ∧ ∀ i j : Nat, i ≤ j → j < n → (M.1 9 i).toInt ≤ (M.1 9 j).toInt
theorem hS.r {n : Nat} {a : Int32} {M : Mm} (h : hS n a M) : hR n a M := ⟨fun i hi => by have := h.1 i hi; omega, h.2⟩
theorem hS.of {n : Nat} {a b : Int32} {M : Mm} (h : hR n a M) (e : b.toInt = a.toInt + 1) : hS n b M := ⟨fun i hi => by have := h.1 i hi; omega, h.2⟩
def stP (M N : Mm) (a : Int32) : Prop := rdR M N ∧ N.1 0 6 = a ∧ N.1 0 12 = M.1 1 6 ∧ (0 ≤ (M.1 1 6).toInt ∧ (M.1 1 6).toInt ≤ 8 * a.toInt) ∧ N.1 0 20 = 0 ∧ M.1 14 0 = 0 ∧ fR (M.1 1 6).toNatClampNeg M N ∧ gR a.toNatClampNeg M N ∧ hS (M.1 1 6).toNatClampNeg a M
theorem st_next {M N M1 N1 : Mm} {a : Int32} (h : stP M N a) (ha : 0 ≤ a.toInt ∧ a.toInt < 16) (q : rgQ M N M1 1 N1 1) : stP (stI M1 1 (upd (M1.1 1) 0 (a + 1))) N1 (a + 1) := by
  obtain ⟨h1, h2, h3, h4, h5, h6, h7, h8, h9⟩ := h
  rcases q with q | ⟨_, _, q3, q4, q5, q6, q7, q8, q9, q10, q11, q12⟩
  · exact absurd q.1 (by decide)
  rw [h2] at q6 q11 q12
  have ea : (a + 1).toInt = a.toInt + 1 := iadd rfl (rfl : (1 : Int32).toInt = 1) (by omega) (by omega)
  have e6 : (stI M1 1 (upd (M1.1 1) 0 (a + 1))).1 1 6 = M1.1 1 6 := rfl
  refine ⟨q3, q6, q4, ?_, q7.trans h5, ?_, q10 h7, ?_, ?_⟩
  · rw [e6]
    omega
  · show M1.1 14 0 = 0
    rw [q8 14 (by decide) (by decide)]
    exact h6
  · rw [tnS (by omega)]
    exact q12 h8
  · exact hS.of (q11 h9.r) ea
def f3 (x y : Rs) (z : Mm → Rs) (P Q : Mm → Mm → Prop) : Prop := (∃ M N : Mm, x = some (M, 0) ∧ y = some (N, 0) ∧ rd0 M N ∧ flt N) ∨ (∃ M N : Mm, x = some (M, 1) ∧ y = z N ∧ P M N) ∨ (∃ M N : Mm, x = some (M, 1) ∧ y = some (N, 0) ∧ rd0 M N ∧ flt N ∧ Q M N)
theorem rg17 {N : Mm} (h6 : N.1 0 6 = 16) : ∃ N' : Mm, q_ChipMapModel_readRegister N = some (N', 0) ∧ flt N' ∧ ∀ M, rdR M N → rd0 M N' := by
  have hy : vp_in (16 : Int32) 17 := vI (by decide)
  unfold q_ChipMapModel_readRegister
  rw [h6, lq_s, ix_e hy, lq_s, if_pos rfl, wg_e, cal_s, bz_e0]
  exact ⟨_, rfl, wr_f, fun M h => h.z⟩
theorem rg_loop : ∀ (j n' m' : Nat) (M N : Mm) (a : Int32), 16 - a.toInt = (j : Int) → 0 ≤ a.toInt → 0 < j → j < n' → j < m' → stP M N a → f3 (q_Reader_readRegisters_24 (q_Reader_readRegisters_2 n') M a) (q_ChipMapModel_readAll_20 m' N) (q_ChipMapModel_readAll_38 4000) (fun M' N' => stP M' N' (M'.1 1 0) ∧ 1 ≤ (M'.1 1 0).toInt ∧ (M'.1 1 0).toInt ≤ 16) (fun M' _ => hrX M' = 64 ∧ ∃ N0, rdR M' N0) := by
  intro j
  induction j with
  | zero =>
    intro n' m' M N a _ _ hj
    exact absurd hj (by decide)
  | succ j ih =>
    intro n' m' M N a hj a0 _ hn' hm' h
    obtain ⟨n', rfl⟩ : ∃ q, n' = q + 1 := ⟨n' - 1, by omega⟩
    obtain ⟨m', rfl⟩ : ∃ q, m' = q + 1 + 1 := ⟨m' - 2, by omega⟩
    have z16 : (16 : Int32).toInt = 16 := rfl
    have z0 : (0 : Int32).toInt = 0 := rfl
    have ea : (a + 1).toInt = a.toInt + 1 := iadd rfl (rfl : (1 : Int32).toInt = 1) (by omega) (by omega)
    have h4 := h.2.2.2.1
    unfold q_Reader_readRegisters_24
    rw [q_ChipMapModel_readAll_20]
    obtain ⟨M1, r, N1, s, e1, e2, hq⟩ := reg_rel h.1 h.2.1 (by omega) h.2.2.1 (by omega)
    rw [e1, e2, cal_s, cal_s]
    have hq0 := hq
    rcases hq with hq | hq
    · rw [hq.1, hq.2.1, if_pos rfl, if_pos rfl]
      exact Or.inl ⟨_, _, rfl, rfl, hq.2.2⟩
    rw [hq.1, hq.2.1] at hq0
    rw [hq.1, hq.2.1, if_neg (by decide), if_neg (by decide), lq_s]
    have hS := st_next h (by omega) hq0
    obtain ⟨M3, eM3⟩ : ∃ z, z = stI M1 1 (upd (M1.1 1) 0 (a + 1)) := ⟨_, rfl⟩
    have e0 : M3.1 1 0 = a + 1 := by rw [eM3]; exact st_up
    rw [← eM3] at hS ⊢
    have h3 := hS.1
    rw [hr_e h3, cal_s, q_Reader_readRegisters_2, ← hr_eq h3]
    by_cases c16 : 16 ≤ a + 1
    · rw [if_pos c16]
      have e16 : a + 1 = 16 := Int32.toInt_inj.mp (by have := Int32.le_iff_toInt_le.mp c16; omega)
      by_cases c : hrX M3 = 64
      · rw [if_pos c, q_ChipMapModel_readAll_20]
        obtain ⟨N4, q1, q2, q3⟩ := rg17 (N := N1) (hS.2.1.trans e16)
        rw [q1, cal_s, if_pos rfl]
        exact Or.inr (Or.inr ⟨_, _, rfl, rfl, q3 _ h3, q2, c, _, h3⟩)
      · rw [if_neg c]
        refine Or.inr (Or.inl ⟨_, _, rfl, rfl, ?_, ?_, ?_⟩)
        · rw [e0]; exact hS
        · rw [e0]; omega
        · rw [e0]; omega
    · have c16z : ¬ 16 ≤ (a + 1).toInt := fun z => c16 (Int32.le_iff_toInt_le.mpr (by omega))
      rw [if_neg c16, if_neg (fun z => by have := Int32.le_iff_toInt_le.mp z; omega), nx_e h3, cal_s]
      by_cases c : hrX M3 = 64
      · rw [if_pos c, if_pos c]
        exact ih n' (m' + 1) M3 N1 (a + 1) (by omega) (by omega) (by omega) (by omega) (by omega) hS
      · rw [if_neg c, if_neg c]
        refine Or.inr (Or.inl ⟨_, _, rfl, rfl, ?_, ?_, ?_⟩)
        · rw [e0]; exact hS
        · rw [e0]; omega
        · rw [e0]; omega
def jdY (N : Mm) : Rs := cal (q_ChipMapModel_fieldsRight N) fun M1 r2 => if r2 = 0 then (some (M1, 0)) else (cal (q_ChipMapModel_registersRight M1) fun M3 r4 => if r4 = 0 then (some (M3, 0)) else (cal (q_ChipMapModel_rulesRight M3) fun M5 r6 => if r6 = 0 then (some (M5, 0)) else (some (M5, 1))))
def dR (M N : Mm) : Prop := N.1 0 6 = M.1 1 0 ∧ (1 ≤ (M.1 1 0).toInt ∧ (M.1 1 0).toInt ≤ 16) ∧ N.1 0 12 = M.1 1 6 ∧ (0 ≤ (M.1 1 6).toInt ∧ (M.1 1 6).toInt ≤ 128) ∧ N.1 0 20 = M.1 14 0 ∧ (0 ≤ (M.1 14 0).toInt ∧ (M.1 14 0).toInt ≤ 12) ∧ fR (M.1 1 6).toNatClampNeg M N ∧ gR (M.1 1 0).toNatClampNeg M N ∧ hS (M.1 1 6).toNatClampNeg (M.1 1 0) M ∧ ruR (M.1 14 0).toNatClampNeg M N
theorem dR.nx {M N M1 N1 : Mm} {k : Int32} (h : dR M N) (hk : M.1 14 0 = k) (h0 : 0 ≤ k.toInt ∧ k.toInt < 12) (q : ruQ M N M1 1 N1 1) : dR (stI M1 14 (upd (M1.1 14) 0 (k + 1))) N1 := by
  obtain ⟨h1, h2, h3, h4, h5, h6, h7, h8, h9, h10⟩ := h
  rcases q with q | ⟨_, _, q3, q4, q5, q6, q7, q8, q9⟩
  · exact absurd q.1 (by decide)
  rw [h5, hk] at q4 q9
  rw [hk] at h10
  have ek : (k + 1).toInt = k.toInt + 1 := iadd rfl (rfl : (1 : Int32).toInt = 1) (by omega) (by omega)
  have e1 : (stI M1 14 (upd (M1.1 14) 0 (k + 1))).1 1 = M.1 1 := q7 1 (by decide)
  have e14 : (stI M1 14 (upd (M1.1 14) 0 (k + 1))).1 14 0 = k + 1 := st_up
  have eo : ∀ p, p < 14 → (stI M1 14 (upd (M1.1 14) 0 (k + 1))).1 p = M.1 p := fun p hp => (stI_ne _ _ (by omega)).trans (q7 p (by omega))
  have en : ∀ p, p < 14 → p ≠ 0 → N1.1 p = N.1 p := fun p hp p0 => q8 p (by omega) p0
  unfold dR
  rw [e1, e14]
  refine ⟨q5.trans h1, h2, q6.trans h3, h4, q4, by omega, h7.cg (fun p p1 p2 => eo p (by omega)) (fun p p1 p2 => en p (by omega) (by omega)), ?_, ?_, ?_⟩
  · unfold gR
    rw [eo 2 (by decide), eo 3 (by decide), en 5 (by decide) (by decide), en 2 (by decide) (by decide)]
    exact ⟨h8.1, h8.2.1, h8.2.2.1, h8.2.2.2.1, h8.2.2.2.2.cg (eo 4 (by decide)) (eo 5 (by decide)) (eo 6 (by decide)) (en 3 (by decide) (by decide)) (en 4 (by decide) (by decide)) (en 6 (by decide) (by decide))⟩
  · unfold hS
    rw [eo 9 (by decide)]
    exact h9
  · rw [tnS (by omega)]
    exact q9 h10
theorem rul13 {N : Mm} (h20 : N.1 0 20 = 12) : ∃ N' : Mm, q_ChipMapModel_readRule N = some (N', 0) ∧ flt N' ∧ ∀ M, rdR M N → rd0 M N' := by
  unfold q_ChipMapModel_readRule
  rw [h20, lq_s, if_pos rfl, wg_e, cal_s, bz_e0]
  exact ⟨_, rfl, wr_f, fun M h => h.z⟩
theorem ru_loop : ∀ (j n' m' : Nat) (M N : Mm) (k : Int32), 12 - k.toInt = (j : Int) → 0 ≤ k.toInt → j < n' → j < m' → rdR M N → dR M N → M.1 14 0 = k → f3 (q_Reader_readRules_2 n' M k) (q_ChipMapModel_readAll_38 m' N) jdY (fun M' N' => rdR M' N' ∧ dR M' N' ∧ M'.1 21 3 = M'.1 21 2) (fun M' _ => M'.1 21 3 ≠ M'.1 21 2) := by
  intro j
  induction j with
  | zero =>
    intro n' m' M N k hj k0 hn' hm' h hd hk
    obtain ⟨n', rfl⟩ : ∃ q, n' = q + 1 := ⟨n' - 1, by omega⟩
    obtain ⟨m', rfl⟩ : ∃ q, m' = q + 1 := ⟨m' - 1, by omega⟩
    have z12 : (12 : Int32).toInt = 12 := rfl
    have hl := h.2.2.2.2.2.2.1
    rw [q_Reader_readRules_2, q_ChipMapModel_readAll_38, if_pos (Int32.le_iff_toInt_le.mpr (by omega)), ← h.1, ← h.2.1]
    by_cases c : M.1 21 2 ≤ M.1 21 3
    · rw [if_pos c]
      exact Or.inr (Or.inl ⟨_, _, rfl, rfl, h, hd, Int32.toInt_inj.mp (by have := Int32.le_iff_toInt_le.mp c; omega)⟩)
    · rw [if_neg c]
      have e12 : k = 12 := Int32.toInt_inj.mp (by omega)
      obtain ⟨N4, q1, q2, q3⟩ := rul13 (N := N) (by rw [hd.2.2.2.2.1, hk, e12])
      rw [q1, cal_s, if_pos rfl]
      exact Or.inr (Or.inr ⟨_, _, rfl, rfl, q3 _ h, q2, fun z => c (by rw [z]; exact Int32.le_iff_toInt_le.mpr (Int.le_refl _))⟩)
  | succ j ih =>
    intro n' m' M N k hj k0 hn' hm' h hd hk
    obtain ⟨n', rfl⟩ : ∃ q, n' = q + 1 := ⟨n' - 1, by omega⟩
    obtain ⟨m', rfl⟩ : ∃ q, m' = q + 1 := ⟨m' - 1, by omega⟩
    have z12 : (12 : Int32).toInt = 12 := rfl
    have hl := h.2.2.2.2.2.2.1
    have ek : (k + 1).toInt = k.toInt + 1 := iadd rfl (rfl : (1 : Int32).toInt = 1) (by omega) (by omega)
    rw [q_Reader_readRules_2, q_ChipMapModel_readAll_38, if_neg (fun z => by have := Int32.le_iff_toInt_le.mp z; omega), ← h.1, ← h.2.1]
    by_cases c : M.1 21 2 ≤ M.1 21 3
    · rw [if_pos c, if_neg (fun z => by have := Int32.lt_iff_toInt_lt.mp z; have := Int32.le_iff_toInt_le.mp c; omega)]
      exact Or.inr (Or.inl ⟨_, _, rfl, rfl, h, hd, Int32.toInt_inj.mp (by have := Int32.le_iff_toInt_le.mp c; omega)⟩)
    · have cz : ¬ (M.1 21 2).toInt ≤ (M.1 21 3).toInt := fun z => c (Int32.le_iff_toInt_le.mpr z)
      rw [if_neg c, if_pos (Int32.lt_iff_toInt_lt.mpr (by omega))]
      obtain ⟨M1, r, N1, s, e1, e2, hq⟩ := rul_rel h (by rw [hd.2.2.2.2.1, hk]) (by omega)
      rw [e1, e2, cal_s, cal_s]
      have hq0 := hq
      rcases hq with hq | hq
      · rw [hq.1, hq.2.1, if_pos rfl, if_pos rfl]
        exact Or.inl ⟨_, _, rfl, rfl, hq.2.2⟩
      rw [hq.1, hq.2.1] at hq0
      rw [hq.1, hq.2.1, if_neg (by decide), if_neg (by decide), lq_s]
      exact ih n' m' _ N1 (k + 1) (by omega) (by omega) (by omega) (by omega) hq.2.2.1 (hd.nx hk (by omega) hq0) st_up
