def hR (n : Nat) (a : Int32) (M : Mm) : Prop := (∀ i : Nat, i < n → 0 ≤ (M.1 9 i).toInt ∧ (M.1 9 i).toInt ≤ a.toInt) ∧ ∀ i j : Nat, i ≤ j → j < n → (M.1 9 i).toInt ≤ (M.1 9 j).toInt
theorem hR.up {n : Nat} {a : Int32} {M M' : Mm} (h : hR n a M) (h0 : 0 ≤ a.toInt) (e : M'.1 9 = upd (M.1 9) n a) : hR (n + 1) a M' := by
  unfold hR
  rw [e]
  refine ⟨fun i hi => ?_, fun i j hij hj => ?_⟩
  · by_cases c : i = n
    · rw [c, updS]
      omega
    · rw [updN c]
      exact h.1 i (by omega)
  · by_cases c : j = n
    · by_cases d : i = n
      · rw [c, d]
        omega
      · rw [updN d, c, updS]
        exact (h.1 i (by omega)).2
    · rw [updN c, updN (by omega)]
      exact h.2 i j hij (by omega)
theorem fR.cg {n : Nat} {M N M' N' : Mm} (h : fR n M N) (a : ∀ p, 7 ≤ p → p ≤ 13 → M'.1 p = M.1 p) (b : ∀ p, 7 ≤ p → p ≤ 13 → N'.1 p = N.1 p) : fR n M' N' := by
  unfold fR
  rw [a 7 (by decide) (by decide), a 8 (by decide) (by decide), a 9 (by decide) (by decide), a 10 (by decide) (by decide), a 11 (by decide) (by decide), a 12 (by decide) (by decide), a 13 (by decide) (by decide), b 7 (by decide) (by decide), b 8 (by decide) (by decide), b 9 (by decide) (by decide), b 10 (by decide) (by decide), b 11 (by decide) (by decide), b 12 (by decide) (by decide), b 13 (by decide) (by decide)]
  exact h
theorem hR.cg {n : Nat} {a : Int32} {M M' : Mm} (h : hR n a M) (e : M'.1 9 = M.1 9) : hR n a M' := by
  unfold hR
  rw [e]
  exact h
theorem tnS {x : Int32} (h : 0 ≤ x.toInt ∧ x.toInt < 1000) : (x + 1).toNatClampNeg = x.toNatClampNeg + 1 := by
  have e : (x + 1).toInt = x.toInt + 1 := iadd rfl (rfl : (1 : Int32).toInt = 1) (by omega) (by omega)
  have e1 : (x + 1).toNatClampNeg = (x + 1).toInt.toNat := rfl
  have e2 : x.toNatClampNeg = x.toInt.toNat := rfl
  omega
def lpQ (M N : Mm) (b : Int) (M' : Mm) (r : Int32) (N' : Mm) (s : Int32) : Prop := fl0 M' r N' s ∨ (r = 1 ∧ s = 1 ∧ rdR M' N' ∧ N'.1 0 12 = M'.1 1 6 ∧ ((M.1 1 6).toInt ≤ (M'.1 1 6).toInt ∧ (M'.1 1 6).toInt ≤ b) ∧ N'.1 0 6 = N.1 0 6 + 1 ∧ N'.1 0 20 = N.1 0 20 ∧ (∀ p, p < 7 ∨ 13 < p → p ≠ 1 → p ≠ 21 → M'.1 p = M.1 p) ∧ (∀ p, p < 7 ∨ 13 < p → p ≠ 0 → N'.1 p = N.1 p) ∧ (fR (M.1 1 6).toNatClampNeg M N → fR (M'.1 1 6).toNatClampNeg M' N') ∧ (hR (M.1 1 6).toNatClampNeg (N.1 0 6) M → hR (M'.1 1 6).toNatClampNeg (N.1 0 6) M'))
theorem rg_end {M N : Mm} {b : Int} (h : rdR M N) (hn : N.1 0 12 = M.1 1 6) (hb : (M.1 1 6).toInt ≤ b) : w2 (q_Reader_readRegister_113 M) (lt' (stI N 0 (upd (N.1 0) 6 ((N.1 0 6) + 1))) fun M1 => cal (q_ChipMapModel_take M1 125) fun M2 r3 => bz r3 (some (M2, r3))) (lpQ M N b) := by
  unfold q_Reader_readRegister_113
  refine w2.ltR (fun N1 eN1 => ?_)
  have h1 : rdR M N1 := by subst eN1; exact h
  obtain ⟨M', N', r, q1, q2, ht, hr⟩ := take_rel h1 125 (by decide)
  rw [q1, q2, cal_s, cal_s]
  rcases tk0 ht.1 hr with ⟨g, g1⟩ | ⟨g, g1⟩
  · rw [g, bz_e1, bz_e1]
    subst eN1
    have e1 : M'.1 1 = M.1 1 := ht.2.1 1 (by decide)
    refine w2.s (Or.inr ⟨rfl, rfl, g1, ?_, ?_, ht.2.2.s6, ht.2.2.s20, fun p _ _ p3 => ht.2.1 p p3, fun p _ p2 => (ht.2.2.o p p2).trans (stI_ne _ _ p2), fun hf => ?_, fun hf => ?_⟩)
    · rw [e1, ht.2.2.s12]
      exact hn
    · rw [e1]
      exact ⟨Int.le_refl _, hb⟩
    · rw [e1]
      exact hf.cg (fun p p1 p2 => ht.2.1 p (by omega)) (fun p p1 p2 => (ht.2.2.o p (by omega)).trans (stI_ne _ _ (by omega)))
    · rw [e1]
      exact hf.cg (ht.2.1 9 (by decide))
  · rw [g1, bz_e0, bz_e0]
    exact w2.s (Or.inl g)
theorem lp_step {M N M1 N1 M' N' : Mm} {b : Int} {r s : Int32} (h0 : 0 ≤ (M.1 1 6).toInt ∧ (M.1 1 6).toInt < 128) (h6 : 0 ≤ (N.1 0 6).toInt) (q : flQ M N M1 1 N1 1) (g : lpQ M1 N1 b M' r N' s) : lpQ M N b M' r N' s := by
  rcases g with g | ⟨g1, g2, g3, g4, g5, g6, g7, g8, g9, g10, g11⟩
  · exact Or.inl g
  rcases q with q | ⟨_, _, q3, q4, q5, q6, q7, q8, q9, q10, q11⟩
  · exact absurd q.1 (by decide)
  have e1 : M1.1 1 6 = M.1 1 6 + 1 := by rw [q4]; exact updS
  have e2 : (M1.1 1 6).toInt = (M.1 1 6).toInt + 1 := by rw [e1]; exact iadd rfl (rfl : (1 : Int32).toInt = 1) (by omega) (by omega)
  have e3 : (M1.1 1 6).toNatClampNeg = (M.1 1 6).toNatClampNeg + 1 := by rw [e1]; exact tnS (by omega)
  rw [e3] at g10 g11
  rw [q7] at g6 g11
  refine Or.inr ⟨g1, g2, g3, g4, by omega, g6, g7.trans q8, fun p p1 p2 p3 => (g8 p p1 p2 p3).trans (q5 p p1 p2 p3), fun p p1 p2 => (g9 p p1 p2).trans (q9 p p1 p2), fun hf => g10 (q10 hf), fun hf => g11 (hf.up h6 q11)⟩
theorem fl_loop {a1 bf : Int32} (hb : 0 ≤ bf.toInt ∧ bf.toInt ≤ 120) (ha : 0 ≤ a1.toInt) : ∀ (j n' m' : Nat) (M N : Mm) (k : Int32), 8 - k.toInt = (j : Int) → 0 ≤ k.toInt → 0 < j → j < n' → j < m' → rdR M N → N.1 0 6 = a1 → N.1 0 12 = M.1 1 6 → (M.1 1 6).toInt = bf.toInt + k.toInt → w2 (q_Reader_readRegister_97 (q_Reader_readRegister_75 n') M a1 k) (q_ChipMapModel_readRegister_165 m' N bf 1) (lpQ M N (bf.toInt + 8)) := by
  intro j
  induction j with
  | zero =>
    intro n' m' M N k _ _ hj
    exact absurd hj (by decide)
  | succ j ih =>
    intro n' m' M N k hk k0 hj hn' hm' h h6 hn hc
    obtain ⟨n', rfl⟩ : ∃ q, n' = q + 1 := ⟨n' - 1, by omega⟩
    obtain ⟨m', rfl⟩ : ∃ q, m' = q + 1 + 1 := ⟨m' - 2, by omega⟩
    unfold q_Reader_readRegister_97
    rw [q_ChipMapModel_readRegister_165, if_neg (by decide : ¬ (1 : Int32) = 0)]
    refine (fld_rel h h6 hn (by omega)).cal (fun M1 r1 N1 s1 hq => ?_)
    have hq0 := hq
    rcases hq with hq | ⟨e1, e2, h1, k1, fo, n12, n6, n20, no, hf, h9⟩
    · rw [hq.1, hq.2.1, if_pos rfl, if_pos rfl]
      exact w2.s (Or.inl ⟨rfl, rfl, hq.2.2⟩)
    rw [e1, e2] at hq0
    have z8 : (8 : Int32).toInt = 8 := rfl
    have z0 : (0 : Int32).toInt = 0 := rfl
    have ek : (k + 1).toInt = k.toInt + 1 := iadd rfl (rfl : (1 : Int32).toInt = 1) (by omega) (by omega)
    have em : M1.1 1 6 = M.1 1 6 + 1 := by rw [k1]; exact updS
    have em2 : (M1.1 1 6).toInt = (M.1 1 6).toInt + 1 := by rw [em]; exact iadd rfl (rfl : (1 : Int32).toInt = 1) (by omega) (by omega)
    have en : N1.1 0 12 = M1.1 1 6 := by rw [n12, em]
    have ed : (N1.1 0 12 - bf).toInt = (M1.1 1 6).toInt - bf.toInt := by rw [en]; exact isub rfl rfl (by omega) (by omega)
    have hh : 0 ≤ (M.1 1 6).toInt ∧ (M.1 1 6).toInt < 128 := by omega
    have h60 : 0 ≤ (N.1 0 6).toInt := by rw [h6]; exact ha
    have eA : q_ChipMapModel_readRegister_202 (q_ChipMapModel_readRegister_165 (m' + 1)) N1 bf = (lt' (stI N1 0 (upd (N1.1 0) 6 ((N1.1 0 6) + 1))) fun M1 => cal (q_ChipMapModel_take M1 125) fun M2 r3 => bz r3 (some (M2, r3))) := by
      unfold q_ChipMapModel_readRegister_202 q_ChipMapModel_readRegister_203
      rw [q_ChipMapModel_readRegister_165, if_pos rfl]
    have eB : q_ChipMapModel_readRegister_203 (q_ChipMapModel_readRegister_165 (m' + 1)) N1 bf 1 = q_ChipMapModel_readRegister_165 (m' + 1) N1 bf 1 := rfl
    rw [e1, e2, if_neg (by decide), if_neg (by decide), hr_e h1, cal_s, eA, eB, q_Reader_readRegister_75, ← hr_eq h1]
    by_cases c8 : 8 ≤ k + 1
    · have c8' : 8 ≤ N1.1 0 12 - bf := Int32.le_iff_toInt_le.mpr (by have := Int32.le_iff_toInt_le.mp c8; omega)
      rw [if_pos c8, if_pos c8']
      have ei : ∀ A : Rs, (if hrX M1 = 125 then A else A) = A := fun A => by split <;> rfl
      rw [ei]
      exact (rg_end h1 en (by omega)).mono (fun M' r N' s g => lp_step hh h60 hq0 g)
    · have c8' : ¬ 8 ≤ N1.1 0 12 - bf := fun z => c8 (Int32.le_iff_toInt_le.mpr (by have := Int32.le_iff_toInt_le.mp z; omega))
      have c8z : ¬ 8 ≤ (k + 1).toInt := fun z => c8 (Int32.le_iff_toInt_le.mpr (by omega))
      rw [if_neg c8, if_neg c8', if_neg (fun z => by have := Int32.le_iff_toInt_le.mp z; omega), nx_e h1, cal_s]
      by_cases c : hrX M1 = 125
      · rw [if_pos c, if_pos c]
        exact (rg_end h1 en (by omega)).mono (fun M' r N' s g => lp_step hh h60 hq0 g)
      · rw [if_neg c, if_neg c]
        exact (ih n' (m' + 1) M1 N1 (k + 1) (by omega) (by omega) (by omega) (by omega) (by omega) h1 (n6.trans h6) en (by omega)).mono (fun M' r N' s g => lp_step hh h60 hq0 g)
