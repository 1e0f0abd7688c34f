theorem kb_0 (k : Nat) : 0 ≤ kb k := by
  unfold kb
  split
  · decide
  · split
    · decide
    · split
      · decide
      · split <;> decide
def kd (k : Nat) : Int := if k = 0 then 99 else if k = 1 then 9 else 0
theorem dg_c {c : Int32} (h1 : 48 ≤ c.toInt) (h2 : c.toInt ≤ 57) : dg c = c - 48 := by
  have e48 : (48 : Int32).toInt = 48 := rfl
  have e57 : (57 : Int32).toInt = 57 := rfl
  unfold dg
  rw [if_neg (fun z => by have := Int32.lt_iff_toInt_lt.mp z; omega), if_neg (fun z => by have := Int32.lt_iff_toInt_lt.mp z; omega)]
theorem dg_o {c : Int32} (h : c.toInt < 48 ∨ 57 < c.toInt) : dg c = -1 ∨ 10 ≤ (dg c).toInt := by
  have e48 : (48 : Int32).toInt = 48 := rfl
  have e57 : (57 : Int32).toInt = 57 := rfl
  have e97 : (97 : Int32).toInt = 97 := rfl
  have e102 : (102 : Int32).toInt = 102 := rfl
  have key : (if c < 97 then (-1 : Int32) else if 102 < c then -1 else (c - 97) + 10) = -1 ∨ 10 ≤ (if c < 97 then (-1 : Int32) else if 102 < c then -1 else (c - 97) + 10).toInt := by
    by_cases c1 : c < 97
    · rw [if_pos c1]; exact Or.inl rfl
    · rw [if_neg c1]
      by_cases c2 : 102 < c
      · rw [if_pos c2]; exact Or.inl rfl
      · rw [if_neg c2]
        have h1 : ¬ c.toInt < 97 := fun z => c1 (Int32.lt_iff_toInt_lt.mpr (by omega))
        have h2 : ¬ 102 < c.toInt := fun z => c2 (Int32.lt_iff_toInt_lt.mpr (by omega))
        have z1 : (c - 97).toInt = c.toInt - 97 := isub rfl e97 (by omega) (by omega)
        have z2 : ((c - 97) + 10).toInt = c.toInt - 97 + 10 := iadd z1 (rfl : (10 : Int32).toInt = 10) (by omega) (by omega)
        exact Or.inr (by omega)
  unfold dg
  by_cases c0 : c < 48
  · rw [if_pos c0]; exact key
  · rw [if_neg c0]
    have h0 : ¬ c.toInt < 48 := fun z => c0 (Int32.lt_iff_toInt_lt.mpr (by omega))
    rw [if_pos (Int32.lt_iff_toInt_lt.mpr (by omega))]
    exact key
theorem tdc_e {N : Mm} {d : Int32} : q_ChipMapModel_takeDecimal_65 N d = if 0 < d then some (N, 1) else some (wrY N 1 (N.1 0 3), 0) := rfl
section NAM
theorem num16 {M N : Mm} (h : rdR M N) (l mo : Int32) (hm : 0 ≤ mo.toInt ∧ mo.toInt ≤ 4) : ∃ (M' N' : Mm) (r b : Int32), q_Reader_number M 16 l mo = some (M', r) ∧ q_ChipMapModel_takeHex N l mo = some (N', b) ∧ tRel M N M' N' ∧ ((b = 1 ∧ r = N'.1 0 70 ∧ 0 ≤ r.toInt ∧ nf N') ∨ (b = 0 ∧ r = -1 ∧ flt N')) := by
  have z0 : (0 : Int32).toInt = 0 := rfl
  obtain ⟨M', N', r, b, q1, q2, ht, hr⟩ := hex_rel (l := l) hm mo.toInt.toNat 4000 4000 M (tkY N 0) 0 0 (by omega) (by omega) (by omega) (by omega) (rd_tk h) rfl (by omega) (by have := kb_0 mo.toInt.toNat; omega)
  exact ⟨M', N', r, b, q1, q2, (tRel.tk h).tr ht, hr⟩
theorem stop10 {M N : Mm} {v i : Int32} (h : rdR M N) (hv : N.1 0 70 = v) (h0 : 0 ≤ v.toInt) (hi : 0 ≤ i.toInt) : ∃ (M' N' : Mm) (r b : Int32), q_Reader_number_67 M 1 v i = some (M', r) ∧ q_ChipMapModel_takeDecimal_65 N i = some (N', b) ∧ tRel M N M' N' ∧ ((b = 1 ∧ r = N'.1 0 70 ∧ 0 ≤ r.toInt ∧ nf N') ∨ (b = 0 ∧ r = -1 ∧ flt N')) := by
  rw [num_e, tdc_e]
  have e1 : (1 : Int32).toInt = 1 := rfl
  have e0 : (0 : Int32).toInt = 0 := rfl
  by_cases c : 1 ≤ i
  · have c2 : 0 < i := Int32.lt_iff_toInt_lt.mpr (by have := Int32.le_iff_toInt_le.mp c; omega)
    exact ⟨M, N, v, 1, by rw [if_pos c], by rw [if_pos c2], tRel.rf h, Or.inl ⟨rfl, hv.symm, h0, h.f⟩⟩
  · have c2 : ¬ 0 < i := fun z => c (Int32.le_iff_toInt_le.mpr (by have := Int32.lt_iff_toInt_lt.mp z; omega))
    exact ⟨M, wrY N 1 (N.1 0 3), -1, 0, by rw [if_neg c], by rw [if_neg c2], tRel.wr h, Or.inr ⟨rfl, rfl, wr_f⟩⟩
theorem dec_rel : ∀ (k n' m' : Nat) (M N : Mm) (i v : Int32), 2 - i.toInt = (k : Int) → 0 ≤ i.toInt → k < n' → k < m' → rdR M N → N.1 0 70 = v → 0 ≤ v.toInt → v.toInt ≤ kd k → ∃ (M' N' : Mm) (r b : Int32), q_Reader_number_9 n' M 10 1 2 v i i = some (M', r) ∧ q_ChipMapModel_takeDecimal_7 m' N i = some (N', b) ∧ tRel M N M' N' ∧ ((b = 1 ∧ r = N'.1 0 70 ∧ 0 ≤ r.toInt ∧ nf N') ∨ (b = 0 ∧ r = -1 ∧ flt N')) := by
  intro k
  induction k with
  | zero =>
    intro n' m' M N i v hk hi hn hm' h hv h0 hb
    obtain ⟨n', rfl⟩ : ∃ q, n' = q + 1 := ⟨n' - 1, by omega⟩
    obtain ⟨m', rfl⟩ : ∃ q, m' = q + 1 := ⟨m' - 1, by omega⟩
    have e2 : (2 : Int32).toInt = 2 := rfl
    have c : (2 : Int32) ≤ i := Int32.le_iff_toInt_le.mpr (by omega)
    rw [q_Reader_number_9, q_ChipMapModel_takeDecimal_7, if_pos c, if_pos c]
    exact stop10 h hv h0 hi
  | succ k ih =>
    intro n' m' M N i v hk hi hn hm' h hv h0 hb
    obtain ⟨n', rfl⟩ : ∃ q, n' = q + 1 := ⟨n' - 1, by omega⟩
    obtain ⟨m', rfl⟩ : ∃ q, m' = q + 1 := ⟨m' - 1, by omega⟩
    have e2 : (2 : Int32).toInt = 2 := rfl
    have e48 : (48 : Int32).toInt = 48 := rfl
    have e57 : (57 : Int32).toInt = 57 := rfl
    have e10 : (10 : Int32).toInt = 10 := rfl
    have c : ¬ (2 : Int32) ≤ i := fun z => by have := Int32.le_iff_toInt_le.mp z; omega
    have eh := hr_eq h
    rw [q_Reader_number_9, q_ChipMapModel_takeDecimal_7, if_neg c, if_neg c, nx_e h, hr_e h, cal_s, cal_s, dg_x, cal_s, ← eh]
    have hstop : dg (hrX M) = -1 ∨ 10 ≤ (dg (hrX M)).toInt → ∃ (M' N' : Mm) (r b : Int32), (if dg (hrX M) = -1 then q_Reader_number_67 M 1 v i else if dg (hrX M) < 10 then (lt' ((v * 10) + dg (hrX M)) fun x5 => lt' (stI M 21 (upd (M.1 21) 3 ((M.1 21 3) + 1))) fun M6 => q_Reader_number_9 n' M6 10 1 2 x5 (i + 1) (i + 1)) else q_Reader_number_67 M 1 v i) = some (M', r) ∧ q_ChipMapModel_takeDecimal_65 N i = some (N', b) ∧ tRel M N M' N' ∧ ((b = 1 ∧ r = N'.1 0 70 ∧ 0 ≤ r.toInt ∧ nf N') ∨ (b = 0 ∧ r = -1 ∧ flt N')) := by
      intro hc
      rcases hc with hc | hc
      · rw [if_pos hc]
        exact stop10 h hv h0 hi
      · rw [if_neg (fun z => by rw [z] at hc; exact absurd hc (by decide)), if_neg (fun z => by have := Int32.lt_iff_toInt_lt.mp z; omega)]
        exact stop10 h hv h0 hi
    by_cases c48 : hrX M < 48
    · rw [if_pos c48]
      exact hstop (dg_o (Or.inl (by have := Int32.lt_iff_toInt_lt.mp c48; omega)))
    · rw [if_neg c48, hr_e h, cal_s, ← eh]
      by_cases c57 : 57 < hrX M
      · rw [if_pos c57]
        exact hstop (dg_o (Or.inr (by have := Int32.lt_iff_toInt_lt.mp c57; omega)))
      · have h48 : 48 ≤ (hrX M).toInt := by
          have : ¬ (hrX M).toInt < 48 := fun z => c48 (Int32.lt_iff_toInt_lt.mpr (by omega))
          omega
        have h57 : (hrX M).toInt ≤ 57 := by
          have : ¬ 57 < (hrX M).toInt := fun z => c57 (Int32.lt_iff_toInt_lt.mpr (by omega))
          omega
        have hd := dg_c h48 h57
        have zd : (hrX M - 48).toInt = (hrX M).toInt - 48 := isub rfl e48 (by omega) (by omega)
        have hz : (hrX M).toInt ≠ 0 := by omega
        have em1 : (-1 : Int32).toInt = -1 := by decide
        have n1 : ¬ dg (hrX M) = -1 := fun z => by rw [hd] at z; have := congrArg Int32.toInt z; omega
        have n2 : dg (hrX M) < 10 := Int32.lt_iff_toInt_lt.mpr (by rw [hd]; omega)
        rw [if_neg c57, hr_e h, cal_s, ← eh, if_neg n1, if_pos n2]
        have hv9 : v.toInt ≤ 9 ∧ v.toInt * 10 + ((hrX M).toInt - 48) ≤ kd k := by
          have hc : k = 0 ∨ k = 1 := by omega
          rcases hc with rfl | rfl
          · have hb : v.toInt ≤ 9 := hb
            show _ ∧ _ ≤ (99 : Int)
            omega
          · have hb : v.toInt ≤ 0 := hb
            show _ ∧ _ ≤ (9 : Int)
            omega
        have z1 : (v * 10).toInt = v.toInt * 10 := imul rfl e10 (by omega) (by omega)
        have z2 : (v * 10 + dg (hrX M)).toInt = v.toInt * 10 + ((hrX M).toInt - 48) := iadd z1 (by rw [hd]; exact zd) (by omega) (by omega)
        have y1 : (10 * v).toInt = 10 * v.toInt := imul e10 rfl (by omega) (by omega)
        have y2 : (10 * v + hrX M).toInt = 10 * v.toInt + (hrX M).toInt := iadd y1 rfl (by omega) (by omega)
        have y3 : (10 * v + hrX M - 48).toInt = 10 * v.toInt + (hrX M).toInt - 48 := isub y2 e48 (by omega) (by omega)
        have ev : v * 10 + dg (hrX M) = 10 * N.1 0 70 + hrX M - 48 := by
          rw [hv]
          exact Int32.toInt_inj.mp (by omega)
        have ez : (i + 1).toInt = i.toInt + 1 := iadd rfl (rfl : (1 : Int32).toInt = 1) (by omega) (by omega)
        obtain ⟨M', N', r, b, q1, q2, ht, hr⟩ := ih n' m' (avX M) (avY (tkY N (10 * N.1 0 70 + hrX M - 48))) (i + 1) (v * 10 + dg (hrX M)) (by omega) (by omega) (by omega) (by omega) (rd_av (rd_tk h) hz) (by rw [ev]; rfl) (by omega) (by rw [z2]; exact hv9.2)
        exact ⟨M', N', r, b, q1, q2, (tRel.tk h).tr ((tRel.av (rd_tk h) hz).tr ht), hr⟩
theorem num10 {M N : Mm} (h : rdR M N) : ∃ (M' N' : Mm) (r b : Int32), q_Reader_number M 10 1 2 = some (M', r) ∧ q_ChipMapModel_takeDecimal N = some (N', b) ∧ tRel M N M' N' ∧ ((b = 1 ∧ r = N'.1 0 70 ∧ 0 ≤ r.toInt ∧ nf N') ∨ (b = 0 ∧ r = -1 ∧ flt N')) := by
  obtain ⟨M', N', r, b, q1, q2, ht, hr⟩ := dec_rel 2 4000 4000 M (tkY N 0) 0 0 rfl (by decide) (by decide) (by decide) (rd_tk h) rfl (by decide) (by decide)
  exact ⟨M', N', r, b, q1, q2, (tRel.tk h).tr ht, hr⟩
end NAM
