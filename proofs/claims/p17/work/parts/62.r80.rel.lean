theorem ix_e {i : Int32} {n : Nat} {k : Rs} (h : vp_in i n) : ix i n k = k := by
  unfold ix
  rw [if_neg h]
theorem cz_e {v : Int32} {k : Rs} (h : (v.toUInt32 % 65536).toInt32 = v) : cz v k = k := by
  unfold cz
  rw [if_pos h]
theorem bz_e0 {k : Rs} : bz 0 k = k := by
  unfold bz
  rw [if_pos (Or.inl rfl)]
theorem bz_e1 {k : Rs} : bz 1 k = k := by
  unfold bz
  rw [if_pos (Or.inr rfl)]
def hrX (M : Mm) : Int32 := if M.1 21 2 ≤ M.1 21 3 then 0 else M.1 22 (M.1 21 3).toNatClampNeg
def avX (M : Mm) : Mm := stI M 21 (upd (M.1 21) 3 (M.1 21 3 + 1))
def avY (N : Mm) : Mm := stI N 0 (upd (N.1 0) 3 (N.1 0 3 + 1))
def tkY (N : Mm) (v : Int32) : Mm := stI N 0 (upd (N.1 0) 70 v)
def wrY (N : Mm) (k p : Int32) : Mm := stI (stI N 0 (upd (N.1 0) 4 k)) 0 (upd ((stI N 0 (upd (N.1 0) 4 k)).1 0) 5 p)
def nf (N : Mm) : Prop := N.1 0 4 = 0 ∧ N.1 0 5 = 0
def rd0 (M N : Mm) : Prop := M.1 21 3 = N.1 0 3 ∧ M.1 21 2 = N.1 0 2 ∧ (∀ j : Nat, (j : Int) < (M.1 21 2).toInt → M.1 22 j = N.1 1 j) ∧ (0 ≤ (M.1 21 3).toInt ∧ (M.1 21 3).toInt ≤ 480) ∧ (0 ≤ (M.1 21 2).toInt ∧ (M.1 21 2).toInt ≤ 480) ∧ (∀ j, ((M.1 22 j).toUInt32 % 65536).toInt32 = M.1 22 j) ∧ (M.1 21 3).toInt ≤ (M.1 21 2).toInt
def rdR (M N : Mm) : Prop := M.1 21 3 = N.1 0 3 ∧ M.1 21 2 = N.1 0 2 ∧ (∀ j : Nat, (j : Int) < (M.1 21 2).toInt → M.1 22 j = N.1 1 j) ∧ (0 ≤ (M.1 21 3).toInt ∧ (M.1 21 3).toInt ≤ 480) ∧ (0 ≤ (M.1 21 2).toInt ∧ (M.1 21 2).toInt ≤ 480) ∧ (∀ j, ((M.1 22 j).toUInt32 % 65536).toInt32 = M.1 22 j) ∧ (M.1 21 3).toInt ≤ (M.1 21 2).toInt ∧ nf N
theorem rdR.z {M N : Mm} (h : rdR M N) : rd0 M N := ⟨h.1, h.2.1, h.2.2.1, h.2.2.2.1, h.2.2.2.2.1, h.2.2.2.2.2.1, h.2.2.2.2.2.2.1⟩
theorem rdR.f {M N : Mm} (h : rdR M N) : nf N := h.2.2.2.2.2.2.2
theorem rd0.n {M N : Mm} (h : rd0 M N) (g : nf N) : rdR M N := ⟨h.1, h.2.1, h.2.2.1, h.2.2.2.1, h.2.2.2.2.1, h.2.2.2.2.2.1, h.2.2.2.2.2.2, g⟩
def flt (N : Mm) : Prop := N.1 0 4 = 1 ∧ N.1 0 5 = N.1 0 3
section REL
variable {M N : Mm}
theorem nx_e (h : rdR M N) : q_Reader_next M = some (M, hrX M) := by
  unfold q_Reader_next hrX
  by_cases c : M.1 21 2 ≤ M.1 21 3
  · rw [if_pos c, if_pos c]
  · rw [if_neg c, if_neg c]
    have z1 := h.2.2.2.2.1
    have z2 := h.2.2.2.1
    have c2 : ¬ (M.1 21 2).toInt ≤ (M.1 21 3).toInt := fun z => c (Int32.le_iff_toInt_le.mpr z)
    rw [ix_e (vI (by omega)), cz_e (h.2.2.2.2.2.1 _)]
theorem hr_e (h : rdR M N) : q_ChipMapModel_here N = some (N, hrV N) := by
  unfold q_ChipMapModel_here hrV
  by_cases c : N.1 0 2 ≤ N.1 0 3
  · rw [if_pos c, if_pos c]
  · rw [if_neg c, if_neg c]
    have z1 := h.2.2.2.2.1
    have z2 := h.2.2.2.1
    rw [h.2.1] at z1
    rw [h.1] at z2
    have c2 : ¬ (N.1 0 2).toInt ≤ (N.1 0 3).toInt := fun z => c (Int32.le_iff_toInt_le.mpr z)
    rw [ix_e (vI (by omega))]
theorem hr_eq (h : rdR M N) : hrX M = hrV N := by
  unfold hrX hrV
  rw [← h.1, ← h.2.1]
  by_cases c : M.1 21 2 ≤ M.1 21 3
  · rw [if_pos c, if_pos c]
  · rw [if_neg c, if_neg c]
    have z2 := h.2.2.2.1
    have c2 : ¬ (M.1 21 2).toInt ≤ (M.1 21 3).toInt := fun z => c (Int32.le_iff_toInt_le.mpr z)
    exact h.2.2.1 _ (by rw [tnc z2.1]; omega)
theorem hr_lt (h : rdR M N) (hz : (hrX M).toInt ≠ 0) : (M.1 21 3).toInt < (M.1 21 2).toInt := by
  unfold hrX at hz
  have z1 := h.2.2.2.2.1
  by_cases c : M.1 21 2 ≤ M.1 21 3
  · rw [if_pos c] at hz
    exact absurd rfl hz
  · have c2 : ¬ (M.1 21 2).toInt ≤ (M.1 21 3).toInt := fun z => c (Int32.le_iff_toInt_le.mpr z)
    omega
theorem rd_av (h : rdR M N) (hz : (hrX M).toInt ≠ 0) : rdR (avX M) (avY N) := by
  have z := hr_lt h hz
  have z2 := h.2.2.2.1
  have z5 := h.2.2.2.2.1
  have z3 : (M.1 21 3 + 1).toInt = (M.1 21 3).toInt + 1 := iadd rfl (rfl : (1 : Int32).toInt = 1) (by omega) (by omega)
  refine ⟨?_, h.2.1, h.2.2.1, ?_, h.2.2.2.2.1, h.2.2.2.2.2.1, ?_, h.f⟩
  · show M.1 21 3 + 1 = N.1 0 3 + 1
    rw [h.1]
  · show 0 ≤ (M.1 21 3 + 1).toInt ∧ (M.1 21 3 + 1).toInt ≤ 480
    omega
  · show (M.1 21 3 + 1).toInt ≤ (M.1 21 2).toInt
    omega
theorem rd_tk {v : Int32} (h : rdR M N) : rdR M (tkY N v) := h
theorem rd_wr {k p : Int32} (h : rdR M N) : rd0 M (wrY N k p) := h.z
theorem wr_f : flt (wrY N 1 (N.1 0 3)) := ⟨rfl, rfl⟩
theorem fb_av : frB M (avX M) := frB.s21_3 (frB.rf M)
theorem fa_av : frA N (avY N) := frA.s0_3 (frA.rf N)
theorem fa_tk {v : Int32} : frA N (tkY N v) := frA.s0_70 (frA.rf N)
theorem fa_wr {k p : Int32} : frA N (wrY N k p) := frA.s0_5 (frA.s0_4 (frA.rf N))
theorem tk_x (h : rdR M N) (c : Int32) : q_Reader_take M c = if hrX M = c then some (avX M, 1) else some (M, 0) := by
  unfold q_Reader_take
  rw [nx_e h]
  rfl
theorem wg_e (k p : Int32) : q_ChipMapModel_wrong N k p = some (wrY N k p, 0) := rfl
theorem tk_y (h : rdR M N) (c : Int32) : q_ChipMapModel_take N c = if hrV N = c then some (avY N, 1) else some (wrY N 1 (N.1 0 3), 0) := by
  unfold q_ChipMapModel_take
  rw [hr_e h]
  show (if hrV N = c then some (avY N, 1) else cal (q_ChipMapModel_wrong N 1 (N.1 0 3)) (fun M3 r4 => bz r4 (some (M3, r4)))) = _
  by_cases hc : hrV N = c
  · rw [if_pos hc, if_pos hc]
  · rw [if_neg hc, if_neg hc, wg_e]
    exact bz_e0
end REL
def tRel (M N M' N' : Mm) : Prop := rd0 M' N' ∧ frB M M' ∧ frA N N'
theorem tRel.rf {M N : Mm} (h : rdR M N) : tRel M N M N := ⟨h.z, frB.rf M, frA.rf N⟩
theorem tRel.tr {M N M1 N1 M2 N2 : Mm} (h : tRel M N M1 N1) (g : tRel M1 N1 M2 N2) : tRel M N M2 N2 := ⟨g.1, frB.tr h.2.1 g.2.1, frA.tr h.2.2 g.2.2⟩
theorem tRel.av {M N : Mm} (h : rdR M N) (hz : (hrX M).toInt ≠ 0) : tRel M N (avX M) (avY N) := ⟨(rd_av h hz).z, fb_av, fa_av⟩
theorem tRel.wr {M N : Mm} {k p : Int32} (h : rdR M N) : tRel M N M (wrY N k p) := ⟨rd_wr h, frB.rf M, fa_wr⟩
theorem tRel.tk {M N : Mm} {v : Int32} (h : rdR M N) : tRel M N M (tkY N v) := ⟨(rd_tk (v := v) h).z, frB.rf M, fa_tk⟩
theorem take_rel {M N : Mm} (h : rdR M N) (c : Int32) (hc : c.toInt ≠ 0) : ∃ (M' N' : Mm) (r : Int32), q_Reader_take M c = some (M', r) ∧ q_ChipMapModel_take N c = some (N', r) ∧ tRel M N M' N' ∧ ((r = 1 ∧ nf N') ∨ (r = 0 ∧ flt N')) := by
  by_cases e : hrX M = c
  · refine ⟨avX M, avY N, 1, ?_, ?_, tRel.av h (by rw [e]; exact hc), Or.inl ⟨rfl, h.f⟩⟩
    · rw [tk_x h, if_pos e]
    · rw [tk_y h, if_pos (by rw [← hr_eq h]; exact e)]
  · refine ⟨M, wrY N 1 (N.1 0 3), 0, ?_, ?_, tRel.wr h, Or.inr ⟨rfl, wr_f⟩⟩
    · rw [tk_x h, if_neg e]
    · rw [tk_y h, if_neg (by rw [← hr_eq h]; exact e)]
def dg (c : Int32) : Int32 := if c < 48 then (if c < 97 then -1 else if 102 < c then -1 else (c - 97) + 10) else if 57 < c then (if c < 97 then -1 else if 102 < c then -1 else (c - 97) + 10) else c - 48
theorem dg_x (M : Mm) (c : Int32) : q_Reader_digitOf M c = some (M, dg c) := by
  unfold q_Reader_digitOf q_Reader_digitOf_17 dg
  split
  · split
    · rfl
    · split <;> rfl
  · split
    · split
      · rfl
      · split <;> rfl
    · rfl
theorem dg_y (M : Mm) (c : Int32) : q_ChipMapModel_hex M c = some (M, dg c) := by
  unfold q_ChipMapModel_hex q_ChipMapModel_hex_19 dg
  split
  · split
    · rfl
    · split <;> rfl
  · split
    · split
      · rfl
      · split <;> rfl
    · rfl
theorem dg_r (c : Int32) : -1 ≤ (dg c).toInt ∧ (dg c).toInt ≤ 15 ∧ ((dg c).toInt ≠ -1 → 48 ≤ c.toInt) := by
  have e48 : (48 : Int32).toInt = 48 := rfl
  have e57 : (57 : Int32).toInt = 57 := rfl
  have e97 : (97 : Int32).toInt = 97 := rfl
  have e102 : (102 : Int32).toInt = 102 := rfl
  have em : (-1 : Int32).toInt = -1 := by decide
  have key : ∀ t : Int32, t = (if c < 97 then (-1 : Int32) else if 102 < c then -1 else (c - 97) + 10) → -1 ≤ t.toInt ∧ t.toInt ≤ 15 ∧ (t.toInt ≠ -1 → 48 ≤ c.toInt) := by
    intro t ht
    by_cases c1 : c < 97
    · rw [if_pos c1] at ht
      subst ht
      omega
    · rw [if_neg c1] at ht
      by_cases c2 : 102 < c
      · rw [if_pos c2] at ht
        subst ht
        omega
      · rw [if_neg c2] at ht
        have h1 : ¬ c.toInt < 97 := fun z => c1 (Int32.lt_iff_toInt_lt.mpr (by omega))
        have h2 : ¬ 102 < c.toInt := fun z => c2 (Int32.lt_iff_toInt_lt.mpr (by omega))
        have z1 : (c - 97).toInt = c.toInt - 97 := isub rfl e97 (by omega) (by omega)
        have z2 : ((c - 97) + 10).toInt = c.toInt - 97 + 10 := iadd z1 (rfl : (10 : Int32).toInt = 10) (by omega) (by omega)
        rw [ht]
        omega
  unfold dg
  by_cases c0 : c < 48
  · rw [if_pos c0]; exact key _ rfl
  · rw [if_neg c0]
    by_cases c1 : 57 < c
    · rw [if_pos c1]; exact key _ rfl
    · rw [if_neg c1]
      have h0 : ¬ c.toInt < 48 := fun z => c0 (Int32.lt_iff_toInt_lt.mpr (by omega))
      have h1 : ¬ 57 < c.toInt := fun z => c1 (Int32.lt_iff_toInt_lt.mpr (by omega))
      have z1 : (c - 48).toInt = c.toInt - 48 := isub rfl e48 (by omega) (by omega)
      omega
