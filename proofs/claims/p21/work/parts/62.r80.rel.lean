section
theorem ix_e {i : Int32} {n : Nat} {k : Rs} (h : vp_in i n) : ix i n k = k := by
  unfold ix
  rw [if_neg h]
theorem cz_e {v : Int32} {k : Rs} (h : (v.toUInt32 % 65536).toInt32 = v) : cz v k = k := by
  unfold cz
  rw [if_pos h]
theorem bz_e0 {k : Rs} : bz 0 k = k := by
  unfold bz
  rw [if_pos (Or.inl rfl)]
theorem bz_e1 {k : Rs} : bz 1 k = k := by
  unfold bz
  rw [if_pos (Or.inr rfl)]
def hrX (M : Mm) : Int32 := if M.1 21 2 ≤ M.1 21 3 then 0 else M.1 22 (M.1 21 3).toNatClampNeg
def avX (M : Mm) : Mm := stI M 21 (upd (M.1 21) 3 (M.1 21 3 + 1))
def avY (N : Mm) : Mm := stI N 0 (upd (N.1 0) 3 (N.1 0 3 + 1))
def tkY (N : Mm) (v : Int32) : Mm := stI N 0 (upd (N.1 0) 70 v)
def wrY (N : Mm) (k p : Int32) : Mm := stI (stI N 0 (upd (N.1 0) 4 k)) 0 (upd ((stI N 0 (upd (N.1 0) 4 k)).1 0) 5 p)
def nf (N : Mm) : Prop := N.1 0 4 = 0 ∧ N.1 0 5 = 0
def rd0 (M N : Mm) : Prop := M.1 21 3 = N.1 0 3 ∧ M.1 21 2 = N.1 0 2 ∧ (∀ j : Nat, (j : Int) < (M.1 21 2).toInt → M.1 22 j = N.1 1 j) ∧ (0 ≤ (M.1 21 3).toInt ∧ (M.1 21 3).toInt ≤ 480) ∧ (0 ≤ (M.1 21 2).toInt ∧ (M.1 21 2).toInt ≤ 480) ∧ (∀ j, ((M.1 22 j).toUInt32 % 65536).toInt32 = M.1 22 j) ∧ (M.1 21 3).toInt ≤ (M.1 21 2).toInt
def rdR (M N : Mm) : Prop := M.1 21 3 = N.1 0 3 ∧ M.1 21 2 = N.1 0 2 ∧ (∀ j : Nat, (j : Int) < (M.1 21 2).toInt → M.1 22 j = N.1 1 j) ∧ (0 ≤ (M.1 21 3).toInt ∧ (M.1 21 3).toInt ≤ 480) ∧ (0 ≤ (M.1 21 2).toInt ∧ (M.1 21 2).toInt ≤ 480) ∧ (∀ j, ((M.1 22 j).toUInt32 % 65536).toInt32 = M.1 22 j) ∧ (M.1 21 3).toInt ≤ (M.1 21 2).toInt ∧ nf N
theorem rdR.z {M N : Mm} (h : rdR M N) : rd0 M N := ⟨h.1, h.2.1, h.2.2.1, h.2.2.2.1, h.2.2.2.2.1, h.2.2.2.2.2.1, h.2.2.2.2.2.2.1⟩
theorem rdR.f {M N : Mm} (h : rdR M N) : nf N := h.2.2.2.2.2.2.2
theorem rd0.n {M N : Mm} (h : rd0 M N) (g : nf N) : rdR M N := ⟨h.1, h.2.1, h.2.2.1, h.2.2.2.1, h.2.2.2.2.1, h.2.2.2.2.2.1, h.2.2.2.2.2.2, g⟩
def flt (N : Mm) : Prop := N.1 0 4 = 1 ∧ N.1 0 5 = N.1 0 3
section REL
variable {M N : Mm}
theorem nx_e (h : rdR M N) : q_Reader_next M = some (M, hrX M) := by
  unfold q_Reader_next hrX
  by_cases c : M.1 21 2 ≤ M.1 21 3
  · rw [if_pos c, if_pos c]
  · rw [if_neg c, if_neg c]
    have z1 := h.2.2.2.2.1
    have z2 := h.2.2.2.1
    have c2 : ¬ (M.1 21 2).toInt ≤ (M.1 21 3).toInt := fun z => c (Int32.le_iff_toInt_le.mpr z)
    rw [ix_e (vI (by omega)), cz_e (h.2.2.2.2.2.1 _)]
theorem hr_e (h : rdR M N) : q_ChipMapModel_here N = some (N, hrV N) := by
  unfold q_ChipMapModel_here hrV
  by_cases c : N.1 0 2 ≤ N.1 0 3
  · rw [if_pos c, if_pos c]
  · rw [if_neg c, if_neg c]
    have z1 := h.2.2.2.2.1
    have z2 := h.2.2.2.1
    rw [h.2.1] at z1
    rw [h.1] at z2
    have c2 : ¬ (N.1 0 2).toInt ≤ (N.1 0 3).toInt := fun z => c (Int32.le_iff_toInt_le.mpr z)
    rw [ix_e (vI (by omega))]
theorem hr_eq (h : rdR M N) : hrX M = hrV N := by
  unfold hrX hrV
  rw [← h.1, ← h.2.1]
  by_cases c : M.1 21 2 ≤ M.1 21 3
  · rw [if_pos c, if_pos c]
  · rw [if_neg c, if_neg c]
    have z2 := h.2.2.2.1
    have c2 : ¬ (M.1 21 2).toInt ≤ (M.1 21 3).toInt := fun z => c (Int32.le_iff_toInt_le.mpr z)
    exact h.2.2.1 _ (by rw [tnc z2.1]; omega)
theorem hr_lt (h : rdR M N) (hz : (hrX M).toInt ≠ 0) : (M.1 21 3).toInt < (M.1 21 2).toInt := by
  unfold hrX at hz
  have z1 := h.2.2.2.2.1
  by_cases c : M.1 21 2 ≤ M.1 21 3
  · rw [if_pos c] at hz
    exact absurd rfl hz
  · have c2 : ¬ (M.1 21 2).toInt ≤ (M.1 21 3).toInt := fun z => c (Int32.le_iff_toInt_le.mpr z)
    omega
theorem rd_av (h : rdR M N) (hz : (hrX M).toInt ≠ 0) : rdR (avX M) (avY N) := by
  have z := hr_lt h hz
  have z2 := h.2.2.2.1
  have z5 := h.2.2.2.2.1
  have z3 : (M.1 21 3 + 1).toInt = (M.1 21 3).toInt + 1 := iadd rfl (rfl : (1 : Int32).toInt = 1) (by omega) (by omega)
  refine ⟨?_, h.2.1, h.2.2.1, ?_, h.2.2.2.2.1, h.2.2.2.2.2.1, ?_, h.f⟩
  · show M.1 21 3 + 1 = N.1 0 3 + 1
    rw [h.1]
  · show 0 ≤ (M.1 21 3 + 1).toInt ∧ (M.1 21 3 + 1).toInt ≤ 480
    omega
  · show (M.1 21 3 + 1).toInt ≤ (M.1 21 2).toInt
    omega
theorem rd_tk {v : Int32} (h : rdR M N) : rdR M (tkY N v) := h
theorem rd_wr {k p : Int32} (h : rdR M N) : rd0 M (wrY N k p) := h.z
theorem wr_f : flt (wrY N 1 (N.1 0 3)) := ⟨rfl, rfl⟩
theorem fb_av : frB M (avX M) := frB.s21_3 (frB.rf M)
theorem fa_av : frA N (avY N) := frA.s0_3 (frA.rf N)
theorem fa_tk {v : Int32} : frA N (tkY N v) := frA.s0_70 (frA.rf N)
theorem fa_wr {k p : Int32} : frA N (wrY N k p) := frA.s0_5 (frA.s0_4 (frA.rf N))
theorem tk_x (h : rdR M N) (c : Int32) : q_Reader_take M c = if hrX M = c then some (avX M, 1) else some (M, 0) := by
  unfold q_Reader_take
  rw [nx_e h]
  rfl
theorem wg_e (k p : Int32) : q_ChipMapModel_wrong N k p = some (wrY N k p, 0) := rfl
theorem tk_y (h : rdR M N) (c : Int32) : q_ChipMapModel_take N c = if hrV N = c then some (avY N, 1) else some (wrY N 1 (N.1 0 3), 0) := by
  unfold q_ChipMapModel_take
  rw [hr_e h]
  show (if hrV N = c then some (avY N, 1) else cal (q_ChipMapModel_wrong N 1 (N.1 0 3)) (fun M3 r4 => bz r4 (some (M3, r4)))) = _
  by_cases hc : hrV N = c
  · rw [if_pos hc, if_pos hc]
  · rw [if_neg hc, if_neg hc, wg_e]
    exact bz_e0
end REL
def tRel (M N M' N' : Mm) : Prop := rd0 M' N' ∧ frB M M' ∧ frA N N'
theorem tRel.rf {M N : Mm} (h : rdR M N) : tRel M N M N := ⟨h.z, frB.rf M, frA.rf N⟩
theorem tRel.tr {M N M1 N1 M2 N2 : Mm} (h : tRel M N M1 N1) (g : tRel M1 N1 M2 N2) : tRel M N M2 N2 := ⟨g.1, frB.tr h.2.1 g.2.1, frA.tr h.2.2 g.2.2⟩
theorem tRel.av {M N : Mm} (h : rdR M N) (hz : (hrX M).toInt ≠ 0) : tRel M N (avX M) (avY N) := ⟨(rd_av h hz).z, fb_av, fa_av⟩
theorem tRel.wr {M N : Mm} {k p : Int32} (h : rdR M N) : tRel M N M (wrY N k p) := ⟨rd_wr h, frB.rf M, fa_wr⟩
theorem tRel.tk {M N : Mm} {v : Int32} (h : rdR M N) : tRel M N M (tkY N v) := ⟨(rd_tk (v := v) h).z, frB.rf M, fa_tk⟩
theorem take_rel {M N : Mm} (h : rdR M N) (c : Int32) (hc : c.toInt ≠ 0) : ∃ (M' N' : Mm) (r : Int32), q_Reader_take M c = some (M', r) ∧ q_ChipMapModel_take N c = some (N', r) ∧ tRel M N M' N' ∧ ((r = 1 ∧ nf N') ∨ (r = 0 ∧ flt N')) := by
  by_cases e : hrX M = c
  · refine ⟨avX M, avY N, 1, ?_, ?_, tRel.av h (by rw [e]; exact hc), Or.inl ⟨rfl, h.f⟩⟩
    · rw [tk_x h, if_pos e]
    · rw [tk_y h, if_pos (by rw [← hr_eq h]; exact e)]
  · refine ⟨M, wrY N 1 (N.1 0 3), 0, ?_, ?_, tRel.wr h, Or.inr ⟨rfl, wr_f⟩⟩
    · rw [tk_x h, if_neg e]
    · rw [tk_y h, if_neg (by rw [← hr_eq h]; exact e)]
def dg (c : Int32) : Int32 := if c < 48 then (if c < 97 then -1 else if 102 < c then -1 else (c - 97) + 10) else if 57 < c then (if c < 97 then -1 else if 102 < c then -1 else (c - 97) + 10) else c - 48
theorem dg_x (M : Mm) (c : Int32) : q_Reader_digitOf M c = some (M, dg c) := by
  unfold q_Reader_digitOf q_Reader_digitOf_17 dg
  split
  · split
    · rfl
    · split <;> rfl
  · split
    · split
      · rfl
      · split <;> rfl
    · rfl
theorem dg_y (M : Mm) (c : Int32) : q_ChipMapModel_hex M c = some (M, dg c) := by
  unfold q_ChipMapModel_hex q_ChipMapModel_hex_19 dg
  split
  · split
    · rfl
    · split <;> rfl
  · split
    · split
      · rfl
      · split <;> rfl
    · rfl
theorem dg_r (c : Int32) : -1 ≤ (dg c).toInt ∧ (dg c).toInt ≤ 15 ∧ ((dg c).toInt ≠ -1 → 48 ≤ c.toInt) := by
  have e48 : (48 : Int32).toInt = 48 := rfl
  have e57 : (57 : Int32).toInt = 57 := rfl
  have e97 : (97 : Int32).toInt = 97 := rfl
  have e102 : (102 : Int32).toInt = 102 := rfl
  have em : (-1 : Int32).toInt = -1 := by decide
  have key : ∀ t : Int32, t = (if c < 97 then (-1 : Int32) else if 102 < c then -1 else (c - 97) + 10) → -1 ≤ t.toInt ∧ t.toInt ≤ 15 ∧ (t.toInt ≠ -1 → 48 ≤ c.toInt) := by
    intro t ht
    by_cases c1 : c < 97
    · rw [if_pos c1] at ht
      subst ht
      omega
    · rw [if_neg c1] at ht
      by_cases c2 : 102 < c
      · rw [if_pos c2] at ht
        subst ht
        omega
      · rw [if_neg c2] at ht
        have h1 : ¬ c.toInt < 97 := fun z => c1 (Int32.lt_iff_toInt_lt.mpr (by omega))
        have h2 : ¬ 102 < c.toInt := fun z => c2 (Int32.lt_iff_toInt_lt.mpr (by omega))
        have z1 : (c - 97).toInt = c.toInt - 97 := isub rfl e97 (by omega) (by omega)
        have z2 : ((c - 97) + 10).toInt = c.toInt - 97 + 10 := iadd z1 (rfl : (10 : Int32).toInt = 10) (by omega) (by omega)
        rw [ht]
        omega
  unfold dg
  by_cases c0 : c < 48
  · rw [if_pos c0]; exact key _ rfl
  · rw [if_neg c0]
    by_cases c1 : 57 < c
    · rw [if_pos c1]; exact key _ rfl
    · rw [if_neg c1]
      have h0 : ¬ c.toInt < 48 := fun z => c0 (Int32.lt_iff_toInt_lt.mpr (by omega))
      have h1 : ¬ 57 < c.toInt := fun z => c1 (Int32.lt_iff_toInt_lt.mpr (by omega))
      have z1 : (c - 48).toInt = c.toInt - 48 := isub rfl e48 (by omega) (by omega)
      omega
end
section
theorem cal_s {M : Mm} {r : Int32} {k : Mm → Int32 → Rs} : cal (some (M, r)) k = k M r := rfl
theorem lq_s {α : Type} {x : α} {k : α → Rs} : lt' x k = k x := rfl
def kb (k : Nat) : Int := if k = 0 then 65535 else if k = 1 then 4095 else if k = 2 then 255 else if k = 3 then 15 else 0
theorem kb_s {k : Nat} {v d : Int} (hk : k ≤ 3) (h0 : 0 ≤ v) (h : v ≤ kb (k + 1)) (hd : 0 ≤ d ∧ d ≤ 15) : v * 16 + d ≤ kb k ∧ v ≤ 4095 := by
  have hc : k = 0 ∨ k = 1 ∨ k = 2 ∨ k = 3 := by omega
  rcases hc with rfl | rfl | rfl | rfl
  · have h : v ≤ 4095 := h
    show v * 16 + d ≤ 65535 ∧ _
    omega
  · have h : v ≤ 255 := h
    show v * 16 + d ≤ 4095 ∧ _
    omega
  · have h : v ≤ 15 := h
    show v * 16 + d ≤ 255 ∧ _
    omega
  · have h : v ≤ 0 := h
    show v * 16 + d ≤ 15 ∧ _
    omega
theorem num_e {M : Mm} {l v d : Int32} : q_Reader_number_67 M l v d = if l ≤ d then some (M, v) else some (M, -1) := rfl
theorem thx_e {N : Mm} {l d : Int32} : q_ChipMapModel_takeHex_58 N l d = if l ≤ d then some (N, 1) else some (wrY N 1 (N.1 0 3), 0) := rfl
section NUM
theorem stop_rel {M N : Mm} {l v i : Int32} (h : rdR M N) (hv : N.1 0 70 = v) (h0 : 0 ≤ v.toInt) : ∃ (M' N' : Mm) (r b : Int32), q_Reader_number_67 M l v i = some (M', r) ∧ q_ChipMapModel_takeHex_58 N l i = some (N', b) ∧ tRel M N M' N' ∧ ((b = 1 ∧ r = N'.1 0 70 ∧ 0 ≤ r.toInt ∧ nf N') ∨ (b = 0 ∧ r = -1 ∧ flt N')) := by
  rw [num_e, thx_e]
  by_cases c : l ≤ i
  · exact ⟨M, N, v, 1, by rw [if_pos c], by rw [if_pos c], tRel.rf h, Or.inl ⟨rfl, hv.symm, h0, h.f⟩⟩
  · exact ⟨M, wrY N 1 (N.1 0 3), -1, 0, by rw [if_neg c], by rw [if_neg c], tRel.wr h, Or.inr ⟨rfl, rfl, wr_f⟩⟩
theorem hex_rel {l mo : Int32} (hm : 0 ≤ mo.toInt ∧ mo.toInt ≤ 4) : ∀ (k n' m' : Nat) (M N : Mm) (i v : Int32), mo.toInt - i.toInt = (k : Int) → 0 ≤ i.toInt → k < n' → k < m' → rdR M N → N.1 0 70 = v → 0 ≤ v.toInt → v.toInt ≤ kb k → ∃ (M' N' : Mm) (r b : Int32), q_Reader_number_9 n' M 16 l mo v i i = some (M', r) ∧ q_ChipMapModel_takeHex_7 m' N l mo i = some (N', b) ∧ tRel M N M' N' ∧ ((b = 1 ∧ r = N'.1 0 70 ∧ 0 ≤ r.toInt ∧ nf N') ∨ (b = 0 ∧ r = -1 ∧ flt N')) := by
  intro k
  induction k with
  | zero =>
    intro n' m' M N i v hk hi hn hm' h hv h0 hb
    obtain ⟨n', rfl⟩ : ∃ q, n' = q + 1 := ⟨n' - 1, by omega⟩
    obtain ⟨m', rfl⟩ : ∃ q, m' = q + 1 := ⟨m' - 1, by omega⟩
    have c : mo ≤ i := Int32.le_iff_toInt_le.mpr (by omega)
    rw [q_Reader_number_9, q_ChipMapModel_takeHex_7, if_pos c, if_pos c]
    exact stop_rel h hv h0
  | succ k ih =>
    intro n' m' M N i v hk hi hn hm' h hv h0 hb
    obtain ⟨n', rfl⟩ : ∃ q, n' = q + 1 := ⟨n' - 1, by omega⟩
    obtain ⟨m', rfl⟩ : ∃ q, m' = q + 1 := ⟨m' - 1, by omega⟩
    have c : ¬ mo ≤ i := fun z => by have := Int32.le_iff_toInt_le.mp z; omega
    rw [q_Reader_number_9, q_ChipMapModel_takeHex_7, if_neg c, if_neg c, nx_e h, hr_e h, cal_s, cal_s]
    have eh := hr_eq h
    have hd := dg_r (hrX M)
    have e1 : q_Reader_digitOf M (hrX M) = some (M, dg (hrX M)) := dg_x _ _
    have e2 : q_ChipMapModel_hex N (hrV N) = some (N, dg (hrX M)) := by rw [← eh]; exact dg_y _ _
    rw [e1, e2, cal_s, cal_s]
    by_cases c1 : dg (hrX M) = -1
    · rw [if_pos c1, if_pos c1]
      exact stop_rel h hv h0
    · rw [if_neg c1, if_neg c1, hr_e h, cal_s, e2, cal_s]
      have c1' : (dg (hrX M)).toInt ≠ -1 := fun z => c1 (Int32.toInt_inj.mp (by rw [z]; decide))
      have e16 : (16 : Int32).toInt = 16 := rfl
      have c2 : dg (hrX M) < 16 := Int32.lt_iff_toInt_lt.mpr (by omega)
      rw [if_pos c2]
      have h48 := hd.2.2 c1'
      have hz : (hrX M).toInt ≠ 0 := by omega
      have hkb := kb_s (k := k) (d := (dg (hrX M)).toInt) (by omega) h0 hb (by omega)
      have z1 : (v * 16).toInt = v.toInt * 16 := imul rfl e16 (by omega) (by omega)
      have z2 : (v * 16 + dg (hrX M)).toInt = v.toInt * 16 + (dg (hrX M)).toInt := iadd z1 rfl (by omega) (by omega)
      have ez : (i + 1).toInt = i.toInt + 1 := iadd rfl (rfl : (1 : Int32).toInt = 1) (by omega) (by omega)
      have ev : v * 16 + dg (hrX M) = 16 * N.1 0 70 + dg (hrX M) := by
        rw [hv, Int32.mul_comm]
      obtain ⟨M', N', r, b, q1, q2, ht, hr⟩ := ih n' m' (avX M) (avY (tkY N (16 * N.1 0 70 + dg (hrX M)))) (i + 1) (v * 16 + dg (hrX M)) (by omega) (by omega) (by omega) (by omega) (rd_av (rd_tk h) hz) (by rw [ev]; rfl) (by omega) (by rw [z2]; exact hkb.1)
      exact ⟨M', N', r, b, q1, q2, (tRel.tk h).tr ((tRel.av (rd_tk h) hz).tr ht), hr⟩
end NUM
end
section
theorem kb_0 (k : Nat) : 0 ≤ kb k := by
  unfold kb
  split
  · decide
  · split
    · decide
    · split
      · decide
      · split <;> decide
def kd (k : Nat) : Int := if k = 0 then 99 else if k = 1 then 9 else 0
theorem dg_c {c : Int32} (h1 : 48 ≤ c.toInt) (h2 : c.toInt ≤ 57) : dg c = c - 48 := by
  have e48 : (48 : Int32).toInt = 48 := rfl
  have e57 : (57 : Int32).toInt = 57 := rfl
  unfold dg
  rw [if_neg (fun z => by have := Int32.lt_iff_toInt_lt.mp z; omega), if_neg (fun z => by have := Int32.lt_iff_toInt_lt.mp z; omega)]
theorem dg_o {c : Int32} (h : c.toInt < 48 ∨ 57 < c.toInt) : dg c = -1 ∨ 10 ≤ (dg c).toInt := by
  have e48 : (48 : Int32).toInt = 48 := rfl
  have e57 : (57 : Int32).toInt = 57 := rfl
  have e97 : (97 : Int32).toInt = 97 := rfl
  have e102 : (102 : Int32).toInt = 102 := rfl
  have key : (if c < 97 then (-1 : Int32) else if 102 < c then -1 else (c - 97) + 10) = -1 ∨ 10 ≤ (if c < 97 then (-1 : Int32) else if 102 < c then -1 else (c - 97) + 10).toInt := by
    by_cases c1 : c < 97
    · rw [if_pos c1]; exact Or.inl rfl
    · rw [if_neg c1]
      by_cases c2 : 102 < c
      · rw [if_pos c2]; exact Or.inl rfl
      · rw [if_neg c2]
        have h1 : ¬ c.toInt < 97 := fun z => c1 (Int32.lt_iff_toInt_lt.mpr (by omega))
        have h2 : ¬ 102 < c.toInt := fun z => c2 (Int32.lt_iff_toInt_lt.mpr (by omega))
        have z1 : (c - 97).toInt = c.toInt - 97 := isub rfl e97 (by omega) (by omega)
        have z2 : ((c - 97) + 10).toInt = c.toInt - 97 + 10 := iadd z1 (rfl : (10 : Int32).toInt = 10) (by omega) (by omega)
        exact Or.inr (by omega)
  unfold dg
  by_cases c0 : c < 48
  · rw [if_pos c0]; exact key
  · rw [if_neg c0]
    have h0 : ¬ c.toInt < 48 := fun z => c0 (Int32.lt_iff_toInt_lt.mpr (by omega))
    rw [if_pos (Int32.lt_iff_toInt_lt.mpr (by omega))]
    exact key
theorem tdc_e {N : Mm} {d : Int32} : q_ChipMapModel_takeDecimal_65 N d = if 0 < d then some (N, 1) else some (wrY N 1 (N.1 0 3), 0) := rfl
section NAM
theorem num16 {M N : Mm} (h : rdR M N) (l mo : Int32) (hm : 0 ≤ mo.toInt ∧ mo.toInt ≤ 4) : ∃ (M' N' : Mm) (r b : Int32), q_Reader_number M 16 l mo = some (M', r) ∧ q_ChipMapModel_takeHex N l mo = some (N', b) ∧ tRel M N M' N' ∧ ((b = 1 ∧ r = N'.1 0 70 ∧ 0 ≤ r.toInt ∧ nf N') ∨ (b = 0 ∧ r = -1 ∧ flt N')) := by
  have z0 : (0 : Int32).toInt = 0 := rfl
  obtain ⟨M', N', r, b, q1, q2, ht, hr⟩ := hex_rel (l := l) hm mo.toInt.toNat 4000 4000 M (tkY N 0) 0 0 (by omega) (by omega) (by omega) (by omega) (rd_tk h) rfl (by omega) (by have := kb_0 mo.toInt.toNat; omega)
  exact ⟨M', N', r, b, q1, q2, (tRel.tk h).tr ht, hr⟩
theorem stop10 {M N : Mm} {v i : Int32} (h : rdR M N) (hv : N.1 0 70 = v) (h0 : 0 ≤ v.toInt) (hi : 0 ≤ i.toInt) : ∃ (M' N' : Mm) (r b : Int32), q_Reader_number_67 M 1 v i = some (M', r) ∧ q_ChipMapModel_takeDecimal_65 N i = some (N', b) ∧ tRel M N M' N' ∧ ((b = 1 ∧ r = N'.1 0 70 ∧ 0 ≤ r.toInt ∧ nf N') ∨ (b = 0 ∧ r = -1 ∧ flt N')) := by
  rw [num_e, tdc_e]
  have e1 : (1 : Int32).toInt = 1 := rfl
  have e0 : (0 : Int32).toInt = 0 := rfl
  by_cases c : 1 ≤ i
  · have c2 : 0 < i := Int32.lt_iff_toInt_lt.mpr (by have := Int32.le_iff_toInt_le.mp c; omega)
    exact ⟨M, N, v, 1, by rw [if_pos c], by rw [if_pos c2], tRel.rf h, Or.inl ⟨rfl, hv.symm, h0, h.f⟩⟩
  · have c2 : ¬ 0 < i := fun z => c (Int32.le_iff_toInt_le.mpr (by have := Int32.lt_iff_toInt_lt.mp z; omega))
    exact ⟨M, wrY N 1 (N.1 0 3), -1, 0, by rw [if_neg c], by rw [if_neg c2], tRel.wr h, Or.inr ⟨rfl, rfl, wr_f⟩⟩
theorem dec_rel : ∀ (k n' m' : Nat) (M N : Mm) (i v : Int32), 2 - i.toInt = (k : Int) → 0 ≤ i.toInt → k < n' → k < m' → rdR M N → N.1 0 70 = v → 0 ≤ v.toInt → v.toInt ≤ kd k → ∃ (M' N' : Mm) (r b : Int32), q_Reader_number_9 n' M 10 1 2 v i i = some (M', r) ∧ q_ChipMapModel_takeDecimal_7 m' N i = some (N', b) ∧ tRel M N M' N' ∧ ((b = 1 ∧ r = N'.1 0 70 ∧ 0 ≤ r.toInt ∧ nf N') ∨ (b = 0 ∧ r = -1 ∧ flt N')) := by
  intro k
  induction k with
  | zero =>
    intro n' m' M N i v hk hi hn hm' h hv h0 hb
    obtain ⟨n', rfl⟩ : ∃ q, n' = q + 1 := ⟨n' - 1, by omega⟩
    obtain ⟨m', rfl⟩ : ∃ q, m' = q + 1 := ⟨m' - 1, by omega⟩
    have e2 : (2 : Int32).toInt = 2 := rfl
    have c : (2 : Int32) ≤ i := Int32.le_iff_toInt_le.mpr (by omega)
    rw [q_Reader_number_9, q_ChipMapModel_takeDecimal_7, if_pos c, if_pos c]
    exact stop10 h hv h0 hi
  | succ k ih =>
    intro n' m' M N i v hk hi hn hm' h hv h0 hb
    obtain ⟨n', rfl⟩ : ∃ q, n' = q + 1 := ⟨n' - 1, by omega⟩
    obtain ⟨m', rfl⟩ : ∃ q, m' = q + 1 := ⟨m' - 1, by omega⟩
    have e2 : (2 : Int32).toInt = 2 := rfl
    have e48 : (48 : Int32).toInt = 48 := rfl
    have e57 : (57 : Int32).toInt = 57 := rfl
    have e10 : (10 : Int32).toInt = 10 := rfl
    have c : ¬ (2 : Int32) ≤ i := fun z => by have := Int32.le_iff_toInt_le.mp z; omega
    have eh := hr_eq h
    rw [q_Reader_number_9, q_ChipMapModel_takeDecimal_7, if_neg c, if_neg c, nx_e h, hr_e h, cal_s, cal_s, dg_x, cal_s, ← eh]
    have hstop : dg (hrX M) = -1 ∨ 10 ≤ (dg (hrX M)).toInt → ∃ (M' N' : Mm) (r b : Int32), (if dg (hrX M) = -1 then q_Reader_number_67 M 1 v i else if dg (hrX M) < 10 then (lt' ((v * 10) + dg (hrX M)) fun x5 => lt' (stI M 21 (upd (M.1 21) 3 ((M.1 21 3) + 1))) fun M6 => q_Reader_number_9 n' M6 10 1 2 x5 (i + 1) (i + 1)) else q_Reader_number_67 M 1 v i) = some (M', r) ∧ q_ChipMapModel_takeDecimal_65 N i = some (N', b) ∧ tRel M N M' N' ∧ ((b = 1 ∧ r = N'.1 0 70 ∧ 0 ≤ r.toInt ∧ nf N') ∨ (b = 0 ∧ r = -1 ∧ flt N')) := by
      intro hc
      rcases hc with hc | hc
      · rw [if_pos hc]
        exact stop10 h hv h0 hi
      · rw [if_neg (fun z => by rw [z] at hc; exact absurd hc (by decide)), if_neg (fun z => by have := Int32.lt_iff_toInt_lt.mp z; omega)]
        exact stop10 h hv h0 hi
    by_cases c48 : hrX M < 48
    · rw [if_pos c48]
      exact hstop (dg_o (Or.inl (by have := Int32.lt_iff_toInt_lt.mp c48; omega)))
    · rw [if_neg c48, hr_e h, cal_s, ← eh]
      by_cases c57 : 57 < hrX M
      · rw [if_pos c57]
        exact hstop (dg_o (Or.inr (by have := Int32.lt_iff_toInt_lt.mp c57; omega)))
      · have h48 : 48 ≤ (hrX M).toInt := by
          have : ¬ (hrX M).toInt < 48 := fun z => c48 (Int32.lt_iff_toInt_lt.mpr (by omega))
          omega
        have h57 : (hrX M).toInt ≤ 57 := by
          have : ¬ 57 < (hrX M).toInt := fun z => c57 (Int32.lt_iff_toInt_lt.mpr (by omega))
          omega
        have hd := dg_c h48 h57
        have zd : (hrX M - 48).toInt = (hrX M).toInt - 48 := isub rfl e48 (by omega) (by omega)
        have hz : (hrX M).toInt ≠ 0 := by omega
        have em1 : (-1 : Int32).toInt = -1 := by decide
        have n1 : ¬ dg (hrX M) = -1 := fun z => by rw [hd] at z; have := congrArg Int32.toInt z; omega
        have n2 : dg (hrX M) < 10 := Int32.lt_iff_toInt_lt.mpr (by rw [hd]; omega)
        rw [if_neg c57, hr_e h, cal_s, ← eh, if_neg n1, if_pos n2]
        have hv9 : v.toInt ≤ 9 ∧ v.toInt * 10 + ((hrX M).toInt - 48) ≤ kd k := by
          have hc : k = 0 ∨ k = 1 := by omega
          rcases hc with rfl | rfl
          · have hb : v.toInt ≤ 9 := hb
            show _ ∧ _ ≤ (99 : Int)
            omega
          · have hb : v.toInt ≤ 0 := hb
            show _ ∧ _ ≤ (9 : Int)
            omega
        have z1 : (v * 10).toInt = v.toInt * 10 := imul rfl e10 (by omega) (by omega)
        have z2 : (v * 10 + dg (hrX M)).toInt = v.toInt * 10 + ((hrX M).toInt - 48) := iadd z1 (by rw [hd]; exact zd) (by omega) (by omega)
        have y1 : (10 * v).toInt = 10 * v.toInt := imul e10 rfl (by omega) (by omega)
        have y2 : (10 * v + hrX M).toInt = 10 * v.toInt + (hrX M).toInt := iadd y1 rfl (by omega) (by omega)
        have y3 : (10 * v + hrX M - 48).toInt = 10 * v.toInt + (hrX M).toInt - 48 := isub y2 e48 (by omega) (by omega)
        have ev : v * 10 + dg (hrX M) = 10 * N.1 0 70 + hrX M - 48 := by
          rw [hv]
          exact Int32.toInt_inj.mp (by omega)
        have ez : (i + 1).toInt = i.toInt + 1 := iadd rfl (rfl : (1 : Int32).toInt = 1) (by omega) (by omega)
        obtain ⟨M', N', r, b, q1, q2, ht, hr⟩ := ih n' m' (avX M) (avY (tkY N (10 * N.1 0 70 + hrX M - 48))) (i + 1) (v * 10 + dg (hrX M)) (by omega) (by omega) (by omega) (by omega) (rd_av (rd_tk h) hz) (by rw [ev]; rfl) (by omega) (by rw [z2]; exact hv9.2)
        exact ⟨M', N', r, b, q1, q2, (tRel.tk h).tr ((tRel.av (rd_tk h) hz).tr ht), hr⟩
theorem num10 {M N : Mm} (h : rdR M N) : ∃ (M' N' : Mm) (r b : Int32), q_Reader_number M 10 1 2 = some (M', r) ∧ q_ChipMapModel_takeDecimal N = some (N', b) ∧ tRel M N M' N' ∧ ((b = 1 ∧ r = N'.1 0 70 ∧ 0 ≤ r.toInt ∧ nf N') ∨ (b = 0 ∧ r = -1 ∧ flt N')) := by
  obtain ⟨M', N', r, b, q1, q2, ht, hr⟩ := dec_rel 2 4000 4000 M (tkY N 0) 0 0 rfl (by decide) (by decide) (by decide) (rd_tk h) rfl (by decide) (by decide)
  exact ⟨M', N', r, b, q1, q2, (tRel.tk h).tr ht, hr⟩
end NAM
end
section
theorem b8 {a k : Int32} (h : 0 ≤ a.toInt ∧ a.toInt ≤ 255) (hk : 1 ≤ k.toInt ∧ k.toInt ≤ 127) : k = a.toInt8.toInt32 ↔ a = k := by
  have e : a.toInt8.toInt32.toInt = a.toInt.bmod 256 := by
    rw [Int8.toInt_toInt32, Int32.toInt_toInt8]
  have e2 : a.toInt.bmod 256 = if a.toInt < 128 then a.toInt else a.toInt - 256 := by
    unfold Int.bmod
    have m : a.toInt % ((256 : Nat) : Int) = a.toInt := Int.emod_eq_of_lt h.1 (by omega)
    simp only [m]
    rfl
  constructor
  · intro z
    have z2 := congrArg Int32.toInt z
    rw [e, e2] at z2
    refine Int32.toInt_inj.mp ?_
    split at z2 <;> omega
  · intro z
    refine Int32.toInt_inj.mp ?_
    rw [e, e2, z]
    rw [if_pos (by omega)]
theorem ac_s {n' : Nat} {M : Mm} {v i j c : Int32} (hi : vp_in i 7) (hl : ¬ (7 : Int32) ≤ i) (hj : i + 1 = j) (hc : sB 0 i.toNatClampNeg = c) : q_StringLatin1_indexOfChar_7 (n' + 1) M 7 v i = if c = v then some (M, i) else q_StringLatin1_indexOfChar_7 n' M 7 v j := by
  rw [q_StringLatin1_indexOfChar_7, if_neg hl, ix_e hi, hc, hj]
theorem ac_w {n' : Nat} {M : Mm} {v : Int32} : q_StringLatin1_indexOfChar_7 (n' + 8) M 7 v 0 = (if (119 : Int32) = v then some (M, 0) else if (114 : Int32) = v then some (M, 1) else if (111 : Int32) = v then some (M, 2) else if (99 : Int32) = v then some (M, 3) else if (116 : Int32) = v then some (M, 4) else if (115 : Int32) = v then some (M, 5) else if (112 : Int32) = v then some (M, 6) else some (M, (-1)) : Rs) := by
  have e : q_StringLatin1_indexOfChar_7 (n' + 1) M 7 v 7 = some (M, -1) := by
    rw [q_StringLatin1_indexOfChar_7, if_pos (by decide)]
  rw [ac_s (i := 0) (j := 1) (c := 119) (vI (by decide)) (by decide) (by decide) (by decide), ac_s (i := 1) (j := 2) (c := 114) (vI (by decide)) (by decide) (by decide) (by decide), ac_s (i := 2) (j := 3) (c := 111) (vI (by decide)) (by decide) (by decide) (by decide), ac_s (i := 3) (j := 4) (c := 99) (vI (by decide)) (by decide) (by decide) (by decide), ac_s (i := 4) (j := 5) (c := 116) (vI (by decide)) (by decide) (by decide) (by decide), ac_s (i := 5) (j := 6) (c := 115) (vI (by decide)) (by decide) (by decide) (by decide), ac_s (i := 6) (j := 7) (c := 112) (vI (by decide)) (by decide) (by decide) (by decide), e]
def ac (c : Int32) : Int32 := if c = 119 then 0 else if c = 114 then 1 else if c = 111 then 2 else if c = 99 then 3 else if c = 116 then 4 else if c = 115 then 5 else if c = 112 then 6 else (-1)
theorem ac_o {c : Int32} (h : c.toInt < 0 ∨ 255 < c.toInt) : ac c = -1 := by
  unfold ac
  rw [if_neg (fun z => by rw [z] at h; revert h; decide), if_neg (fun z => by rw [z] at h; revert h; decide), if_neg (fun z => by rw [z] at h; revert h; decide), if_neg (fun z => by rw [z] at h; revert h; decide), if_neg (fun z => by rw [z] at h; revert h; decide), if_neg (fun z => by rw [z] at h; revert h; decide), if_neg (fun z => by rw [z] at h; revert h; decide)]
theorem ac_r (c : Int32) : ac c = -1 ∨ ((0 ≤ (ac c).toInt ∧ (ac c).toInt < 7) ∧ sB 0 (ac c).toNatClampNeg = c ∧ c.toInt ≠ 0) := by
  unfold ac
  by_cases c0 : c = 119
  · rw [if_pos c0, c0]
    exact Or.inr (by decide)
  rw [if_neg c0]
  by_cases c1 : c = 114
  · rw [if_pos c1, c1]
    exact Or.inr (by decide)
  rw [if_neg c1]
  by_cases c2 : c = 111
  · rw [if_pos c2, c2]
    exact Or.inr (by decide)
  rw [if_neg c2]
  by_cases c3 : c = 99
  · rw [if_pos c3, c3]
    exact Or.inr (by decide)
  rw [if_neg c3]
  by_cases c4 : c = 116
  · rw [if_pos c4, c4]
    exact Or.inr (by decide)
  rw [if_neg c4]
  by_cases c5 : c = 115
  · rw [if_pos c5, c5]
    exact Or.inr (by decide)
  rw [if_neg c5]
  by_cases c6 : c = 112
  · rw [if_pos c6, c6]
    exact Or.inr (by decide)
  rw [if_neg c6]
  exact Or.inl rfl
theorem ac_x (M : Mm) (c : Int32) : q_String_indexOf M c = some (M, ac c) := by
  have e : q_String_length M = some (M, 7) := by
    have e2 : ((7 : Int32) >>> ((0 : Int32) &&& 31)) = 7 := by decide
    show (some (M, ((7 : Int32) >>> ((0 : Int32) &&& 31))) : Rs) = some (M, 7)
    rw [e2]
  have e1 : q_String_indexOf_1 M c 0 = some (M, ac c) := by
    show cal (q_String_length M) (fun M3 r4 => cal (q_StringLatin1_indexOf M3 c 0 r4) fun M5 r6 => some (M5, r6)) = _
    rw [e, cal_s]
    have e3 : q_StringLatin1_indexOf M c 0 7 = some (M, ac c) := by
      unfold q_StringLatin1_indexOf q_StringLatin1_canEncode
      have z255 : (255 : Int32).toInt = 255 := rfl
      have z0 : (0 : Int32).toInt = 0 := rfl
      by_cases g1 : c < 0
      · rw [if_pos g1, cal_s, if_pos rfl, ac_o (Or.inl (by have := Int32.lt_iff_toInt_lt.mp g1; omega))]
      rw [if_neg g1]
      by_cases g2 : 255 < c
      · rw [if_pos g2, cal_s, if_pos rfl, ac_o (Or.inr (by have := Int32.lt_iff_toInt_lt.mp g2; omega))]
      rw [if_neg g2, cal_s, if_neg (by decide), lq_s, lq_s]
      have a1 : (if (0 : Int32) < 0 then (0 : Int32) else 0) = 0 := by decide
      have a2 : (if (7 : Int32) < 7 then (7 : Int32) else 7) = 7 := by decide
      rw [a1, a2, if_pos (by decide)]
      have hr : 0 ≤ c.toInt ∧ c.toInt ≤ 255 := by
        have n1 : ¬ c.toInt < 0 := fun z => g1 (Int32.lt_iff_toInt_lt.mpr (by omega))
        have n2 : ¬ 255 < c.toInt := fun z => g2 (Int32.lt_iff_toInt_lt.mpr (by omega))
        omega
      have e4 : q_StringLatin1_indexOfChar M c 0 7 = some (M, ac c) := by
        show q_StringLatin1_indexOfChar_7 4000 M 7 c.toInt8.toInt32 0 = _
        refine (ac_w (n' := 3992)).trans ?_
        unfold ac
        by_cases c0 : c = 119
        · rw [if_pos ((b8 hr (by decide)).mpr c0), if_pos c0]
        rw [if_neg (fun z => c0 ((b8 hr (by decide)).mp z)), if_neg c0]
        by_cases c1 : c = 114
        · rw [if_pos ((b8 hr (by decide)).mpr c1), if_pos c1]
        rw [if_neg (fun z => c1 ((b8 hr (by decide)).mp z)), if_neg c1]
        by_cases c2 : c = 111
        · rw [if_pos ((b8 hr (by decide)).mpr c2), if_pos c2]
        rw [if_neg (fun z => c2 ((b8 hr (by decide)).mp z)), if_neg c2]
        by_cases c3 : c = 99
        · rw [if_pos ((b8 hr (by decide)).mpr c3), if_pos c3]
        rw [if_neg (fun z => c3 ((b8 hr (by decide)).mp z)), if_neg c3]
        by_cases c4 : c = 116
        · rw [if_pos ((b8 hr (by decide)).mpr c4), if_pos c4]
        rw [if_neg (fun z => c4 ((b8 hr (by decide)).mp z)), if_neg c4]
        by_cases c5 : c = 115
        · rw [if_pos ((b8 hr (by decide)).mpr c5), if_pos c5]
        rw [if_neg (fun z => c5 ((b8 hr (by decide)).mp z)), if_neg c5]
        by_cases c6 : c = 112
        · rw [if_pos ((b8 hr (by decide)).mpr c6), if_pos c6]
        rw [if_neg (fun z => c6 ((b8 hr (by decide)).mp z)), if_neg c6]
      rw [e4]
      rfl
    rw [e3]
    rfl
  unfold q_String_indexOf
  rw [e1]
  rfl
theorem sg_s {n' : Nat} {M : Mm} {v i j c : Int32} (hi : vp_in i 3) (hl : ¬ (3 : Int32) ≤ i) (hj : i + 1 = j) (hc : sB 1 i.toNatClampNeg = c) : q_StringLatin1_indexOfChar_1_7 (n' + 1) M 3 v i = if c = v then some (M, i) else q_StringLatin1_indexOfChar_1_7 n' M 3 v j := by
  rw [q_StringLatin1_indexOfChar_1_7, if_neg hl, ix_e hi, hc, hj]
theorem sg_w {n' : Nat} {M : Mm} {v : Int32} : q_StringLatin1_indexOfChar_1_7 (n' + 4) M 3 v 0 = (if (60 : Int32) = v then some (M, 0) else if (38 : Int32) = v then some (M, 1) else if (33 : Int32) = v then some (M, 2) else some (M, (-1)) : Rs) := by
  have e : q_StringLatin1_indexOfChar_1_7 (n' + 1) M 3 v 3 = some (M, -1) := by
    rw [q_StringLatin1_indexOfChar_1_7, if_pos (by decide)]
  rw [sg_s (i := 0) (j := 1) (c := 60) (vI (by decide)) (by decide) (by decide) (by decide), sg_s (i := 1) (j := 2) (c := 38) (vI (by decide)) (by decide) (by decide) (by decide), sg_s (i := 2) (j := 3) (c := 33) (vI (by decide)) (by decide) (by decide) (by decide), e]
def sg (c : Int32) : Int32 := if c = 60 then 0 else if c = 38 then 1 else if c = 33 then 2 else (-1)
theorem sg_o {c : Int32} (h : c.toInt < 0 ∨ 255 < c.toInt) : sg c = -1 := by
  unfold sg
  rw [if_neg (fun z => by rw [z] at h; revert h; decide), if_neg (fun z => by rw [z] at h; revert h; decide), if_neg (fun z => by rw [z] at h; revert h; decide)]
theorem sg_r (c : Int32) : sg c = -1 ∨ ((0 ≤ (sg c).toInt ∧ (sg c).toInt < 3) ∧ sB 1 (sg c).toNatClampNeg = c ∧ c.toInt ≠ 0) := by
  unfold sg
  by_cases c0 : c = 60
  · rw [if_pos c0, c0]
    exact Or.inr (by decide)
  rw [if_neg c0]
  by_cases c1 : c = 38
  · rw [if_pos c1, c1]
    exact Or.inr (by decide)
  rw [if_neg c1]
  by_cases c2 : c = 33
  · rw [if_pos c2, c2]
    exact Or.inr (by decide)
  rw [if_neg c2]
  exact Or.inl rfl
theorem sg_x (M : Mm) (c : Int32) : q_String_indexOf_2 M c = some (M, sg c) := by
  have e : q_String_length_1 M = some (M, 3) := by
    have e2 : ((3 : Int32) >>> ((0 : Int32) &&& 31)) = 3 := by decide
    show (some (M, ((3 : Int32) >>> ((0 : Int32) &&& 31))) : Rs) = some (M, 3)
    rw [e2]
  have e1 : q_String_indexOf_3 M c 0 = some (M, sg c) := by
    show cal (q_String_length_1 M) (fun M3 r4 => cal (q_StringLatin1_indexOf_1 M3 c 0 r4) fun M5 r6 => some (M5, r6)) = _
    rw [e, cal_s]
    have e3 : q_StringLatin1_indexOf_1 M c 0 3 = some (M, sg c) := by
      unfold q_StringLatin1_indexOf_1 q_StringLatin1_canEncode
      have z255 : (255 : Int32).toInt = 255 := rfl
      have z0 : (0 : Int32).toInt = 0 := rfl
      by_cases g1 : c < 0
      · rw [if_pos g1, cal_s, if_pos rfl, sg_o (Or.inl (by have := Int32.lt_iff_toInt_lt.mp g1; omega))]
      rw [if_neg g1]
      by_cases g2 : 255 < c
      · rw [if_pos g2, cal_s, if_pos rfl, sg_o (Or.inr (by have := Int32.lt_iff_toInt_lt.mp g2; omega))]
      rw [if_neg g2, cal_s, if_neg (by decide), lq_s, lq_s]
      have a1 : (if (0 : Int32) < 0 then (0 : Int32) else 0) = 0 := by decide
      have a2 : (if (3 : Int32) < 3 then (3 : Int32) else 3) = 3 := by decide
      rw [a1, a2, if_pos (by decide)]
      have hr : 0 ≤ c.toInt ∧ c.toInt ≤ 255 := by
        have n1 : ¬ c.toInt < 0 := fun z => g1 (Int32.lt_iff_toInt_lt.mpr (by omega))
        have n2 : ¬ 255 < c.toInt := fun z => g2 (Int32.lt_iff_toInt_lt.mpr (by omega))
        omega
      have e4 : q_StringLatin1_indexOfChar_1 M c 0 3 = some (M, sg c) := by
        show q_StringLatin1_indexOfChar_1_7 4000 M 3 c.toInt8.toInt32 0 = _
        refine (sg_w (n' := 3996)).trans ?_
        unfold sg
        by_cases c0 : c = 60
        · rw [if_pos ((b8 hr (by decide)).mpr c0), if_pos c0]
        rw [if_neg (fun z => c0 ((b8 hr (by decide)).mp z)), if_neg c0]
        by_cases c1 : c = 38
        · rw [if_pos ((b8 hr (by decide)).mpr c1), if_pos c1]
        rw [if_neg (fun z => c1 ((b8 hr (by decide)).mp z)), if_neg c1]
        by_cases c2 : c = 33
        · rw [if_pos ((b8 hr (by decide)).mpr c2), if_pos c2]
        rw [if_neg (fun z => c2 ((b8 hr (by decide)).mp z)), if_neg c2]
      rw [e4]
      rfl
    rw [e3]
    rfl
  unfold q_String_indexOf_2
  rw [e1]
  rfl
theorem ac_one {M N : Mm} (h : rdR M N) : q_Reader_oneOf M = if ac (hrX M) = -1 then some (M, -1) else some (avX M, ac (hrX M)) := by
  have em : (-1 : Int32).toInt = -1 := by decide
  have e0 : (0 : Int32).toInt = 0 := rfl
  unfold q_Reader_oneOf
  rw [nx_e h, cal_s, ac_x, cal_s]
  by_cases c : ac (hrX M) = -1
  · rw [if_pos c, c]
    rfl
  · have r := (ac_r (hrX M)).resolve_left c
    have c2 : ¬ ac (hrX M) < 0 := fun z => by have := Int32.lt_iff_toInt_lt.mp z; omega
    rw [if_neg c, if_neg c2, lq_s]
    show (if ac (hrX M) < 0 then some (avX M, (-1)) else some (avX M, ac (hrX M)) : Rs) = _
    rw [if_neg c2]
theorem sg_one {M N : Mm} (h : rdR M N) : q_Reader_oneOf_1 M = if sg (hrX M) = -1 then some (M, -1) else some (avX M, sg (hrX M)) := by
  have em : (-1 : Int32).toInt = -1 := by decide
  have e0 : (0 : Int32).toInt = 0 := rfl
  unfold q_Reader_oneOf_1
  rw [nx_e h, cal_s, sg_x, cal_s]
  by_cases c : sg (hrX M) = -1
  · rw [if_pos c, c]
    rfl
  · have r := (sg_r (hrX M)).resolve_left c
    have c2 : ¬ sg (hrX M) < 0 := fun z => by have := Int32.lt_iff_toInt_lt.mp z; omega
    rw [if_neg c, if_neg c2, lq_s]
    show (if sg (hrX M) < 0 then some (avX M, (-1)) else some (avX M, sg (hrX M)) : Rs) = _
    rw [if_neg c2]
theorem acc_y (N : Mm) (c : Int32) : q_ChipMapModel_isAccess N c = some (N, if ac c = -1 then 0 else 1) := by
  unfold q_ChipMapModel_isAccess ac
  by_cases c0 : c = 119
  · rw [if_pos c0, if_pos c0, if_neg (by decide)]
  rw [if_neg c0, if_neg c0]
  by_cases c1 : c = 114
  · rw [if_pos c1, if_pos c1, if_neg (by decide)]
  rw [if_neg c1, if_neg c1]
  by_cases c2 : c = 111
  · rw [if_pos c2, if_pos c2, if_neg (by decide)]
  rw [if_neg c2, if_neg c2]
  by_cases c3 : c = 99
  · rw [if_pos c3, if_pos c3, if_neg (by decide)]
  rw [if_neg c3, if_neg c3]
  by_cases c4 : c = 116
  · rw [if_pos c4, if_pos c4, if_neg (by decide)]
  rw [if_neg c4, if_neg c4]
  by_cases c5 : c = 115
  · rw [if_pos c5, if_pos c5, if_neg (by decide)]
  rw [if_neg c5, if_neg c5]
  by_cases c6 : c = 112
  · rw [if_pos c6, if_pos c6, if_neg (by decide)]
  rw [if_neg c6, if_neg c6]
  rw [if_pos rfl]
def nmv (c : Int32) : Int32 := if c < 65 then -1 else if c ≤ 90 then c - 65 else -1
theorem nmv_r (c : Int32) : nmv c = -1 ∨ ((0 ≤ (nmv c).toInt ∧ (nmv c).toInt ≤ 25) ∧ nmv c = c - 65 ∧ c.toInt ≠ 0) := by
  have e65 : (65 : Int32).toInt = 65 := rfl
  have e90 : (90 : Int32).toInt = 90 := rfl
  unfold nmv
  by_cases c1 : c < 65
  · rw [if_pos c1]
    exact Or.inl rfl
  rw [if_neg c1]
  by_cases c2 : c ≤ 90
  · rw [if_pos c2]
    have h1 : ¬ c.toInt < 65 := fun z => c1 (Int32.lt_iff_toInt_lt.mpr (by omega))
    have h2 := Int32.le_iff_toInt_le.mp c2
    have z1 : (c - 65).toInt = c.toInt - 65 := isub rfl e65 (by omega) (by omega)
    exact Or.inr ⟨by omega, rfl, by omega⟩
  · rw [if_neg c2]
    exact Or.inl rfl
theorem nm_x {M N : Mm} (h : rdR M N) : q_Reader_name M = if nmv (hrX M) = -1 then some (M, -1) else some (avX M, nmv (hrX M)) := by
  have e65 : (65 : Int32).toInt = 65 := rfl
  have e90 : (90 : Int32).toInt = 90 := rfl
  have em : (-1 : Int32).toInt = -1 := by decide
  have r := nmv_r (hrX M)
  unfold q_Reader_name
  rw [nx_e h, cal_s]
  unfold nmv at r ⊢
  by_cases c1 : hrX M < 65
  · rw [if_pos c1, if_pos c1, if_pos rfl]
  rw [if_neg c1] at r ⊢
  rw [if_neg c1]
  by_cases c2 : hrX M ≤ 90
  · rw [if_pos c2] at r ⊢
    rw [if_pos c2]
    have h1 : ¬ (hrX M).toInt < 65 := fun z => c1 (Int32.lt_iff_toInt_lt.mpr (by omega))
    have h2 := Int32.le_iff_toInt_le.mp c2
    have z1 : (hrX M - 65).toInt = (hrX M).toInt - 65 := isub rfl e65 (by omega) (by omega)
    rw [if_neg (fun z => by have := congrArg Int32.toInt z; omega)]
    rfl
  · rw [if_neg c2, if_neg c2, if_pos rfl]
theorem nm_y {M N : Mm} (h : rdR M N) : q_ChipMapModel_takeName N = if nmv (hrX M) = -1 then some (wrY N 1 (N.1 0 3), 0) else some (avY N, 1) := by
  have e65 : (65 : Int32).toInt = 65 := rfl
  have e90 : (90 : Int32).toInt = 90 := rfl
  have em : (-1 : Int32).toInt = -1 := by decide
  have eh := hr_eq h
  unfold q_ChipMapModel_takeName q_ChipMapModel_isName nmv
  rw [hr_e h, cal_s, ← eh]
  by_cases c1 : hrX M < 65
  · rw [if_pos c1, if_pos c1, if_pos rfl]
    rfl
  rw [if_neg c1, if_neg c1]
  by_cases c2 : hrX M ≤ 90
  · have h1 : ¬ (hrX M).toInt < 65 := fun z => c1 (Int32.lt_iff_toInt_lt.mpr (by omega))
    have h2 := Int32.le_iff_toInt_le.mp c2
    have z1 : (hrX M - 65).toInt = (hrX M).toInt - 65 := isub rfl e65 (by omega) (by omega)
    rw [if_pos c2, if_neg (fun z => by have := Int32.lt_iff_toInt_lt.mp z; omega), if_neg (fun z => by have := congrArg Int32.toInt z; omega)]
    rfl
  · have c3 : 90 < hrX M := Int32.lt_iff_toInt_lt.mpr (by have : ¬ (hrX M).toInt ≤ 90 := fun z => c2 (Int32.le_iff_toInt_le.mpr (by omega)); omega)
    rw [if_neg c2, if_pos c3, if_pos rfl]
    rfl
end
section
def w2 (x y : Rs) (Q : Mm → Int32 → Mm → Int32 → Prop) : Prop := ∃ (M : Mm) (r : Int32) (N : Mm) (s : Int32), x = some (M, r) ∧ y = some (N, s) ∧ Q M r N s
theorem w2.s {M N : Mm} {r s : Int32} {Q : Mm → Int32 → Mm → Int32 → Prop} (h : Q M r N s) : w2 (some (M, r)) (some (N, s)) Q := ⟨M, r, N, s, rfl, rfl, h⟩
theorem w2.cal {x y : Rs} {k l : Mm → Int32 → Rs} {P Q : Mm → Int32 → Mm → Int32 → Prop} (h : w2 x y P) (g : ∀ M r N s, P M r N s → w2 (k M r) (l N s) Q) : w2 (cal x k) (cal y l) Q := by
  obtain ⟨M, r, N, s, e1, e2, e3⟩ := h
  rw [e1, e2, cal_s, cal_s]
  exact g M r N s e3
theorem w2.mono {x y : Rs} {P Q : Mm → Int32 → Mm → Int32 → Prop} (h : w2 x y P) (g : ∀ M r N s, P M r N s → Q M r N s) : w2 x y Q := by
  obtain ⟨M, r, N, s, e1, e2, e3⟩ := h
  exact ⟨M, r, N, s, e1, e2, g M r N s e3⟩
theorem st_up {M : Mm} {p k : Nat} {f : Nat → Int32} {v : Int32} : (stI M p (upd f k v)).1 p k = v := by simp [stI, upd]
def eqTo (n : Nat) (f g : Nat → Int32) : Prop := ∀ i : Nat, i < n → f i = g i
theorem eqTo.up {n : Nat} {f g : Nat → Int32} {v : Int32} (h : eqTo n f g) : eqTo (n + 1) (upd f n v) (upd g n v) := by
  intro i hi
  by_cases c : i = n
  · rw [c, updS, updS]
  · rw [updN c, updN c]
    exact h i (by omega)
def acR (n : Nat) (f g : Nat → Int32) : Prop := ∀ i : Nat, i < n → ((0 ≤ (f i).toInt ∧ (f i).toInt < 7) ∧ sB 0 (f i).toNatClampNeg = g i)
theorem acR.up {n : Nat} {f g : Nat → Int32} {v w : Int32} (h : acR n f g) (hv : (0 ≤ v.toInt ∧ v.toInt < 7) ∧ sB 0 v.toNatClampNeg = w) : acR (n + 1) (upd f n v) (upd g n w) := by
  intro i hi
  by_cases c : i = n
  · rw [c, updS, updS]
    exact hv
  · rw [updN c, updN c]
    exact h i (by omega)
def rgTo (n : Nat) (lo hi : Int) (f : Nat → Int32) : Prop := ∀ i : Nat, i < n → lo ≤ (f i).toInt ∧ (f i).toInt ≤ hi
theorem rgTo.up {n : Nat} {lo hi : Int} {f : Nat → Int32} {v : Int32} (h : rgTo n lo hi f) (hv : lo ≤ v.toInt ∧ v.toInt ≤ hi) : rgTo (n + 1) lo hi (upd f n v) := by
  intro i hi
  by_cases c : i = n
  · rw [c, updS]
    exact hv
  · rw [updN c]
    exact h i (by omega)
def fR (n : Nat) (M N : Mm) : Prop := eqTo n (M.1 7) (N.1 7) ∧ eqTo n (M.1 8) (N.1 13) ∧ eqTo n (M.1 9) (N.1 12) ∧ acR n (M.1 10) (N.1 8) ∧ eqTo n (M.1 11) (N.1 9) ∧ eqTo n (M.1 12) (N.1 10) ∧ eqTo n (M.1 13) (N.1 11) ∧ rgTo n 0 25 (M.1 7) ∧ rgTo n 0 2147483647 (M.1 8) ∧ rgTo n 0 2147483647 (M.1 11) ∧ rgTo n 0 2147483647 (M.1 12) ∧ rgTo n 0 2147483647 (M.1 13)
def fl0 (M' : Mm) (r : Int32) (N' : Mm) (s : Int32) : Prop := r = 0 ∧ s = 0 ∧ rd0 M' N' ∧ flt N'
theorem tk0 {M N : Mm} {r : Int32} (h : rd0 M N) (g : (r = 1 ∧ nf N) ∨ (r = 0 ∧ flt N)) : (r = 1 ∧ rdR M N) ∨ fl0 M 0 N 0 ∧ r = 0 := by
  rcases g with g | g
  · exact Or.inl ⟨g.1, h.n g.2⟩
  · exact Or.inr ⟨⟨rfl, rfl, h, g.2⟩, g.1⟩
theorem fld_tail {M N : Mm} {x v : Int32} (h : rdR M N) (hi : 0 ≤ x.toInt ∧ x.toInt < 128) (hv : 0 ≤ v.toInt) : w2 (q_Reader_readField_187 M x v x) (q_ChipMapModel_readField_181 N) (fun M' r N' s => fl0 M' r N' s ∨ (r = 1 ∧ s = 1 ∧ rdR M' N' ∧ M'.1 13 = upd (M.1 13) x.toNatClampNeg v ∧ M'.1 1 = upd (M.1 1) 6 (x + 1) ∧ (∀ p, p ≠ 13 → p ≠ 1 → p ≠ 21 → M'.1 p = M.1 p) ∧ N'.1 0 12 = N.1 0 12 + 1 ∧ N'.1 0 6 = N.1 0 6 ∧ N'.1 0 20 = N.1 0 20 ∧ (∀ p, p ≠ 0 → N'.1 p = N.1 p))) := by
  have hx : vp_in x 128 := vI hi
  have em : (-1 : Int32).toInt = -1 := by decide
  unfold q_Reader_readField_187 q_ChipMapModel_readField_181
  rw [ix_e hx, lq_s, lq_s, ix_e hx]
  have e1 : (stI (stI M 13 (upd (M.1 13) x.toNatClampNeg v)) 1 (upd ((stI M 13 (upd (M.1 13) x.toNatClampNeg v)).1 1) 6 (x + 1))).1 13 x.toNatClampNeg = v := by
    show upd (M.1 13) x.toNatClampNeg v x.toNatClampNeg = v
    exact updS
  rw [e1, if_neg (fun z => by rw [z] at hv; omega), lq_s]
  have h2 : rdR (stI (stI M 13 (upd (M.1 13) x.toNatClampNeg v)) 1 (upd ((stI M 13 (upd (M.1 13) x.toNatClampNeg v)).1 1) 6 (x + 1))) (stI N 0 (upd (N.1 0) 12 (N.1 0 12 + 1))) := h
  obtain ⟨M', N', r, q1, q2, ht, hr⟩ := take_rel h2 59 (by decide)
  rw [q1, q2, cal_s, cal_s]
  rcases tk0 ht.1 hr with ⟨g, g1⟩ | ⟨g, g1⟩
  · rw [g, if_neg (by decide), bz_e1]
    refine w2.s (Or.inr ⟨rfl, rfl, g1, ht.2.1 13 (by decide), ht.2.1 1 (by decide), fun p p1 p2 p3 => ?_, ht.2.2.s12, ht.2.2.s6, ht.2.2.s20, fun p p1 => ?_⟩)
    · exact (ht.2.1 p p3).trans ((stI_ne _ _ p2).trans (stI_ne _ _ p1))
    · exact (ht.2.2.o p p1).trans (stI_ne _ _ p1)
  · rw [g1, if_pos rfl, bz_e0]
    exact w2.s (Or.inl g)
theorem fld_m {M : Mm} {x : Int32} (hi : 0 ≤ x.toInt ∧ x.toInt < 128) : ∃ M' : Mm, q_Reader_readField_187 M x (-1) x = some (M', 0) ∧ ∀ N : Mm, rd0 M N → rd0 M' N := by
  have hx : vp_in x 128 := vI hi
  unfold q_Reader_readField_187
  rw [ix_e hx, lq_s, lq_s, ix_e hx]
  have e1 : (stI (stI M 13 (upd (M.1 13) x.toNatClampNeg (-1))) 1 (upd ((stI M 13 (upd (M.1 13) x.toNatClampNeg (-1))).1 1) 6 (x + 1))).1 13 x.toNatClampNeg = -1 := by
    show upd (M.1 13) x.toNatClampNeg (-1) x.toNatClampNeg = -1
    exact updS
  rw [if_pos e1]
  exact ⟨_, rfl, fun N h => h⟩
end
section
theorem w2.ltL {α : Type} {x : α} {k : α → Rs} {y : Rs} {Q : Mm → Int32 → Mm → Int32 → Prop} (g : ∀ z, z = x → w2 (k z) y Q) : w2 (lt' x k) y Q := g x rfl
theorem w2.ltR {α : Type} {x : α} {k : α → Rs} {y : Rs} {Q : Mm → Int32 → Mm → Int32 → Prop} (g : ∀ z, z = x → w2 y (k z) Q) : w2 y (lt' x k) Q := g x rfl
theorem upd_upd {f : Nat → Int32} {k : Nat} {v w : Int32} : upd (upd f k w) k v = upd f k v := by
  funext i
  by_cases c : i = k
  · rw [c, updS, updS]
  · rw [updN c, updN c, updN c]
theorem fld_val {M N : Mm} {x : Int32} (h : rdR M N) (hi : 0 ≤ x.toInt ∧ x.toInt < 128) : w2 (cal (q_Reader_next M) fun M18 r19 => if r19 = 61 then (cal (q_Reader_numberBehindSign M18) fun M20 r21 => q_Reader_readField_187 M20 x r21 x) else (q_Reader_readField_187 M18 x 0 x)) (ix x 140 <| lt' (stI N 11 (upd (N.1 11) (x : Int32).toNatClampNeg 0)) fun M25 => cal (q_ChipMapModel_here M25) fun M26 r27 => if r27 = 61 then (lt' (stI M26 0 (upd (M26.1 0) 3 ((M26.1 0 3) + 1))) fun M28 => cal (q_ChipMapModel_takeHex M28 1 4) fun M29 r30 => if r30 = 0 then (some (M29, 0)) else (ix x 140 <| lt' (stI M29 11 (upd (M29.1 11) (x : Int32).toNatClampNeg (M29.1 0 70))) fun M31 => q_ChipMapModel_readField_181 M31)) else (q_ChipMapModel_readField_181 M26)) (fun M' r N' s => fl0 M' r N' s ∨ (r = 1 ∧ s = 1 ∧ rdR M' N' ∧ ∃ v : Int32, 0 ≤ v.toInt ∧ M'.1 13 = upd (M.1 13) x.toNatClampNeg v ∧ M'.1 1 = upd (M.1 1) 6 (x + 1) ∧ (∀ p, p ≠ 13 → p ≠ 1 → p ≠ 21 → M'.1 p = M.1 p) ∧ N'.1 11 = upd (N.1 11) x.toNatClampNeg v ∧ N'.1 0 12 = N.1 0 12 + 1 ∧ N'.1 0 6 = N.1 0 6 ∧ N'.1 0 20 = N.1 0 20 ∧ (∀ p, p ≠ 0 → p ≠ 11 → N'.1 p = N.1 p))) := by
  have hy : vp_in x 140 := vI (by omega)
  rw [ix_e hy]
  refine w2.ltR (fun N25 eN => ?_)
  have h1 : rdR M N25 := by subst eN; exact h
  rw [nx_e h1, hr_e h1, cal_s, cal_s, ← hr_eq h1]
  by_cases c : hrX M = 61
  · rw [if_pos c, if_pos c]
    refine w2.ltR (fun N28 eN28 => ?_)
    have hz : (hrX M).toInt ≠ 0 := by rw [c]; decide
    have h2 : rdR (avX M) N28 := by subst eN28; exact rd_av h1 hz
    obtain ⟨M20, N29, r, b, q1, q2, t, g⟩ := num16 h2 1 4 (by decide)
    have eb : q_Reader_numberBehindSign M = some (M20, r) := by
      unfold q_Reader_numberBehindSign
      rw [tk_x h1, if_pos c, cal_s, if_neg (by decide), q1]
      rfl
    rw [eb, q2, cal_s, cal_s]
    rcases g with ⟨g1, g2, g3, gn⟩ | ⟨g1, g2, g3⟩
    · rw [g1, if_neg (by decide), ix_e hy]
      refine w2.ltR (fun N31 eN31 => ?_)
      have h3 : rdR M20 N31 := by subst eN31; exact t.1.n gn
      refine (fld_tail h3 hi g3).mono (fun M' r' N' s hq => ?_)
      rcases hq with hq | ⟨a1, a2, a3, a4, a5, a6, a7, a8, a9, a10⟩
      · exact Or.inl hq
      · refine Or.inr ⟨a1, a2, a3, r, g3, ?_, ?_, fun p p1 p2 p3 => ?_, ?_, ?_, ?_, ?_, fun p p1 p2 => ?_⟩
        · rw [a4, t.2.1 13 (by decide)]
          rfl
        · rw [a5, t.2.1 1 (by decide)]
          rfl
        · rw [a6 p p1 p2 p3, t.2.1 p p3]
          exact stI_ne _ _ p3
        · rw [a10 11 (by decide), eN31]
          show upd (N29.1 11) _ (N29.1 0 70) = _
          rw [← g2, t.2.2.o 11 (by decide), eN28, eN]
          exact upd_upd
        · rw [a7, eN31]
          show N29.1 0 12 + 1 = _
          rw [t.2.2.s12, eN28, eN]
          rfl
        · rw [a8, eN31]
          show N29.1 0 6 = _
          rw [t.2.2.s6, eN28, eN]
          rfl
        · rw [a9, eN31]
          show N29.1 0 20 = _
          rw [t.2.2.s20, eN28, eN]
          rfl
        · rw [a10 p p1, eN31, stI_ne _ _ p2, t.2.2.o p p1, eN28, stI_ne _ _ p1, eN, stI_ne _ _ p2]
    · rw [g1, g2, if_pos rfl]
      obtain ⟨M', q3, q4⟩ := fld_m (M := M20) hi
      rw [q3]
      exact w2.s (Or.inl ⟨rfl, rfl, q4 _ t.1, g3⟩)
  · rw [if_neg c, if_neg c]
    refine (fld_tail h1 hi (by decide)).mono (fun M' r' N' s hq => ?_)
    rcases hq with hq | ⟨a1, a2, a3, a4, a5, a6, a7, a8, a9, a10⟩
    · exact Or.inl hq
    · refine Or.inr ⟨a1, a2, a3, 0, by decide, a4, a5, a6, ?_, ?_, ?_, ?_, fun p p1 p2 => ?_⟩
      · rw [a10 11 (by decide), eN]
        rfl
      · rw [a7, eN]
        rfl
      · rw [a8, eN]
        rfl
      · rw [a9, eN]
        rfl
      · rw [a10 p p1, eN]
        exact stI_ne _ _ p2
def flQ (M N : Mm) (M' : Mm) (r : Int32) (N' : Mm) (s : Int32) : Prop := fl0 M' r N' s ∨ (r = 1 ∧ s = 1 ∧ rdR M' N' ∧ M'.1 1 = upd (M.1 1) 6 (M.1 1 6 + 1) ∧ (∀ p, p < 7 ∨ 13 < p → p ≠ 1 → p ≠ 21 → M'.1 p = M.1 p) ∧ N'.1 0 12 = M.1 1 6 + 1 ∧ N'.1 0 6 = N.1 0 6 ∧ N'.1 0 20 = N.1 0 20 ∧ (∀ p, p < 7 ∨ 13 < p → p ≠ 0 → N'.1 p = N.1 p) ∧ (fR (M.1 1 6).toNatClampNeg M N → fR ((M.1 1 6).toNatClampNeg + 1) M' N') ∧ M'.1 9 = upd (M.1 9) (M.1 1 6).toNatClampNeg (N.1 0 6))
theorem fld_rel {M N : Mm} {a1 : Int32} (h : rdR M N) (h6 : N.1 0 6 = a1) (hn : N.1 0 12 = M.1 1 6) (h0 : 0 ≤ (M.1 1 6).toInt ∧ (M.1 1 6).toInt < 128) : w2 (q_Reader_readField M a1) (q_ChipMapModel_readField N) (flQ M N) := by
  have hx : vp_in (M.1 1 6) 128 := vI h0
  have hy : vp_in (M.1 1 6) 140 := vI (by omega)
  unfold q_Reader_readField q_ChipMapModel_readField
  rw [hn]
  refine w2.ltL (fun x ex => ?_)
  refine w2.ltR (fun y ey => ?_)
  obtain rfl : y = x := ey.trans ex.symm
  rw [← ex] at hx hy h0
  rw [ix_e hx]
  refine w2.ltL (fun M2 eM2 => ?_)
  rw [ix_e hx]
  refine w2.ltL (fun M3 eM3 => ?_)
  rw [ix_e hy]
  refine w2.ltR (fun N2 eN2 => ?_)
  have h3 : rdR M3 N2 := by subst eM3 eM2 eN2; exact h
  rw [hr_e h3, cal_s, ix_e hy]
  refine w2.ltR (fun N5 eN5 => ?_)
  rw [ix_e hy]
  refine w2.ltR (fun N6 eN6 => ?_)
  have hN6 : rdR M3 N6 := by subst eN6 eN5; exact h3
  rw [nm_x hN6, nm_y hN6]
  by_cases c1 : nmv (hrX M3) = -1
  · rw [if_pos c1, if_pos c1, cal_s, cal_s, ix_e hx]
    refine w2.ltL (fun M6 eM6 => ?_)
    have e7 : M6.1 7 y.toNatClampNeg = -1 := by subst eM6; exact updS
    rw [ix_e hx, if_pos e7, if_pos rfl]
    exact w2.s (Or.inl ⟨rfl, rfl, by subst eM6; exact rd_wr hN6, wr_f⟩)
  rw [if_neg c1, if_neg c1, cal_s, cal_s, ix_e hx]
  have rn := (nmv_r (hrX M3)).resolve_left c1
  have h7 : rdR (avX M3) (avY N6) := rd_av hN6 rn.2.2
  refine w2.ltL (fun M6 eM6 => ?_)
  have e7 : M6.1 7 y.toNatClampNeg = nmv (hrX M3) := by subst eM6; exact updS
  rw [ix_e hx, e7, if_neg c1, if_neg (by decide : ¬ (1 : Int32) = 0)]
  have h8 : rdR M6 (avY N6) := by subst eM6; exact h7
  rw [hr_e h8, cal_s, ix_e hy]
  refine w2.ltR (fun N11 eN11 => ?_)
  have h9 : rdR M6 N11 := by subst eN11; exact h8
  rw [ac_one h9, hr_e h9, cal_s, acc_y, cal_s, ← hr_eq h9]
  by_cases c2 : ac (hrX M6) = -1
  · rw [if_pos c2, if_pos c2, cal_s, ix_e hx]
    refine w2.ltL (fun M9 eM9 => ?_)
    have e10 : M9.1 10 y.toNatClampNeg = -1 := by subst eM9; exact updS
    rw [ix_e hx, if_pos e10, if_pos rfl, wg_e, cal_s, bz_e0]
    exact w2.s (Or.inl ⟨rfl, rfl, by subst eM9; exact rd_wr h9, wr_f⟩)
  rw [if_neg c2, if_neg c2, cal_s, if_neg (by decide : ¬ (1 : Int32) = 0), ix_e hx]
  have ra := (ac_r (hrX M6)).resolve_left c2
  refine w2.ltL (fun M9 eM9 => ?_)
  refine w2.ltR (fun N16 eN16 => ?_)
  have e10 : M9.1 10 y.toNatClampNeg = ac (hrX M6) := by subst eM9; exact updS
  have h16 : rdR M9 N16 := by subst eM9 eN16; exact rd_av h9 ra.2.2
  rw [ix_e hx, e10, if_neg c2]
  obtain ⟨M10, N17, r11, b1, q1, q2, t1, g1⟩ := num10 h16
  rw [q1, q2, cal_s, cal_s, ix_e hx]
  refine w2.ltL (fun M12 eM12 => ?_)
  have e11 : M12.1 11 y.toNatClampNeg = r11 := by subst eM12; exact updS
  rw [ix_e hx, e11]
  rcases g1 with ⟨g1, g2, g3, gn1⟩ | ⟨g1, g2, g3⟩
  rotate_left
  · rw [g1, g2, if_pos rfl, if_pos rfl]
    exact w2.s (Or.inl ⟨rfl, rfl, by subst eM12; exact t1.1, g3⟩)
  rw [g1, if_neg (fun z => by rw [z] at g3; revert g3; decide), if_neg (by decide : ¬ (1 : Int32) = 0), ix_e hy]
  refine w2.ltR (fun N19 eN19 => ?_)
  have h19 : rdR M12 N19 := by subst eM12 eN19; exact t1.1.n gn1
  obtain ⟨M13, N20, r14, q3, q4, t2, g4⟩ := take_rel h19 58 (by decide)
  rw [q3, q4, cal_s, cal_s]
  rcases tk0 t2.1 g4 with ⟨g, h20⟩ | ⟨g, g5⟩
  rotate_left
  · rw [g5, if_pos rfl, if_pos rfl]
    exact w2.s (Or.inl g)
  rw [g, if_neg (by decide), if_neg (by decide)]
  obtain ⟨M15, N22, r16, b2, q5, q6, t3, g6⟩ := num10 h20
  rw [q5, q6, cal_s, cal_s, ix_e hx]
  refine w2.ltL (fun M17 eM17 => ?_)
  have e12 : M17.1 12 y.toNatClampNeg = r16 := by subst eM17; exact updS
  rw [ix_e hx, e12]
  rcases g6 with ⟨g6, g7, g8, gn2⟩ | ⟨g6, g7, g8⟩
  rotate_left
  · rw [g6, g7, if_pos rfl, if_pos rfl]
    exact w2.s (Or.inl ⟨rfl, rfl, by subst eM17; exact t3.1, g8⟩)
  rw [g6, if_neg (fun z => by rw [z] at g8; revert g8; decide), if_neg (by decide : ¬ (1 : Int32) = 0), ix_e hy]
  refine w2.ltR (fun N24 eN24 => ?_)
  have h24 : rdR M17 N24 := by subst eM17 eN24; exact t3.1.n gn2
  refine (fld_val h24 h0).mono (fun M' r N' s hq => ?_)
  rcases hq with hq | ⟨a1', a2, a3, v, hv, f13, f1, fo, n11, n12, n6, n20, no⟩
  · exact Or.inl hq
  have hq3 := hr_eq h3
  have hq8 := hr_eq h8
  subst eM17 eM12 eM9 eM6 eM3 eM2 eN24 eN19 eN16 eN11 eN6 eN5 eN2
  have k7 : M'.1 7 = upd (M.1 7) y.toNatClampNeg _ := (fo 7 (by decide) (by decide) (by decide)).trans ((t3.2.1 7 (by decide)).trans ((t2.2.1 7 (by decide)).trans (t1.2.1 7 (by decide))))
  have k8 : M'.1 8 = upd (M.1 8) y.toNatClampNeg (M.1 21 3) := (fo 8 (by decide) (by decide) (by decide)).trans ((t3.2.1 8 (by decide)).trans ((t2.2.1 8 (by decide)).trans (t1.2.1 8 (by decide))))
  have k9 : M'.1 9 = upd (M.1 9) y.toNatClampNeg a1 := (fo 9 (by decide) (by decide) (by decide)).trans ((t3.2.1 9 (by decide)).trans ((t2.2.1 9 (by decide)).trans (t1.2.1 9 (by decide))))
  have k10 : M'.1 10 = upd (M.1 10) y.toNatClampNeg _ := (fo 10 (by decide) (by decide) (by decide)).trans ((t3.2.1 10 (by decide)).trans ((t2.2.1 10 (by decide)).trans (t1.2.1 10 (by decide))))
  have k11 : M'.1 11 = upd (M.1 11) y.toNatClampNeg r11 := (fo 11 (by decide) (by decide) (by decide)).trans ((t3.2.1 11 (by decide)).trans ((t2.2.1 11 (by decide)).trans (congrArg (fun f => upd f y.toNatClampNeg r11) (t1.2.1 11 (by decide)))))
  have k12 : M'.1 12 = upd (M.1 12) y.toNatClampNeg r16 := (fo 12 (by decide) (by decide) (by decide)).trans (congrArg (fun f => upd f y.toNatClampNeg r16) ((t3.2.1 12 (by decide)).trans ((t2.2.1 12 (by decide)).trans (t1.2.1 12 (by decide)))))
  have k13 : M'.1 13 = upd (M.1 13) y.toNatClampNeg v := f13.trans (congrArg (fun f => upd f y.toNatClampNeg v) ((t3.2.1 13 (by decide)).trans ((t2.2.1 13 (by decide)).trans (t1.2.1 13 (by decide)))))
  have k1 : M'.1 1 = upd (M.1 1) 6 (y + 1) := f1.trans (congrArg (fun f => upd f 6 (y + 1)) ((t3.2.1 1 (by decide)).trans ((t2.2.1 1 (by decide)).trans (t1.2.1 1 (by decide)))))
  have j7 : N'.1 7 = upd (N.1 7) y.toNatClampNeg _ := (no 7 (by decide) (by decide)).trans ((t3.2.2.o 7 (by decide)).trans ((t2.2.2.o 7 (by decide)).trans (t1.2.2.o 7 (by decide))))
  have j13 : N'.1 13 = upd (N.1 13) y.toNatClampNeg (N.1 0 3) := (no 13 (by decide) (by decide)).trans ((t3.2.2.o 13 (by decide)).trans ((t2.2.2.o 13 (by decide)).trans (t1.2.2.o 13 (by decide))))
  have j12 : N'.1 12 = upd (N.1 12) y.toNatClampNeg (N.1 0 6) := (no 12 (by decide) (by decide)).trans ((t3.2.2.o 12 (by decide)).trans ((t2.2.2.o 12 (by decide)).trans (t1.2.2.o 12 (by decide))))
  have j8 : N'.1 8 = upd (N.1 8) y.toNatClampNeg _ := (no 8 (by decide) (by decide)).trans ((t3.2.2.o 8 (by decide)).trans ((t2.2.2.o 8 (by decide)).trans (t1.2.2.o 8 (by decide))))
  have j9 : N'.1 9 = upd (N.1 9) y.toNatClampNeg (N17.1 0 70) := (no 9 (by decide) (by decide)).trans ((t3.2.2.o 9 (by decide)).trans ((t2.2.2.o 9 (by decide)).trans (congrArg (fun f => upd f y.toNatClampNeg (N17.1 0 70)) (t1.2.2.o 9 (by decide)))))
  have j10 : N'.1 10 = upd (N.1 10) y.toNatClampNeg (N22.1 0 70) := (no 10 (by decide) (by decide)).trans (congrArg (fun f => upd f y.toNatClampNeg (N22.1 0 70)) ((t3.2.2.o 10 (by decide)).trans ((t2.2.2.o 10 (by decide)).trans (t1.2.2.o 10 (by decide)))))
  have j11 : N'.1 11 = upd (N.1 11) y.toNatClampNeg v := n11.trans (congrArg (fun f => upd f y.toNatClampNeg v) ((t3.2.2.o 11 (by decide)).trans ((t2.2.2.o 11 (by decide)).trans (t1.2.2.o 11 (by decide)))))
  have ht := fun z : Int32 => Int32.toInt_le z
  refine Or.inr ⟨a1', a2, a3, ?_, fun p p1 p2 p3 => ?_, ?_, ?_, ?_, fun p p1 p2 => ?_, fun hf => ?_, ?_⟩
  · rw [← ex]
    exact k1
  · have b7 : p ≠ 7 := by omega
    have b8 : p ≠ 8 := by omega
    have b9 : p ≠ 9 := by omega
    have b10 : p ≠ 10 := by omega
    have b11 : p ≠ 11 := by omega
    have b12 : p ≠ 12 := by omega
    have b13 : p ≠ 13 := by omega
    rw [fo p b13 p2 p3, stI_ne _ _ b12, t3.2.1 p p3, t2.2.1 p p3, stI_ne _ _ b11, t1.2.1 p p3, stI_ne _ _ b10]
    show (stI _ 21 _).1 p = _
    rw [stI_ne _ _ p3, stI_ne _ _ b7]
    show (stI _ 21 _).1 p = _
    rw [stI_ne _ _ p3, stI_ne _ _ b8, stI_ne _ _ b9]
  · rw [n12]
    show N22.1 0 12 + 1 = _
    rw [t3.2.2.s12, t2.2.2.s12]
    show N17.1 0 12 + 1 = _
    rw [t1.2.2.s12]
    show N.1 0 12 + 1 = _
    rw [hn]
  · rw [n6]
    show N22.1 0 6 = _
    rw [t3.2.2.s6, t2.2.2.s6]
    show N17.1 0 6 = _
    rw [t1.2.2.s6]
    rfl
  · rw [n20]
    show N22.1 0 20 = _
    rw [t3.2.2.s20, t2.2.2.s20]
    show N17.1 0 20 = _
    rw [t1.2.2.s20]
    rfl
  · have b7 : p ≠ 7 := by omega
    have b8 : p ≠ 8 := by omega
    have b9 : p ≠ 9 := by omega
    have b10 : p ≠ 10 := by omega
    have b11 : p ≠ 11 := by omega
    have b12 : p ≠ 12 := by omega
    have b13 : p ≠ 13 := by omega
    rw [no p p2 b11, stI_ne _ _ b10, t3.2.2.o p p2, t2.2.2.o p p2, stI_ne _ _ b9, t1.2.2.o p p2, stI_ne _ _ p2, stI_ne _ _ b8]
    show (stI _ 0 _).1 p = _
    rw [stI_ne _ _ p2, stI_ne _ _ b12, stI_ne _ _ b7, stI_ne _ _ b13]
  · rw [← ex] at hf ⊢
    obtain ⟨r1, r2, r3, r4, r5, r6, r7, r8, r9, r10, r11', r12⟩ := hf
    unfold fR
    rw [k7, k8, k9, k10, k11, k12, k13, j7, j8, j9, j10, j11, j12, j13, ← hq8, ← hq3, ← h.1, h6, ← g2, ← g7]
    refine ⟨?_, r2.up, r3.up, r4.up ⟨ra.1, ra.2.1⟩, r5.up, r6.up, r7.up, r8.up rn.1, r9.up ⟨h.2.2.2.1.1, ht _⟩, r10.up ⟨g3, ht _⟩, r11'.up ⟨g8, ht _⟩, r12.up ⟨hv, ht _⟩⟩
    rw [rn.2.1]
    exact r1.up
  · rw [h6, ← ex]
    exact k9
end
section
def hR (n : Nat) (a : Int32) (M : Mm) : Prop := (∀ i : Nat, i < n → 0 ≤ (M.1 9 i).toInt ∧ (M.1 9 i).toInt ≤ a.toInt) ∧ ∀ i j : Nat, i ≤ j → j < n → (M.1 9 i).toInt ≤ (M.1 9 j).toInt
theorem hR.up {n : Nat} {a : Int32} {M M' : Mm} (h : hR n a M) (h0 : 0 ≤ a.toInt) (e : M'.1 9 = upd (M.1 9) n a) : hR (n + 1) a M' := by
  unfold hR
  rw [e]
  refine ⟨fun i hi => ?_, fun i j hij hj => ?_⟩
  · by_cases c : i = n
    · rw [c, updS]
      omega
    · rw [updN c]
      exact h.1 i (by omega)
  · by_cases c : j = n
    · by_cases d : i = n
      · rw [c, d]
        omega
      · rw [updN d, c, updS]
        exact (h.1 i (by omega)).2
    · rw [updN c, updN (by omega)]
      exact h.2 i j hij (by omega)
theorem fR.cg {n : Nat} {M N M' N' : Mm} (h : fR n M N) (a : ∀ p, 7 ≤ p → p ≤ 13 → M'.1 p = M.1 p) (b : ∀ p, 7 ≤ p → p ≤ 13 → N'.1 p = N.1 p) : fR n M' N' := by
  unfold fR
  rw [a 7 (by decide) (by decide), a 8 (by decide) (by decide), a 9 (by decide) (by decide), a 10 (by decide) (by decide), a 11 (by decide) (by decide), a 12 (by decide) (by decide), a 13 (by decide) (by decide), b 7 (by decide) (by decide), b 8 (by decide) (by decide), b 9 (by decide) (by decide), b 10 (by decide) (by decide), b 11 (by decide) (by decide), b 12 (by decide) (by decide), b 13 (by decide) (by decide)]
  exact h
theorem hR.cg {n : Nat} {a : Int32} {M M' : Mm} (h : hR n a M) (e : M'.1 9 = M.1 9) : hR n a M' := by
  unfold hR
  rw [e]
  exact h
theorem tnS {x : Int32} (h : 0 ≤ x.toInt ∧ x.toInt < 1000) : (x + 1).toNatClampNeg = x.toNatClampNeg + 1 := by
  have e : (x + 1).toInt = x.toInt + 1 := iadd rfl (rfl : (1 : Int32).toInt = 1) (by omega) (by omega)
  have e1 : (x + 1).toNatClampNeg = (x + 1).toInt.toNat := rfl
  have e2 : x.toNatClampNeg = x.toInt.toNat := rfl
  omega
def lpQ (M N : Mm) (b : Int) (M' : Mm) (r : Int32) (N' : Mm) (s : Int32) : Prop := fl0 M' r N' s ∨ (r = 1 ∧ s = 1 ∧ rdR M' N' ∧ N'.1 0 12 = M'.1 1 6 ∧ ((M.1 1 6).toInt ≤ (M'.1 1 6).toInt ∧ (M'.1 1 6).toInt ≤ b) ∧ N'.1 0 6 = N.1 0 6 + 1 ∧ N'.1 0 20 = N.1 0 20 ∧ (∀ p, p < 7 ∨ 13 < p → p ≠ 1 → p ≠ 21 → M'.1 p = M.1 p) ∧ (∀ p, p < 7 ∨ 13 < p → p ≠ 0 → N'.1 p = N.1 p) ∧ (fR (M.1 1 6).toNatClampNeg M N → fR (M'.1 1 6).toNatClampNeg M' N') ∧ (hR (M.1 1 6).toNatClampNeg (N.1 0 6) M → hR (M'.1 1 6).toNatClampNeg (N.1 0 6) M'))
theorem rg_end {M N : Mm} {b : Int} (h : rdR M N) (hn : N.1 0 12 = M.1 1 6) (hb : (M.1 1 6).toInt ≤ b) : w2 (q_Reader_readRegister_113 M) (lt' (stI N 0 (upd (N.1 0) 6 ((N.1 0 6) + 1))) fun M1 => cal (q_ChipMapModel_take M1 125) fun M2 r3 => bz r3 (some (M2, r3))) (lpQ M N b) := by
  unfold q_Reader_readRegister_113
  refine w2.ltR (fun N1 eN1 => ?_)
  have h1 : rdR M N1 := by subst eN1; exact h
  obtain ⟨M', N', r, q1, q2, ht, hr⟩ := take_rel h1 125 (by decide)
  rw [q1, q2, cal_s, cal_s]
  rcases tk0 ht.1 hr with ⟨g, g1⟩ | ⟨g, g1⟩
  · rw [g, bz_e1, bz_e1]
    subst eN1
    have e1 : M'.1 1 = M.1 1 := ht.2.1 1 (by decide)
    refine w2.s (Or.inr ⟨rfl, rfl, g1, ?_, ?_, ht.2.2.s6, ht.2.2.s20, fun p _ _ p3 => ht.2.1 p p3, fun p _ p2 => (ht.2.2.o p p2).trans (stI_ne _ _ p2), fun hf => ?_, fun hf => ?_⟩)
    · rw [e1, ht.2.2.s12]
      exact hn
    · rw [e1]
      exact ⟨Int.le_refl _, hb⟩
    · rw [e1]
      exact hf.cg (fun p p1 p2 => ht.2.1 p (by omega)) (fun p p1 p2 => (ht.2.2.o p (by omega)).trans (stI_ne _ _ (by omega)))
    · rw [e1]
      exact hf.cg (ht.2.1 9 (by decide))
  · rw [g1, bz_e0, bz_e0]
    exact w2.s (Or.inl g)
theorem lp_step {M N M1 N1 M' N' : Mm} {b : Int} {r s : Int32} (h0 : 0 ≤ (M.1 1 6).toInt ∧ (M.1 1 6).toInt < 128) (h6 : 0 ≤ (N.1 0 6).toInt) (q : flQ M N M1 1 N1 1) (g : lpQ M1 N1 b M' r N' s) : lpQ M N b M' r N' s := by
  rcases g with g | ⟨g1, g2, g3, g4, g5, g6, g7, g8, g9, g10, g11⟩
  · exact Or.inl g
  rcases q with q | ⟨_, _, q3, q4, q5, q6, q7, q8, q9, q10, q11⟩
  · exact absurd q.1 (by decide)
  have e1 : M1.1 1 6 = M.1 1 6 + 1 := by rw [q4]; exact updS
  have e2 : (M1.1 1 6).toInt = (M.1 1 6).toInt + 1 := by rw [e1]; exact iadd rfl (rfl : (1 : Int32).toInt = 1) (by omega) (by omega)
  have e3 : (M1.1 1 6).toNatClampNeg = (M.1 1 6).toNatClampNeg + 1 := by rw [e1]; exact tnS (by omega)
  rw [e3] at g10 g11
  rw [q7] at g6 g11
  refine Or.inr ⟨g1, g2, g3, g4, by omega, g6, g7.trans q8, fun p p1 p2 p3 => (g8 p p1 p2 p3).trans (q5 p p1 p2 p3), fun p p1 p2 => (g9 p p1 p2).trans (q9 p p1 p2), fun hf => g10 (q10 hf), fun hf => g11 (hf.up h6 q11)⟩
theorem fl_loop {a1 bf : Int32} (hb : 0 ≤ bf.toInt ∧ bf.toInt ≤ 120) (ha : 0 ≤ a1.toInt) : ∀ (j n' m' : Nat) (M N : Mm) (k : Int32), 8 - k.toInt = (j : Int) → 0 ≤ k.toInt → 0 < j → j < n' → j < m' → rdR M N → N.1 0 6 = a1 → N.1 0 12 = M.1 1 6 → (M.1 1 6).toInt = bf.toInt + k.toInt → w2 (q_Reader_readRegister_97 (q_Reader_readRegister_75 n') M a1 k) (q_ChipMapModel_readRegister_165 m' N bf 1) (lpQ M N (bf.toInt + 8)) := by
  intro j
  induction j with
  | zero =>
    intro n' m' M N k _ _ hj
    exact absurd hj (by decide)
  | succ j ih =>
    intro n' m' M N k hk k0 hj hn' hm' h h6 hn hc
    obtain ⟨n', rfl⟩ : ∃ q, n' = q + 1 := ⟨n' - 1, by omega⟩
    obtain ⟨m', rfl⟩ : ∃ q, m' = q + 1 + 1 := ⟨m' - 2, by omega⟩
    unfold q_Reader_readRegister_97
    rw [q_ChipMapModel_readRegister_165, if_neg (by decide : ¬ (1 : Int32) = 0)]
    refine (fld_rel h h6 hn (by omega)).cal (fun M1 r1 N1 s1 hq => ?_)
    have hq0 := hq
    rcases hq with hq | ⟨e1, e2, h1, k1, fo, n12, n6, n20, no, hf, h9⟩
    · rw [hq.1, hq.2.1, if_pos rfl, if_pos rfl]
      exact w2.s (Or.inl ⟨rfl, rfl, hq.2.2⟩)
    rw [e1, e2] at hq0
    have z8 : (8 : Int32).toInt = 8 := rfl
    have z0 : (0 : Int32).toInt = 0 := rfl
    have ek : (k + 1).toInt = k.toInt + 1 := iadd rfl (rfl : (1 : Int32).toInt = 1) (by omega) (by omega)
    have em : M1.1 1 6 = M.1 1 6 + 1 := by rw [k1]; exact updS
    have em2 : (M1.1 1 6).toInt = (M.1 1 6).toInt + 1 := by rw [em]; exact iadd rfl (rfl : (1 : Int32).toInt = 1) (by omega) (by omega)
    have en : N1.1 0 12 = M1.1 1 6 := by rw [n12, em]
    have ed : (N1.1 0 12 - bf).toInt = (M1.1 1 6).toInt - bf.toInt := by rw [en]; exact isub rfl rfl (by omega) (by omega)
    have hh : 0 ≤ (M.1 1 6).toInt ∧ (M.1 1 6).toInt < 128 := by omega
    have h60 : 0 ≤ (N.1 0 6).toInt := by rw [h6]; exact ha
    have eA : q_ChipMapModel_readRegister_202 (q_ChipMapModel_readRegister_165 (m' + 1)) N1 bf = (lt' (stI N1 0 (upd (N1.1 0) 6 ((N1.1 0 6) + 1))) fun M1 => cal (q_ChipMapModel_take M1 125) fun M2 r3 => bz r3 (some (M2, r3))) := by
      unfold q_ChipMapModel_readRegister_202 q_ChipMapModel_readRegister_203
      rw [q_ChipMapModel_readRegister_165, if_pos rfl]
    have eB : q_ChipMapModel_readRegister_203 (q_ChipMapModel_readRegister_165 (m' + 1)) N1 bf 1 = q_ChipMapModel_readRegister_165 (m' + 1) N1 bf 1 := rfl
    rw [e1, e2, if_neg (by decide), if_neg (by decide), hr_e h1, cal_s, eA, eB, q_Reader_readRegister_75, ← hr_eq h1]
    by_cases c8 : 8 ≤ k + 1
    · have c8' : 8 ≤ N1.1 0 12 - bf := Int32.le_iff_toInt_le.mpr (by have := Int32.le_iff_toInt_le.mp c8; omega)
      rw [if_pos c8, if_pos c8']
      have ei : ∀ A : Rs, (if hrX M1 = 125 then A else A) = A := fun A => by split <;> rfl
      rw [ei]
      exact (rg_end h1 en (by omega)).mono (fun M' r N' s g => lp_step hh h60 hq0 g)
    · have c8' : ¬ 8 ≤ N1.1 0 12 - bf := fun z => c8 (Int32.le_iff_toInt_le.mpr (by have := Int32.le_iff_toInt_le.mp z; omega))
      have c8z : ¬ 8 ≤ (k + 1).toInt := fun z => c8 (Int32.le_iff_toInt_le.mpr (by omega))
      rw [if_neg c8, if_neg c8', if_neg (fun z => by have := Int32.le_iff_toInt_le.mp z; omega), nx_e h1, cal_s]
      by_cases c : hrX M1 = 125
      · rw [if_pos c, if_pos c]
        exact (rg_end h1 en (by omega)).mono (fun M' r N' s g => lp_step hh h60 hq0 g)
      · rw [if_neg c, if_neg c]
        exact (ih n' (m' + 1) M1 N1 (k + 1) (by omega) (by omega) (by omega) (by omega) (by omega) h1 (n6.trans h6) en (by omega)).mono (fun M' r N' s g => lp_step hh h60 hq0 g)
end
section
def bkR (n : Nat) (M N : Mm) : Prop := ∀ i : Nat, i < n → M.1 4 i = N.1 3 i ∧ (-1 ≤ (M.1 4 i).toInt ∧ (M.1 4 i).toInt ≤ 25) ∧ (M.1 4 i ≠ -1 → M.1 5 i = N.1 6 i ∧ M.1 6 i = N.1 4 i ∧ 0 ≤ (M.1 5 i).toInt ∧ 0 ≤ (M.1 6 i).toInt)
def bkP (k : Nat) (M N M' N' : Mm) : Prop := rdR M' N' ∧ (∀ p, p ≠ 4 → p ≠ 5 → p ≠ 6 → p ≠ 21 → M'.1 p = M.1 p) ∧ (∀ p, p ≠ 0 → p ≠ 3 → p ≠ 4 → p ≠ 6 → N'.1 p = N.1 p) ∧ N'.1 0 6 = N.1 0 6 ∧ N'.1 0 12 = N.1 0 12 ∧ N'.1 0 20 = N.1 0 20 ∧ (bkR k M N → bkR (k + 1) M' N')
theorem bank_rel {M N : Mm} {x : Int32} {K : Mm → Rs} {Q : Mm → Int32 → Mm → Int32 → Prop} (h : rdR M N) (hi : 0 ≤ x.toInt ∧ x.toInt < 16) (hQ : ∀ M' N', fl0 M' 0 N' 0 → Q M' 0 N' 0) (hK : ∀ M' N', bkP x.toNatClampNeg M N M' N' → w2 (K M') (q_ChipMapModel_readRegister_147 N') Q) : w2 (cal (q_Reader_readBank M x) fun M7 r8 => if r8 = 0 then (some (M7, 0)) else (K M7)) (ix x 17 <| lt' (stI N 3 (upd (N.1 3) (x : Int32).toNatClampNeg (-1))) fun M8 => cal (q_ChipMapModel_here M8) fun M9 r10 => if r10 = 63 then (lt' (stI M9 0 (upd (M9.1 0) 3 ((M9.1 0 3) + 1))) fun M11 => ix x 17 <| lt' (stI M11 6 (upd (M11.1 6) (x : Int32).toNatClampNeg (M11.1 0 3))) fun M12 => cal (q_ChipMapModel_here M12) fun M13 r14 => ix x 17 <| lt' (stI M13 3 (upd (M13.1 3) (x : Int32).toNatClampNeg (r14 - 65))) fun M15 => cal (q_ChipMapModel_takeName M15) fun M16 r17 => if r17 = 0 then (some (M16, 0)) else (cal (q_ChipMapModel_take M16 61) fun M18 r19 => if r19 = 0 then (some (M18, 0)) else (cal (q_ChipMapModel_takeHex M18 1 1) fun M20 r21 => if r21 = 0 then (some (M20, 0)) else (ix x 17 <| lt' (stI M20 4 (upd (M20.1 4) (x : Int32).toNatClampNeg (M20.1 0 70))) fun M22 => q_ChipMapModel_readRegister_147 M22)))) else (q_ChipMapModel_readRegister_147 M9)) Q := by
  have hx : vp_in x 16 := vI hi
  have hy : vp_in x 17 := vI (by omega)
  unfold q_Reader_readBank
  rw [ix_e hx, ix_e hy, lq_s]
  obtain ⟨M1, eM1⟩ : ∃ z, z = stI M 4 (upd (M.1 4) x.toNatClampNeg (-1)) := ⟨_, rfl⟩
  rw [← eM1]
  refine w2.ltR (fun N8 eN8 => ?_)
  have h1 : rdR M1 N8 := by subst eM1 eN8; exact h
  rw [nx_e h1, hr_e h1, cal_s, cal_s, ← hr_eq h1]
  by_cases c : hrX M1 = 63
  rotate_left
  · rw [if_neg c, if_neg c, cal_s, if_neg (by decide)]
    refine hK _ _ ?_
    subst eM1 eN8
    refine ⟨h1, fun p p1 _ _ _ => stI_ne _ _ p1, fun p _ p1 _ _ => stI_ne _ _ p1, rfl, rfl, rfl, fun hb i hi => ?_⟩
    show upd (M.1 4) x.toNatClampNeg (-1) i = upd (N.1 3) x.toNatClampNeg (-1) i ∧ (-1 ≤ (upd (M.1 4) x.toNatClampNeg (-1) i).toInt ∧ (upd (M.1 4) x.toNatClampNeg (-1) i).toInt ≤ 25) ∧ (upd (M.1 4) x.toNatClampNeg (-1) i ≠ -1 → M.1 5 i = N.1 6 i ∧ M.1 6 i = N.1 4 i ∧ 0 ≤ (M.1 5 i).toInt ∧ 0 ≤ (M.1 6 i).toInt)
    by_cases d : i = x.toNatClampNeg
    · rw [d, updS, updS]
      exact ⟨rfl, by decide, fun z => absurd rfl z⟩
    · rw [updN d, updN d]
      exact hb i (by omega)
  rw [if_pos c, if_pos c]
  have hz : (hrX M1).toInt ≠ 0 := by rw [c]; decide
  rw [lq_s, ix_e hx, lq_s]
  refine w2.ltR (fun N11 eN11 => ?_)
  rw [ix_e hy]
  refine w2.ltR (fun N12 eN12 => ?_)
  obtain ⟨M5, eM5⟩ : ∃ z, z = stI (stI M1 21 (upd (M1.1 21) 3 (M1.1 21 3 + 1))) 5 (upd ((stI M1 21 (upd (M1.1 21) 3 (M1.1 21 3 + 1))).1 5) x.toNatClampNeg ((stI M1 21 (upd (M1.1 21) 3 (M1.1 21 3 + 1))).1 21 3)) := ⟨_, rfl⟩
  rw [← eM5]
  have h5 : rdR M5 N12 := by subst eM5 eN12 eN11; exact rd_av h1 hz
  rw [hr_e h5, cal_s, ix_e hy]
  refine w2.ltR (fun N15 eN15 => ?_)
  have h15 : rdR M5 N15 := by subst eN15; exact h5
  rw [nm_x h15, nm_y h15]
  by_cases c1 : nmv (hrX M5) = -1
  · rw [if_pos c1, if_pos c1, cal_s, cal_s, ix_e hx, lq_s, ix_e hx, if_pos st_up, cal_s, if_pos rfl, if_pos rfl]
    exact w2.s (hQ _ _ ⟨rfl, rfl, rd_wr h15, wr_f⟩)
  have rn := (nmv_r (hrX M5)).resolve_left c1
  rw [if_neg c1, if_neg c1, cal_s, cal_s, ix_e hx, lq_s, ix_e hx, if_neg (by decide : ¬ (1 : Int32) = 0)]
  obtain ⟨M8, eM8⟩ : ∃ z, z = stI (avX M5) 4 (upd ((avX M5).1 4) x.toNatClampNeg (nmv (hrX M5))) := ⟨_, rfl⟩
  rw [← eM8]
  have e8 : M8.1 4 x.toNatClampNeg = nmv (hrX M5) := by rw [eM8]; exact st_up
  rw [e8, if_neg c1]
  have h8 : rdR M8 (avY N15) := by subst eM8; exact rd_av h15 rn.2.2
  obtain ⟨M9, N18, r10, q1, q2, t1, g1⟩ := take_rel h8 61 (by decide)
  rw [q1, q2, cal_s, cal_s]
  rcases tk0 t1.1 g1 with ⟨g, h9⟩ | ⟨g, g5⟩
  rotate_left
  · rw [g5, if_pos rfl, if_pos rfl, cal_s, if_pos rfl]
    exact w2.s (hQ _ _ g)
  rw [g, if_neg (by decide), if_neg (by decide)]
  obtain ⟨M11, N20, r12, b2, q5, q6, t2, g6⟩ := num16 h9 1 1 (by decide)
  rw [q5, q6, cal_s, cal_s, ix_e hx, lq_s, ix_e hx]
  obtain ⟨M13, eM13⟩ : ∃ z, z = stI M11 6 (upd (M11.1 6) x.toNatClampNeg r12) := ⟨_, rfl⟩
  rw [← eM13]
  have e13 : M13.1 6 x.toNatClampNeg = r12 := by rw [eM13]; exact st_up
  rw [e13]
  rcases g6 with ⟨g6, g7, g8, gn⟩ | ⟨g6, g7, g8⟩
  rotate_left
  · rw [g6, g7, if_pos rfl, if_pos rfl, cal_s, if_pos rfl]
    exact w2.s (hQ _ _ ⟨rfl, rfl, by subst eM13; exact t2.1, g8⟩)
  rw [g6, if_neg (fun z => by rw [z] at g8; revert g8; decide), if_neg (by decide : ¬ (1 : Int32) = 0), cal_s, if_neg (by decide), ix_e hy]
  refine w2.ltR (fun N22 eN22 => ?_)
  refine hK _ _ ?_
  have hq5 := hr_eq h5
  have h1a := h1.1
  have h1n := h1.2.2.2.1
  have hlt := hr_lt h1 hz
  subst eM13 eM8 eM5 eM1 eN22 eN15 eN12 eN11 eN8
  have k4 : (stI M11 6 (upd (M11.1 6) x.toNatClampNeg r12)).1 4 = upd (upd (M.1 4) x.toNatClampNeg (-1)) x.toNatClampNeg _ := (t2.2.1 4 (by decide)).trans (t1.2.1 4 (by decide))
  have k5 : (stI M11 6 (upd (M11.1 6) x.toNatClampNeg r12)).1 5 = upd (M.1 5) x.toNatClampNeg (M.1 21 3 + 1) := (t2.2.1 5 (by decide)).trans (t1.2.1 5 (by decide))
  have k6 : (stI M11 6 (upd (M11.1 6) x.toNatClampNeg r12)).1 6 = upd (M.1 6) x.toNatClampNeg r12 := congrArg (fun f => upd f x.toNatClampNeg r12) ((t2.2.1 6 (by decide)).trans (t1.2.1 6 (by decide)))
  have j3 : (stI N20 4 (upd (N20.1 4) x.toNatClampNeg (N20.1 0 70))).1 3 = upd (upd (N.1 3) x.toNatClampNeg (-1)) x.toNatClampNeg _ := (t2.2.2.o 3 (by decide)).trans (t1.2.2.o 3 (by decide))
  have j6 : (stI N20 4 (upd (N20.1 4) x.toNatClampNeg (N20.1 0 70))).1 6 = upd (N.1 6) x.toNatClampNeg (N.1 0 3 + 1) := (t2.2.2.o 6 (by decide)).trans (t1.2.2.o 6 (by decide))
  have j4 : (stI N20 4 (upd (N20.1 4) x.toNatClampNeg (N20.1 0 70))).1 4 = upd (N.1 4) x.toNatClampNeg (N20.1 0 70) := congrArg (fun f => upd f x.toNatClampNeg (N20.1 0 70)) ((t2.2.2.o 4 (by decide)).trans (t1.2.2.o 4 (by decide)))
  refine ⟨t2.1.n gn, fun p p1 p2 p3 p4 => ?_, fun p p1 p2 p3 p4 => ?_, ?_, ?_, ?_, fun hb i hi => ?_⟩
  · rw [stI_ne _ _ p3, t2.2.1 p p4, t1.2.1 p p4, stI_ne _ _ p1]
    show (stI _ 21 _).1 p = _
    rw [stI_ne _ _ p4, stI_ne _ _ p2, stI_ne _ _ p4, stI_ne _ _ p1]
  · rw [stI_ne _ _ p3, t2.2.2.o p p1, t1.2.2.o p p1]
    show (stI _ 0 _).1 p = _
    rw [stI_ne _ _ p1, stI_ne _ _ p2, stI_ne _ _ p4, stI_ne _ _ p1, stI_ne _ _ p2]
  · exact t2.2.2.s6.trans t1.2.2.s6
  · exact t2.2.2.s12.trans t1.2.2.s12
  · exact t2.2.2.s20.trans t1.2.2.s20
  · rw [k4, k5, k6, j3, j4, j6, upd_upd, upd_upd]
    by_cases d : i = x.toNatClampNeg
    · rw [d, updS, updS, updS, updS, updS, updS]
      refine ⟨?_, ?_, fun _ => ⟨?_, g7, ?_, g8⟩⟩
      · rw [rn.2.1, hq5]
      · have := rn.1
        omega
      · have h1b : M.1 21 3 = N.1 0 3 := h.1
        rw [h1b]
      · have h0 := h.2.2.2.1
        have e : (M.1 21 3 + 1).toInt = (M.1 21 3).toInt + 1 := iadd rfl (rfl : (1 : Int32).toInt = 1) (by omega) (by omega)
        omega
    · rw [updN d, updN d, updN d, updN d, updN d, updN d]
      exact hb i (by omega)
end
section
def gR (n : Nat) (M N : Mm) : Prop := eqTo n (M.1 2) (N.1 5) ∧ eqTo n (M.1 3) (N.1 2) ∧ rgTo n 0 2147483647 (M.1 2) ∧ rgTo n 0 2147483647 (M.1 3) ∧ bkR n M N
theorem bkR.cg {n : Nat} {M N M' N' : Mm} (h : bkR n M N) (a4 : M'.1 4 = M.1 4) (a5 : M'.1 5 = M.1 5) (a6 : M'.1 6 = M.1 6) (b3 : N'.1 3 = N.1 3) (b4 : N'.1 4 = N.1 4) (b6 : N'.1 6 = N.1 6) : bkR n M' N' := by
  unfold bkR
  rw [a4, a5, a6, b3, b4, b6]
  exact h
def rgQ (M N : Mm) (M' : Mm) (r : Int32) (N' : Mm) (s : Int32) : Prop := fl0 M' r N' s ∨ (r = 1 ∧ s = 1 ∧ rdR M' N' ∧ N'.1 0 12 = M'.1 1 6 ∧ ((M.1 1 6).toInt ≤ (M'.1 1 6).toInt ∧ (M'.1 1 6).toInt ≤ (M.1 1 6).toInt + 8) ∧ N'.1 0 6 = N.1 0 6 + 1 ∧ N'.1 0 20 = N.1 0 20 ∧ (∀ p, p = 0 ∨ 13 < p → p ≠ 21 → M'.1 p = M.1 p) ∧ (∀ p, p = 1 ∨ 13 < p → N'.1 p = N.1 p) ∧ (fR (M.1 1 6).toNatClampNeg M N → fR (M'.1 1 6).toNatClampNeg M' N') ∧ (hR (M.1 1 6).toNatClampNeg (N.1 0 6) M → hR (M'.1 1 6).toNatClampNeg (N.1 0 6) M') ∧ (gR (N.1 0 6).toNatClampNeg M N → gR ((N.1 0 6).toNatClampNeg + 1) M' N'))
theorem reg_rel {M N : Mm} {a1 : Int32} (h : rdR M N) (h6 : N.1 0 6 = a1) (ha : 0 ≤ a1.toInt ∧ a1.toInt < 16) (hn : N.1 0 12 = M.1 1 6) (h0 : 0 ≤ (M.1 1 6).toInt ∧ (M.1 1 6).toInt ≤ 120) : w2 (q_Reader_readRegister M a1) (q_ChipMapModel_readRegister N) (rgQ M N) := by
  have hx : vp_in a1 16 := vI ha
  have hy : vp_in a1 17 := vI (by omega)
  have z16 : (16 : Int32).toInt = 16 := rfl
  unfold q_Reader_readRegister q_ChipMapModel_readRegister
  rw [ix_e hx, h6]
  refine w2.ltL (fun M1 eM1 => ?_)
  rw [lq_s, ix_e hy]
  refine w2.ltR (fun N2 eN2 => ?_)
  rw [if_neg (fun z => by rw [z] at ha; omega)]
  have h1 : rdR M1 N2 := by subst eM1 eN2; exact h
  obtain ⟨M2, N3, r3, q1, q2, t1, g1⟩ := take_rel h1 64 (by decide)
  rw [q1, q2, cal_s, cal_s]
  rcases tk0 t1.1 g1 with ⟨g, h2⟩ | ⟨g, g5⟩
  rotate_left
  · rw [g5, if_pos rfl, if_pos rfl]
    exact w2.s (Or.inl g)
  rw [g, if_neg (by decide), if_neg (by decide)]
  obtain ⟨M4, N5, r5, b2, q5, q6, t2, g6⟩ := num16 h2 2 2 (by decide)
  rw [q5, q6, cal_s, cal_s, ix_e hx]
  refine w2.ltL (fun M6 eM6 => ?_)
  have e6 : M6.1 3 a1.toNatClampNeg = r5 := by rw [eM6]; exact st_up
  rw [ix_e hx, e6]
  rcases g6 with ⟨g6, g7, g8, gn⟩ | ⟨g6, g7, g8⟩
  rotate_left
  · rw [g6, g7, if_pos rfl, if_pos rfl]
    exact w2.s (Or.inl ⟨rfl, rfl, by subst eM6; exact t2.1, g8⟩)
  rw [g6, if_neg (fun z => by rw [z] at g8; revert g8; decide), if_neg (by decide : ¬ (1 : Int32) = 0), ix_e hy]
  refine w2.ltR (fun N7 eN7 => ?_)
  have h7 : rdR M6 N7 := by subst eM6 eN7; exact t2.1.n gn
  refine bank_rel h7 ha (fun M' N' hf => Or.inl hf) (fun M8 N8 hb => ?_)
  obtain ⟨b1, b2, b3, b4, b5, b6, b7⟩ := hb
  unfold q_ChipMapModel_readRegister_147
  obtain ⟨M9, N9, r9, q3, q4, t3, g3⟩ := take_rel b1 123 (by decide)
  rw [q3, q4, cal_s, cal_s]
  rcases tk0 t3.1 g3 with ⟨g, h9⟩ | ⟨g, g5⟩
  rotate_left
  · rw [g5, if_pos rfl, if_pos rfl]
    exact w2.s (Or.inl g)
  rw [g, if_neg (by decide), if_neg (by decide), lq_s]
  have fx : ∀ p, p ≠ 2 → p ≠ 3 → p ≠ 4 → p ≠ 5 → p ≠ 6 → p ≠ 21 → M9.1 p = M.1 p := by
    intro p p2 p3 p4 p5 p6 p21
    rw [t3.2.1 p p21, b2 p p4 p5 p6 p21, eM6, stI_ne _ _ p3, t2.2.1 p p21, t1.2.1 p p21, eM1, stI_ne _ _ p2]
  have fy : ∀ p, p ≠ 0 → p ≠ 2 → p ≠ 3 → p ≠ 4 → p ≠ 5 → p ≠ 6 → N9.1 p = N.1 p := by
    intro p p0 p2 p3 p4 p5 p6
    rw [t3.2.2.o p p0, b3 p p0 p3 p4 p6, eN7, stI_ne _ _ p2, t2.2.2.o p p0, t1.2.2.o p p0, eN2, stI_ne _ _ p5]
  have s6 : N9.1 0 6 = N.1 0 6 := by
    rw [t3.2.2.s6, b4, eN7]
    show N5.1 0 6 = _
    rw [t2.2.2.s6, t1.2.2.s6, eN2]
    rfl
  have s12 : N9.1 0 12 = N.1 0 12 := by
    rw [t3.2.2.s12, b5, eN7]
    show N5.1 0 12 = _
    rw [t2.2.2.s12, t1.2.2.s12, eN2]
    rfl
  have s20 : N9.1 0 20 = N.1 0 20 := by
    rw [t3.2.2.s20, b6, eN7]
    show N5.1 0 20 = _
    rw [t2.2.2.s20, t1.2.2.s20, eN2]
    rfl
  have e1 : M9.1 1 = M.1 1 := fx 1 (by decide) (by decide) (by decide) (by decide) (by decide) (by decide)
  have e75 : q_Reader_readRegister_75 4000 M9 a1 0 = q_Reader_readRegister_97 (q_Reader_readRegister_75 3999) M9 a1 0 := by
    show q_Reader_readRegister_75 (3999 + 1) M9 a1 0 = _
    rw [q_Reader_readRegister_75, if_neg (by decide), if_pos (by decide)]
  rw [e75]
  have z0 : (0 : Int32).toInt = 0 := rfl
  have hbf : N9.1 0 12 = M9.1 1 6 := by rw [s12, e1]; exact hn
  have hbi : (N9.1 0 12).toInt = (M.1 1 6).toInt := by rw [s12, hn]
  have hmi : (M9.1 1 6).toInt = (M.1 1 6).toInt := by rw [e1]
  refine (fl_loop (bf := N9.1 0 12) (by omega) ha.1 8 3999 4000 M9 N9 0 (by decide) (by decide) (by decide) (by decide) (by decide) h9 (s6.trans h6) hbf (by omega)).mono (fun M' r N' s hq => ?_)
  rcases hq with hq | ⟨f1, f2, f3, f4, f5, f6, f7, f8, f9, f10, f11⟩
  · exact Or.inl hq
  rw [s6] at f6 f11
  rw [e1] at f10 f11
  have h9r : ∀ p, 7 ≤ p → p ≤ 13 → M9.1 p = M.1 p := fun p p1 p2 => fx p (by omega) (by omega) (by omega) (by omega) (by omega) (by omega)
  have h9n : ∀ p, 7 ≤ p → p ≤ 13 → N9.1 p = N.1 p := fun p p1 p2 => fy p (by omega) (by omega) (by omega) (by omega) (by omega) (by omega)
  refine Or.inr ⟨f1, f2, f3, f4, by omega, f6, f7.trans s20, fun p p1 p2 => ?_, fun p p1 => ?_, fun hf => f10 (hf.cg h9r h9n), fun hf => f11 (hf.cg (h9r 9 (by decide) (by decide))), fun hg => ?_⟩
  · rw [f8 p (by omega) (by omega) p2, fx p (by omega) (by omega) (by omega) (by omega) (by omega) p2]
  · rw [f9 p (by omega) (by omega), fy p (by omega) (by omega) (by omega) (by omega) (by omega) (by omega)]
  · have m2 : M'.1 2 = upd (M.1 2) a1.toNatClampNeg (M.1 21 3) := by
      rw [f8 2 (by decide) (by decide) (by decide), t3.2.1 2 (by decide), b2 2 (by decide) (by decide) (by decide) (by decide), eM6]
      refine Eq.trans (stI_ne _ _ (by decide)) ?_
      rw [t2.2.1 2 (by decide), t1.2.1 2 (by decide), eM1]
      rfl
    have m3 : M'.1 3 = upd (M.1 3) a1.toNatClampNeg r5 := by
      rw [f8 3 (by decide) (by decide) (by decide), t3.2.1 3 (by decide), b2 3 (by decide) (by decide) (by decide) (by decide), eM6]
      show upd (M4.1 3) a1.toNatClampNeg r5 = _
      rw [t2.2.1 3 (by decide), t1.2.1 3 (by decide), eM1]
      rfl
    have n5 : N'.1 5 = upd (N.1 5) a1.toNatClampNeg (N.1 0 3) := by
      rw [f9 5 (by decide) (by decide), t3.2.2.o 5 (by decide), b3 5 (by decide) (by decide) (by decide) (by decide), eN7]
      refine Eq.trans (stI_ne _ _ (by decide)) ?_
      rw [t2.2.2.o 5 (by decide), t1.2.2.o 5 (by decide), eN2]
      rfl
    have n2 : N'.1 2 = upd (N.1 2) a1.toNatClampNeg (N5.1 0 70) := by
      rw [f9 2 (by decide) (by decide), t3.2.2.o 2 (by decide), b3 2 (by decide) (by decide) (by decide) (by decide), eN7]
      show upd (N5.1 2) a1.toNatClampNeg (N5.1 0 70) = _
      rw [t2.2.2.o 2 (by decide), t1.2.2.o 2 (by decide), eN2]
      rfl
    rw [h6] at hg ⊢
    obtain ⟨w1, w2', w3, w4, w5⟩ := hg
    have c6 : ∀ p, p ≠ 2 → p ≠ 3 → p ≠ 21 → M6.1 p = M.1 p := by
      intro p p2 p3 p21
      rw [eM6, stI_ne _ _ p3, t2.2.1 p p21, t1.2.1 p p21, eM1, stI_ne _ _ p2]
    have c7 : ∀ p, p ≠ 0 → p ≠ 2 → p ≠ 5 → N7.1 p = N.1 p := by
      intro p p0 p2 p5
      rw [eN7, stI_ne _ _ p2, t2.2.2.o p p0, t1.2.2.o p p0, eN2, stI_ne _ _ p5]
    have w6 := b7 (w5.cg (c6 4 (by decide) (by decide) (by decide)) (c6 5 (by decide) (by decide) (by decide)) (c6 6 (by decide) (by decide) (by decide)) (c7 3 (by decide) (by decide) (by decide)) (c7 4 (by decide) (by decide) (by decide)) (c7 6 (by decide) (by decide) (by decide)))
    have cx : ∀ p, p < 7 → p ≠ 1 → p ≠ 21 → M'.1 p = M8.1 p := fun p p1 p2 p3 => (f8 p (Or.inl p1) p2 p3).trans (t3.2.1 p p3)
    have cy : ∀ p, p < 7 → p ≠ 0 → N'.1 p = N8.1 p := fun p p1 p2 => (f9 p (Or.inl p1) p2).trans (t3.2.2.o p p2)
    have w7 := w6.cg (cx 4 (by decide) (by decide) (by decide)) (cx 5 (by decide) (by decide) (by decide)) (cx 6 (by decide) (by decide) (by decide)) (cy 3 (by decide) (by decide)) (cy 4 (by decide) (by decide)) (cy 6 (by decide) (by decide))
    have ht := fun z : Int32 => Int32.toInt_le z
    unfold gR
    rw [m2, m3, n5, n2, ← h.1, ← g7]
    exact ⟨w1.up, w2'.up, w3.up ⟨h.2.2.2.1.1, ht _⟩, w4.up ⟨g8, ht _⟩, w7⟩
end
section
def sgR (n : Nat) (f g : Nat → Int32) : Prop := ∀ i : Nat, i < n → ((0 ≤ (f i).toInt ∧ (f i).toInt < 3) ∧ sB 1 (f i).toNatClampNeg = g i)
theorem sgR.up {n : Nat} {f g : Nat → Int32} {v w : Int32} (h : sgR n f g) (hv : (0 ≤ v.toInt ∧ v.toInt < 3) ∧ sB 1 v.toNatClampNeg = w) : sgR (n + 1) (upd f n v) (upd g n w) := by
  intro i hi
  by_cases c : i = n
  · rw [c, updS, updS]
    exact hv
  · rw [updN c, updN c]
    exact h i (by omega)
def ruR (n : Nat) (M N : Mm) : Prop := sgR n (M.1 15) (N.1 14) ∧ eqTo n (M.1 16) (N.1 15) ∧ eqTo n (M.1 17) (N.1 16) ∧ eqTo n (M.1 18) (N.1 17) ∧ eqTo n (M.1 19) (N.1 18) ∧ eqTo n (M.1 20) (N.1 19) ∧ rgTo n 0 25 (M.1 16) ∧ rgTo n 0 25 (M.1 17) ∧ rgTo n 0 2147483647 (M.1 18) ∧ rgTo n 0 2147483647 (M.1 19) ∧ rgTo n 0 2147483647 (M.1 20)
theorem sgn_y {M N : Mm} (h : rdR M N) (x : Int32) : (cal (q_ChipMapModel_here N) fun M11 r12 => if r12 = 60 then (q_ChipMapModel_readRule_100 M11 x) else (cal (q_ChipMapModel_here M11) fun M13 r14 => if r14 = 38 then (q_ChipMapModel_readRule_100 M13 x) else (cal (q_ChipMapModel_here M13) fun M15 r16 => if r16 = 33 then (q_ChipMapModel_readRule_100 M15 x) else (cal (q_ChipMapModel_wrong M15 1 (M15.1 0 3)) fun M17 r18 => bz r18 (some (M17, r18)))))) = if sg (hrX M) = -1 then some (wrY N 1 (N.1 0 3), 0) else q_ChipMapModel_readRule_100 N x := by
  rw [hr_e h, cal_s, ← hr_eq h]
  unfold sg
  by_cases c0 : hrX M = 60
  · rw [if_pos c0, if_pos c0, if_neg (by decide)]
  rw [if_neg c0, if_neg c0, hr_e h, cal_s, ← hr_eq h]
  by_cases c1 : hrX M = 38
  · rw [if_pos c1, if_pos c1, if_neg (by decide)]
  rw [if_neg c1, if_neg c1, hr_e h, cal_s, ← hr_eq h]
  by_cases c2 : hrX M = 33
  · rw [if_pos c2, if_pos c2, if_neg (by decide)]
  rw [if_neg c2, if_neg c2, if_pos rfl, wg_e, cal_s, bz_e0]
theorem rul_tail {M N : Mm} {x v : Int32} (h : rdR M N) (hi : 0 ≤ x.toInt ∧ x.toInt < 12) (hv : 0 ≤ v.toInt) : w2 (q_Reader_readRule_119 M x v x) (q_ChipMapModel_readRule_190 N) (fun M' r N' s => fl0 M' r N' s ∨ (r = 1 ∧ s = 1 ∧ rdR M' N' ∧ M'.1 18 = upd (M.1 18) x.toNatClampNeg v ∧ (∀ p, p ≠ 18 → p ≠ 21 → M'.1 p = M.1 p) ∧ N'.1 0 20 = N.1 0 20 + 1 ∧ N'.1 0 6 = N.1 0 6 ∧ N'.1 0 12 = N.1 0 12 ∧ (∀ p, p ≠ 0 → N'.1 p = N.1 p))) := by
  have hx : vp_in x 12 := vI hi
  have em : (-1 : Int32).toInt = -1 := by decide
  unfold q_Reader_readRule_119 q_ChipMapModel_readRule_190
  rw [ix_e hx, lq_s, ix_e hx, st_up, if_neg (fun z => by rw [z] at hv; omega), lq_s]
  have h2 : rdR (stI M 18 (upd (M.1 18) x.toNatClampNeg v)) (stI N 0 (upd (N.1 0) 20 (N.1 0 20 + 1))) := h
  obtain ⟨M', N', r, q1, q2, ht, hr⟩ := take_rel h2 59 (by decide)
  rw [q1, q2, cal_s, cal_s]
  rcases tk0 ht.1 hr with ⟨g, g1⟩ | ⟨g, g1⟩
  · rw [g, if_neg (by decide), bz_e1]
    refine w2.s (Or.inr ⟨rfl, rfl, g1, ht.2.1 18 (by decide), fun p p1 p2 => ?_, ht.2.2.s20, ht.2.2.s6, ht.2.2.s12, fun p p1 => ?_⟩)
    · exact (ht.2.1 p p2).trans (stI_ne _ _ p1)
    · exact (ht.2.2.o p p1).trans (stI_ne _ _ p1)
  · rw [g1, if_pos rfl, bz_e0]
    exact w2.s (Or.inl g)
theorem rul_m {M : Mm} {x : Int32} (hi : 0 ≤ x.toInt ∧ x.toInt < 12) : ∃ M' : Mm, q_Reader_readRule_119 M x (-1) x = some (M', 0) ∧ ∀ N : Mm, rd0 M N → rd0 M' N := by
  have hx : vp_in x 12 := vI hi
  unfold q_Reader_readRule_119
  rw [ix_e hx, lq_s, ix_e hx, if_pos st_up]
  exact ⟨_, rfl, fun N h => h⟩
theorem rul_val {M N : Mm} {x : Int32} (h : rdR M N) (hi : 0 ≤ x.toInt ∧ x.toInt < 12) (hs : M.1 15 x.toNatClampNeg = 1 ↔ N.1 14 x.toNatClampNeg = 38) : w2 (if (M.1 15 (x : Int32).toNatClampNeg) = 1 then (cal (q_Reader_numberBehindSign M) fun M12 r13 => q_Reader_readRule_119 M12 x r13 x) else (q_Reader_readRule_119 M x 0 x)) (ix x 13 <| lt' (stI N 17 (upd (N.1 17) (x : Int32).toNatClampNeg 0)) fun M8 => ix x 13 <| if (M8.1 14 (x : Int32).toNatClampNeg) = 38 then (cal (q_ChipMapModel_take M8 61) fun M9 r10 => if r10 = 0 then (some (M9, 0)) else (cal (q_ChipMapModel_takeHex M9 1 4) fun M11 r12 => if r12 = 0 then (some (M11, 0)) else (ix x 13 <| lt' (stI M11 17 (upd (M11.1 17) (x : Int32).toNatClampNeg (M11.1 0 70))) fun M13 => q_ChipMapModel_readRule_190 M13))) else (q_ChipMapModel_readRule_190 M8)) (fun M' r N' s => fl0 M' r N' s ∨ (r = 1 ∧ s = 1 ∧ rdR M' N' ∧ ∃ v : Int32, 0 ≤ v.toInt ∧ M'.1 18 = upd (M.1 18) x.toNatClampNeg v ∧ (∀ p, p ≠ 18 → p ≠ 21 → M'.1 p = M.1 p) ∧ N'.1 17 = upd (N.1 17) x.toNatClampNeg v ∧ N'.1 0 20 = N.1 0 20 + 1 ∧ N'.1 0 6 = N.1 0 6 ∧ N'.1 0 12 = N.1 0 12 ∧ (∀ p, p ≠ 0 → p ≠ 17 → N'.1 p = N.1 p))) := by
  have hy : vp_in x 13 := vI (by omega)
  rw [ix_e hy]
  refine w2.ltR (fun N8 eN => ?_)
  have h1 : rdR M N8 := by subst eN; exact h
  have e14 : N8.1 14 = N.1 14 := by subst eN; rfl
  rw [ix_e hy, e14]
  by_cases c : M.1 15 x.toNatClampNeg = 1
  · rw [if_pos c, if_pos (hs.mp c)]
    unfold q_Reader_numberBehindSign
    obtain ⟨M9, N9, r9, q3, q4, t3, g3⟩ := take_rel h1 61 (by decide)
    rw [q3, q4, cal_s, cal_s]
    rcases tk0 t3.1 g3 with ⟨g, h9⟩ | ⟨g, g5⟩
    rotate_left
    · rw [g5, if_pos rfl, if_pos rfl, cal_s]
      obtain ⟨M', q5, q6⟩ := rul_m (M := M9) hi
      rw [q5]
      exact w2.s (Or.inl ⟨rfl, rfl, q6 _ g.2.2.1, g.2.2.2⟩)
    rw [g, if_neg (by decide), if_neg (by decide)]
    obtain ⟨M11, N11, r, b, q1, q2, t, g4⟩ := num16 h9 1 4 (by decide)
    rw [q1, q2, cal_s, cal_s, cal_s]
    rcases g4 with ⟨g1, g2, g3, gn⟩ | ⟨g1, g2, g3⟩
    · rw [g1, if_neg (by decide), ix_e hy]
      refine w2.ltR (fun N13 eN13 => ?_)
      have h3 : rdR M11 N13 := by subst eN13; exact t.1.n gn
      refine (rul_tail h3 hi g3).mono (fun M' r' N' s hq => ?_)
      rcases hq with hq | ⟨a1, a2, a3, a4, a6, a7, a8, a9, a10⟩
      · exact Or.inl hq
      · refine Or.inr ⟨a1, a2, a3, r, g3, ?_, fun p p1 p3 => ?_, ?_, ?_, ?_, ?_, fun p p1 p2 => ?_⟩
        · rw [a4, t.2.1 18 (by decide), t3.2.1 18 (by decide)]
        · rw [a6 p p1 p3, t.2.1 p p3, t3.2.1 p p3]
        · rw [a10 17 (by decide), eN13]
          show upd (N11.1 17) _ (N11.1 0 70) = _
          rw [← g2, t.2.2.o 17 (by decide), t3.2.2.o 17 (by decide), eN]
          exact upd_upd
        · rw [a7, eN13]
          show N11.1 0 20 + 1 = _
          rw [t.2.2.s20, t3.2.2.s20, eN]
          rfl
        · rw [a8, eN13]
          show N11.1 0 6 = _
          rw [t.2.2.s6, t3.2.2.s6, eN]
          rfl
        · rw [a9, eN13]
          show N11.1 0 12 = _
          rw [t.2.2.s12, t3.2.2.s12, eN]
          rfl
        · rw [a10 p p1, eN13, stI_ne _ _ p2, t.2.2.o p p1, t3.2.2.o p p1, eN, stI_ne _ _ p2]
    · rw [g1, g2, if_pos rfl]
      obtain ⟨M', q5, q6⟩ := rul_m (M := M11) hi
      rw [q5]
      exact w2.s (Or.inl ⟨rfl, rfl, q6 _ t.1, g3⟩)
  · rw [if_neg c, if_neg (fun z => c (hs.mpr z))]
    refine (rul_tail h1 hi (by decide)).mono (fun M' r' N' s hq => ?_)
    rcases hq with hq | ⟨a1, a2, a3, a4, a6, a7, a8, a9, a10⟩
    · exact Or.inl hq
    · refine Or.inr ⟨a1, a2, a3, 0, by decide, a4, a6, ?_, ?_, ?_, ?_, fun p p1 p2 => ?_⟩
      · rw [a10 17 (by decide), eN]
        rfl
      · rw [a7, eN]
        rfl
      · rw [a8, eN]
        rfl
      · rw [a9, eN]
        rfl
      · rw [a10 p p1, eN]
        exact stI_ne _ _ p2
def ruQ (M N : Mm) (M' : Mm) (r : Int32) (N' : Mm) (s : Int32) : Prop := fl0 M' r N' s ∨ (r = 1 ∧ s = 1 ∧ rdR M' N' ∧ N'.1 0 20 = N.1 0 20 + 1 ∧ N'.1 0 6 = N.1 0 6 ∧ N'.1 0 12 = N.1 0 12 ∧ (∀ p, p < 15 ∨ 21 < p → M'.1 p = M.1 p) ∧ (∀ p, p < 14 ∨ 19 < p → p ≠ 0 → N'.1 p = N.1 p) ∧ (ruR (N.1 0 20).toNatClampNeg M N → ruR ((N.1 0 20).toNatClampNeg + 1) M' N'))
theorem rul_rel {M N : Mm} {x : Int32} (h : rdR M N) (h20 : N.1 0 20 = x) (h0 : 0 ≤ x.toInt ∧ x.toInt < 12) : w2 (q_Reader_readRule M x) (q_ChipMapModel_readRule N) (ruQ M N) := by
  have hx : vp_in x 12 := vI h0
  have hy : vp_in x 13 := vI (by omega)
  have z12 : (12 : Int32).toInt = 12 := rfl
  unfold q_Reader_readRule q_ChipMapModel_readRule
  rw [h20, ix_e hx]
  refine w2.ltL (fun M1 eM1 => ?_)
  rw [lq_s, if_neg (fun z => by rw [z] at h0; omega), ix_e hy]
  refine w2.ltR (fun N2 eN2 => ?_)
  have h2 : rdR M1 N2 := by subst eM1 eN2; exact h
  rw [hr_e h2, cal_s, ix_e hy]
  refine w2.ltR (fun N5 eN5 => ?_)
  have h5 : rdR M1 N5 := by subst eN5; exact h2
  rw [nm_x h5, nm_y h5]
  by_cases c1 : nmv (hrX M1) = -1
  · rw [if_pos c1, if_pos c1, cal_s, cal_s, ix_e hx, lq_s, ix_e hx, if_pos st_up, if_pos rfl]
    exact w2.s (Or.inl ⟨rfl, rfl, rd_wr h5, wr_f⟩)
  have rn := (nmv_r (hrX M1)).resolve_left c1
  rw [if_neg c1, if_neg c1, cal_s, cal_s, ix_e hx]
  refine w2.ltL (fun M4 eM4 => ?_)
  have e4 : M4.1 16 x.toNatClampNeg = nmv (hrX M1) := by rw [eM4]; exact st_up
  rw [ix_e hx, e4, if_neg c1, if_neg (by decide : ¬ (1 : Int32) = 0)]
  have h4 : rdR M4 (avY N5) := by subst eM4; exact rd_av h5 rn.2.2
  rw [hr_e h4, cal_s, ix_e hy]
  refine w2.ltR (fun N10 eN10 => ?_)
  have h10 : rdR M4 N10 := by subst eN10; exact h4
  rw [sgn_y h10 x, sg_one h10]
  by_cases c2 : sg (hrX M4) = -1
  · rw [if_pos c2, if_pos c2, cal_s, ix_e hx, lq_s, ix_e hx, if_pos st_up]
    exact w2.s (Or.inl ⟨rfl, rfl, rd_wr h10, wr_f⟩)
  have rs := (sg_r (hrX M4)).resolve_left c2
  unfold q_ChipMapModel_readRule_100
  rw [if_neg c2, if_neg c2, cal_s, ix_e hx]
  refine w2.ltL (fun M7 eM7 => ?_)
  have e7 : M7.1 15 x.toNatClampNeg = sg (hrX M4) := by rw [eM7]; exact st_up
  rw [ix_e hx, e7, if_neg c2, ix_e hx]
  refine w2.ltL (fun M8 eM8 => ?_)
  refine w2.ltR (fun N11 eN11 => ?_)
  rw [ix_e hy]
  refine w2.ltR (fun N12 eN12 => ?_)
  have h12 : rdR M8 N12 := by subst eM8 eM7 eN12 eN11; exact rd_av h10 rs.2.2
  rw [hr_e h12, cal_s, ix_e hy]
  refine w2.ltR (fun N15 eN15 => ?_)
  have h15 : rdR M8 N15 := by subst eN15; exact h12
  rw [nm_x h15, nm_y h15]
  by_cases c3 : nmv (hrX M8) = -1
  · rw [if_pos c3, if_pos c3, cal_s, cal_s, ix_e hx, lq_s, ix_e hx, if_pos st_up, if_pos rfl]
    exact w2.s (Or.inl ⟨rfl, rfl, rd_wr h15, wr_f⟩)
  have rm := (nmv_r (hrX M8)).resolve_left c3
  rw [if_neg c3, if_neg c3, cal_s, cal_s, ix_e hx]
  refine w2.ltL (fun M11 eM11 => ?_)
  have e11 : M11.1 17 x.toNatClampNeg = nmv (hrX M8) := by rw [eM11]; exact st_up
  rw [ix_e hx, e11, if_neg c3, if_neg (by decide : ¬ (1 : Int32) = 0), ix_e hx]
  have h11 : rdR M11 (avY N15) := by subst eM11; exact rd_av h15 rm.2.2
  have hq2 := hr_eq h2
  have hq4 := hr_eq h4
  have hq12 := hr_eq h12
  have k15 : M11.1 15 = upd (M.1 15) x.toNatClampNeg (sg (hrX M4)) := by subst eM11 eM8 eM7 eM4 eM1; rfl
  have j14 : (avY N15).1 14 = upd (N.1 14) x.toNatClampNeg (hrX M4) := by rw [hq4]; subst eN15 eN12 eN11 eN10 eN5 eN2; rfl
  have hs : M11.1 15 x.toNatClampNeg = 1 ↔ (avY N15).1 14 x.toNatClampNeg = 38 := by
    rw [k15, j14, updS, updS]
    constructor
    · intro z
      have w := rs.2.1
      rw [z] at w
      rw [← w]
      decide
    · intro z
      rw [z]
      decide
  refine (rul_val h11 h0 hs).mono (fun M' r N' s hq => ?_)
  rcases hq with hq | ⟨a1, a2, a3, v, hv, f18, fo, n17, n20, n6, n12, no⟩
  · exact Or.inl hq
  have k16 : M'.1 16 = upd (M.1 16) x.toNatClampNeg (nmv (hrX M1)) := (fo 16 (by decide) (by decide)).trans (by subst eM11 eM8 eM7 eM4 eM1; rfl)
  have k17 : M'.1 17 = upd (M.1 17) x.toNatClampNeg (nmv (hrX M8)) := (fo 17 (by decide) (by decide)).trans (by subst eM11 eM8 eM7 eM4 eM1; rfl)
  have k18 : M'.1 18 = upd (M.1 18) x.toNatClampNeg v := f18.trans (by subst eM11 eM8 eM7 eM4 eM1; rfl)
  have k19 : M'.1 19 = upd (M.1 19) x.toNatClampNeg (M.1 21 3) := (fo 19 (by decide) (by decide)).trans (by subst eM11 eM8 eM7 eM4 eM1; rfl)
  have k20 : M'.1 20 = upd (M.1 20) x.toNatClampNeg (M8.1 21 3) := (fo 20 (by decide) (by decide)).trans (by subst eM11 eM8 eM7 eM4 eM1; rfl)
  have j15 : N'.1 15 = upd (N.1 15) x.toNatClampNeg (hrX M1 - 65) := (no 15 (by decide) (by decide)).trans (by rw [hq2]; subst eN15 eN12 eN11 eN10 eN5 eN2; rfl)
  have j16 : N'.1 16 = upd (N.1 16) x.toNatClampNeg (hrX M8 - 65) := (no 16 (by decide) (by decide)).trans (by rw [hq12]; subst eN15 eN12 eN11 eN10 eN5 eN2; rfl)
  have j17 : N'.1 17 = upd (N.1 17) x.toNatClampNeg v := n17.trans (by subst eN15 eN12 eN11 eN10 eN5 eN2; rfl)
  have j18 : N'.1 18 = upd (N.1 18) x.toNatClampNeg (N.1 0 3) := (no 18 (by decide) (by decide)).trans (by subst eN15 eN12 eN11 eN10 eN5 eN2; rfl)
  have j19 : N'.1 19 = upd (N.1 19) x.toNatClampNeg (N12.1 0 3) := (no 19 (by decide) (by decide)).trans (by subst eN15 eN12 eN11 eN10 eN5 eN2; rfl)
  have ht := fun z : Int32 => Int32.toInt_le z
  refine Or.inr ⟨a1, a2, a3, ?_, ?_, ?_, fun p p1 => ?_, fun p p1 p2 => ?_, fun hf => ?_⟩
  · rw [n20]
    subst eN15 eN12 eN11 eN10 eN5 eN2
    rfl
  · rw [n6]
    subst eN15 eN12 eN11 eN10 eN5 eN2
    rfl
  · rw [n12]
    subst eN15 eN12 eN11 eN10 eN5 eN2
    rfl
  · have b15 : p ≠ 15 := by omega
    have b16 : p ≠ 16 := by omega
    have b17 : p ≠ 17 := by omega
    have b18 : p ≠ 18 := by omega
    have b19 : p ≠ 19 := by omega
    have b20 : p ≠ 20 := by omega
    have b21 : p ≠ 21 := by omega
    rw [fo p b18 b21, eM11, stI_ne _ _ b17]
    show (stI _ 21 _).1 p = _
    rw [stI_ne _ _ b21, eM8, stI_ne _ _ b20, eM7, stI_ne _ _ b15]
    show (stI _ 21 _).1 p = _
    rw [stI_ne _ _ b21, eM4, stI_ne _ _ b16]
    show (stI _ 21 _).1 p = _
    rw [stI_ne _ _ b21, eM1, stI_ne _ _ b19]
  · have b14 : p ≠ 14 := by omega
    have b15 : p ≠ 15 := by omega
    have b16 : p ≠ 16 := by omega
    have b17 : p ≠ 17 := by omega
    have b18 : p ≠ 18 := by omega
    have b19 : p ≠ 19 := by omega
    rw [no p p2 b17]
    show (stI _ 0 _).1 p = _
    rw [stI_ne _ _ p2, eN15, stI_ne _ _ b16, eN12, stI_ne _ _ b19, eN11, stI_ne _ _ p2, eN10, stI_ne _ _ b14]
    show (stI _ 0 _).1 p = _
    rw [stI_ne _ _ p2, eN5, stI_ne _ _ b15, eN2, stI_ne _ _ b18]
  · rw [h20] at hf ⊢
    obtain ⟨r1, r2, r3, r4, r5, r6, r7, r8, r9, r10, r11⟩ := hf
    have k15' : M'.1 15 = upd (M.1 15) x.toNatClampNeg (sg (hrX M4)) := (fo 15 (by decide) (by decide)).trans k15
    have j14' : N'.1 14 = upd (N.1 14) x.toNatClampNeg (hrX M4) := (no 14 (by decide) (by decide)).trans j14
    have a3' := h12.1
    have a3r := h12.2.2.2.1.1
    unfold ruR
    rw [k15', k16, k17, k18, k19, k20, j14', j15, j16, j17, j18, j19, ← h.1, ← a3', ← rn.2.1, ← rm.2.1]
    exact ⟨r1.up ⟨rs.1, rs.2.1⟩, r2.up, r3.up, r4.up, r5.up, r6.up, r7.up rn.1, r8.up rm.1, r9.up ⟨hv, ht _⟩, r10.up ⟨h.2.2.2.1.1, ht _⟩, r11.up ⟨a3r, ht _⟩⟩
end
