theorem cal_s {M : Mm} {r : Int32} {k : Mm → Int32 → Rs} : cal (some (M, r)) k = k M r := rfl
theorem lq_s {α : Type} {x : α} {k : α → Rs} : lt' x k = k x := rfl
def kb (k : Nat) : Int := if k = 0 then 65535 else if k = 1 then 4095 else if k = 2 then 255 else if k = 3 then 15 else 0
theorem kb_s {k : Nat} {v d : Int} (hk : k ≤ 3) (h0 : 0 ≤ v) (h : v ≤ kb (k + 1)) (hd : 0 ≤ d ∧ d ≤ 15) : v * 16 + d ≤ kb k ∧ v ≤ 4095 := by
  have hc : k = 0 ∨ k = 1 ∨ k = 2 ∨ k = 3 := by omega
  rcases hc with rfl | rfl | rfl | rfl
  · have h : v ≤ 4095 := h
    show v * 16 + d ≤ 65535 ∧ _
    omega
  · have h : v ≤ 255 := h
    show v * 16 + d ≤ 4095 ∧ _
    omega
  · have h : v ≤ 15 := h
    show v * 16 + d ≤ 255 ∧ _
    omega
  · have h : v ≤ 0 := h
    show v * 16 + d ≤ 15 ∧ _
    omega
theorem num_e {M : Mm} {l v d : Int32} : q_Reader_number_67 M l v d = if l ≤ d then some (M, v) else some (M, -1) := rfl
theorem thx_e {N : Mm} {l d : Int32} : q_ChipMapModel_takeHex_58 N l d = if l ≤ d then some (N, 1) else some (wrY N 1 (N.1 0 3), 0) := rfl
section NUM
theorem stop_rel {M N : Mm} {l v i : Int32} (h : rdR M N) (hv : N.1 0 70 = v) (h0 : 0 ≤ v.toInt) : ∃ (M' N' : Mm) (r b : Int32), q_Reader_number_67 M l v i = some (M', r) ∧ q_ChipMapModel_takeHex_58 N l i = some (N', b) ∧ tRel M N M' N' ∧ ((b = 1 ∧ r = N'.1 0 70 ∧ 0 ≤ r.toInt ∧ nf N') ∨ (b = 0 ∧ r = -1 ∧ flt N')) := by
  rw [num_e, thx_e]
  by_cases c : l ≤ i
  · exact ⟨M, N, v, 1, by rw [if_pos c], by rw [if_pos c], tRel.rf h, Or.inl ⟨rfl, hv.symm, h0, h.f⟩⟩
  · exact ⟨M, wrY N 1 (N.1 0 3), -1, 0, by rw [if_neg c], by rw [if_neg c], tRel.wr h, Or.inr ⟨rfl, rfl, wr_f⟩⟩
theorem hex_rel {l mo : Int32} (hm : 0 ≤ mo.toInt ∧ mo.toInt ≤ 4) : ∀ (k n' m' : Nat) (M N : Mm) (i v : Int32), mo.toInt - i.toInt = (k : Int) → 0 ≤ i.toInt → k < n' → k < m' → rdR M N → N.1 0 70 = v → 0 ≤ v.toInt → v.toInt ≤ kb k → ∃ (M' N' : Mm) (r b : Int32), q_Reader_number_9 n' M 16 l mo v i i = some (M', r) ∧ q_ChipMapModel_takeHex_7 m' N l mo i = some (N', b) ∧ tRel M N M' N' ∧ ((b = 1 ∧ r = N'.1 0 70 ∧ 0 ≤ r.toInt ∧ nf N') ∨ (b = 0 ∧ r = -1 ∧ flt N')) := by
  intro k
  induction k with
  | zero =>
    intro n' m' M N i v hk hi hn hm' h hv h0 hb
    obtain ⟨n', rfl⟩ : ∃ q, n' = q + 1 := ⟨n' - 1, by omega⟩
    obtain ⟨m', rfl⟩ : ∃ q, m' = q + 1 := ⟨m' - 1, by omega⟩
    have c : mo ≤ i := Int32.le_iff_toInt_le.mpr (by omega)
    rw [q_Reader_number_9, q_ChipMapModel_takeHex_7, if_pos c, if_pos c]
    exact stop_rel h hv h0
  | succ k ih =>
    intro n' m' M N i v hk hi hn hm' h hv h0 hb
    obtain ⟨n', rfl⟩ : ∃ q, n' = q + 1 := ⟨n' - 1, by omega⟩
    obtain ⟨m', rfl⟩ : ∃ q, m' = q + 1 := ⟨m' - 1, by omega⟩
    have c : ¬ mo ≤ i := fun z => by have := Int32.le_iff_toInt_le.mp z; omega
    rw [q_Reader_number_9, q_ChipMapModel_takeHex_7, if_neg c, if_neg c, nx_e h, hr_e h, cal_s, cal_s]
    have eh := hr_eq h
    have hd := dg_r (hrX M)
    have e1 : q_Reader_digitOf M (hrX M) = some (M, dg (hrX M)) := dg_x _ _
    have e2 : q_ChipMapModel_hex N (hrV N) = some (N, dg (hrX M)) := by rw [← eh]; exact dg_y _ _
    rw [e1, e2, cal_s, cal_s]
    by_cases c1 : dg (hrX M) = -1
    · rw [if_pos c1, if_pos c1]
      exact stop_rel h hv h0
    · rw [if_neg c1, if_neg c1, hr_e h, cal_s, e2, cal_s]
      have c1' : (dg (hrX M)).toInt ≠ -1 := fun z => c1 (Int32.toInt_inj.mp (by rw [z]; decide))
      have e16 : (16 : Int32).toInt = 16 := rfl
      have c2 : dg (hrX M) < 16 := Int32.lt_iff_toInt_lt.mpr (by omega)
      rw [if_pos c2]
      have h48 := hd.2.2 c1'
      have hz : (hrX M).toInt ≠ 0 := by omega
      have hkb := kb_s (k := k) (d := (dg (hrX M)).toInt) (by omega) h0 hb (by omega)
      have z1 : (v * 16).toInt = v.toInt * 16 := imul rfl e16 (by omega) (by omega)
      have z2 : (v * 16 + dg (hrX M)).toInt = v.toInt * 16 + (dg (hrX M)).toInt := iadd z1 rfl (by omega) (by omega)
      have ez : (i + 1).toInt = i.toInt + 1 := iadd rfl (rfl : (1 : Int32).toInt = 1) (by omega) (by omega)
      have ev : v * 16 + dg (hrX M) = 16 * N.1 0 70 + dg (hrX M) := by
        rw [hv, Int32.mul_comm]
      obtain ⟨M', N', r, b, q1, q2, ht, hr⟩ := ih n' m' (avX M) (avY (tkY N (16 * N.1 0 70 + dg (hrX M)))) (i + 1) (v * 16 + dg (hrX M)) (by omega) (by omega) (by omega) (by omega) (rd_av (rd_tk h) hz) (by rw [ev]; rfl) (by omega) (by rw [z2]; exact hkb.1)
      exact ⟨M', N', r, b, q1, q2, (tRel.tk h).tr ((tRel.av (rd_tk h) hz).tr ht), hr⟩
end NUM
