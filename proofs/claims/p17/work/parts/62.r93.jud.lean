def jZ (M N : Mm) (k : Int32) (x y z : Rs) : Prop := (x = some (M, -1) ∧ y = z) ∨ ∃ v : Int32, 0 ≤ v.toInt ∧ x = some (M, v) ∧ y = some (wrY N k v, 0)
theorem acE {v : Int32} (h : 0 ≤ v.toInt ∧ v.toInt < 7) : (v = 0 ↔ sB 0 v.toNatClampNeg = 119) ∧ (v = 1 ↔ sB 0 v.toNatClampNeg = 114) ∧ (v = 2 ↔ sB 0 v.toNatClampNeg = 111) ∧ (v = 3 ↔ sB 0 v.toNatClampNeg = 99) := by
  have key : ∀ k : Fin 7, (Int32.ofNat k.val = 0 ↔ sB 0 k.val = 119) ∧ (Int32.ofNat k.val = 1 ↔ sB 0 k.val = 114) ∧ (Int32.ofNat k.val = 2 ↔ sB 0 k.val = 111) ∧ (Int32.ofNat k.val = 3 ↔ sB 0 k.val = 99) := by decide
  have k := key ⟨v.toInt.toNat, by omega⟩
  have e : v.toNatClampNeg = v.toInt.toNat := rfl
  rw [e]
  rw [← of_i h.1] at k
  exact k
theorem sgE {v : Int32} (h : 0 ≤ v.toInt ∧ v.toInt < 3) : v = 1 ↔ sB 1 v.toNatClampNeg = 38 := by
  have key : ∀ k : Fin 3, (Int32.ofNat k.val = 1 ↔ sB 1 k.val = 38) := by decide
  have k := key ⟨v.toInt.toNat, by omega⟩
  have e : v.toNatClampNeg = v.toInt.toNat := rfl
  rw [e]
  rw [← of_i h.1] at k
  exact k
theorem fit_rel {M N : Mm} (h : dR M N) {r v : Int32} (hr : 0 ≤ r.toInt ∧ r.toNatClampNeg < (M.1 1 6).toNatClampNeg) : ∃ t, q_Draft_fits M r v = some (M, t) ∧ q_ChipMapModel_fits N r v = some (N, t) ∧ (t = 0 ∨ t = 1) := by
  obtain ⟨h1, h2, h3, h4, h5, h6, h7, h8, h9, h10⟩ := h
  have t1 := tnc hr.1
  have t2 := tnc h4.1
  have hx : vp_in r 128 := vI (by omega)
  have hy : vp_in r 140 := vI (by omega)
  unfold q_Draft_fits q_ChipMapModel_fits
  rw [ix_e hx, ix_e hx, ix_e hy, ix_e hy, ← h7.2.2.2.2.1 _ hr.2, ← h7.2.2.2.2.2.1 _ hr.2]
  split
  · exact ⟨1, rfl, rfl, Or.inr rfl⟩
  · exact ⟨0, rfl, rfl, Or.inl rfl⟩
theorem wri_rel {M N : Mm} (h : dR M N) {r : Int32} (hr : r = -1 ∨ (0 ≤ r.toInt ∧ r.toNatClampNeg < (M.1 1 6).toNatClampNeg)) : ∃ t, q_Judge_isWritable M r = some (M, t) ∧ q_ChipMapModel_isLooked N r = some (N, t) ∧ (t = 0 ∨ t = 1) := by
  obtain ⟨h1, h2, h3, h4, h5, h6, h7, h8, h9, h10⟩ := h
  unfold q_Judge_isWritable q_ChipMapModel_isLooked
  rcases hr with hr | hr
  · rw [if_pos hr, if_pos hr]
    exact ⟨0, rfl, rfl, Or.inl rfl⟩
  have t1 := tnc hr.1
  have t2 := tnc h4.1
  have em : (-1 : Int32).toInt = -1 := by decide
  have hx : vp_in r 128 := vI (by omega)
  have hy : vp_in r 140 := vI (by omega)
  have n1 : ¬ r = -1 := fun z => by rw [z] at hr; omega
  have ha := h7.2.2.2.1 _ hr.2
  have hc := acE ha.1
  rw [ha.2] at hc
  rw [if_neg n1, if_neg n1, ix_e hx, ix_e hx, ix_e hy, ix_e hy]
  by_cases c1 : M.1 10 r.toNatClampNeg = 1
  · rw [if_pos c1, if_pos (hc.2.1.mp c1)]
    exact ⟨0, rfl, rfl, Or.inl rfl⟩
  rw [if_neg c1, if_neg (fun z => c1 (hc.2.1.mpr z))]
  by_cases c3 : M.1 10 r.toNatClampNeg = 3
  · rw [if_pos c3, if_pos (hc.2.2.2.mp c3)]
    exact ⟨0, rfl, rfl, Or.inl rfl⟩
  rw [if_neg c3, if_neg (fun z => c3 (hc.2.2.2.mpr z))]
  exact ⟨1, rfl, rfl, Or.inr rfl⟩
theorem bb_loop {M N : Mm} (h : dR M N) : ∀ (j n' m' : Nat) (i : Int32), (M.1 1 0).toInt - i.toInt = (j : Int) → 0 ≤ i.toInt → j < n' → j < m' → jZ M N 3 (q_Judge_badBank_2 n' M i) (q_ChipMapModel_registersRight_2 m' N i) (q_ChipMapModel_registersRight_103 4000 N 0) := by
  intro j
  induction j with
  | zero =>
    intro n' m' i hj i0 hn' hm'
    obtain ⟨n', rfl⟩ : ∃ q, n' = q + 1 := ⟨n' - 1, by omega⟩
    obtain ⟨m', rfl⟩ : ∃ q, m' = q + 1 := ⟨m' - 1, by omega⟩
    have c : M.1 1 0 ≤ i := Int32.le_iff_toInt_le.mpr (by omega)
    rw [q_Judge_badBank_2, q_ChipMapModel_registersRight_2, h.1, if_pos c, if_pos c]
    exact Or.inl ⟨rfl, rfl⟩
  | succ j ih =>
    intro n' m' i hj i0 hn' hm'
    obtain ⟨n', rfl⟩ : ∃ q, n' = q + 1 := ⟨n' - 1, by omega⟩
    obtain ⟨m', rfl⟩ : ∃ q, m' = q + 1 := ⟨m' - 1, by omega⟩
    have h0 := h
    obtain ⟨h1, h2, h3, h4, h5, h6, h7, h8, h9, h10⟩ := h0
    have ez : (i + 1).toInt = i.toInt + 1 := iadd rfl (rfl : (1 : Int32).toInt = 1) (by omega) (by omega)
    have t1 := tnc i0
    have t2 := tnc (Int.le_trans (by decide : (0 : Int) ≤ 1) h2.1)
    have t3 := tnc h4.1
    have hx : vp_in i 16 := vI (by omega)
    have hy : vp_in i 17 := vI (by omega)
    have c : ¬ M.1 1 0 ≤ i := fun z => by have := Int32.le_iff_toInt_le.mp z; omega
    have hb := h8.2.2.2.2 i.toNatClampNeg (by omega)
    have hI := ih n' m' (i + 1) (by omega) (by omega) (by omega) (by omega)
    rw [q_Judge_badBank_2, q_ChipMapModel_registersRight_2, h1, if_neg c, if_neg c, ix_e hx, ix_e hx, ix_e hy, ix_e hy, ← hb.1]
    by_cases cb : M.1 4 i.toNatClampNeg = -1
    · rw [if_pos cb, if_pos cb]
      exact hI
    rw [if_neg cb, if_neg cb]
    have hb2 := hb.2.2 cb
    obtain ⟨r, e1, e2, hr⟩ := nam_rel h (M.1 4 i.toNatClampNeg)
    have em : (-1 : Int32).toInt = -1 := by decide
    have eW : q_ChipMapModel_registersRight_83 N i = some (wrY N 3 (M.1 5 i.toNatClampNeg), 0) := by
      unfold q_ChipMapModel_registersRight_83
      rw [ix_e hy, wg_e, cal_s, bz_e0, hb2.1]
    have bad : jZ M N 3 (some (M, M.1 5 i.toNatClampNeg)) (q_ChipMapModel_registersRight_83 N i) (q_ChipMapModel_registersRight_103 4000 N 0) := Or.inr ⟨_, hb2.2.2.1, rfl, eW⟩
    rw [e1, e2, cal_s, cal_s, ix_e hx]
    unfold q_Judge_canBeBank
    rcases hr with hr | hr
    · rw [if_pos hr, if_pos hr, cal_s, if_pos rfl, ix_e hx]
      exact bad
    have n1 : ¬ r = -1 := fun z => by rw [z] at hr; omega
    have t4 := tnc hr.1
    have hrx : vp_in r 128 := vI (by omega)
    have hry : vp_in r 140 := vI (by omega)
    have ha := h7.2.2.2.1 _ hr.2
    have hc := acE ha.1
    rw [ha.2] at hc
    rw [if_neg n1, if_neg n1, ix_e hrx, ix_e hry]
    by_cases c0 : M.1 10 r.toNatClampNeg = 0
    rotate_left
    · rw [if_neg c0, if_neg (fun z => c0 (hc.1.mpr z)), cal_s, if_pos rfl, ix_e hx]
      exact bad
    rw [if_pos c0, if_pos (hc.1.mp c0), ix_e hrx, ix_e hry, ← h7.2.2.1 _ hr.2]
    have hh := h9.1 _ hr.2
    have t5 := tnc hh.1
    have hb3 := h8.2.2.2.2 (M.1 9 r.toNatClampNeg).toNatClampNeg (by omega)
    rw [ix_e (vI (by omega)), ix_e (vI (by omega)), ← hb3.1]
    by_cases c4 : M.1 4 (M.1 9 r.toNatClampNeg).toNatClampNeg = -1
    rotate_left
    · rw [if_neg c4, if_neg c4, cal_s, if_pos rfl, ix_e hx]
      exact bad
    rw [if_pos c4, if_pos c4, ix_e hy, ← hb2.2.1]
    obtain ⟨t, q1, q2, ht⟩ := fit_rel h (v := M.1 6 i.toNatClampNeg) hr
    rw [q1, q2, cal_s, cal_s]
    rcases ht with ht | ht
    · rw [ht, if_pos rfl, if_pos rfl, cal_s, if_pos rfl, ix_e hx]
      exact bad
    · rw [ht, if_neg (by decide), if_neg (by decide), cal_s, if_neg (by decide)]
      exact hI
theorem ap_rel {M N : Mm} (h : dR M N) {kx : Mm → Int32 → Rs} {ky : Mm → Int32 → Int32 → Rs} {r q : Int32} (hr : 0 ≤ r.toInt ∧ r.toInt < (M.1 1 0).toInt) (hq : 0 ≤ q.toInt ∧ q.toInt < (M.1 1 0).toInt) : ∃ t, q_Judge_areApart M r q = some (M, t) ∧ (ix r 17 <| if (N.1 3 (r : Int32).toNatClampNeg) = (-1) then (q_ChipMapModel_registersRight_162 kx ky N r q) else (ix q 17 <| ix r 17 <| if (N.1 3 (q : Int32).toNatClampNeg) = (N.1 3 (r : Int32).toNatClampNeg) then (ix q 17 <| ix r 17 <| if (N.1 4 (q : Int32).toNatClampNeg) = (N.1 4 (r : Int32).toNatClampNeg) then (q_ChipMapModel_registersRight_162 kx ky N r q) else (q_ChipMapModel_registersRight_163 kx ky N r q 1)) else (q_ChipMapModel_registersRight_162 kx ky N r q))) = q_ChipMapModel_registersRight_163 kx ky N r q t ∧ (t = 0 ∨ t = 1) := by
  obtain ⟨h1, h2, h3, h4, h5, h6, h7, h8, h9, h10⟩ := h
  have t1 := tnc hr.1
  have t2 := tnc hq.1
  have t3 := tnc (Int.le_trans (by decide : (0 : Int) ≤ 1) h2.1)
  have hx : vp_in r 16 := vI (by omega)
  have hy : vp_in r 17 := vI (by omega)
  have gx : vp_in q 16 := vI (by omega)
  have gy : vp_in q 17 := vI (by omega)
  have hb := h8.2.2.2.2 r.toNatClampNeg (by omega)
  have gb := h8.2.2.2.2 q.toNatClampNeg (by omega)
  unfold q_Judge_areApart
  rw [ix_e hx, ix_e hx, ix_e gx, ix_e hx, ix_e gx, ix_e hy, ix_e gy, ix_e hy, ix_e gy, ix_e hy, ← hb.1, ← gb.1]
  by_cases c1 : M.1 4 r.toNatClampNeg = -1
  · rw [if_pos c1, if_pos c1]
    exact ⟨0, rfl, rfl, Or.inl rfl⟩
  rw [if_neg c1, if_neg c1]
  by_cases c2 : M.1 4 r.toNatClampNeg = M.1 4 q.toNatClampNeg
  rotate_left
  · rw [if_neg c2, if_neg (fun z => c2 z.symm)]
    exact ⟨0, rfl, rfl, Or.inl rfl⟩
  rw [if_pos c2, if_pos c2.symm, ← (hb.2.2 c1).2.1, ← (gb.2.2 (fun z => c1 (c2.trans z))).2.1]
  by_cases c3 : M.1 6 r.toNatClampNeg = M.1 6 q.toNatClampNeg
  · rw [if_pos c3, if_pos c3.symm]
    exact ⟨0, rfl, rfl, Or.inl rfl⟩
  · rw [if_neg c3, if_neg (fun z => c3 z.symm)]
    exact ⟨1, rfl, rfl, Or.inr rfl⟩
theorem bi_loop {M N : Mm} (h : dR M N) {kx ky : Mm → Int32 → Rs} {r : Int32} (hr : 0 ≤ r.toInt ∧ r.toInt < (M.1 1 0).toInt) (hk : jZ M N 3 (kx M (r + 1)) (ky N (r + 1)) (some (N, 1))) : ∀ (j n' m' : Nat) (q : Int32), r.toInt - q.toInt = (j : Int) → 0 ≤ q.toInt → j < n' → j < m' → jZ M N 3 (q_Judge_badOffset_15 kx n' M r q) (q_ChipMapModel_registersRight_113 ky m' N r q) (some (N, 1)) := by
  intro j
  induction j with
  | zero =>
    intro n' m' q hj q0 hn' hm'
    obtain ⟨n', rfl⟩ : ∃ q, n' = q + 1 := ⟨n' - 1, by omega⟩
    obtain ⟨m', rfl⟩ : ∃ q, m' = q + 1 := ⟨m' - 1, by omega⟩
    have c : r ≤ q := Int32.le_iff_toInt_le.mpr (by omega)
    rw [q_Judge_badOffset_15, q_ChipMapModel_registersRight_113, if_pos c, if_pos c]
    exact hk
  | succ j ih =>
    intro n' m' q hj q0 hn' hm'
    obtain ⟨n', rfl⟩ : ∃ q, n' = q + 1 := ⟨n' - 1, by omega⟩
    obtain ⟨m', rfl⟩ : ∃ q, m' = q + 1 := ⟨m' - 1, by omega⟩
    have h0 := h
    obtain ⟨h1, h2, h3, h4, h5, h6, h7, h8, h9, h10⟩ := h0
    have ez : (q + 1).toInt = q.toInt + 1 := iadd rfl (rfl : (1 : Int32).toInt = 1) (by omega) (by omega)
    have t1 := tnc hr.1
    have t2 := tnc q0
    have t3 := tnc (Int.le_trans (by decide : (0 : Int) ≤ 1) h2.1)
    have hx : vp_in r 16 := vI (by omega)
    have hy : vp_in r 17 := vI (by omega)
    have gx : vp_in q 16 := vI (by omega)
    have gy : vp_in q 17 := vI (by omega)
    have c : ¬ r ≤ q := fun z => by have := Int32.le_iff_toInt_le.mp z; omega
    have hI := ih n' m' (q + 1) (by omega) (by omega) (by omega) (by omega)
    obtain ⟨t, e1, e2, ht⟩ := ap_rel h (kx := ky) (ky := q_ChipMapModel_registersRight_113 ky m') hr (q := q) (by omega)
    rw [q_Judge_badOffset_15, q_ChipMapModel_registersRight_113, if_neg c, if_neg c, e2, e1, cal_s]
    unfold q_ChipMapModel_registersRight_163
    rw [ix_e hx, ix_e gx, ix_e gy, ix_e hy, ← h8.2.1 r.toNatClampNeg (by omega), ← h8.2.1 q.toNatClampNeg (by omega)]
    by_cases c3 : M.1 3 r.toNatClampNeg = M.1 3 q.toNatClampNeg
    rotate_left
    · rw [if_neg c3, if_neg (fun z => c3 z.symm)]
      exact hI
    rw [if_pos c3, if_pos c3.symm]
    rcases ht with ht | ht
    · rw [ht, if_pos rfl, if_pos rfl, ix_e hx, ix_e hy, wg_e, cal_s, bz_e0, ← h8.1 r.toNatClampNeg (by omega)]
      exact Or.inr ⟨_, (h8.2.2.1 r.toNatClampNeg (by omega)).1, rfl, rfl⟩
    · rw [ht, if_neg (by decide), if_neg (by decide)]
      exact hI
theorem bo_loop {M N : Mm} (h : dR M N) : ∀ (j n' m' : Nat) (i : Int32), (M.1 1 0).toInt - i.toInt = (j : Int) → 0 ≤ i.toInt → j < n' → j < m' → jZ M N 3 (q_Judge_badOffset_2 n' M i) (q_ChipMapModel_registersRight_103 m' N i) (some (N, 1)) := by
  intro j
  induction j with
  | zero =>
    intro n' m' i hj i0 hn' hm'
    obtain ⟨n', rfl⟩ : ∃ q, n' = q + 1 := ⟨n' - 1, by omega⟩
    obtain ⟨m', rfl⟩ : ∃ q, m' = q + 1 := ⟨m' - 1, by omega⟩
    have c : M.1 1 0 ≤ i := Int32.le_iff_toInt_le.mpr (by omega)
    rw [q_Judge_badOffset_2, q_ChipMapModel_registersRight_103, h.1, if_pos c, if_pos c]
    exact Or.inl ⟨rfl, rfl⟩
  | succ j ih =>
    intro n' m' i hj i0 hn' hm'
    obtain ⟨n', rfl⟩ : ∃ q, n' = q + 1 := ⟨n' - 1, by omega⟩
    obtain ⟨m', rfl⟩ : ∃ q, m' = q + 1 := ⟨m' - 1, by omega⟩
    have h2 := h.2.1
    have ez : (i + 1).toInt = i.toInt + 1 := iadd rfl (rfl : (1 : Int32).toInt = 1) (by omega) (by omega)
    have z0 : (0 : Int32).toInt = 0 := rfl
    have c : ¬ M.1 1 0 ≤ i := fun z => by have := Int32.le_iff_toInt_le.mp z; omega
    rw [q_Judge_badOffset_2, q_ChipMapModel_registersRight_103, h.1, if_neg c, if_neg c]
    exact bi_loop h (by omega) (ih n' m' (i + 1) (by omega) (by omega) (by omega) (by omega)) i.toInt.toNat 4000 4000 0 (by omega) (by omega) (by omega) (by omega)
theorem bo_rel {M N : Mm} (h : dR M N) : jZ M N 3 (q_Judge_badOffset M) (q_ChipMapModel_registersRight_103 4000 N 0) (some (N, 1)) := by
  have h2 := h.2.1
  have z0 : (0 : Int32).toInt = 0 := rfl
  have z1 : (1 : Int32).toInt = 1 := rfl
  have e : q_ChipMapModel_registersRight_103 4000 N 0 = q_ChipMapModel_registersRight_103 3999 N 1 := by
    show q_ChipMapModel_registersRight_103 (3999 + 1) N 0 = _
    rw [q_ChipMapModel_registersRight_103, h.1, if_neg (fun z => by have := Int32.le_iff_toInt_le.mp z; omega)]
    show q_ChipMapModel_registersRight_113 _ (3999 + 1) N 0 0 = _
    rw [q_ChipMapModel_registersRight_113, if_pos (by decide)]
    rfl
  rw [e]
  exact bo_loop h ((M.1 1 0).toInt - 1).toNat 4000 3999 1 (by omega) (by decide) (by omega) (by omega)
theorem bb_rel {M N : Mm} (h : dR M N) : jZ M N 3 (q_Judge_badBank M) (q_ChipMapModel_registersRight N) (q_ChipMapModel_registersRight_103 4000 N 0) := by
  have h2 := h.2.1
  have z0 : (0 : Int32).toInt = 0 := rfl
  exact bb_loop h (M.1 1 0).toInt.toNat 4000 4000 0 (by omega) (by decide) (by omega) (by omega)
theorem br_loop {M N : Mm} (h : dR M N) : ∀ (j n' m' : Nat) (i : Int32), (M.1 14 0).toInt - i.toInt = (j : Int) → 0 ≤ i.toInt → j < n' → j < m' → jZ M N 4 (q_Judge_badRule_10 n' M i) (q_ChipMapModel_rulesRight_2 m' N i) (some (N, 1)) := by
  intro j
  induction j with
  | zero =>
    intro n' m' i hj i0 hn' hm'
    obtain ⟨n', rfl⟩ : ∃ q, n' = q + 1 := ⟨n' - 1, by omega⟩
    obtain ⟨m', rfl⟩ : ∃ q, m' = q + 1 := ⟨m' - 1, by omega⟩
    have c : M.1 14 0 ≤ i := Int32.le_iff_toInt_le.mpr (by omega)
    rw [q_Judge_badRule_10, q_ChipMapModel_rulesRight_2, h.2.2.2.2.1, if_pos c, if_pos c]
    exact Or.inl ⟨rfl, rfl⟩
  | succ j ih =>
    intro n' m' i hj i0 hn' hm'
    obtain ⟨n', rfl⟩ : ∃ q, n' = q + 1 := ⟨n' - 1, by omega⟩
    obtain ⟨m', rfl⟩ : ∃ q, m' = q + 1 := ⟨m' - 1, by omega⟩
    have h0 := h
    obtain ⟨h1, h2, h3, h4, h5, h6, h7, h8, h9, h10⟩ := h0
    obtain ⟨g1, g2, g3, g4, g5, g6, g7, g8, g9, g10, g11⟩ := h10
    have ez : (i + 1).toInt = i.toInt + 1 := iadd rfl (rfl : (1 : Int32).toInt = 1) (by omega) (by omega)
    have em : (-1 : Int32).toInt = -1 := by decide
    have t1 := tnc i0
    have t2 := tnc h6.1
    have t3 := tnc h4.1
    have hi : i.toNatClampNeg < (M.1 14 0).toNatClampNeg := by omega
    have hx : vp_in i 12 := vI (by omega)
    have hy : vp_in i 13 := vI (by omega)
    have c : ¬ M.1 14 0 ≤ i := fun z => by have := Int32.le_iff_toInt_le.mp z; omega
    have hI := ih n' m' (i + 1) (by omega) (by omega) (by omega) (by omega)
    have hs := sgE (g1 _ hi).1
    rw [(g1 _ hi).2] at hs
    obtain ⟨r, e1, e2, hr⟩ := nam_rel h (M.1 16 i.toNatClampNeg)
    obtain ⟨s, e3, e4, hr2⟩ := nam_rel h (M.1 17 i.toNatClampNeg)
    obtain ⟨t, e5, e6, ht⟩ := wri_rel h hr
    rw [q_Judge_badRule_10, q_ChipMapModel_rulesRight_2, h5, if_neg c, if_neg c, ix_e hx, ix_e hy, ← g2 _ hi, e1, e2, cal_s, cal_s, ix_e hy, ← g3 _ hi, e4, cal_s, e5, e6, cal_s, cal_s]
    have badA : jZ M N 4 (some (M, M.1 19 i.toNatClampNeg)) (some (wrY N 4 (N.1 18 i.toNatClampNeg), 0)) (some (N, 1)) := Or.inr ⟨_, (g10 _ hi).1, rfl, by rw [g5 _ hi]⟩
    have bad0 : jZ M N 4 (q_Judge_badRule_107 (q_Judge_badRule_10 n') M i 0) (q_ChipMapModel_rulesRight_125 (q_ChipMapModel_rulesRight_2 m') N i 0) (some (N, 1)) := by
      unfold q_Judge_badRule_107 q_ChipMapModel_rulesRight_125
      rw [if_pos rfl, if_pos rfl, ix_e hx, ix_e hy, wg_e, cal_s, bz_e0]
      exact Or.inr ⟨_, (g11 _ hi).1, rfl, by rw [g6 _ hi]⟩
    have good1 : jZ M N 4 (q_Judge_badRule_107 (q_Judge_badRule_10 n') M i 1) (q_ChipMapModel_rulesRight_125 (q_ChipMapModel_rulesRight_2 m') N i 1) (some (N, 1)) := by
      unfold q_Judge_badRule_107 q_ChipMapModel_rulesRight_125
      rw [if_neg (by decide), if_neg (by decide)]
      exact hI
    rcases ht with ht | ht
    · rw [ht, if_pos rfl, if_pos rfl, ix_e hx, ix_e hy, wg_e, cal_s, bz_e0]
      exact badA
    rw [ht, if_neg (by decide), if_neg (by decide), ix_e hx, e3, cal_s, ix_e hx, ix_e hy]
    by_cases ck : M.1 15 i.toNatClampNeg = 1
    rotate_left
    · obtain ⟨t', e7, e8, ht'⟩ := wri_rel h hr2
      rw [if_neg ck, if_neg (fun z => ck (hs.mpr z)), e7, e8, cal_s, cal_s]
      rcases ht' with ht' | ht'
      · rw [ht']
        exact bad0
      · rw [ht']
        exact good1
    rw [if_pos ck, if_pos (hs.mp ck)]
    unfold q_Judge_isKnown
    rcases hr2 with hr2 | hr2
    · rw [if_pos hr2, if_pos hr2, cal_s, if_pos rfl]
      exact bad0
    have n1 : ¬ s = -1 := fun z => by rw [z] at hr2; omega
    have t4 := tnc hr2.1
    have hrx : vp_in s 128 := vI (by omega)
    have hry : vp_in s 140 := vI (by omega)
    have ha := h7.2.2.2.1 _ hr2.2
    have hc := acE ha.1
    rw [ha.2] at hc
    obtain ⟨f, q1, q2, hf⟩ := fit_rel h (v := M.1 18 i.toNatClampNeg) hr2
    have eF : jZ M N 4 (ix i 12 <| cal (q_Draft_fits M s (M.1 18 i.toNatClampNeg)) fun M9 r10 => if r10 = 0 then (q_Judge_badRule_98 (q_Judge_badRule_10 n') M9 i) else (q_Judge_badRule_107 (q_Judge_badRule_10 n') M9 i 1)) (q_ChipMapModel_rulesRight_98 (q_ChipMapModel_rulesRight_2 m') N i s) (some (N, 1)) := by
      unfold q_ChipMapModel_rulesRight_98
      rw [ix_e hx, ix_e hy, ← g4 _ hi, q1, q2, cal_s, cal_s]
      rcases hf with hf | hf
      · rw [hf, if_pos rfl, if_pos rfl]
        exact bad0
      · rw [hf, if_neg (by decide), if_neg (by decide)]
        exact good1
    rw [if_neg n1, if_neg n1, ix_e hrx, ix_e hrx, ix_e hry, ix_e hry]
    by_cases c0 : M.1 10 s.toNatClampNeg = 0
    · rw [if_pos c0, if_pos (hc.1.mp c0), cal_s, if_neg (by decide)]
      exact eF
    rw [if_neg c0, if_neg (fun z => c0 (hc.1.mpr z))]
    by_cases c2 : M.1 10 s.toNatClampNeg = 2
    · rw [if_pos c2, if_pos (hc.2.2.1.mp c2), cal_s, if_neg (by decide)]
      exact eF
    rw [if_neg c2, if_neg (fun z => c2 (hc.2.2.1.mpr z)), cal_s, if_pos rfl]
    exact bad0
theorem br_rel {M N : Mm} (h : dR M N) : jZ M N 4 (q_Judge_badRule M) (q_ChipMapModel_rulesRight N) (some (N, 1)) := by
  have h6 := h.2.2.2.2.2.1
  have z0 : (0 : Int32).toInt = 0 := rfl
  exact br_loop h (M.1 14 0).toInt.toNat 4000 4000 0 (by omega) (by decide) (by omega) (by omega)
