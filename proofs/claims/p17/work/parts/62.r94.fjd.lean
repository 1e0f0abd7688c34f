def cf (M : Mm) (q i : Nat) : Prop := M.1 9 q = M.1 9 i ∧ ¬ (M.1 11 q).toInt < (M.1 12 i).toInt ∧ (M.1 12 q).toInt ≤ (M.1 11 i).toInt
def gdR (M : Mm) (q : Nat) : Prop := 0 ≤ (M.1 12 q).toInt ∧ (M.1 12 q).toInt ≤ (M.1 11 q).toInt ∧ (M.1 11 q).toInt ≤ 15
def tkC (M : Mm) (n : Nat) (hm v : Int32) : Prop := ∀ b : Nat, tb v b = true ↔ ∃ q : Nat, q < n ∧ M.1 9 q = hm ∧ (M.1 12 q).toInt ≤ (b : Int) ∧ (b : Int) ≤ (M.1 11 q).toInt
theorem nm_i {M N : Mm} (h : dR M N) {i : Int32} (hi : 0 ≤ i.toInt ∧ i.toInt < (M.1 1 6).toInt) : ∃ r s, q_Draft_rowOf M (M.1 7 i.toNatClampNeg) = some (M, r) ∧ q_ChipMapModel_named N (N.1 7 i.toNatClampNeg) i = some (N, s) ∧ (r < i ↔ s ≠ -1) := by
  obtain ⟨h1, h2, h3, h4, h5, h6, h7, h8, h9, h10⟩ := h
  have t1 := tnc hi.1
  have t2 := tnc h4.1
  have hin : i.toNatClampNeg < (M.1 1 6).toNatClampNeg := by omega
  obtain ⟨r, e1, f1⟩ := row_s h4 (M.1 7 i.toNatClampNeg)
  obtain ⟨s, e2, f2⟩ := nmd_s (N := N) (n := i) (by omega) (N.1 7 i.toNatClampNeg)
  refine ⟨r, s, e1, e2, ?_⟩
  have en := h7.1 _ hin
  have em : (-1 : Int32).toInt = -1 := by decide
  rcases f1 with f1 | ⟨f1, f3, f4⟩
  · exact absurd rfl (f1.2 _ hin)
  have t3 := tnc f1.1
  rcases f2 with ⟨f5, f6⟩ | ⟨f5, f6, f7⟩
  · constructor
    · intro z
      have z2 := Int32.lt_iff_toInt_lt.mp z
      have hr : r.toNatClampNeg < i.toNatClampNeg := by omega
      exact absurd ((h7.1 _ (by omega)).symm.trans (f3.trans en)) (f6 _ hr)
    · intro z
      exact absurd f5 z
  · have t4 := tnc f5.1
    constructor
    · intro _ z
      rw [z] at f5
      omega
    · intro _
      have e3 : M.1 7 s.toNatClampNeg = M.1 7 i.toNatClampNeg := (h7.1 _ (by omega)).trans (f6.trans en.symm)
      have h11 : ¬ s.toNatClampNeg < r.toNatClampNeg := fun z => f4 _ z e3
      exact Int32.lt_iff_toInt_lt.mpr (by omega)
theorem ov {M : Mm} {n i : Nat} {v : Int32} (hv : tkC M n (M.1 9 i) v) (hg : ∀ q, q < n → gdR M q) (hi : gdR M i) : v &&& mkm (M.1 12 i) (M.1 11 i) = 0 ↔ ∀ q, q < n → ¬ cf M q i := by
  rw [and_0]
  constructor
  · intro h q hq hc
    have g := hg q hq
    obtain ⟨c1, c2, c3⟩ := hc
    unfold gdR at g hi
    by_cases d : (M.1 12 q).toInt ≤ (M.1 12 i).toInt
    · have t : ((M.1 12 i).toInt.toNat : Int) = (M.1 12 i).toInt := by omega
      refine h (M.1 12 i).toInt.toNat ⟨(hv _).mpr ⟨q, hq, c1, by omega, by omega⟩, ?_⟩
      rw [tb_mk hi]
      exact decide_eq_true (by omega)
    · have t : ((M.1 12 q).toInt.toNat : Int) = (M.1 12 q).toInt := by omega
      refine h (M.1 12 q).toInt.toNat ⟨(hv _).mpr ⟨q, hq, c1, by omega, by omega⟩, ?_⟩
      rw [tb_mk hi]
      exact decide_eq_true (by omega)
  · intro h b hb
    obtain ⟨b1, b2⟩ := hb
    obtain ⟨q, hq, q1, q2, q3⟩ := (hv b).mp b1
    rw [tb_mk hi] at b2
    have b3 := of_decide_eq_true b2
    exact h q hq ⟨q1, by omega, by omega⟩
theorem ov_n {M : Mm} {n : Nat} {v : Int32} (hv : tkC M n (M.1 9 n) v) (hi : gdR M n) : tkC M (n + 1) (M.1 9 n) (v ||| mkm (M.1 12 n) (M.1 11 n)) := by
  intro b
  rw [tb_or, tb_mk hi, Bool.or_eq_true, decide_eq_true_eq]
  constructor
  · intro z
    rcases z with z | z
    · obtain ⟨q, q1, q2, q3⟩ := (hv b).mp z
      exact ⟨q, by omega, q2, q3⟩
    · exact ⟨n, by omega, rfl, z⟩
  · intro z
    obtain ⟨q, q1, q2, q3⟩ := z
    by_cases d : q = n
    · rw [d] at q3
      exact Or.inr q3
    · exact Or.inl ((hv b).mpr ⟨q, by omega, q2, q3⟩)
theorem f149 {N : Mm} {kf : Mm → Int32 → Rs} {i : Int32} (hy : vp_in i 140) : q_ChipMapModel_fieldsRight_149 kf N i 0 = some (wrY N 2 (N.1 13 i.toNatClampNeg), 0) := by
  unfold q_ChipMapModel_fieldsRight_149
  rw [if_pos rfl, ix_e hy, wg_e, cal_s, bz_e0]
theorem f83 {N : Mm} {kf : Mm → Int32 → Rs} {i g : Int32} {n' : Nat} (hy : vp_in i 140) : q_ChipMapModel_fieldsRight_83 kf (n' + 1) N i 0 g = some (wrY N 2 (N.1 13 i.toNatClampNeg), 0) := by
  rw [q_ChipMapModel_fieldsRight_83, f149 hy]
  split
  · rfl
  · rw [if_pos rfl]
theorem f79 {N : Mm} {kf : Mm → Int32 → Rs} {i : Int32} (hy : vp_in i 140) : q_ChipMapModel_fieldsRight_79 kf N i = some (wrY N 2 (N.1 13 i.toNatClampNeg), 0) := f83 (n' := 3999) hy
theorem f55 {N : Mm} {kf : Mm → Int32 → Rs} {i : Int32} (hy : vp_in i 140) : q_ChipMapModel_fieldsRight_55 kf N i = some (wrY N 2 (N.1 13 i.toNatClampNeg), 0) := by
  unfold q_ChipMapModel_fieldsRight_55 q_ChipMapModel_fieldsRight_56
  rw [if_pos rfl]
  exact f79 hy
theorem fi_loop {M N : Mm} (h : dR M N) {kf : Mm → Int32 → Rs} {i : Int32} (hi : 0 ≤ i.toInt ∧ i.toInt < (M.1 1 6).toInt) : ∀ (j m' : Nat) (g : Int32), i.toInt - g.toInt = (j : Int) → 0 ≤ g.toInt → j + 1 < m' → ((∃ q, g.toNatClampNeg ≤ q ∧ q < i.toNatClampNeg ∧ cf M q i.toNatClampNeg) ∧ q_ChipMapModel_fieldsRight_83 kf m' N i 1 g = some (wrY N 2 (N.1 13 i.toNatClampNeg), 0)) ∨ ((∀ q, g.toNatClampNeg ≤ q → q < i.toNatClampNeg → ¬ cf M q i.toNatClampNeg) ∧ q_ChipMapModel_fieldsRight_83 kf m' N i 1 g = kf N (i + 1)) := by
  obtain ⟨h1, h2, h3, h4, h5, h6, h7, h8, h9, h10⟩ := h
  have t1 := tnc hi.1
  have t2 := tnc h4.1
  have hy : vp_in i 140 := vI (by omega)
  intro j
  induction j with
  | zero =>
    intro m' g hj g0 hm'
    obtain ⟨m', rfl⟩ : ∃ q, m' = q + 1 := ⟨m' - 1, by omega⟩
    have t3 := tnc g0
    rw [q_ChipMapModel_fieldsRight_83, if_pos (Int32.le_iff_toInt_le.mpr (by omega))]
    unfold q_ChipMapModel_fieldsRight_149
    rw [if_neg (by decide)]
    exact Or.inr ⟨fun q q1 q2 => absurd q2 (by omega), rfl⟩
  | succ j ih =>
    intro m' g hj g0 hm'
    obtain ⟨m', rfl⟩ : ∃ q, m' = q + 1 + 1 := ⟨m' - 2, by omega⟩
    have t3 := tnc g0
    have ez : (g + 1).toInt = g.toInt + 1 := iadd rfl (rfl : (1 : Int32).toInt = 1) (by omega) (by omega)
    have es : (g + 1).toNatClampNeg = g.toNatClampNeg + 1 := tnS (by omega)
    have gy : vp_in g 140 := vI (by omega)
    have hI := ih (m' + 1) (g + 1) (by omega) (by omega) (by omega)
    have hgn : g.toNatClampNeg < (M.1 1 6).toNatClampNeg := by omega
    have hin : i.toNatClampNeg < (M.1 1 6).toNatClampNeg := by omega
    rw [q_ChipMapModel_fieldsRight_83, if_neg (fun z => by have := Int32.le_iff_toInt_le.mp z; omega), if_neg (by decide : ¬ (1 : Int32) = 0), ix_e gy, ix_e hy, ix_e gy, ix_e hy, ix_e gy, ix_e hy, ← h7.2.2.1 _ hgn, ← h7.2.2.1 _ hin, ← h7.2.2.2.2.1 _ hgn, ← h7.2.2.2.2.2.1 _ hin, ← h7.2.2.2.2.1 _ hin, ← h7.2.2.2.2.2.1 _ hgn]
    have next : ¬ cf M g.toNatClampNeg i.toNatClampNeg → ((∃ q, g.toNatClampNeg ≤ q ∧ q < i.toNatClampNeg ∧ cf M q i.toNatClampNeg) ∧ q_ChipMapModel_fieldsRight_137 kf (q_ChipMapModel_fieldsRight_83 kf (m' + 1)) N i g = some (wrY N 2 (N.1 13 i.toNatClampNeg), 0)) ∨ ((∀ q, g.toNatClampNeg ≤ q → q < i.toNatClampNeg → ¬ cf M q i.toNatClampNeg) ∧ q_ChipMapModel_fieldsRight_137 kf (q_ChipMapModel_fieldsRight_83 kf (m' + 1)) N i g = kf N (i + 1)) := by
      intro hc
      rw [es] at hI
      rcases hI with ⟨⟨q, q1, q2, q3⟩, hI⟩ | ⟨hq, hI⟩
      · exact Or.inl ⟨⟨q, by omega, q2, q3⟩, hI⟩
      · refine Or.inr ⟨fun q q1 q2 => ?_, hI⟩
        by_cases d : q = g.toNatClampNeg
        · rw [d]; exact hc
        · exact hq q (by omega) q2
    by_cases c1 : M.1 9 g.toNatClampNeg = M.1 9 i.toNatClampNeg
    rotate_left
    · rw [if_neg c1]
      exact next (fun z => c1 z.1)
    rw [if_pos c1]
    by_cases c2 : M.1 11 g.toNatClampNeg < M.1 12 i.toNatClampNeg
    · rw [if_pos c2]
      exact next (fun z => z.2.1 (Int32.lt_iff_toInt_lt.mp c2))
    rw [if_neg c2]
    by_cases c3 : M.1 12 g.toNatClampNeg ≤ M.1 11 i.toNatClampNeg
    · rw [if_pos c3]
      refine Or.inl ⟨⟨g.toNatClampNeg, Nat.le_refl _, by omega, c1, fun z => c2 (Int32.lt_iff_toInt_lt.mpr z), Int32.le_iff_toInt_le.mp c3⟩, ?_⟩
      exact f83 hy
    · rw [if_neg c3]
      exact next (fun z => c3 (Int32.le_iff_toInt_le.mpr z.2.2))
theorem ff_loop {M N : Mm} (h : dR M N) : ∀ (j n' m' : Nat) (i v : Int32), (M.1 1 6).toInt - i.toInt = (j : Int) → 0 ≤ i.toInt → j < n' → j < m' → (∀ q, q < i.toNatClampNeg → gdR M q) → (0 < i.toInt → tkC M i.toNatClampNeg (M.1 9 (i - 1).toNatClampNeg) v) → jZ M N 2 (q_Judge_badField_4 n' M v i) (q_ChipMapModel_fieldsRight_2 m' N i) (some (N, 1)) := by
  intro j
  induction j with
  | zero =>
    intro n' m' i v hj i0 hn' hm' hg hv
    obtain ⟨n', rfl⟩ : ∃ q, n' = q + 1 := ⟨n' - 1, by omega⟩
    obtain ⟨m', rfl⟩ : ∃ q, m' = q + 1 := ⟨m' - 1, by omega⟩
    have c : M.1 1 6 ≤ i := Int32.le_iff_toInt_le.mpr (by omega)
    rw [q_Judge_badField_4, q_ChipMapModel_fieldsRight_2, h.2.2.1, if_pos c, if_pos c]
    exact Or.inl ⟨rfl, rfl⟩
  | succ j ih =>
    intro n' m' i v hj i0 hn' hm' hg hv
    obtain ⟨n', rfl⟩ : ∃ q, n' = q + 1 := ⟨n' - 1, by omega⟩
    obtain ⟨m', rfl⟩ : ∃ q, m' = q + 1 := ⟨m' - 1, by omega⟩
    have h0 := h
    obtain ⟨h1, h2, h3, h4, h5, h6, h7, h8, h9, h10⟩ := h0
    have ez : (i + 1).toInt = i.toInt + 1 := iadd rfl (rfl : (1 : Int32).toInt = 1) (by omega) (by omega)
    have es : (i + 1).toNatClampNeg = i.toNatClampNeg + 1 := tnS (by omega)
    have o1 : (1 : Int32).toInt = 1 := rfl
    have e11a : (i + 1 - 1).toInt = i.toInt + 1 - 1 := isub ez o1 (by omega) (by omega)
    have e11 : i + 1 - 1 = i := Int32.toInt_inj.mp (by omega)
    have z0 : (0 : Int32).toInt = 0 := rfl
    have z15 : (15 : Int32).toInt = 15 := rfl
    have z16 : (16 : Int32).toInt = 16 := rfl
    have t1 := tnc i0
    have t2 := tnc h4.1
    have hin : i.toNatClampNeg < (M.1 1 6).toNatClampNeg := by omega
    have hx : vp_in i 128 := vI (by omega)
    have hy : vp_in i 140 := vI (by omega)
    have c : ¬ M.1 1 6 ≤ i := fun z => by have := Int32.le_iff_toInt_le.mp z; omega
    have e8 := h7.2.1 _ hin
    have e11' := h7.2.2.2.2.1 _ hin
    have e12' := h7.2.2.2.2.2.1 _ hin
    have e13' := h7.2.2.2.2.2.2.1 _ hin
    have r8 := h7.2.2.2.2.2.2.2.2.1 _ hin
    have r12 := h7.2.2.2.2.2.2.2.2.2.2.1 _ hin
    obtain ⟨r, s, q1, q2, q3⟩ := nm_i h (i := i) (by omega)
    have bad : jZ M N 2 (some (M, M.1 8 i.toNatClampNeg)) (some (wrY N 2 (N.1 13 i.toNatClampNeg), 0)) (some (N, 1)) := Or.inr ⟨_, r8.1, rfl, by rw [e8]⟩
    have row : ∀ w : Int32, tkC M i.toNatClampNeg (M.1 9 i.toNatClampNeg) w → jZ M N 2 (q_Judge_badField_44 (q_Judge_badField_4 n') M w i) (q_ChipMapModel_fieldsRight_2 (m' + 1) N i) (some (N, 1)) := by
      intro w hw
      unfold q_Judge_badField_44
      rw [q_ChipMapModel_fieldsRight_2, h3, if_neg c, ix_e hx, lq_s, ix_e hx, lq_s, ix_e hx, ix_e hy, q1, q2, cal_s, cal_s]
      have e117 : q_Judge_badField_117 M i = some (M, M.1 8 i.toNatClampNeg) := by
        unfold q_Judge_badField_117
        rw [ix_e hx]
      rw [e117, f55 hy]
      by_cases cr : r < i
      · rw [if_pos cr, if_neg (q3.mp cr)]
        exact bad
      have cs : s = -1 := Classical.byContradiction (fun z => cr (q3.mpr z))
      rw [if_neg cr, if_pos cs, ix_e hy, ← e11', ix_e hy, ix_e hy, ← e12']
      by_cases c16 : 16 ≤ M.1 11 i.toNatClampNeg
      · rw [if_pos c16, if_pos (Int32.lt_iff_toInt_lt.mpr (by have := Int32.le_iff_toInt_le.mp c16; omega))]
        exact bad
      have c16' : ¬ 16 ≤ (M.1 11 i.toNatClampNeg).toInt := fun z => c16 (Int32.le_iff_toInt_le.mpr (by omega))
      have c15 : ¬ 15 < M.1 11 i.toNatClampNeg := fun z => by have := Int32.lt_iff_toInt_lt.mp z; omega
      rw [if_neg c16, if_neg c15]
      by_cases cl : M.1 11 i.toNatClampNeg < M.1 12 i.toNatClampNeg
      · rw [if_pos cl, if_pos cl]
        exact bad
      have cl' : ¬ (M.1 11 i.toNatClampNeg).toInt < (M.1 12 i.toNatClampNeg).toInt := fun z => cl (Int32.lt_iff_toInt_lt.mpr z)
      have hgi : gdR M i.toNatClampNeg := ⟨r12.1, by omega, by omega⟩
      unfold q_ChipMapModel_fieldsRight_56
      rw [if_neg cl, if_neg cl, ix_e hx, if_neg (by decide : ¬ (1 : Int32) = 0), ix_e hy, ← e13']
      obtain ⟨t, q4, q5, ht⟩ := fit_rel h (r := i) (v := M.1 13 i.toNatClampNeg) ⟨i0, hin⟩
      rw [q4, q5, cal_s, cal_s]
      rcases ht with ht | ht
      · rw [ht, if_pos rfl, if_pos rfl, f79 hy, e117]
        exact bad
      rw [ht, if_neg (by decide), if_neg (by decide), lq_s]
      have hov := ov hw hg hgi
      unfold mkm at hov
      have hin2 : ∀ q, (0 : Int32).toNatClampNeg ≤ q := fun q => Nat.zero_le q
      rcases fi_loop h (kf := q_ChipMapModel_fieldsRight_2 m') (i := i) (by omega) i.toInt.toNat 4000 0 (by omega) (by omega) (by omega) with ⟨⟨q, _, q6, q7⟩, hI⟩ | ⟨hq, hI⟩
      · have hne := fun z => (hov.mp z) q q6 q7
        rw [if_neg hne, ix_e hx]
        show jZ M N 2 _ (q_ChipMapModel_fieldsRight_83 (q_ChipMapModel_fieldsRight_2 m') 4000 N i 1 0) _
        rw [hI]
        exact bad
      · rw [if_pos (hov.mpr (fun q q6 => hq q (hin2 q) q6)), lq_s]
        show jZ M N 2 _ (q_ChipMapModel_fieldsRight_83 (q_ChipMapModel_fieldsRight_2 m') 4000 N i 1 0) _
        rw [hI]
        refine ih n' m' (i + 1) _ (by omega) (by omega) (by omega) (by omega) (fun q hq2 => ?_) (fun _ => ?_)
        · by_cases d : q = i.toNatClampNeg
          · rw [d]; exact hgi
          · exact hg q (by omega)
        · rw [e11, es]
          exact ov_n hw hgi
    have nil : (∀ q, q < i.toNatClampNeg → M.1 9 q ≠ M.1 9 i.toNatClampNeg) → tkC M i.toNatClampNeg (M.1 9 i.toNatClampNeg) 0 := by
      intro hq b
      rw [tb_0]
      constructor
      · intro z
        exact absurd z (by decide)
      · intro z
        obtain ⟨q, z1, z2, _⟩ := z
        exact absurd z2 (hq q z1)
    rw [q_Judge_badField_4, if_neg c]
    by_cases ci : i = 0
    · rw [if_pos ci]
      refine row 0 (nil (fun q hq => ?_))
      rw [ci] at hq
      exact nlz hq
    have ci' : i.toInt ≠ 0 := fun z => ci (Int32.toInt_inj.mp z)
    have ed : (i - 1).toInt = i.toInt - 1 := isub rfl (rfl : (1 : Int32).toInt = 1) (by omega) (by omega)
    have t5 := tnc (i := i - 1) (by omega)
    rw [if_neg ci, ix_e hx, ix_e (vI (by omega))]
    by_cases ch : M.1 9 i.toNatClampNeg = M.1 9 (i - 1).toNatClampNeg
    · rw [if_pos ch]
      refine row v ?_
      rw [ch]
      exact hv (by omega)
    · rw [if_neg ch]
      refine row 0 (nil (fun q hq z => ?_))
      have a1 := h9.2 q (i - 1).toNatClampNeg (by omega) (by omega)
      have a2 := h9.2 (i - 1).toNatClampNeg i.toNatClampNeg (by omega) (by omega)
      have a3 := congrArg Int32.toInt z
      exact ch (Int32.toInt_inj.mp (by omega))
theorem ff_rel {M N : Mm} (h : dR M N) : jZ M N 2 (q_Judge_badField M) (q_ChipMapModel_fieldsRight N) (some (N, 1)) := by
  have h4 := h.2.2.2.1
  have z0 : (0 : Int32).toInt = 0 := rfl
  exact ff_loop h (M.1 1 6).toInt.toNat 4000 4000 0 0 (by omega) (by decide) (by omega) (by omega) (fun q hq => nlz hq) (fun z => absurd z (by decide))
