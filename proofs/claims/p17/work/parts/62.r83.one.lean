theorem b8 {a k : Int32} (h : 0 ≤ a.toInt ∧ a.toInt ≤ 255) (hk : 1 ≤ k.toInt ∧ k.toInt ≤ 127) : k = a.toInt8.toInt32 ↔ a = k := by
  have e : a.toInt8.toInt32.toInt = a.toInt.bmod 256 := by
    rw [Int8.toInt_toInt32, Int32.toInt_toInt8]
  have e2 : a.toInt.bmod 256 = if a.toInt < 128 then a.toInt else a.toInt - 256 := by
    unfold Int.bmod
    have m : a.toInt % ((256 : Nat) : Int) = a.toInt := Int.emod_eq_of_lt h.1 (by omega)
    simp only [m]
    rfl
  constructor
  · intro z
    have z2 := congrArg Int32.toInt z
    rw [e, e2] at z2
    refine Int32.toInt_inj.mp ?_
    split at z2 <;> omega
  · intro z
    refine Int32.toInt_inj.mp ?_
    rw [e, e2, z]
    rw [if_pos (by omega)]
theorem ac_s {n' : Nat} {M : Mm} {v i j c : Int32} (hi : vp_in i 7) (hl : ¬ (7 : Int32) ≤ i) (hj : i + 1 = j) (hc : sB 0 i.toNatClampNeg = c) : q_StringLatin1_indexOfChar_7 (n' + 1) M 7 v i = if c = v then some (M, i) else q_StringLatin1_indexOfChar_7 n' M 7 v j := by
  rw [q_StringLatin1_indexOfChar_7, if_neg hl, ix_e hi, hc, hj]
theorem ac_w {n' : Nat} {M : Mm} {v : Int32} : q_StringLatin1_indexOfChar_7 (n' + 8) M 7 v 0 = (if (119 : Int32) = v then some (M, 0) else if (114 : Int32) = v then some (M, 1) else if (111 : Int32) = v then some (M, 2) else if (99 : Int32) = v then some (M, 3) else if (116 : Int32) = v then some (M, 4) else if (115 : Int32) = v then some (M, 5) else if (112 : Int32) = v then some (M, 6) else some (M, (-1)) : Rs) := by
  have e : q_StringLatin1_indexOfChar_7 (n' + 1) M 7 v 7 = some (M, -1) := by
    rw [q_StringLatin1_indexOfChar_7, if_pos (by decide)]
  rw [ac_s (i := 0) (j := 1) (c := 119) (vI (by decide)) (by decide) (by decide) (by decide), ac_s (i := 1) (j := 2) (c := 114) (vI (by decide)) (by decide) (by decide) (by decide), ac_s (i := 2) (j := 3) (c := 111) (vI (by decide)) (by decide) (by decide) (by decide), ac_s (i := 3) (j := 4) (c := 99) (vI (by decide)) (by decide) (by decide) (by decide), ac_s (i := 4) (j := 5) (c := 116) (vI (by decide)) (by decide) (by decide) (by decide), ac_s (i := 5) (j := 6) (c := 115) (vI (by decide)) (by decide) (by decide) (by decide), ac_s (i := 6) (j := 7) (c := 112) (vI (by decide)) (by decide) (by decide) (by decide), e]
def ac (c : Int32) : Int32 := if c = 119 then 0 else if c = 114 then 1 else if c = 111 then 2 else if c = 99 then 3 else if c = 116 then 4 else if c = 115 then 5 else if c = 112 then 6 else (-1)
theorem ac_o {c : Int32} (h : c.toInt < 0 ∨ 255 < c.toInt) : ac c = -1 := by
  unfold ac
  rw [if_neg (fun z => by rw [z] at h; revert h; decide), if_neg (fun z => by rw [z] at h; revert h; decide), if_neg (fun z => by rw [z] at h; revert h; decide), if_neg (fun z => by rw [z] at h; revert h; decide), if_neg (fun z => by rw [z] at h; revert h; decide), if_neg (fun z => by rw [z] at h; revert h; decide), if_neg (fun z => by rw [z] at h; revert h; decide)]
theorem ac_r (c : Int32) : ac c = -1 ∨ ((0 ≤ (ac c).toInt ∧ (ac c).toInt < 7) ∧ sB 0 (ac c).toNatClampNeg = c ∧ c.toInt ≠ 0) := by
  unfold ac
  by_cases c0 : c = 119
  · rw [if_pos c0, c0]
    exact Or.inr (by decide)
  rw [if_neg c0]
  by_cases c1 : c = 114
  · rw [if_pos c1, c1]
    exact Or.inr (by decide)
  rw [if_neg c1]
  by_cases c2 : c = 111
  · rw [if_pos c2, c2]
    exact Or.inr (by decide)
  rw [if_neg c2]
  by_cases c3 : c = 99
  · rw [if_pos c3, c3]
    exact Or.inr (by decide)
  rw [if_neg c3]
  by_cases c4 : c = 116
  · rw [if_pos c4, c4]
    exact Or.inr (by decide)
  rw [if_neg c4]
  by_cases c5 : c = 115
  · rw [if_pos c5, c5]
    exact Or.inr (by decide)
  rw [if_neg c5]
  by_cases c6 : c = 112
  · rw [if_pos c6, c6]
    exact Or.inr (by decide)
  rw [if_neg c6]
  exact Or.inl rfl
theorem ac_x (M : Mm) (c : Int32) : q_String_indexOf M c = some (M, ac c) := by
  have e : q_String_length M = some (M, 7) := by
    have e2 : ((7 : Int32) >>> ((0 : Int32) &&& 31)) = 7 := by decide
    show (some (M, ((7 : Int32) >>> ((0 : Int32) &&& 31))) : Rs) = some (M, 7)
    rw [e2]
  have e1 : q_String_indexOf_1 M c 0 = some (M, ac c) := by
    show cal (q_String_length M) (fun M3 r4 => cal (q_StringLatin1_indexOf M3 c 0 r4) fun M5 r6 => some (M5, r6)) = _
    rw [e, cal_s]
    have e3 : q_StringLatin1_indexOf M c 0 7 = some (M, ac c) := by
      unfold q_StringLatin1_indexOf q_StringLatin1_canEncode
      have z255 : (255 : Int32).toInt = 255 := rfl
      have z0 : (0 : Int32).toInt = 0 := rfl
      by_cases g1 : c < 0
      · rw [if_pos g1, cal_s, if_pos rfl, ac_o (Or.inl (by have := Int32.lt_iff_toInt_lt.mp g1; omega))]
      rw [if_neg g1]
      by_cases g2 : 255 < c
      · rw [if_pos g2, cal_s, if_pos rfl, ac_o (Or.inr (by have := Int32.lt_iff_toInt_lt.mp g2; omega))]
      rw [if_neg g2, cal_s, if_neg (by decide), lq_s, lq_s]
      have a1 : (if (0 : Int32) < 0 then (0 : Int32) else 0) = 0 := by decide
      have a2 : (if (7 : Int32) < 7 then (7 : Int32) else 7) = 7 := by decide
      rw [a1, a2, if_pos (by decide)]
      have hr : 0 ≤ c.toInt ∧ c.toInt ≤ 255 := by
        have n1 : ¬ c.toInt < 0 := fun z => g1 (Int32.lt_iff_toInt_lt.mpr (by omega))
        have n2 : ¬ 255 < c.toInt := fun z => g2 (Int32.lt_iff_toInt_lt.mpr (by omega))
        omega
      have e4 : q_StringLatin1_indexOfChar M c 0 7 = some (M, ac c) := by
        show q_StringLatin1_indexOfChar_7 4000 M 7 c.toInt8.toInt32 0 = _
        refine (ac_w (n' := 3992)).trans ?_
        unfold ac
        by_cases c0 : c = 119
        · rw [if_pos ((b8 hr (by decide)).mpr c0), if_pos c0]
        rw [if_neg (fun z => c0 ((b8 hr (by decide)).mp z)), if_neg c0]
        by_cases c1 : c = 114
        · rw [if_pos ((b8 hr (by decide)).mpr c1), if_pos c1]
        rw [if_neg (fun z => c1 ((b8 hr (by decide)).mp z)), if_neg c1]
        by_cases c2 : c = 111
        · rw [if_pos ((b8 hr (by decide)).mpr c2), if_pos c2]
        rw [if_neg (fun z => c2 ((b8 hr (by decide)).mp z)), if_neg c2]
        by_cases c3 : c = 99
        · rw [if_pos ((b8 hr (by decide)).mpr c3), if_pos c3]
        rw [if_neg (fun z => c3 ((b8 hr (by decide)).mp z)), if_neg c3]
        by_cases c4 : c = 116
        · rw [if_pos ((b8 hr (by decide)).mpr c4), if_pos c4]
        rw [if_neg (fun z => c4 ((b8 hr (by decide)).mp z)), if_neg c4]
        by_cases c5 : c = 115
        · rw [if_pos ((b8 hr (by decide)).mpr c5), if_pos c5]
        rw [if_neg (fun z => c5 ((b8 hr (by decide)).mp z)), if_neg c5]
        by_cases c6 : c = 112
        · rw [if_pos ((b8 hr (by decide)).mpr c6), if_pos c6]
        rw [if_neg (fun z => c6 ((b8 hr (by decide)).mp z)), if_neg c6]
      rw [e4]
      rfl
    rw [e3]
    rfl
  unfold q_String_indexOf
  rw [e1]
  rfl
theorem sg_s {n' : Nat} {M : Mm} {v i j c : Int32} (hi : vp_in i 3) (hl : ¬ (3 : Int32) ≤ i) (hj : i + 1 = j) (hc : sB 1 i.toNatClampNeg = c) : q_StringLatin1_indexOfChar_1_7 (n' + 1) M 3 v i = if c = v then some (M, i) else q_StringLatin1_indexOfChar_1_7 n' M 3 v j := by
  rw [q_StringLatin1_indexOfChar_1_7, if_neg hl, ix_e hi, hc, hj]
theorem sg_w {n' : Nat} {M : Mm} {v : Int32} : q_StringLatin1_indexOfChar_1_7 (n' + 4) M 3 v 0 = (if (60 : Int32) = v then some (M, 0) else if (38 : Int32) = v then some (M, 1) else if (33 : Int32) = v then some (M, 2) else some (M, (-1)) : Rs) := by
  have e : q_StringLatin1_indexOfChar_1_7 (n' + 1) M 3 v 3 = some (M, -1) := by
    rw [q_StringLatin1_indexOfChar_1_7, if_pos (by decide)]
  rw [sg_s (i := 0) (j := 1) (c := 60) (vI (by decide)) (by decide) (by decide) (by decide), sg_s (i := 1) (j := 2) (c := 38) (vI (by decide)) (by decide) (by decide) (by decide), sg_s (i := 2) (j := 3) (c := 33) (vI (by decide)) (by decide) (by decide) (by decide), e]
def sg (c : Int32) : Int32 := if c = 60 then 0 else if c = 38 then 1 else if c = 33 then 2 else (-1)
theorem sg_o {c : Int32} (h : c.toInt < 0 ∨ 255 < c.toInt) : sg c = -1 := by
  unfold sg
  rw [if_neg (fun z => by rw [z] at h; revert h; decide), if_neg (fun z => by rw [z] at h; revert h; decide), if_neg (fun z => by rw [z] at h; revert h; decide)]
theorem sg_r (c : Int32) : sg c = -1 ∨ ((0 ≤ (sg c).toInt ∧ (sg c).toInt < 3) ∧ sB 1 (sg c).toNatClampNeg = c ∧ c.toInt ≠ 0) := by
  unfold sg
  by_cases c0 : c = 60
  · rw [if_pos c0, c0]
    exact Or.inr (by decide)
  rw [if_neg c0]
  by_cases c1 : c = 38
  · rw [if_pos c1, c1]
    exact Or.inr (by decide)
  rw [if_neg c1]
  by_cases c2 : c = 33
  · rw [if_pos c2, c2]
    exact Or.inr (by decide)
  rw [if_neg c2]
  exact Or.inl rfl
theorem sg_x (M : Mm) (c : Int32) : q_String_indexOf_2 M c = some (M, sg c) := by
  have e : q_String_length_1 M = some (M, 3) := by
    have e2 : ((3 : Int32) >>> ((0 : Int32) &&& 31)) = 3 := by decide
    show (some (M, ((3 : Int32) >>> ((0 : Int32) &&& 31))) : Rs) = some (M, 3)
    rw [e2]
  have e1 : q_String_indexOf_3 M c 0 = some (M, sg c) := by
    show cal (q_String_length_1 M) (fun M3 r4 => cal (q_StringLatin1_indexOf_1 M3 c 0 r4) fun M5 r6 => some (M5, r6)) = _
    rw [e, cal_s]
    have e3 : q_StringLatin1_indexOf_1 M c 0 3 = some (M, sg c) := by
      unfold q_StringLatin1_indexOf_1 q_StringLatin1_canEncode
      have z255 : (255 : Int32).toInt = 255 := rfl
      have z0 : (0 : Int32).toInt = 0 := rfl
      by_cases g1 : c < 0
      · rw [if_pos g1, cal_s, if_pos rfl, sg_o (Or.inl (by have := Int32.lt_iff_toInt_lt.mp g1; omega))]
      rw [if_neg g1]
      by_cases g2 : 255 < c
      · rw [if_pos g2, cal_s, if_pos rfl, sg_o (Or.inr (by have := Int32.lt_iff_toInt_lt.mp g2; omega))]
      rw [if_neg g2, cal_s, if_neg (by decide), lq_s, lq_s]
      have a1 : (if (0 : Int32) < 0 then (0 : Int32) else 0) = 0 := by decide
      have a2 : (if (3 : Int32) < 3 then (3 : Int32) else 3) = 3 := by decide
      rw [a1, a2, if_pos (by decide)]
      have hr : 0 ≤ c.toInt ∧ c.toInt ≤ 255 := by
        have n1 : ¬ c.toInt < 0 := fun z => g1 (Int32.lt_iff_toInt_lt.mpr (by omega))
        have n2 : ¬ 255 < c.toInt := fun z => g2 (Int32.lt_iff_toInt_lt.mpr (by omega))
        omega
      have e4 : q_StringLatin1_indexOfChar_1 M c 0 3 = some (M, sg c) := by
        show q_StringLatin1_indexOfChar_1_7 4000 M 3 c.toInt8.toInt32 0 = _
        refine (sg_w (n' := 3996)).trans ?_
        unfold sg
        by_cases c0 : c = 60
        · rw [if_pos ((b8 hr (by decide)).mpr c0), if_pos c0]
        rw [if_neg (fun z => c0 ((b8 hr (by decide)).mp z)), if_neg c0]
        by_cases c1 : c = 38
        · rw [if_pos ((b8 hr (by decide)).mpr c1), if_pos c1]
        rw [if_neg (fun z => c1 ((b8 hr (by decide)).mp z)), if_neg c1]
        by_cases c2 : c = 33
        · rw [if_pos ((b8 hr (by decide)).mpr c2), if_pos c2]
        rw [if_neg (fun z => c2 ((b8 hr (by decide)).mp z)), if_neg c2]
      rw [e4]
      rfl
    rw [e3]
    rfl
  unfold q_String_indexOf_2
  rw [e1]
  rfl
theorem ac_one {M N : Mm} (h : rdR M N) : q_Reader_oneOf M = if ac (hrX M) = -1 then some (M, -1) else some (avX M, ac (hrX M)) := by
  have em : (-1 : Int32).toInt = -1 := by decide
  have e0 : (0 : Int32).toInt = 0 := rfl
  unfold q_Reader_oneOf
  rw [nx_e h, cal_s, ac_x, cal_s]
  by_cases c : ac (hrX M) = -1
  · rw [if_pos c, c]
    rfl
  · have r := (ac_r (hrX M)).resolve_left c
    have c2 : ¬ ac (hrX M) < 0 := fun z => by have := Int32.lt_iff_toInt_lt.mp z; omega
    rw [if_neg c, if_neg c2, lq_s]
    show (if ac (hrX M) < 0 then some (avX M, (-1)) else some (avX M, ac (hrX M)) : Rs) = _
    rw [if_neg c2]
theorem sg_one {M N : Mm} (h : rdR M N) : q_Reader_oneOf_1 M = if sg (hrX M) = -1 then some (M, -1) else some (avX M, sg (hrX M)) := by
  have em : (-1 : Int32).toInt = -1 := by decide
  have e0 : (0 : Int32).toInt = 0 := rfl
  unfold q_Reader_oneOf_1
  rw [nx_e h, cal_s, sg_x, cal_s]
  by_cases c : sg (hrX M) = -1
  · rw [if_pos c, c]
    rfl
  · have r := (sg_r (hrX M)).resolve_left c
    have c2 : ¬ sg (hrX M) < 0 := fun z => by have := Int32.lt_iff_toInt_lt.mp z; omega
    rw [if_neg c, if_neg c2, lq_s]
    show (if sg (hrX M) < 0 then some (avX M, (-1)) else some (avX M, sg (hrX M)) : Rs) = _
    rw [if_neg c2]
theorem acc_y (N : Mm) (c : Int32) : q_ChipMapModel_isAccess N c = some (N, if ac c = -1 then 0 else 1) := by
  unfold q_ChipMapModel_isAccess ac
  by_cases c0 : c = 119
  · rw [if_pos c0, if_pos c0, if_neg (by decide)]
  rw [if_neg c0, if_neg c0]
  by_cases c1 : c = 114
  · rw [if_pos c1, if_pos c1, if_neg (by decide)]
  rw [if_neg c1, if_neg c1]
  by_cases c2 : c = 111
  · rw [if_pos c2, if_pos c2, if_neg (by decide)]
  rw [if_neg c2, if_neg c2]
  by_cases c3 : c = 99
  · rw [if_pos c3, if_pos c3, if_neg (by decide)]
  rw [if_neg c3, if_neg c3]
  by_cases c4 : c = 116
  · rw [if_pos c4, if_pos c4, if_neg (by decide)]
  rw [if_neg c4, if_neg c4]
  by_cases c5 : c = 115
  · rw [if_pos c5, if_pos c5, if_neg (by decide)]
  rw [if_neg c5, if_neg c5]
  by_cases c6 : c = 112
  · rw [if_pos c6, if_pos c6, if_neg (by decide)]
  rw [if_neg c6, if_neg c6]
  rw [if_pos rfl]
def nmv (c : Int32) : Int32 := if c < 65 then -1 else if c ≤ 90 then c - 65 else -1
theorem nmv_r (c : Int32) : nmv c = -1 ∨ ((0 ≤ (nmv c).toInt ∧ (nmv c).toInt ≤ 25) ∧ nmv c = c - 65 ∧ c.toInt ≠ 0) := by
  have e65 : (65 : Int32).toInt = 65 := rfl
  have e90 : (90 : Int32).toInt = 90 := rfl
  unfold nmv
  by_cases c1 : c < 65
  · rw [if_pos c1]
    exact Or.inl rfl
  rw [if_neg c1]
  by_cases c2 : c ≤ 90
  · rw [if_pos c2]
    have h1 : ¬ c.toInt < 65 := fun z => c1 (Int32.lt_iff_toInt_lt.mpr (by omega))
    have h2 := Int32.le_iff_toInt_le.mp c2
    have z1 : (c - 65).toInt = c.toInt - 65 := isub rfl e65 (by omega) (by omega)
    exact Or.inr ⟨by omega, rfl, by omega⟩
  · rw [if_neg c2]
    exact Or.inl rfl
theorem nm_x {M N : Mm} (h : rdR M N) : q_Reader_name M = if nmv (hrX M) = -1 then some (M, -1) else some (avX M, nmv (hrX M)) := by
  have e65 : (65 : Int32).toInt = 65 := rfl
  have e90 : (90 : Int32).toInt = 90 := rfl
  have em : (-1 : Int32).toInt = -1 := by decide
  have r := nmv_r (hrX M)
  unfold q_Reader_name
  rw [nx_e h, cal_s]
  unfold nmv at r ⊢
  by_cases c1 : hrX M < 65
  · rw [if_pos c1, if_pos c1, if_pos rfl]
  rw [if_neg c1] at r ⊢
  rw [if_neg c1]
  by_cases c2 : hrX M ≤ 90
  · rw [if_pos c2] at r ⊢
    rw [if_pos c2]
    have h1 : ¬ (hrX M).toInt < 65 := fun z => c1 (Int32.lt_iff_toInt_lt.mpr (by omega))
    have h2 := Int32.le_iff_toInt_le.mp c2
    have z1 : (hrX M - 65).toInt = (hrX M).toInt - 65 := isub rfl e65 (by omega) (by omega)
    rw [if_neg (fun z => by have := congrArg Int32.toInt z; omega)]
    rfl
  · rw [if_neg c2, if_neg c2, if_pos rfl]
theorem nm_y {M N : Mm} (h : rdR M N) : q_ChipMapModel_takeName N = if nmv (hrX M) = -1 then some (wrY N 1 (N.1 0 3), 0) else some (avY N, 1) := by
  have e65 : (65 : Int32).toInt = 65 := rfl
  have e90 : (90 : Int32).toInt = 90 := rfl
  have em : (-1 : Int32).toInt = -1 := by decide
  have eh := hr_eq h
  unfold q_ChipMapModel_takeName q_ChipMapModel_isName nmv
  rw [hr_e h, cal_s, ← eh]
  by_cases c1 : hrX M < 65
  · rw [if_pos c1, if_pos c1, if_pos rfl]
    rfl
  rw [if_neg c1, if_neg c1]
  by_cases c2 : hrX M ≤ 90
  · have h1 : ¬ (hrX M).toInt < 65 := fun z => c1 (Int32.lt_iff_toInt_lt.mpr (by omega))
    have h2 := Int32.le_iff_toInt_le.mp c2
    have z1 : (hrX M - 65).toInt = (hrX M).toInt - 65 := isub rfl e65 (by omega) (by omega)
    rw [if_pos c2, if_neg (fun z => by have := Int32.lt_iff_toInt_lt.mp z; omega), if_neg (fun z => by have := congrArg Int32.toInt z; omega)]
    rfl
  · have c3 : 90 < hrX M := Int32.lt_iff_toInt_lt.mpr (by have : ¬ (hrX M).toInt ≤ 90 := fun z => c2 (Int32.le_iff_toInt_le.mpr (by omega)); omega)
    rw [if_neg c2, if_pos c3, if_pos rfl]
    rfl
