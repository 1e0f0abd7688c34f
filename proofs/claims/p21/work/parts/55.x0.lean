theorem w_Reader_next {G : Gx} {K : Int} {M : Mm} (hI : IX G K M)  : wpR (q_Reader_next M) (fun M' r => M = M' ∧ (r.toInt ≠ 0 → (M.1 21 3).toInt < 480)) := by
  unfold q_Reader_next
  have z1 := hI.rgR
  have z2 := hI.f21_2
  have z3 := hI.atR
  refine wpR_le (x := (M.1 21 2 : Int32).toInt) (y := (M.1 21 3 : Int32).toInt) rfl rfl (fun c4 => ?_) (fun c4 => ?_)
  · skip
    have z5 : (0 : Int32).toInt = 0 := rfl
    exact wpR_some ⟨rfl, (by omega)⟩
  · skip
    have k6 : 0 ≤ ((M.1 21 3) : Int32).toInt ∧ ((M.1 21 3) : Int32).toInt < ((480 : Nat) : Int) := by omega
    refine wpR_ix (vI k6) ?_
    refine wpR_cz (hI.tapeC _) ?_
    exact wpR_some ⟨rfl, (by omega)⟩
theorem w_Reader_take {G : Gx} {K : Int} {M : Mm} (hI : IX G K M)  (a1 : Int32) (p0 : a1.toInt ≠ 0) : wpR (q_Reader_take M a1) (fun M' r => IX G K M' ∧ (0 ≤ r.toInt ∧ r.toInt ≤ 1) ∧ (frB M M')) := by
  unfold q_Reader_take
  have z1 := hI.rgR
  refine wpR_ro (w_Reader_next hI) (fun u2 h3 => ?_)
  refine wpR_eq (x := u2.toInt) (y := a1.toInt) rfl rfl (fun c5 => ?_) (fun c5 => ?_)
  · skip
    have z9 := hI.atR
    have z10 : ((M.1 21 3) + 1 : Int32).toInt = (M.1 21 3 : Int32).toInt + 1 := iadd rfl (rfl : (1 : Int32).toInt = 1) (by omega) (by omega)
    refine wpR_ltv (fun m6 e7 => ?_)
    have i8 : IX G K m6 := by rw [e7]; exact hI.s21_3 (by omega)
    have q11 : frB M m6 := by rw [e7]; exact frB.s21_3 (frB.rf M)
    have z12 : (1 : Int32).toInt = 1 := rfl
    exact wpR_some ⟨i8, (by omega), q11⟩
  · skip
    have z13 : (0 : Int32).toInt = 0 := rfl
    exact wpR_some ⟨hI, (by omega), (frB.rf M)⟩
theorem w_Reader_digitOf {G : Gx} {K : Int} {M : Mm} (hI : IX G K M)  (a0 : Int32) : wpR (q_Reader_digitOf M a0) (fun M' r => M = M' ∧ (-1 ≤ r.toInt ∧ r.toInt ≤ 15 ∧ (r.toInt ≠ -1 → 48 ≤ a0.toInt))) := by
  unfold q_Reader_digitOf
  have z1 := hI.rgR
  refine wpR_lw (x := a0.toInt) (y := 48) rfl (rfl : (48 : Int32).toInt = 48) (fun c2 => ?_) (fun c2 => ?_)
  · skip
    unfold q_Reader_digitOf_17
    refine wpR_lw (x := a0.toInt) (y := 97) rfl (rfl : (97 : Int32).toInt = 97) (fun c3 => ?_) (fun c3 => ?_)
    · skip
      have z4 : (-1 : Int32).toInt = -1 := by decide
      exact wpR_some ⟨rfl, (by omega)⟩
    · skip
      refine wpR_lw (x := 102) (y := a0.toInt) (rfl : (102 : Int32).toInt = 102) rfl (fun c5 => ?_) (fun c5 => ?_)
      · skip
        have z6 : (-1 : Int32).toInt = -1 := by decide
        exact wpR_some ⟨rfl, (by omega)⟩
      · skip
        have z7 : (a0 - 97 : Int32).toInt = a0.toInt - 97 := isub rfl (rfl : (97 : Int32).toInt = 97) (by omega) (by omega)
        have z8 : ((a0 - 97) + 10 : Int32).toInt = ((a0 - 97 : Int32).toInt) + 10 := iadd rfl (rfl : (10 : Int32).toInt = 10) (by omega) (by omega)
        exact wpR_some ⟨rfl, (by omega)⟩
  · skip
    refine wpR_lw (x := 57) (y := a0.toInt) (rfl : (57 : Int32).toInt = 57) rfl (fun c9 => ?_) (fun c9 => ?_)
    · skip
      unfold q_Reader_digitOf_17
      refine wpR_lw (x := a0.toInt) (y := 97) rfl (rfl : (97 : Int32).toInt = 97) (fun c10 => ?_) (fun c10 => ?_)
      · skip
        have z11 : (-1 : Int32).toInt = -1 := by decide
        exact wpR_some ⟨rfl, (by omega)⟩
      · skip
        refine wpR_lw (x := 102) (y := a0.toInt) (rfl : (102 : Int32).toInt = 102) rfl (fun c12 => ?_) (fun c12 => ?_)
        · skip
          have z13 : (-1 : Int32).toInt = -1 := by decide
          exact wpR_some ⟨rfl, (by omega)⟩
        · skip
          have z14 : (a0 - 97 : Int32).toInt = a0.toInt - 97 := isub rfl (rfl : (97 : Int32).toInt = 97) (by omega) (by omega)
          have z15 : ((a0 - 97) + 10 : Int32).toInt = ((a0 - 97 : Int32).toInt) + 10 := iadd rfl (rfl : (10 : Int32).toInt = 10) (by omega) (by omega)
          exact wpR_some ⟨rfl, (by omega)⟩
    · skip
      have z16 : (a0 - 48 : Int32).toInt = a0.toInt - 48 := isub rfl (rfl : (48 : Int32).toInt = 48) (by omega) (by omega)
      exact wpR_some ⟨rfl, (by omega)⟩
theorem w_Reader_number_9 {G : Gx} {K : Int}  : ∀ (n' : Nat) (M : Mm) (v1 : Int32) (v2 : Int32) (v3 : Int32) (v4 : Int32) (v5 : Int32) (v6 : Int32), IX G K M → (0 ≤ v6.toInt ∧ v6.toInt ≤ v3.toInt ∧ v3.toInt ≤ 100) → v3.toInt - v6.toInt < (n' : Int) → wpR (q_Reader_number_9 n' M v1 v2 v3 v4 v5 v6) (fun M' r => IX G K M' ∧ (frB M M')) := by
  intro n'
  induction n' with
  | zero =>
    intro M v1 v2 v3 v4 v5 v6 hI p0 hn
    have z1 := hI.rgR
    exfalso; omega
  | succ n' ih =>
    intro M v1 v2 v3 v4 v5 v6 hI p0 hn
    rw [q_Reader_number_9]
    have z2 := hI.rgR
    refine wpR_le (x := v3.toInt) (y := v6.toInt) rfl rfl (fun c3 => ?_) (fun c3 => ?_)
    · skip
      unfold q_Reader_number_67
      refine wpR_le (x := v2.toInt) (y := v5.toInt) rfl rfl (fun c4 => ?_) (fun c4 => ?_)
      · skip
        exact wpR_some ⟨hI, (frB.rf M)⟩
      · skip
        exact wpR_some ⟨hI, (frB.rf M)⟩
    · skip
      refine wpR_ro (w_Reader_next hI) (fun u5 h6 => ?_)
      refine wpR_ro (w_Reader_digitOf hI u5) (fun u8 h9 => ?_)
      refine wpR_eq (x := u8.toInt) (y := (-1)) rfl (by decide : (-1 : Int32).toInt = -1) (fun c11 => ?_) (fun c11 => ?_)
      · skip
        unfold q_Reader_number_67
        refine wpR_le (x := v2.toInt) (y := v5.toInt) rfl rfl (fun c12 => ?_) (fun c12 => ?_)
        · skip
          exact wpR_some ⟨hI, (frB.rf M)⟩
        · skip
          exact wpR_some ⟨hI, (frB.rf M)⟩
      · skip
        refine wpR_lw (x := u8.toInt) (y := v1.toInt) rfl rfl (fun c13 => ?_) (fun c13 => ?_)
        · skip
          refine wpR_lt ?_
          have z17 := hI.atR
          have z18 : ((M.1 21 3) + 1 : Int32).toInt = (M.1 21 3 : Int32).toInt + 1 := iadd rfl (rfl : (1 : Int32).toInt = 1) (by omega) (by omega)
          refine wpR_ltv (fun m14 e15 => ?_)
          have i16 : IX G K m14 := by rw [e15]; exact hI.s21_3 (by omega)
          have q19 : frB M m14 := by rw [e15]; exact frB.s21_3 (frB.rf M)
          have z20 : (v6 + 1 : Int32).toInt = v6.toInt + 1 := iadd rfl (rfl : (1 : Int32).toInt = 1) (by omega) (by omega)
          refine wpR_mono (ih m14 v1 v2 v3 ((v4 * v1) + u8) (v5 + 1) (v6 + 1) i16 (by omega) (by omega)) (fun _ _ h22 => ?_)
          obtain ⟨i23, h21⟩ := h22
          exact ⟨i23, (frB.tr q19 h21)⟩
        · skip
          unfold q_Reader_number_67
          refine wpR_le (x := v2.toInt) (y := v5.toInt) rfl rfl (fun c24 => ?_) (fun c24 => ?_)
          · skip
            exact wpR_some ⟨hI, (frB.rf M)⟩
          · skip
            exact wpR_some ⟨hI, (frB.rf M)⟩
theorem w_Reader_number {G : Gx} {K : Int} {M : Mm} (hI : IX G K M)  (a1 : Int32) (a2 : Int32) (a3 : Int32) (p0 : 0 ≤ a3.toInt ∧ a3.toInt ≤ 100) : wpR (q_Reader_number M a1 a2 a3) (fun M' r => IX G K M' ∧ (frB M M')) := by
  unfold q_Reader_number
  have z1 := hI.rgR
  have z2 : (0 : Int32).toInt = 0 := rfl
  refine wpR_mono (w_Reader_number_9 4000 M a1 a2 a3 0 0 0 hI (by omega) (by omega)) (fun _ _ h4 => ?_)
  obtain ⟨i5, h3⟩ := h4
  exact ⟨i5, (frB.tr (frB.rf M) h3)⟩
theorem w_Reader_name {G : Gx} {K : Int} {M : Mm} (hI : IX G K M)  : wpR (q_Reader_name M) (fun M' r => IX G K M' ∧ (-1 ≤ r.toInt ∧ r.toInt ≤ 25) ∧ (frB M M')) := by
  unfold q_Reader_name
  have z1 := hI.rgR
  refine wpR_ro (w_Reader_next hI) (fun u2 h3 => ?_)
  refine wpR_lw (x := u2.toInt) (y := 65) rfl (rfl : (65 : Int32).toInt = 65) (fun c5 => ?_) (fun c5 => ?_)
  · skip
    have z6 : (-1 : Int32).toInt = -1 := by decide
    exact wpR_some ⟨hI, (by omega), (frB.rf M)⟩
  · skip
    refine wpR_le (x := u2.toInt) (y := 90) rfl (rfl : (90 : Int32).toInt = 90) (fun c7 => ?_) (fun c7 => ?_)
    · skip
      have z11 := hI.atR
      have z12 : ((M.1 21 3) + 1 : Int32).toInt = (M.1 21 3 : Int32).toInt + 1 := iadd rfl (rfl : (1 : Int32).toInt = 1) (by omega) (by omega)
      refine wpR_ltv (fun m8 e9 => ?_)
      have i10 : IX G K m8 := by rw [e9]; exact hI.s21_3 (by omega)
      have q13 : frB M m8 := by rw [e9]; exact frB.s21_3 (frB.rf M)
      have z14 : (u2 - 65 : Int32).toInt = u2.toInt - 65 := isub rfl (rfl : (65 : Int32).toInt = 65) (by omega) (by omega)
      exact wpR_some ⟨i10, (by omega), q13⟩
    · skip
      have z15 : (-1 : Int32).toInt = -1 := by decide
      exact wpR_some ⟨hI, (by omega), (frB.rf M)⟩
theorem w_Reader_readBank {G : Gx} {K : Int} {M : Mm} (hI : IX G K M)  (a1 : Int32) (p0 : 0 ≤ a1.toInt ∧ a1.toInt ≤ 15) : wpR (q_Reader_readBank M a1) (fun M' r => IX G K M' ∧ (0 ≤ r.toInt ∧ r.toInt ≤ 1) ∧ (M'.1 1 = M.1 1) ∧ (M'.1 14 = M.1 14)) := by
  unfold q_Reader_readBank
  have z1 := hI.rgR
  have k2 : 0 ≤ (a1 : Int32).toInt ∧ (a1 : Int32).toInt < ((16 : Nat) : Int) := by omega
  refine wpR_ix (vI k2) ?_
  have z6 : (-1 : Int32).toInt = -1 := by decide
  refine wpR_ltv (fun m3 e4 => ?_)
  have i5 : IX G K m3 := by rw [e4]; exact hI.s4 _ (by omega)
  have q7 : m3.1 1 = M.1 1 := by rw [e4]; exact rfl
  have q8 : m3.1 14 = M.1 14 := by rw [e4]; exact rfl
  refine wpR_ro (w_Reader_next i5) (fun u9 h10 => ?_)
  refine wpR_eq (x := u9.toInt) (y := 63) rfl (rfl : (63 : Int32).toInt = 63) (fun c12 => ?_) (fun c12 => ?_)
  · skip
    have z16 := i5.atR
    have z17 : ((m3.1 21 3) + 1 : Int32).toInt = (m3.1 21 3 : Int32).toInt + 1 := iadd rfl (rfl : (1 : Int32).toInt = 1) (by omega) (by omega)
    refine wpR_ltv (fun m13 e14 => ?_)
    have i15 : IX G K m13 := by rw [e14]; exact i5.s21_3 (by omega)
    have q18 : m13.1 1 = M.1 1 := by rw [e14]; exact q7
    have q19 : m13.1 14 = M.1 14 := by rw [e14]; exact q8
    refine wpR_ix (vI k2) ?_
    have z23 := i15.atR
    refine wpR_ltv (fun m20 e21 => ?_)
    have i22 : IX G K m20 := by rw [e21]; exact i15.s5 _ (by omega)
    have q24 : m20.1 1 = M.1 1 := by rw [e21]; exact q18
    have q25 : m20.1 14 = M.1 14 := by rw [e21]; exact q19
    refine wpR_cl (w_Reader_name i22) (fun m29 u26 h30 => ?_)
    obtain ⟨i31, h27, h28⟩ := h30
    have q32 : m29.1 1 = M.1 1 := ((h28 1 (by decide)).trans q24)
    have q33 : m29.1 14 = M.1 14 := ((h28 14 (by decide)).trans q25)
    refine wpR_ix (vI k2) ?_
    refine wpR_ltv (fun m34 e35 => ?_)
    have i36 : IX G K m34 := by rw [e35]; exact i31.s4 _ (by omega)
    have q37 : m34.1 1 = M.1 1 := by rw [e35]; exact q32
    have q38 : m34.1 14 = M.1 14 := by rw [e35]; exact q33
    refine wpR_ix (vI k2) ?_
    have z39 := i36.dbank ((a1 : Int32).toNatClampNeg)
    refine wpR_eq (x := (m34.1 4 (a1 : Int32).toNatClampNeg : Int32).toInt) (y := (-1)) rfl (by decide : (-1 : Int32).toInt = -1) (fun c40 => ?_) (fun c40 => ?_)
    · skip
      have z41 : (0 : Int32).toInt = 0 := rfl
      exact wpR_some ⟨i36, (by omega), q37, q38⟩
    · skip
      have z42 : (61 : Int32).toInt = 61 := rfl
      refine wpR_cl (w_Reader_take i36 61 (by omega)) (fun m46 u43 h47 => ?_)
      obtain ⟨i48, h44, h45⟩ := h47
      have q49 : m46.1 1 = M.1 1 := ((h45 1 (by decide)).trans q37)
      have q50 : m46.1 14 = M.1 14 := ((h45 14 (by decide)).trans q38)
      refine wpR_eq (x := u43.toInt) (y := 0) rfl (rfl : (0 : Int32).toInt = 0) (fun c51 => ?_) (fun c51 => ?_)
      · skip
        have z52 : (0 : Int32).toInt = 0 := rfl
        exact wpR_some ⟨i48, (by omega), q49, q50⟩
      · skip
        have z53 : (1 : Int32).toInt = 1 := rfl
        refine wpR_cl (w_Reader_number i48 16 1 1 (by omega)) (fun m56 u54 h57 => ?_)
        obtain ⟨i58, h55⟩ := h57
        have q59 : m56.1 1 = M.1 1 := ((h55 1 (by decide)).trans q49)
        have q60 : m56.1 14 = M.1 14 := ((h55 14 (by decide)).trans q50)
        refine wpR_ix (vI k2) ?_
        refine wpR_ltv (fun m61 e62 => ?_)
        have i63 : IX G K m61 := by rw [e62]; exact i58.s6 _
        have q64 : m61.1 1 = M.1 1 := by rw [e62]; exact q59
        have q65 : m61.1 14 = M.1 14 := by rw [e62]; exact q60
        refine wpR_ix (vI k2) ?_
        refine wpR_eq (x := (m61.1 6 (a1 : Int32).toNatClampNeg : Int32).toInt) (y := (-1)) rfl (by decide : (-1 : Int32).toInt = -1) (fun c66 => ?_) (fun c66 => ?_)
        · skip
          have z67 : (0 : Int32).toInt = 0 := rfl
          exact wpR_some ⟨i63, (by omega), q64, q65⟩
        · skip
          exact wpR_some ⟨i63, (by omega), q64, q65⟩
  · skip
    have z68 : (1 : Int32).toInt = 1 := rfl
    exact wpR_some ⟨i5, (by omega), q7, q8⟩
theorem w_Reader_oneOf {G : Gx} {K : Int} {M : Mm} (hI : IX G K M)  : wpR (q_Reader_oneOf M) (fun M' r => IX G K M' ∧ (-1 ≤ r.toInt ∧ r.toInt ≤ 6) ∧ (frB M M')) := by
  unfold q_Reader_oneOf
  have z1 := hI.rgR
  refine wpR_ro (w_Reader_next hI) (fun u2 h3 => ?_)
  refine wpR_ro (w_String_indexOf hI u2) (fun u5 h6 => ?_)
  refine wpR_lw (x := u5.toInt) (y := 0) rfl (rfl : (0 : Int32).toInt = 0) (fun c8 => ?_) (fun c8 => ?_)
  · skip
    unfold q_Reader_oneOf_23
    refine wpR_lw (x := u5.toInt) (y := 0) rfl (rfl : (0 : Int32).toInt = 0) (fun c9 => ?_) (fun c9 => ?_)
    · skip
      have z10 : (-1 : Int32).toInt = -1 := by decide
      exact wpR_some ⟨hI, (by omega), (frB.rf M)⟩
    · skip
      exact wpR_some ⟨hI, (by omega), (frB.rf M)⟩
  · skip
    have z14 := hI.atR
    have z15 : ((M.1 21 3) + 1 : Int32).toInt = (M.1 21 3 : Int32).toInt + 1 := iadd rfl (rfl : (1 : Int32).toInt = 1) (by omega) (by omega)
    refine wpR_ltv (fun m11 e12 => ?_)
    have i13 : IX G K m11 := by rw [e12]; exact hI.s21_3 (by omega)
    have q16 : frB M m11 := by rw [e12]; exact frB.s21_3 (frB.rf M)
    unfold q_Reader_oneOf_23
    refine wpR_lw (x := u5.toInt) (y := 0) rfl (rfl : (0 : Int32).toInt = 0) (fun c17 => ?_) (fun c17 => ?_)
    · skip
      have z18 : (-1 : Int32).toInt = -1 := by decide
      exact wpR_some ⟨i13, (by omega), q16⟩
    · skip
      exact wpR_some ⟨i13, (by omega), q16⟩
theorem w_Reader_numberBehindSign {G : Gx} {K : Int} {M : Mm} (hI : IX G K M)  : wpR (q_Reader_numberBehindSign M) (fun M' r => IX G K M' ∧ (frB M M')) := by
  unfold q_Reader_numberBehindSign
  have z1 := hI.rgR
  have z2 : (61 : Int32).toInt = 61 := rfl
  refine wpR_cl (w_Reader_take hI 61 (by omega)) (fun m6 u3 h7 => ?_)
  obtain ⟨i8, h4, h5⟩ := h7
  have q9 : frB M m6 := (frB.tr (frB.rf M) h5)
  refine wpR_eq (x := u3.toInt) (y := 0) rfl (rfl : (0 : Int32).toInt = 0) (fun c10 => ?_) (fun c10 => ?_)
  · skip
    exact wpR_some ⟨i8, q9⟩
  · skip
    have z11 : (4 : Int32).toInt = 4 := rfl
    refine wpR_cl (w_Reader_number i8 16 1 4 (by omega)) (fun m14 u12 h15 => ?_)
    obtain ⟨i16, h13⟩ := h15
    have q17 : frB M m14 := (frB.tr q9 h13)
    exact wpR_some ⟨i16, q17⟩
theorem w_Reader_readField {G : Gx} {K : Int} {M : Mm} (hI : IX G K M)  (a1 : Int32) (p0 : 0 ≤ a1.toInt ∧ a1.toInt ≤ 15) (p1 : a1.toInt = (M.1 1 0).toInt) (p2 : (M.1 1 6).toInt ≤ 127) : wpR (q_Reader_readField M a1) (fun M' r => IX G K M' ∧ (0 ≤ r.toInt ∧ r.toInt ≤ 1) ∧ ((M'.1 1 0).toInt = (M.1 1 0).toInt ∧ (M'.1 1 6).toInt ≤ (M.1 1 6).toInt + 1) ∧ (M'.1 14 = M.1 14)) := by
  unfold q_Reader_readField
  have z1 := hI.rgR
  have z2 := hI.dreg
  have z3 := hI.dfl
  have z4 := hI.drc
  have z5 := tnc (i := (M.1 1 6)) hI.dfl.1
  have z6 := hI.dreg
  have z7 := hI.dfl
  refine wpR_lt ?_
  have k8 : 0 ≤ ((M.1 1 6) : Int32).toInt ∧ ((M.1 1 6) : Int32).toInt < ((128 : Nat) : Int) := by omega
  refine wpR_ix (vI k8) ?_
  refine wpR_ltv (fun m9 e10 => ?_)
  have i11 : IX G K m9 := by rw [e10]; exact hI.s9 (by omega) (by omega)
  have q12 : m9.1 14 = M.1 14 := by rw [e10]; exact rfl
  have z13 : (m9.1 1 0).toInt = (M.1 1 0).toInt := by rw [e10]; rfl
  have z14 : (m9.1 1 6).toInt = (M.1 1 6).toInt := by rw [e10]; rfl
  have z15 : (m9.1 7 (M.1 1 6).toNatClampNeg).toInt = (M.1 7 (M.1 1 6).toNatClampNeg).toInt := by rw [e10]; rfl
  have z16 : (m9.1 9 (M.1 1 6).toNatClampNeg).toInt = (a1 : Int32).toInt := by rw [e10]; exact congrArg Int32.toInt updS
  have z17 : (m9.1 10 (M.1 1 6).toNatClampNeg).toInt = (M.1 10 (M.1 1 6).toNatClampNeg).toInt := by rw [e10]; rfl
  refine wpR_ix (vI k8) ?_
  refine wpR_ltv (fun m18 e19 => ?_)
  have i20 : IX G K m18 := by rw [e19]; exact i11.s8 _
  have q21 : m18.1 14 = M.1 14 := by rw [e19]; exact q12
  have z22 : (m18.1 1 0).toInt = (m9.1 1 0).toInt := by rw [e19]; rfl
  have z23 : (m18.1 1 6).toInt = (m9.1 1 6).toInt := by rw [e19]; rfl
  have z24 : (m18.1 7 (M.1 1 6).toNatClampNeg).toInt = (m9.1 7 (M.1 1 6).toNatClampNeg).toInt := by rw [e19]; rfl
  have z25 : (m18.1 9 (M.1 1 6).toNatClampNeg).toInt = (m9.1 9 (M.1 1 6).toNatClampNeg).toInt := by rw [e19]; rfl
  have z26 : (m18.1 10 (M.1 1 6).toNatClampNeg).toInt = (m9.1 10 (M.1 1 6).toNatClampNeg).toInt := by rw [e19]; rfl
  refine wpR_cl (w_Reader_name i20) (fun m30 u27 h31 => ?_)
  obtain ⟨i32, h28, h29⟩ := h31
  have q33 : m30.1 14 = M.1 14 := ((h29 14 (by decide)).trans q21)
  have z34 : (m30.1 1 0).toInt = (m18.1 1 0).toInt := by rw [h29 1 (by decide)]
  have z35 : (m30.1 1 6).toInt = (m18.1 1 6).toInt := by rw [h29 1 (by decide)]
  have z36 : (m30.1 7 (M.1 1 6).toNatClampNeg).toInt = (m18.1 7 (M.1 1 6).toNatClampNeg).toInt := by rw [h29 7 (by decide)]
  have z37 : (m30.1 9 (M.1 1 6).toNatClampNeg).toInt = (m18.1 9 (M.1 1 6).toNatClampNeg).toInt := by rw [h29 9 (by decide)]
  have z38 : (m30.1 10 (M.1 1 6).toNatClampNeg).toInt = (m18.1 10 (M.1 1 6).toNatClampNeg).toInt := by rw [h29 10 (by decide)]
  refine wpR_ix (vI k8) ?_
  refine wpR_ltv (fun m39 e40 => ?_)
  have i41 : IX G K m39 := by rw [e40]; exact i32.s7 (by omega) (by omega)
  have q42 : m39.1 14 = M.1 14 := by rw [e40]; exact q33
  have z43 : (m39.1 1 0).toInt = (m30.1 1 0).toInt := by rw [e40]; rfl
  have z44 : (m39.1 1 6).toInt = (m30.1 1 6).toInt := by rw [e40]; rfl
  have z45 : (m39.1 7 (M.1 1 6).toNatClampNeg).toInt = (u27 : Int32).toInt := by rw [e40]; exact congrArg Int32.toInt updS
  have z46 : (m39.1 9 (M.1 1 6).toNatClampNeg).toInt = (m30.1 9 (M.1 1 6).toNatClampNeg).toInt := by rw [e40]; rfl
  have z47 : (m39.1 10 (M.1 1 6).toNatClampNeg).toInt = (m30.1 10 (M.1 1 6).toNatClampNeg).toInt := by rw [e40]; rfl
  refine wpR_ix (vI k8) ?_
  have z48 := i41.dname (((M.1 1 6) : Int32).toNatClampNeg)
  refine wpR_eq (x := (m39.1 7 ((M.1 1 6) : Int32).toNatClampNeg : Int32).toInt) (y := (-1)) rfl (by decide : (-1 : Int32).toInt = -1) (fun c49 => ?_) (fun c49 => ?_)
  · skip
    have z50 : (0 : Int32).toInt = 0 := rfl
    exact wpR_some ⟨i41, (by omega), (by omega), q42⟩
  · skip
    refine wpR_cl (w_Reader_oneOf i41) (fun m54 u51 h55 => ?_)
    obtain ⟨i56, h52, h53⟩ := h55
    have q57 : m54.1 14 = M.1 14 := ((h53 14 (by decide)).trans q42)
    have z58 : (m54.1 1 0).toInt = (m39.1 1 0).toInt := by rw [h53 1 (by decide)]
    have z59 : (m54.1 1 6).toInt = (m39.1 1 6).toInt := by rw [h53 1 (by decide)]
    have z60 : (m54.1 7 (M.1 1 6).toNatClampNeg).toInt = (m39.1 7 (M.1 1 6).toNatClampNeg).toInt := by rw [h53 7 (by decide)]
    have z61 : (m54.1 9 (M.1 1 6).toNatClampNeg).toInt = (m39.1 9 (M.1 1 6).toNatClampNeg).toInt := by rw [h53 9 (by decide)]
    have z62 : (m54.1 10 (M.1 1 6).toNatClampNeg).toInt = (m39.1 10 (M.1 1 6).toNatClampNeg).toInt := by rw [h53 10 (by decide)]
    refine wpR_ix (vI k8) ?_
    refine wpR_ltv (fun m63 e64 => ?_)
    have i65 : IX G K m63 := by rw [e64]; exact i56.s10 (by omega) (by omega)
    have q66 : m63.1 14 = M.1 14 := by rw [e64]; exact q57
    have z67 : (m63.1 1 0).toInt = (m54.1 1 0).toInt := by rw [e64]; rfl
    have z68 : (m63.1 1 6).toInt = (m54.1 1 6).toInt := by rw [e64]; rfl
    have z69 : (m63.1 7 (M.1 1 6).toNatClampNeg).toInt = (m54.1 7 (M.1 1 6).toNatClampNeg).toInt := by rw [e64]; rfl
    have z70 : (m63.1 9 (M.1 1 6).toNatClampNeg).toInt = (m54.1 9 (M.1 1 6).toNatClampNeg).toInt := by rw [e64]; rfl
    have z71 : (m63.1 10 (M.1 1 6).toNatClampNeg).toInt = (u51 : Int32).toInt := by rw [e64]; exact congrArg Int32.toInt updS
    refine wpR_ix (vI k8) ?_
    have z72 := i65.dacc (((M.1 1 6) : Int32).toNatClampNeg)
    refine wpR_eq (x := (m63.1 10 ((M.1 1 6) : Int32).toNatClampNeg : Int32).toInt) (y := (-1)) rfl (by decide : (-1 : Int32).toInt = -1) (fun c73 => ?_) (fun c73 => ?_)
    · skip
      have z74 : (0 : Int32).toInt = 0 := rfl
      exact wpR_some ⟨i65, (by omega), (by omega), q66⟩
    · skip
      have z75 : (2 : Int32).toInt = 2 := rfl
      refine wpR_cl (w_Reader_number i65 10 1 2 (by omega)) (fun m78 u76 h79 => ?_)
      obtain ⟨i80, h77⟩ := h79
      have q81 : m78.1 14 = M.1 14 := ((h77 14 (by decide)).trans q66)
      have z82 : (m78.1 1 0).toInt = (m63.1 1 0).toInt := by rw [h77 1 (by decide)]
      have z83 : (m78.1 1 6).toInt = (m63.1 1 6).toInt := by rw [h77 1 (by decide)]
      have z84 : (m78.1 7 (M.1 1 6).toNatClampNeg).toInt = (m63.1 7 (M.1 1 6).toNatClampNeg).toInt := by rw [h77 7 (by decide)]
      have z85 : (m78.1 9 (M.1 1 6).toNatClampNeg).toInt = (m63.1 9 (M.1 1 6).toNatClampNeg).toInt := by rw [h77 9 (by decide)]
      have z86 : (m78.1 10 (M.1 1 6).toNatClampNeg).toInt = (m63.1 10 (M.1 1 6).toNatClampNeg).toInt := by rw [h77 10 (by decide)]
      refine wpR_ix (vI k8) ?_
      refine wpR_ltv (fun m87 e88 => ?_)
      have i89 : IX G K m87 := by rw [e88]; exact i80.s11 _
      have q90 : m87.1 14 = M.1 14 := by rw [e88]; exact q81
      have z91 : (m87.1 1 0).toInt = (m78.1 1 0).toInt := by rw [e88]; rfl
      have z92 : (m87.1 1 6).toInt = (m78.1 1 6).toInt := by rw [e88]; rfl
      have z93 : (m87.1 7 (M.1 1 6).toNatClampNeg).toInt = (m78.1 7 (M.1 1 6).toNatClampNeg).toInt := by rw [e88]; rfl
      have z94 : (m87.1 9 (M.1 1 6).toNatClampNeg).toInt = (m78.1 9 (M.1 1 6).toNatClampNeg).toInt := by rw [e88]; rfl
      have z95 : (m87.1 10 (M.1 1 6).toNatClampNeg).toInt = (m78.1 10 (M.1 1 6).toNatClampNeg).toInt := by rw [e88]; rfl
      refine wpR_ix (vI k8) ?_
      refine wpR_eq (x := (m87.1 11 ((M.1 1 6) : Int32).toNatClampNeg : Int32).toInt) (y := (-1)) rfl (by decide : (-1 : Int32).toInt = -1) (fun c96 => ?_) (fun c96 => ?_)
      · skip
        have z97 : (0 : Int32).toInt = 0 := rfl
        exact wpR_some ⟨i89, (by omega), (by omega), q90⟩
      · skip
        have z98 : (58 : Int32).toInt = 58 := rfl
        refine wpR_cl (w_Reader_take i89 58 (by omega)) (fun m102 u99 h103 => ?_)
        obtain ⟨i104, h100, h101⟩ := h103
        have q105 : m102.1 14 = M.1 14 := ((h101 14 (by decide)).trans q90)
        have z106 : (m102.1 1 0).toInt = (m87.1 1 0).toInt := by rw [h101 1 (by decide)]
        have z107 : (m102.1 1 6).toInt = (m87.1 1 6).toInt := by rw [h101 1 (by decide)]
        have z108 : (m102.1 7 (M.1 1 6).toNatClampNeg).toInt = (m87.1 7 (M.1 1 6).toNatClampNeg).toInt := by rw [h101 7 (by decide)]
        have z109 : (m102.1 9 (M.1 1 6).toNatClampNeg).toInt = (m87.1 9 (M.1 1 6).toNatClampNeg).toInt := by rw [h101 9 (by decide)]
        have z110 : (m102.1 10 (M.1 1 6).toNatClampNeg).toInt = (m87.1 10 (M.1 1 6).toNatClampNeg).toInt := by rw [h101 10 (by decide)]
        refine wpR_eq (x := u99.toInt) (y := 0) rfl (rfl : (0 : Int32).toInt = 0) (fun c111 => ?_) (fun c111 => ?_)
        · skip
          have z112 : (0 : Int32).toInt = 0 := rfl
          exact wpR_some ⟨i104, (by omega), (by omega), q105⟩
        · skip
          refine wpR_cl (w_Reader_number i104 10 1 2 (by omega)) (fun m115 u113 h116 => ?_)
          obtain ⟨i117, h114⟩ := h116
          have q118 : m115.1 14 = M.1 14 := ((h114 14 (by decide)).trans q105)
          have z119 : (m115.1 1 0).toInt = (m102.1 1 0).toInt := by rw [h114 1 (by decide)]
          have z120 : (m115.1 1 6).toInt = (m102.1 1 6).toInt := by rw [h114 1 (by decide)]
          have z121 : (m115.1 7 (M.1 1 6).toNatClampNeg).toInt = (m102.1 7 (M.1 1 6).toNatClampNeg).toInt := by rw [h114 7 (by decide)]
          have z122 : (m115.1 9 (M.1 1 6).toNatClampNeg).toInt = (m102.1 9 (M.1 1 6).toNatClampNeg).toInt := by rw [h114 9 (by decide)]
          have z123 : (m115.1 10 (M.1 1 6).toNatClampNeg).toInt = (m102.1 10 (M.1 1 6).toNatClampNeg).toInt := by rw [h114 10 (by decide)]
          refine wpR_ix (vI k8) ?_
          refine wpR_ltv (fun m124 e125 => ?_)
          have i126 : IX G K m124 := by rw [e125]; exact i117.s12 _
          have q127 : m124.1 14 = M.1 14 := by rw [e125]; exact q118
          have z128 : (m124.1 1 0).toInt = (m115.1 1 0).toInt := by rw [e125]; rfl
          have z129 : (m124.1 1 6).toInt = (m115.1 1 6).toInt := by rw [e125]; rfl
          have z130 : (m124.1 7 (M.1 1 6).toNatClampNeg).toInt = (m115.1 7 (M.1 1 6).toNatClampNeg).toInt := by rw [e125]; rfl
          have z131 : (m124.1 9 (M.1 1 6).toNatClampNeg).toInt = (m115.1 9 (M.1 1 6).toNatClampNeg).toInt := by rw [e125]; rfl
          have z132 : (m124.1 10 (M.1 1 6).toNatClampNeg).toInt = (m115.1 10 (M.1 1 6).toNatClampNeg).toInt := by rw [e125]; rfl
          refine wpR_ix (vI k8) ?_
          refine wpR_eq (x := (m124.1 12 ((M.1 1 6) : Int32).toNatClampNeg : Int32).toInt) (y := (-1)) rfl (by decide : (-1 : Int32).toInt = -1) (fun c133 => ?_) (fun c133 => ?_)
          · skip
            have z134 : (0 : Int32).toInt = 0 := rfl
            exact wpR_some ⟨i126, (by omega), (by omega), q127⟩
          · skip
            refine wpR_ro (w_Reader_next i126) (fun u135 h136 => ?_)
            refine wpR_eq (x := u135.toInt) (y := 61) rfl (rfl : (61 : Int32).toInt = 61) (fun c138 => ?_) (fun c138 => ?_)
            · skip
              refine wpR_cl (w_Reader_numberBehindSign i126) (fun m141 u139 h142 => ?_)
              obtain ⟨i143, h140⟩ := h142
              have q144 : m141.1 14 = M.1 14 := ((h140 14 (by decide)).trans q127)
              have z145 : (m141.1 1 0).toInt = (m124.1 1 0).toInt := by rw [h140 1 (by decide)]
              have z146 : (m141.1 1 6).toInt = (m124.1 1 6).toInt := by rw [h140 1 (by decide)]
              have z147 : (m141.1 7 (M.1 1 6).toNatClampNeg).toInt = (m124.1 7 (M.1 1 6).toNatClampNeg).toInt := by rw [h140 7 (by decide)]
              have z148 : (m141.1 9 (M.1 1 6).toNatClampNeg).toInt = (m124.1 9 (M.1 1 6).toNatClampNeg).toInt := by rw [h140 9 (by decide)]
              have z149 : (m141.1 10 (M.1 1 6).toNatClampNeg).toInt = (m124.1 10 (M.1 1 6).toNatClampNeg).toInt := by rw [h140 10 (by decide)]
              unfold q_Reader_readField_187
              refine wpR_ix (vI k8) ?_
              refine wpR_ltv (fun m150 e151 => ?_)
              have i152 : IX G K m150 := by rw [e151]; exact i143.s13 _
              have q153 : m150.1 14 = M.1 14 := by rw [e151]; exact q144
              have z154 : (m150.1 1 0).toInt = (m141.1 1 0).toInt := by rw [e151]; rfl
              have z155 : (m150.1 1 6).toInt = (m141.1 1 6).toInt := by rw [e151]; rfl
              have z156 : (m150.1 7 (M.1 1 6).toNatClampNeg).toInt = (m141.1 7 (M.1 1 6).toNatClampNeg).toInt := by rw [e151]; rfl
              have z157 : (m150.1 9 (M.1 1 6).toNatClampNeg).toInt = (m141.1 9 (M.1 1 6).toNatClampNeg).toInt := by rw [e151]; rfl
              have z158 : (m150.1 10 (M.1 1 6).toNatClampNeg).toInt = (m141.1 10 (M.1 1 6).toNatClampNeg).toInt := by rw [e151]; rfl
              have z162 : ((M.1 1 6) + 1 : Int32).toInt = (M.1 1 6 : Int32).toInt + 1 := iadd rfl (rfl : (1 : Int32).toInt = 1) (by omega) (by omega)
              have z163 := i152.dfl
              refine wpR_ltv (fun m159 e160 => ?_)
              have i161 : IX G K m159 := by rw [e160]; exact i152.s1_6 (v := (M.1 1 6)) (by omega) (by omega) (by omega) (by omega) (by omega) (by omega)
              have q164 : m159.1 14 = M.1 14 := by rw [e160]; exact q153
              have z165 : (m159.1 1 0).toInt = (m150.1 1 0).toInt := by rw [e160]; rfl
              have z166 : (m159.1 1 6).toInt = (((M.1 1 6) + 1) : Int32).toInt := by rw [e160]; rfl
              have z167 : (m159.1 7 (M.1 1 6).toNatClampNeg).toInt = (m150.1 7 (M.1 1 6).toNatClampNeg).toInt := by rw [e160]; rfl
              have z168 : (m159.1 9 (M.1 1 6).toNatClampNeg).toInt = (m150.1 9 (M.1 1 6).toNatClampNeg).toInt := by rw [e160]; rfl
              have z169 : (m159.1 10 (M.1 1 6).toNatClampNeg).toInt = (m150.1 10 (M.1 1 6).toNatClampNeg).toInt := by rw [e160]; rfl
              refine wpR_ix (vI k8) ?_
              refine wpR_eq (x := (m159.1 13 ((M.1 1 6) : Int32).toNatClampNeg : Int32).toInt) (y := (-1)) rfl (by decide : (-1 : Int32).toInt = -1) (fun c170 => ?_) (fun c170 => ?_)
              · skip
                have z171 : (0 : Int32).toInt = 0 := rfl
                exact wpR_some ⟨i161, (by omega), (by omega), q164⟩
              · skip
                have z172 : (59 : Int32).toInt = 59 := rfl
                refine wpR_cl (w_Reader_take i161 59 (by omega)) (fun m176 u173 h177 => ?_)
                obtain ⟨i178, h174, h175⟩ := h177
                have q179 : m176.1 14 = M.1 14 := ((h175 14 (by decide)).trans q164)
                have z180 : (m176.1 1 0).toInt = (m159.1 1 0).toInt := by rw [h175 1 (by decide)]
                have z181 : (m176.1 1 6).toInt = (m159.1 1 6).toInt := by rw [h175 1 (by decide)]
                have z182 : (m176.1 7 (M.1 1 6).toNatClampNeg).toInt = (m159.1 7 (M.1 1 6).toNatClampNeg).toInt := by rw [h175 7 (by decide)]
                have z183 : (m176.1 9 (M.1 1 6).toNatClampNeg).toInt = (m159.1 9 (M.1 1 6).toNatClampNeg).toInt := by rw [h175 9 (by decide)]
                have z184 : (m176.1 10 (M.1 1 6).toNatClampNeg).toInt = (m159.1 10 (M.1 1 6).toNatClampNeg).toInt := by rw [h175 10 (by decide)]
                refine wpR_eq (x := u173.toInt) (y := 0) rfl (rfl : (0 : Int32).toInt = 0) (fun c185 => ?_) (fun c185 => ?_)
                · skip
                  have z186 : (0 : Int32).toInt = 0 := rfl
                  exact wpR_some ⟨i178, (by omega), (by omega), q179⟩
                · skip
                  have z187 : (1 : Int32).toInt = 1 := rfl
                  exact wpR_some ⟨i178, (by omega), (by omega), q179⟩
            · skip
              unfold q_Reader_readField_187
              refine wpR_ix (vI k8) ?_
              refine wpR_ltv (fun m188 e189 => ?_)
              have i190 : IX G K m188 := by rw [e189]; exact i126.s13 _
              have q191 : m188.1 14 = M.1 14 := by rw [e189]; exact q127
              have z192 : (m188.1 1 0).toInt = (m124.1 1 0).toInt := by rw [e189]; rfl
              have z193 : (m188.1 1 6).toInt = (m124.1 1 6).toInt := by rw [e189]; rfl
              have z194 : (m188.1 7 (M.1 1 6).toNatClampNeg).toInt = (m124.1 7 (M.1 1 6).toNatClampNeg).toInt := by rw [e189]; rfl
              have z195 : (m188.1 9 (M.1 1 6).toNatClampNeg).toInt = (m124.1 9 (M.1 1 6).toNatClampNeg).toInt := by rw [e189]; rfl
              have z196 : (m188.1 10 (M.1 1 6).toNatClampNeg).toInt = (m124.1 10 (M.1 1 6).toNatClampNeg).toInt := by rw [e189]; rfl
              have z200 : ((M.1 1 6) + 1 : Int32).toInt = (M.1 1 6 : Int32).toInt + 1 := iadd rfl (rfl : (1 : Int32).toInt = 1) (by omega) (by omega)
              have z201 := i190.dfl
              refine wpR_ltv (fun m197 e198 => ?_)
              have i199 : IX G K m197 := by rw [e198]; exact i190.s1_6 (v := (M.1 1 6)) (by omega) (by omega) (by omega) (by omega) (by omega) (by omega)
              have q202 : m197.1 14 = M.1 14 := by rw [e198]; exact q191
              have z203 : (m197.1 1 0).toInt = (m188.1 1 0).toInt := by rw [e198]; rfl
              have z204 : (m197.1 1 6).toInt = (((M.1 1 6) + 1) : Int32).toInt := by rw [e198]; rfl
              have z205 : (m197.1 7 (M.1 1 6).toNatClampNeg).toInt = (m188.1 7 (M.1 1 6).toNatClampNeg).toInt := by rw [e198]; rfl
              have z206 : (m197.1 9 (M.1 1 6).toNatClampNeg).toInt = (m188.1 9 (M.1 1 6).toNatClampNeg).toInt := by rw [e198]; rfl
              have z207 : (m197.1 10 (M.1 1 6).toNatClampNeg).toInt = (m188.1 10 (M.1 1 6).toNatClampNeg).toInt := by rw [e198]; rfl
              refine wpR_ix (vI k8) ?_
              refine wpR_eq (x := (m197.1 13 ((M.1 1 6) : Int32).toNatClampNeg : Int32).toInt) (y := (-1)) rfl (by decide : (-1 : Int32).toInt = -1) (fun c208 => ?_) (fun c208 => ?_)
              · skip
                have z209 : (0 : Int32).toInt = 0 := rfl
                exact wpR_some ⟨i199, (by omega), (by omega), q202⟩
              · skip
                have z210 : (59 : Int32).toInt = 59 := rfl
                refine wpR_cl (w_Reader_take i199 59 (by omega)) (fun m214 u211 h215 => ?_)
                obtain ⟨i216, h212, h213⟩ := h215
                have q217 : m214.1 14 = M.1 14 := ((h213 14 (by decide)).trans q202)
                have z218 : (m214.1 1 0).toInt = (m197.1 1 0).toInt := by rw [h213 1 (by decide)]
                have z219 : (m214.1 1 6).toInt = (m197.1 1 6).toInt := by rw [h213 1 (by decide)]
                have z220 : (m214.1 7 (M.1 1 6).toNatClampNeg).toInt = (m197.1 7 (M.1 1 6).toNatClampNeg).toInt := by rw [h213 7 (by decide)]
                have z221 : (m214.1 9 (M.1 1 6).toNatClampNeg).toInt = (m197.1 9 (M.1 1 6).toNatClampNeg).toInt := by rw [h213 9 (by decide)]
                have z222 : (m214.1 10 (M.1 1 6).toNatClampNeg).toInt = (m197.1 10 (M.1 1 6).toNatClampNeg).toInt := by rw [h213 10 (by decide)]
                refine wpR_eq (x := u211.toInt) (y := 0) rfl (rfl : (0 : Int32).toInt = 0) (fun c223 => ?_) (fun c223 => ?_)
                · skip
                  have z224 : (0 : Int32).toInt = 0 := rfl
                  exact wpR_some ⟨i216, (by omega), (by omega), q217⟩
                · skip
                  have z225 : (1 : Int32).toInt = 1 := rfl
                  exact wpR_some ⟨i216, (by omega), (by omega), q217⟩
theorem w_Reader_readRegister_75 {G : Gx} {K : Int}  : ∀ (n' : Nat) (M : Mm) (v1 : Int32) (v2 : Int32), IX G K M → (0 ≤ v2.toInt ∧ v2.toInt ≤ 8) → (0 ≤ v1.toInt ∧ v1.toInt ≤ 15) → (v1.toInt = (M.1 1 0).toInt) → ((M.1 1 6).toInt ≤ 8 * v1.toInt + v2.toInt) → 8 - v2.toInt < (n' : Int) → wpR (q_Reader_readRegister_75 n' M v1 v2) (fun M' r => IX G K M' ∧ (0 ≤ r.toInt ∧ r.toInt ≤ 1) ∧ ((M'.1 1 0).toInt = (M.1 1 0).toInt ∧ (r.toInt ≠ 0 → (M'.1 1 6).toInt ≤ 8 * (M'.1 1 0).toInt + 8)) ∧ (M'.1 14 = M.1 14)) := by
  intro n'
  induction n' with
  | zero =>
    intro M v1 v2 hI p0 p1 p2 p3 hn
    have z1 := hI.rgR
    have z2 := hI.dreg
    have z3 := hI.dfl
    have z4 := hI.drc
    exfalso; omega
  | succ n' ih =>
    intro M v1 v2 hI p0 p1 p2 p3 hn
    rw [q_Reader_readRegister_75]
    have z5 := hI.rgR
    have z6 := hI.dreg
    have z7 := hI.dfl
    have z8 := hI.drc
    have z9 := hI.dreg
    have z10 := hI.dfl
    refine wpR_le (x := 8) (y := v2.toInt) (rfl : (8 : Int32).toInt = 8) rfl (fun c11 => ?_) (fun c11 => ?_)
    · skip
      unfold q_Reader_readRegister_113
      have z12 : (125 : Int32).toInt = 125 := rfl
      refine wpR_cl (w_Reader_take hI 125 (by omega)) (fun m16 u13 h17 => ?_)
      obtain ⟨i18, h14, h15⟩ := h17
      have q19 : m16.1 14 = M.1 14 := ((h15 14 (by decide)).trans rfl)
      have z20 : (m16.1 1 0).toInt = (M.1 1 0).toInt := by rw [h15 1 (by decide)]
      have z21 : (m16.1 1 6).toInt = (M.1 1 6).toInt := by rw [h15 1 (by decide)]
      refine wpR_bz (b01 (by omega)) ?_
      exact wpR_some ⟨i18, (by omega), (by omega), q19⟩
    · skip
      refine wpR_le (x := v2.toInt) (y := 0) rfl (rfl : (0 : Int32).toInt = 0) (fun c22 => ?_) (fun c22 => ?_)
      · skip
        unfold q_Reader_readRegister_97
        refine wpR_cl (w_Reader_readField hI v1 (by omega) (by omega) (by omega)) (fun m27 u23 h28 => ?_)
        obtain ⟨i29, h24, h25, h26⟩ := h28
        have q30 : m27.1 14 = M.1 14 := (h26.trans rfl)
        refine wpR_eq (x := u23.toInt) (y := 0) rfl (rfl : (0 : Int32).toInt = 0) (fun c31 => ?_) (fun c31 => ?_)
        · skip
          have z32 : (0 : Int32).toInt = 0 := rfl
          exact wpR_some ⟨i29, (by omega), (by omega), q30⟩
        · skip
          have z33 : (v2 + 1 : Int32).toInt = v2.toInt + 1 := iadd rfl (rfl : (1 : Int32).toInt = 1) (by omega) (by omega)
          have z34 := i29.dreg
          have z35 := i29.dfl
          refine wpR_mono (ih m27 v1 (v2 + 1) i29 (by omega) (by omega) (by omega) (by omega) (by omega)) (fun _ _ h39 => ?_)
          obtain ⟨i40, h36, h37, h38⟩ := h39
          exact ⟨i40, h36, (by omega), (h38.trans q30)⟩
      · skip
        refine wpR_ro (w_Reader_next hI) (fun u41 h42 => ?_)
        refine wpR_eq (x := u41.toInt) (y := 125) rfl (rfl : (125 : Int32).toInt = 125) (fun c44 => ?_) (fun c44 => ?_)
        · skip
          unfold q_Reader_readRegister_113
          have z45 : (125 : Int32).toInt = 125 := rfl
          refine wpR_cl (w_Reader_take hI 125 (by omega)) (fun m49 u46 h50 => ?_)
          obtain ⟨i51, h47, h48⟩ := h50
          have q52 : m49.1 14 = M.1 14 := ((h48 14 (by decide)).trans rfl)
          have z53 : (m49.1 1 0).toInt = (M.1 1 0).toInt := by rw [h48 1 (by decide)]
          have z54 : (m49.1 1 6).toInt = (M.1 1 6).toInt := by rw [h48 1 (by decide)]
          refine wpR_bz (b01 (by omega)) ?_
          exact wpR_some ⟨i51, (by omega), (by omega), q52⟩
        · skip
          unfold q_Reader_readRegister_97
          refine wpR_cl (w_Reader_readField hI v1 (by omega) (by omega) (by omega)) (fun m59 u55 h60 => ?_)
          obtain ⟨i61, h56, h57, h58⟩ := h60
          have q62 : m59.1 14 = M.1 14 := (h58.trans rfl)
          refine wpR_eq (x := u55.toInt) (y := 0) rfl (rfl : (0 : Int32).toInt = 0) (fun c63 => ?_) (fun c63 => ?_)
          · skip
            have z64 : (0 : Int32).toInt = 0 := rfl
            exact wpR_some ⟨i61, (by omega), (by omega), q62⟩
          · skip
            have z65 : (v2 + 1 : Int32).toInt = v2.toInt + 1 := iadd rfl (rfl : (1 : Int32).toInt = 1) (by omega) (by omega)
            have z66 := i61.dreg
            have z67 := i61.dfl
            refine wpR_mono (ih m59 v1 (v2 + 1) i61 (by omega) (by omega) (by omega) (by omega) (by omega)) (fun _ _ h71 => ?_)
            obtain ⟨i72, h68, h69, h70⟩ := h71
            exact ⟨i72, h68, (by omega), (h70.trans q62)⟩
theorem w_Reader_readRegister {G : Gx} {K : Int} {M : Mm} (hI : IX G K M)  (a1 : Int32) (p0 : 0 ≤ a1.toInt ∧ a1.toInt ≤ 15) (p1 : a1.toInt = (M.1 1 0).toInt) (p2 : (M.1 1 6).toInt ≤ 8 * a1.toInt) : wpR (q_Reader_readRegister M a1) (fun M' r => IX G K M' ∧ (0 ≤ r.toInt ∧ r.toInt ≤ 1) ∧ ((M'.1 1 0).toInt = (M.1 1 0).toInt ∧ (r.toInt ≠ 0 → (M'.1 1 6).toInt ≤ 8 * (M'.1 1 0).toInt + 8)) ∧ (M'.1 14 = M.1 14)) := by
  unfold q_Reader_readRegister
  have z1 := hI.rgR
  have z2 := hI.dreg
  have z3 := hI.dfl
  have z4 := hI.drc
  have z5 := hI.dreg
  have z6 := hI.dfl
  have k7 : 0 ≤ (a1 : Int32).toInt ∧ (a1 : Int32).toInt < ((16 : Nat) : Int) := by omega
  refine wpR_ix (vI k7) ?_
  refine wpR_ltv (fun m8 e9 => ?_)
  have i10 : IX G K m8 := by rw [e9]; exact hI.s2 _
  have q11 : m8.1 14 = M.1 14 := by rw [e9]; exact rfl
  have z12 : (m8.1 1 0).toInt = (M.1 1 0).toInt := by rw [e9]; rfl
  have z13 : (m8.1 1 6).toInt = (M.1 1 6).toInt := by rw [e9]; rfl
  have z14 : (64 : Int32).toInt = 64 := rfl
  refine wpR_cl (w_Reader_take i10 64 (by omega)) (fun m18 u15 h19 => ?_)
  obtain ⟨i20, h16, h17⟩ := h19
  have q21 : m18.1 14 = M.1 14 := ((h17 14 (by decide)).trans q11)
  have z22 : (m18.1 1 0).toInt = (m8.1 1 0).toInt := by rw [h17 1 (by decide)]
  have z23 : (m18.1 1 6).toInt = (m8.1 1 6).toInt := by rw [h17 1 (by decide)]
  refine wpR_eq (x := u15.toInt) (y := 0) rfl (rfl : (0 : Int32).toInt = 0) (fun c24 => ?_) (fun c24 => ?_)
  · skip
    have z25 : (0 : Int32).toInt = 0 := rfl
    exact wpR_some ⟨i20, (by omega), (by omega), q21⟩
  · skip
    have z26 : (2 : Int32).toInt = 2 := rfl
    refine wpR_cl (w_Reader_number i20 16 2 2 (by omega)) (fun m29 u27 h30 => ?_)
    obtain ⟨i31, h28⟩ := h30
    have q32 : m29.1 14 = M.1 14 := ((h28 14 (by decide)).trans q21)
    have z33 : (m29.1 1 0).toInt = (m18.1 1 0).toInt := by rw [h28 1 (by decide)]
    have z34 : (m29.1 1 6).toInt = (m18.1 1 6).toInt := by rw [h28 1 (by decide)]
    refine wpR_ix (vI k7) ?_
    refine wpR_ltv (fun m35 e36 => ?_)
    have i37 : IX G K m35 := by rw [e36]; exact i31.s3 _
    have q38 : m35.1 14 = M.1 14 := by rw [e36]; exact q32
    have z39 : (m35.1 1 0).toInt = (m29.1 1 0).toInt := by rw [e36]; rfl
    have z40 : (m35.1 1 6).toInt = (m29.1 1 6).toInt := by rw [e36]; rfl
    refine wpR_ix (vI k7) ?_
    refine wpR_eq (x := (m35.1 3 (a1 : Int32).toNatClampNeg : Int32).toInt) (y := (-1)) rfl (by decide : (-1 : Int32).toInt = -1) (fun c41 => ?_) (fun c41 => ?_)
    · skip
      have z42 : (0 : Int32).toInt = 0 := rfl
      exact wpR_some ⟨i37, (by omega), (by omega), q38⟩
    · skip
      refine wpR_cl (w_Reader_readBank i37 a1 (by omega)) (fun m47 u43 h48 => ?_)
      obtain ⟨i49, h44, h45, h46⟩ := h48
      have q50 : m47.1 14 = M.1 14 := (h46.trans q38)
      have z51 : (m47.1 1 0).toInt = (m35.1 1 0).toInt := by rw [h45]
      have z52 : (m47.1 1 6).toInt = (m35.1 1 6).toInt := by rw [h45]
      refine wpR_eq (x := u43.toInt) (y := 0) rfl (rfl : (0 : Int32).toInt = 0) (fun c53 => ?_) (fun c53 => ?_)
      · skip
        have z54 : (0 : Int32).toInt = 0 := rfl
        exact wpR_some ⟨i49, (by omega), (by omega), q50⟩
      · skip
        have z55 : (123 : Int32).toInt = 123 := rfl
        refine wpR_cl (w_Reader_take i49 123 (by omega)) (fun m59 u56 h60 => ?_)
        obtain ⟨i61, h57, h58⟩ := h60
        have q62 : m59.1 14 = M.1 14 := ((h58 14 (by decide)).trans q50)
        have z63 : (m59.1 1 0).toInt = (m47.1 1 0).toInt := by rw [h58 1 (by decide)]
        have z64 : (m59.1 1 6).toInt = (m47.1 1 6).toInt := by rw [h58 1 (by decide)]
        refine wpR_eq (x := u56.toInt) (y := 0) rfl (rfl : (0 : Int32).toInt = 0) (fun c65 => ?_) (fun c65 => ?_)
        · skip
          have z66 : (0 : Int32).toInt = 0 := rfl
          exact wpR_some ⟨i61, (by omega), (by omega), q62⟩
        · skip
          have z67 : (0 : Int32).toInt = 0 := rfl
          have z68 := i61.dreg
          have z69 := i61.dfl
          refine wpR_mono (w_Reader_readRegister_75 4000 m59 a1 0 i61 (by omega) (by omega) (by omega) (by omega) (by omega)) (fun _ _ h73 => ?_)
          obtain ⟨i74, h70, h71, h72⟩ := h73
          exact ⟨i74, h70, (by omega), (h72.trans q62)⟩
theorem w_Reader_readRegisters_2 {G : Gx} {K : Int}  : ∀ (n' : Nat) (M : Mm) (v1 : Int32), IX G K M → (0 ≤ v1.toInt ∧ v1.toInt ≤ 16) → (v1.toInt = (M.1 1 0).toInt) → ((M.1 1 6).toInt ≤ 8 * v1.toInt) → (DS M) → 16 - v1.toInt < (n' : Int) → wpR (q_Reader_readRegisters_2 n' M v1) (fun M' r => IX G K M' ∧ (0 ≤ r.toInt ∧ r.toInt ≤ 1) ∧ ((r.toInt ≠ 0 → DS M')) ∧ (M'.1 14 = M.1 14)) := by
  intro n'
  induction n' with
  | zero =>
    intro M v1 hI p0 p1 p2 p3 hn
    have z1 := hI.rgR
    have z2 := hI.dreg
    have z3 := hI.dfl
    have z4 := hI.drc
    exfalso; omega
  | succ n' ih =>
    intro M v1 hI p0 p1 p2 p3 hn
    rw [q_Reader_readRegisters_2]
    have z5 := hI.rgR
    have z6 := hI.dreg
    have z7 := hI.dfl
    have z8 := hI.drc
    have z9 := hI.dreg
    have z10 := hI.dfl
    refine wpR_le (x := 16) (y := v1.toInt) (rfl : (16 : Int32).toInt = 16) rfl (fun c11 => ?_) (fun c11 => ?_)
    · skip
      have z12 : (1 : Int32).toInt = 1 := rfl
      exact wpR_some ⟨hI, (by omega), (fun _ => p3), rfl⟩
    · skip
      refine wpR_le (x := v1.toInt) (y := 0) rfl (rfl : (0 : Int32).toInt = 0) (fun c13 => ?_) (fun c13 => ?_)
      · skip
        unfold q_Reader_readRegisters_24
        refine wpR_cl (w_Reader_readRegister hI v1 (by omega) (by omega) (by omega)) (fun m18 u14 h19 => ?_)
        obtain ⟨i20, h15, h16, h17⟩ := h19
        have q21 : m18.1 14 = M.1 14 := (h17.trans rfl)
        refine wpR_eq (x := u14.toInt) (y := 0) rfl (rfl : (0 : Int32).toInt = 0) (fun c22 => ?_) (fun c22 => ?_)
        · skip
          have z23 : (0 : Int32).toInt = 0 := rfl
          exact wpR_some ⟨i20, (by omega), (fun h => absurd rfl h), q21⟩
        · skip
          have z27 : (v1 + 1 : Int32).toInt = v1.toInt + 1 := iadd rfl (rfl : (1 : Int32).toInt = 1) (by omega) (by omega)
          refine wpR_ltv (fun m24 e25 => ?_)
          have i26 : IX G K m24 := by rw [e25]; exact i20.s1_0 (by omega)
          have q28 : m24.1 14 = M.1 14 := by rw [e25]; exact q21
          have z29 : (m24.1 1 0).toInt = ((v1 + 1) : Int32).toInt := by rw [e25]; rfl
          have z30 : (m24.1 1 6).toInt = (m18.1 1 6).toInt := by rw [e25]; rfl
          have z31 := i26.dreg
          have z32 := i26.dfl
          refine wpR_mono (ih m24 (v1 + 1) i26 (by omega) (by omega) (by omega) (DS.up i20 e25 (by omega)) (by omega)) (fun _ _ h36 => ?_)
          obtain ⟨i37, h33, h34, h35⟩ := h36
          exact ⟨i37, h33, h34, (h35.trans q28)⟩
      · skip
        refine wpR_ro (w_Reader_next hI) (fun u38 h39 => ?_)
        refine wpR_eq (x := u38.toInt) (y := 64) rfl (rfl : (64 : Int32).toInt = 64) (fun c41 => ?_) (fun c41 => ?_)
        · skip
          unfold q_Reader_readRegisters_24
          refine wpR_cl (w_Reader_readRegister hI v1 (by omega) (by omega) (by omega)) (fun m46 u42 h47 => ?_)
          obtain ⟨i48, h43, h44, h45⟩ := h47
          have q49 : m46.1 14 = M.1 14 := (h45.trans rfl)
          refine wpR_eq (x := u42.toInt) (y := 0) rfl (rfl : (0 : Int32).toInt = 0) (fun c50 => ?_) (fun c50 => ?_)
          · skip
            have z51 : (0 : Int32).toInt = 0 := rfl
            exact wpR_some ⟨i48, (by omega), (fun h => absurd rfl h), q49⟩
          · skip
            have z55 : (v1 + 1 : Int32).toInt = v1.toInt + 1 := iadd rfl (rfl : (1 : Int32).toInt = 1) (by omega) (by omega)
            refine wpR_ltv (fun m52 e53 => ?_)
            have i54 : IX G K m52 := by rw [e53]; exact i48.s1_0 (by omega)
            have q56 : m52.1 14 = M.1 14 := by rw [e53]; exact q49
            have z57 : (m52.1 1 0).toInt = ((v1 + 1) : Int32).toInt := by rw [e53]; rfl
            have z58 : (m52.1 1 6).toInt = (m46.1 1 6).toInt := by rw [e53]; rfl
            have z59 := i54.dreg
            have z60 := i54.dfl
            refine wpR_mono (ih m52 (v1 + 1) i54 (by omega) (by omega) (by omega) (DS.up i48 e53 (by omega)) (by omega)) (fun _ _ h64 => ?_)
            obtain ⟨i65, h61, h62, h63⟩ := h64
            exact ⟨i65, h61, h62, (h63.trans q56)⟩
        · skip
          have z66 : (1 : Int32).toInt = 1 := rfl
          exact wpR_some ⟨hI, (by omega), (fun _ => p3), rfl⟩
theorem w_Reader_readRegisters {G : Gx} {K : Int} {M : Mm} (hI : IX G K M)  (p0 : (M.1 1 0).toInt = 0 ∧ (M.1 1 6).toInt = 0) (p1 : DS M) : wpR (q_Reader_readRegisters M) (fun M' r => IX G K M' ∧ (0 ≤ r.toInt ∧ r.toInt ≤ 1) ∧ ((r.toInt ≠ 0 → DS M')) ∧ (M'.1 14 = M.1 14)) := by
  unfold q_Reader_readRegisters
  have z1 := hI.rgR
  have z2 := hI.dreg
  have z3 := hI.dfl
  have z4 := hI.drc
  have z5 := hI.dreg
  have z6 := hI.dfl
  have z7 : (0 : Int32).toInt = 0 := rfl
  refine wpR_mono (w_Reader_readRegisters_2 4000 M 0 hI (by omega) (by omega) (by omega) p1 (by omega)) (fun _ _ h11 => ?_)
  obtain ⟨i12, h8, h9, h10⟩ := h11
  exact ⟨i12, h8, h9, (h10.trans rfl)⟩
theorem w_Reader_oneOf_1 {G : Gx} {K : Int} {M : Mm} (hI : IX G K M)  : wpR (q_Reader_oneOf_1 M) (fun M' r => IX G K M' ∧ (-1 ≤ r.toInt ∧ r.toInt ≤ 6) ∧ (frB M M')) := by
  unfold q_Reader_oneOf_1
  have z1 := hI.rgR
  refine wpR_ro (w_Reader_next hI) (fun u2 h3 => ?_)
  refine wpR_ro (w_String_indexOf_2 hI u2) (fun u5 h6 => ?_)
  refine wpR_lw (x := u5.toInt) (y := 0) rfl (rfl : (0 : Int32).toInt = 0) (fun c8 => ?_) (fun c8 => ?_)
  · skip
    unfold q_Reader_oneOf_1_23
    refine wpR_lw (x := u5.toInt) (y := 0) rfl (rfl : (0 : Int32).toInt = 0) (fun c9 => ?_) (fun c9 => ?_)
    · skip
      have z10 : (-1 : Int32).toInt = -1 := by decide
      exact wpR_some ⟨hI, (by omega), (frB.rf M)⟩
    · skip
      exact wpR_some ⟨hI, (by omega), (frB.rf M)⟩
  · skip
    have z14 := hI.atR
    have z15 : ((M.1 21 3) + 1 : Int32).toInt = (M.1 21 3 : Int32).toInt + 1 := iadd rfl (rfl : (1 : Int32).toInt = 1) (by omega) (by omega)
    refine wpR_ltv (fun m11 e12 => ?_)
    have i13 : IX G K m11 := by rw [e12]; exact hI.s21_3 (by omega)
    have q16 : frB M m11 := by rw [e12]; exact frB.s21_3 (frB.rf M)
    unfold q_Reader_oneOf_1_23
    refine wpR_lw (x := u5.toInt) (y := 0) rfl (rfl : (0 : Int32).toInt = 0) (fun c17 => ?_) (fun c17 => ?_)
    · skip
      have z18 : (-1 : Int32).toInt = -1 := by decide
      exact wpR_some ⟨i13, (by omega), q16⟩
    · skip
      exact wpR_some ⟨i13, (by omega), q16⟩
theorem w_Reader_readRule {G : Gx} {K : Int} {M : Mm} (hI : IX G K M)  (a1 : Int32) (p0 : 0 ≤ a1.toInt ∧ a1.toInt ≤ 11) (p1 : a1.toInt = (M.1 14 0).toInt) : wpR (q_Reader_readRule M a1) (fun M' r => IX G K M' ∧ (0 ≤ r.toInt ∧ r.toInt ≤ 1) ∧ ((M'.1 14 0).toInt = (M.1 14 0).toInt ∧ (r.toInt ≠ 0 → 0 ≤ (M'.1 16 a1.toNatClampNeg).toInt ∧ 0 ≤ (M'.1 17 a1.toNatClampNeg).toInt)) ∧ (M'.1 1 = M.1 1) ∧ (M'.1 9 = M.1 9)) := by
  unfold q_Reader_readRule
  have z1 := hI.rgR
  have z2 := hI.dreg
  have z3 := hI.dfl
  have z4 := hI.drc
  have z5 := tnc (i := a1) (by omega)
  have z6 := hI.drc
  have k7 : 0 ≤ (a1 : Int32).toInt ∧ (a1 : Int32).toInt < ((12 : Nat) : Int) := by omega
  refine wpR_ix (vI k7) ?_
  have z11 := hI.atR
  refine wpR_ltv (fun m8 e9 => ?_)
  have i10 : IX G K m8 := by rw [e9]; exact hI.s19 _ (by omega)
  have q12 : m8.1 1 = M.1 1 := by rw [e9]; exact rfl
  have q13 : m8.1 9 = M.1 9 := by rw [e9]; exact rfl
  have z14 : (m8.1 14 0).toInt = (M.1 14 0).toInt := by rw [e9]; rfl
  have z15 : (m8.1 16 a1.toNatClampNeg).toInt = (M.1 16 a1.toNatClampNeg).toInt := by rw [e9]; rfl
  have z16 : (m8.1 17 a1.toNatClampNeg).toInt = (M.1 17 a1.toNatClampNeg).toInt := by rw [e9]; rfl
  refine wpR_cl (w_Reader_name i10) (fun m20 u17 h21 => ?_)
  obtain ⟨i22, h18, h19⟩ := h21
  have q23 : m20.1 1 = M.1 1 := ((h19 1 (by decide)).trans q12)
  have q24 : m20.1 9 = M.1 9 := ((h19 9 (by decide)).trans q13)
  have z25 : (m20.1 14 0).toInt = (m8.1 14 0).toInt := by rw [h19 14 (by decide)]
  have z26 : (m20.1 16 a1.toNatClampNeg).toInt = (m8.1 16 a1.toNatClampNeg).toInt := by rw [h19 16 (by decide)]
  have z27 : (m20.1 17 a1.toNatClampNeg).toInt = (m8.1 17 a1.toNatClampNeg).toInt := by rw [h19 17 (by decide)]
  refine wpR_ix (vI k7) ?_
  refine wpR_ltv (fun m28 e29 => ?_)
  have i30 : IX G K m28 := by rw [e29]; exact i22.s16 (by omega) (by omega)
  have q31 : m28.1 1 = M.1 1 := by rw [e29]; exact q23
  have q32 : m28.1 9 = M.1 9 := by rw [e29]; exact q24
  have z33 : (m28.1 14 0).toInt = (m20.1 14 0).toInt := by rw [e29]; rfl
  have z34 : (m28.1 16 a1.toNatClampNeg).toInt = (u17 : Int32).toInt := by rw [e29]; exact congrArg Int32.toInt updS
  have z35 : (m28.1 17 a1.toNatClampNeg).toInt = (m20.1 17 a1.toNatClampNeg).toInt := by rw [e29]; rfl
  refine wpR_ix (vI k7) ?_
  have z36 := i30.da ((a1 : Int32).toNatClampNeg)
  refine wpR_eq (x := (m28.1 16 (a1 : Int32).toNatClampNeg : Int32).toInt) (y := (-1)) rfl (by decide : (-1 : Int32).toInt = -1) (fun c37 => ?_) (fun c37 => ?_)
  · skip
    have z38 : (0 : Int32).toInt = 0 := rfl
    exact wpR_some ⟨i30, (by omega), (by omega), q31, q32⟩
  · skip
    refine wpR_cl (w_Reader_oneOf_1 i30) (fun m42 u39 h43 => ?_)
    obtain ⟨i44, h40, h41⟩ := h43
    have q45 : m42.1 1 = M.1 1 := ((h41 1 (by decide)).trans q31)
    have q46 : m42.1 9 = M.1 9 := ((h41 9 (by decide)).trans q32)
    have z47 : (m42.1 14 0).toInt = (m28.1 14 0).toInt := by rw [h41 14 (by decide)]
    have z48 : (m42.1 16 a1.toNatClampNeg).toInt = (m28.1 16 a1.toNatClampNeg).toInt := by rw [h41 16 (by decide)]
    have z49 : (m42.1 17 a1.toNatClampNeg).toInt = (m28.1 17 a1.toNatClampNeg).toInt := by rw [h41 17 (by decide)]
    refine wpR_ix (vI k7) ?_
    refine wpR_ltv (fun m50 e51 => ?_)
    have i52 : IX G K m50 := by rw [e51]; exact i44.s15 _
    have q53 : m50.1 1 = M.1 1 := by rw [e51]; exact q45
    have q54 : m50.1 9 = M.1 9 := by rw [e51]; exact q46
    have z55 : (m50.1 14 0).toInt = (m42.1 14 0).toInt := by rw [e51]; rfl
    have z56 : (m50.1 16 a1.toNatClampNeg).toInt = (m42.1 16 a1.toNatClampNeg).toInt := by rw [e51]; rfl
    have z57 : (m50.1 17 a1.toNatClampNeg).toInt = (m42.1 17 a1.toNatClampNeg).toInt := by rw [e51]; rfl
    refine wpR_ix (vI k7) ?_
    refine wpR_eq (x := (m50.1 15 (a1 : Int32).toNatClampNeg : Int32).toInt) (y := (-1)) rfl (by decide : (-1 : Int32).toInt = -1) (fun c58 => ?_) (fun c58 => ?_)
    · skip
      have z59 : (0 : Int32).toInt = 0 := rfl
      exact wpR_some ⟨i52, (by omega), (by omega), q53, q54⟩
    · skip
      refine wpR_ix (vI k7) ?_
      have z63 := i52.atR
      refine wpR_ltv (fun m60 e61 => ?_)
      have i62 : IX G K m60 := by rw [e61]; exact i52.s20 _ (by omega)
      have q64 : m60.1 1 = M.1 1 := by rw [e61]; exact q53
      have q65 : m60.1 9 = M.1 9 := by rw [e61]; exact q54
      have z66 : (m60.1 14 0).toInt = (m50.1 14 0).toInt := by rw [e61]; rfl
      have z67 : (m60.1 16 a1.toNatClampNeg).toInt = (m50.1 16 a1.toNatClampNeg).toInt := by rw [e61]; rfl
      have z68 : (m60.1 17 a1.toNatClampNeg).toInt = (m50.1 17 a1.toNatClampNeg).toInt := by rw [e61]; rfl
      refine wpR_cl (w_Reader_name i62) (fun m72 u69 h73 => ?_)
      obtain ⟨i74, h70, h71⟩ := h73
      have q75 : m72.1 1 = M.1 1 := ((h71 1 (by decide)).trans q64)
      have q76 : m72.1 9 = M.1 9 := ((h71 9 (by decide)).trans q65)
      have z77 : (m72.1 14 0).toInt = (m60.1 14 0).toInt := by rw [h71 14 (by decide)]
      have z78 : (m72.1 16 a1.toNatClampNeg).toInt = (m60.1 16 a1.toNatClampNeg).toInt := by rw [h71 16 (by decide)]
      have z79 : (m72.1 17 a1.toNatClampNeg).toInt = (m60.1 17 a1.toNatClampNeg).toInt := by rw [h71 17 (by decide)]
      refine wpR_ix (vI k7) ?_
      refine wpR_ltv (fun m80 e81 => ?_)
      have i82 : IX G K m80 := by rw [e81]; exact i74.s17 (by omega) (by omega)
      have q83 : m80.1 1 = M.1 1 := by rw [e81]; exact q75
      have q84 : m80.1 9 = M.1 9 := by rw [e81]; exact q76
      have z85 : (m80.1 14 0).toInt = (m72.1 14 0).toInt := by rw [e81]; rfl
      have z86 : (m80.1 16 a1.toNatClampNeg).toInt = (m72.1 16 a1.toNatClampNeg).toInt := by rw [e81]; rfl
      have z87 : (m80.1 17 a1.toNatClampNeg).toInt = (u69 : Int32).toInt := by rw [e81]; exact congrArg Int32.toInt updS
      refine wpR_ix (vI k7) ?_
      have z88 := i82.db ((a1 : Int32).toNatClampNeg)
      refine wpR_eq (x := (m80.1 17 (a1 : Int32).toNatClampNeg : Int32).toInt) (y := (-1)) rfl (by decide : (-1 : Int32).toInt = -1) (fun c89 => ?_) (fun c89 => ?_)
      · skip
        have z90 : (0 : Int32).toInt = 0 := rfl
        exact wpR_some ⟨i82, (by omega), (by omega), q83, q84⟩
      · skip
        refine wpR_ix (vI k7) ?_
        refine wpR_eq (x := (m80.1 15 (a1 : Int32).toNatClampNeg : Int32).toInt) (y := 1) rfl (rfl : (1 : Int32).toInt = 1) (fun c91 => ?_) (fun c91 => ?_)
        · skip
          refine wpR_cl (w_Reader_numberBehindSign i82) (fun m94 u92 h95 => ?_)
          obtain ⟨i96, h93⟩ := h95
          have q97 : m94.1 1 = M.1 1 := ((h93 1 (by decide)).trans q83)
          have q98 : m94.1 9 = M.1 9 := ((h93 9 (by decide)).trans q84)
          have z99 : (m94.1 14 0).toInt = (m80.1 14 0).toInt := by rw [h93 14 (by decide)]
          have z100 : (m94.1 16 a1.toNatClampNeg).toInt = (m80.1 16 a1.toNatClampNeg).toInt := by rw [h93 16 (by decide)]
          have z101 : (m94.1 17 a1.toNatClampNeg).toInt = (m80.1 17 a1.toNatClampNeg).toInt := by rw [h93 17 (by decide)]
          unfold q_Reader_readRule_119
          refine wpR_ix (vI k7) ?_
          refine wpR_ltv (fun m102 e103 => ?_)
          have i104 : IX G K m102 := by rw [e103]; exact i96.s18 _
          have q105 : m102.1 1 = M.1 1 := by rw [e103]; exact q97
          have q106 : m102.1 9 = M.1 9 := by rw [e103]; exact q98
          have z107 : (m102.1 14 0).toInt = (m94.1 14 0).toInt := by rw [e103]; rfl
          have z108 : (m102.1 16 a1.toNatClampNeg).toInt = (m94.1 16 a1.toNatClampNeg).toInt := by rw [e103]; rfl
          have z109 : (m102.1 17 a1.toNatClampNeg).toInt = (m94.1 17 a1.toNatClampNeg).toInt := by rw [e103]; rfl
          refine wpR_ix (vI k7) ?_
          refine wpR_eq (x := (m102.1 18 (a1 : Int32).toNatClampNeg : Int32).toInt) (y := (-1)) rfl (by decide : (-1 : Int32).toInt = -1) (fun c110 => ?_) (fun c110 => ?_)
          · skip
            have z111 : (0 : Int32).toInt = 0 := rfl
            exact wpR_some ⟨i104, (by omega), (by omega), q105, q106⟩
          · skip
            have z112 : (59 : Int32).toInt = 59 := rfl
            refine wpR_cl (w_Reader_take i104 59 (by omega)) (fun m116 u113 h117 => ?_)
            obtain ⟨i118, h114, h115⟩ := h117
            have q119 : m116.1 1 = M.1 1 := ((h115 1 (by decide)).trans q105)
            have q120 : m116.1 9 = M.1 9 := ((h115 9 (by decide)).trans q106)
            have z121 : (m116.1 14 0).toInt = (m102.1 14 0).toInt := by rw [h115 14 (by decide)]
            have z122 : (m116.1 16 a1.toNatClampNeg).toInt = (m102.1 16 a1.toNatClampNeg).toInt := by rw [h115 16 (by decide)]
            have z123 : (m116.1 17 a1.toNatClampNeg).toInt = (m102.1 17 a1.toNatClampNeg).toInt := by rw [h115 17 (by decide)]
            refine wpR_eq (x := u113.toInt) (y := 0) rfl (rfl : (0 : Int32).toInt = 0) (fun c124 => ?_) (fun c124 => ?_)
            · skip
              have z125 : (0 : Int32).toInt = 0 := rfl
              exact wpR_some ⟨i118, (by omega), (by omega), q119, q120⟩
            · skip
              have z126 : (1 : Int32).toInt = 1 := rfl
              exact wpR_some ⟨i118, (by omega), (by omega), q119, q120⟩
        · skip
          unfold q_Reader_readRule_119
          refine wpR_ix (vI k7) ?_
          refine wpR_ltv (fun m127 e128 => ?_)
          have i129 : IX G K m127 := by rw [e128]; exact i82.s18 _
          have q130 : m127.1 1 = M.1 1 := by rw [e128]; exact q83
          have q131 : m127.1 9 = M.1 9 := by rw [e128]; exact q84
          have z132 : (m127.1 14 0).toInt = (m80.1 14 0).toInt := by rw [e128]; rfl
          have z133 : (m127.1 16 a1.toNatClampNeg).toInt = (m80.1 16 a1.toNatClampNeg).toInt := by rw [e128]; rfl
          have z134 : (m127.1 17 a1.toNatClampNeg).toInt = (m80.1 17 a1.toNatClampNeg).toInt := by rw [e128]; rfl
          refine wpR_ix (vI k7) ?_
          refine wpR_eq (x := (m127.1 18 (a1 : Int32).toNatClampNeg : Int32).toInt) (y := (-1)) rfl (by decide : (-1 : Int32).toInt = -1) (fun c135 => ?_) (fun c135 => ?_)
          · skip
            have z136 : (0 : Int32).toInt = 0 := rfl
            exact wpR_some ⟨i129, (by omega), (by omega), q130, q131⟩
          · skip
            have z137 : (59 : Int32).toInt = 59 := rfl
            refine wpR_cl (w_Reader_take i129 59 (by omega)) (fun m141 u138 h142 => ?_)
            obtain ⟨i143, h139, h140⟩ := h142
            have q144 : m141.1 1 = M.1 1 := ((h140 1 (by decide)).trans q130)
            have q145 : m141.1 9 = M.1 9 := ((h140 9 (by decide)).trans q131)
            have z146 : (m141.1 14 0).toInt = (m127.1 14 0).toInt := by rw [h140 14 (by decide)]
            have z147 : (m141.1 16 a1.toNatClampNeg).toInt = (m127.1 16 a1.toNatClampNeg).toInt := by rw [h140 16 (by decide)]
            have z148 : (m141.1 17 a1.toNatClampNeg).toInt = (m127.1 17 a1.toNatClampNeg).toInt := by rw [h140 17 (by decide)]
            refine wpR_eq (x := u138.toInt) (y := 0) rfl (rfl : (0 : Int32).toInt = 0) (fun c149 => ?_) (fun c149 => ?_)
            · skip
              have z150 : (0 : Int32).toInt = 0 := rfl
              exact wpR_some ⟨i143, (by omega), (by omega), q144, q145⟩
            · skip
              have z151 : (1 : Int32).toInt = 1 := rfl
              exact wpR_some ⟨i143, (by omega), (by omega), q144, q145⟩
theorem w_Reader_readRules_2 {G : Gx} {K : Int}  : ∀ (n' : Nat) (M : Mm) (v1 : Int32), IX G K M → (0 ≤ v1.toInt ∧ v1.toInt ≤ 12) → (v1.toInt = (M.1 14 0).toInt) → 12 - v1.toInt < (n' : Int) → wpR (q_Reader_readRules_2 n' M v1) (fun M' r => IX G K M' ∧ (0 ≤ r.toInt ∧ r.toInt ≤ 1) ∧ (M'.1 1 = M.1 1) ∧ (M'.1 9 = M.1 9)) := by
  intro n'
  induction n' with
  | zero =>
    intro M v1 hI p0 p1 hn
    have z1 := hI.rgR
    have z2 := hI.dreg
    have z3 := hI.dfl
    have z4 := hI.drc
    exfalso; omega
  | succ n' ih =>
    intro M v1 hI p0 p1 hn
    rw [q_Reader_readRules_2]
    have z5 := hI.rgR
    have z6 := hI.dreg
    have z7 := hI.dfl
    have z8 := hI.drc
    have z9 := hI.drc
    refine wpR_le (x := 12) (y := v1.toInt) (rfl : (12 : Int32).toInt = 12) rfl (fun c10 => ?_) (fun c10 => ?_)
    · skip
      have z11 : (1 : Int32).toInt = 1 := rfl
      exact wpR_some ⟨hI, (by omega), rfl, rfl⟩
    · skip
      have z12 := hI.atR
      have z13 := hI.f21_2
      refine wpR_lw (x := (M.1 21 3 : Int32).toInt) (y := (M.1 21 2 : Int32).toInt) rfl rfl (fun c14 => ?_) (fun c14 => ?_)
      · skip
        refine wpR_cl (w_Reader_readRule hI v1 (by omega) (by omega)) (fun m20 u15 h21 => ?_)
        obtain ⟨i22, h16, h17, h18, h19⟩ := h21
        have q23 : m20.1 1 = M.1 1 := (h18.trans rfl)
        have q24 : m20.1 9 = M.1 9 := (h19.trans rfl)
        refine wpR_eq (x := u15.toInt) (y := 0) rfl (rfl : (0 : Int32).toInt = 0) (fun c25 => ?_) (fun c25 => ?_)
        · skip
          have z26 : (0 : Int32).toInt = 0 := rfl
          exact wpR_some ⟨i22, (by omega), q23, q24⟩
        · skip
          have z30 : (v1 + 1 : Int32).toInt = v1.toInt + 1 := iadd rfl (rfl : (1 : Int32).toInt = 1) (by omega) (by omega)
          have z31 := i22.drc
          refine wpR_ltv (fun m27 e28 => ?_)
          have i29 : IX G K m27 := by rw [e28]; exact i22.s14_0 (v := v1) (by omega) (by omega) (by omega) (by omega) (by omega)
          have q32 : m27.1 1 = M.1 1 := by rw [e28]; exact q23
          have q33 : m27.1 9 = M.1 9 := by rw [e28]; exact q24
          have z34 : (m27.1 14 0).toInt = ((v1 + 1) : Int32).toInt := by rw [e28]; rfl
          have z35 := i29.drc
          refine wpR_mono (ih m27 (v1 + 1) i29 (by omega) (by omega) (by omega)) (fun _ _ h39 => ?_)
          obtain ⟨i40, h36, h37, h38⟩ := h39
          exact ⟨i40, h36, (h37.trans q32), (h38.trans q33)⟩
      · skip
        have z41 : (1 : Int32).toInt = 1 := rfl
        exact wpR_some ⟨hI, (by omega), rfl, rfl⟩
theorem w_Reader_readRules {G : Gx} {K : Int} {M : Mm} (hI : IX G K M)  (p0 : (M.1 14 0).toInt = 0) : wpR (q_Reader_readRules M) (fun M' r => IX G K M' ∧ (0 ≤ r.toInt ∧ r.toInt ≤ 1) ∧ (M'.1 1 = M.1 1) ∧ (M'.1 9 = M.1 9)) := by
  unfold q_Reader_readRules
  have z1 := hI.rgR
  have z2 := hI.dreg
  have z3 := hI.dfl
  have z4 := hI.drc
  have z5 := hI.drc
  have z6 : (0 : Int32).toInt = 0 := rfl
  refine wpR_mono (w_Reader_readRules_2 4000 M 0 hI (by omega) (by omega) (by omega)) (fun _ _ h10 => ?_)
  obtain ⟨i11, h7, h8, h9⟩ := h10
  exact ⟨i11, h7, (h8.trans rfl), (h9.trans rfl)⟩
theorem w_Draft_rowOf_2 {G : Gx} {K : Int} {M : Mm} (hI : IX G K M) : ∀ (n' : Nat) (v1 : Int32) (v2 : Int32), (0 ≤ v2.toInt ∧ v2.toInt ≤ 128) → 128 - v2.toInt < (n' : Int) → wpR (q_Draft_rowOf_2 n' M v1 v2) (fun M' r => M = M' ∧ (-1 ≤ r.toInt ∧ r.toInt < (M.1 1 6).toInt ∧ (M.1 1 6).toInt ≤ 128) ∧ (0 ≤ r.toInt → M.1 7 r.toNatClampNeg = v1)) := by
  intro n'
  induction n' with
  | zero =>
    intro v1 v2 p0 hn
    exfalso; omega
  | succ n' ih =>
    intro v1 v2 p0 hn
    rw [q_Draft_rowOf_2]
    have z1 := hI.rgR
    have z2 := hI.dfl
    refine wpR_le (x := (M.1 1 6 : Int32).toInt) (y := v2.toInt) rfl rfl (fun c3 => ?_) (fun c3 => ?_)
    · skip
      have z4 : (-1 : Int32).toInt = -1 := by decide
      exact wpR_some ⟨rfl, (by omega), (fun h => absurd h (by decide))⟩
    · skip
      have k5 : 0 ≤ (v2 : Int32).toInt ∧ (v2 : Int32).toInt < ((128 : Nat) : Int) := by omega
      refine wpR_ix (vI k5) ?_
      have z6 := hI.dname ((v2 : Int32).toNatClampNeg)
      refine wpR_eq (x := (M.1 7 (v2 : Int32).toNatClampNeg : Int32).toInt) (y := v1.toInt) rfl rfl (fun c7 => ?_) (fun c7 => ?_)
      · skip
        exact wpR_some ⟨rfl, (by omega), (fun _ => Int32.toInt_inj.mp c7)⟩
      · skip
        have z8 : (v2 + 1 : Int32).toInt = v2.toInt + 1 := iadd rfl (rfl : (1 : Int32).toInt = 1) (by omega) (by omega)
        exact ih v1 (v2 + 1) (by omega) (by omega)
theorem w_Draft_rowOf {G : Gx} {K : Int} {M : Mm} (hI : IX G K M)  (a1 : Int32) : wpR (q_Draft_rowOf M a1) (fun M' r => M = M' ∧ (-1 ≤ r.toInt ∧ r.toInt < (M.1 1 6).toInt ∧ (M.1 1 6).toInt ≤ 128) ∧ (0 ≤ r.toInt → M.1 7 r.toNatClampNeg = a1)) := by
  unfold q_Draft_rowOf
  have z1 := hI.rgR
  have z2 : (0 : Int32).toInt = 0 := rfl
  exact w_Draft_rowOf_2 hI 4000 a1 0 (by omega) (by omega)
theorem w_Draft_fits {G : Gx} {K : Int} {M : Mm} (hI : IX G K M)  (a1 : Int32) (a2 : Int32) (p0 : 0 ≤ a1.toInt ∧ a1.toInt ≤ 127) : wpR (q_Draft_fits M a1 a2) (fun M' r => M = M' ∧ (0 ≤ r.toInt ∧ r.toInt ≤ 1)) := by
  unfold q_Draft_fits
  have z1 := hI.rgR
  have k2 : 0 ≤ (a1 : Int32).toInt ∧ (a1 : Int32).toInt < ((128 : Nat) : Int) := by omega
  refine wpR_ix (vI k2) ?_
  refine wpR_ix (vI k2) ?_
  refine wpR_eq (x := ((a2 : Int32) >>> ((((M.1 11 (a1 : Int32).toNatClampNeg) - (M.1 12 (a1 : Int32).toNatClampNeg)) + 1) &&& 31) : Int32).toInt) (y := 0) rfl (rfl : (0 : Int32).toInt = 0) (fun c3 => ?_) (fun c3 => ?_)
  · skip
    have z4 : (1 : Int32).toInt = 1 := rfl
    exact wpR_some ⟨rfl, (by omega)⟩
  · skip
    have z5 : (0 : Int32).toInt = 0 := rfl
    exact wpR_some ⟨rfl, (by omega)⟩
theorem w_Judge_badField_4 {G : Gx} {K : Int} {M : Mm} (hI : IX G K M) : ∀ (n' : Nat) (v1 : Int32) (v2 : Int32), (0 ≤ v2.toInt ∧ v2.toInt ≤ 128) → 128 - v2.toInt < (n' : Int) → wpR (q_Judge_badField_4 n' M v1 v2) (fun M' r => M = M' ∧ True) := by
  intro n'
  induction n' with
  | zero =>
    intro v1 v2 p0 hn
    exfalso; omega
  | succ n' ih =>
    intro v1 v2 p0 hn
    rw [q_Judge_badField_4]
    have z1 := hI.rgR
    have z2 := hI.dfl
    refine wpR_le (x := (M.1 1 6 : Int32).toInt) (y := v2.toInt) rfl rfl (fun c3 => ?_) (fun c3 => ?_)
    · skip
      exact wpR_some ⟨rfl, trivial⟩
    · skip
      refine wpR_eq (x := v2.toInt) (y := 0) rfl (rfl : (0 : Int32).toInt = 0) (fun c4 => ?_) (fun c4 => ?_)
      · skip
        unfold q_Judge_badField_42
        unfold q_Judge_badField_44
        have k5 : 0 ≤ (v2 : Int32).toInt ∧ (v2 : Int32).toInt < ((128 : Nat) : Int) := by omega
        refine wpR_ix (vI k5) ?_
        refine wpR_lt ?_
        refine wpR_ix (vI k5) ?_
        refine wpR_lt ?_
        refine wpR_ix (vI k5) ?_
        refine wpR_ro (w_Draft_rowOf hI (M.1 7 (v2 : Int32).toNatClampNeg)) (fun u6 h9 => ?_)
        obtain ⟨h7, h8⟩ := h9
        refine wpR_lw (x := u6.toInt) (y := v2.toInt) rfl rfl (fun c10 => ?_) (fun c10 => ?_)
        · skip
          unfold q_Judge_badField_117
          refine wpR_ix (vI k5) ?_
          exact wpR_some ⟨rfl, trivial⟩
        · skip
          refine wpR_le (x := 16) (y := (M.1 11 (v2 : Int32).toNatClampNeg : Int32).toInt) (rfl : (16 : Int32).toInt = 16) rfl (fun c11 => ?_) (fun c11 => ?_)
          · skip
            unfold q_Judge_badField_117
            refine wpR_ix (vI k5) ?_
            exact wpR_some ⟨rfl, trivial⟩
          · skip
            refine wpR_lw (x := (M.1 11 (v2 : Int32).toNatClampNeg : Int32).toInt) (y := (M.1 12 (v2 : Int32).toNatClampNeg : Int32).toInt) rfl rfl (fun c12 => ?_) (fun c12 => ?_)
            · skip
              unfold q_Judge_badField_117
              refine wpR_ix (vI k5) ?_
              exact wpR_some ⟨rfl, trivial⟩
            · skip
              refine wpR_ix (vI k5) ?_
              refine wpR_ro (w_Draft_fits hI v2 (M.1 13 (v2 : Int32).toNatClampNeg) (by omega)) (fun u13 h14 => ?_)
              refine wpR_eq (x := u13.toInt) (y := 0) rfl (rfl : (0 : Int32).toInt = 0) (fun c16 => ?_) (fun c16 => ?_)
              · skip
                unfold q_Judge_badField_117
                refine wpR_ix (vI k5) ?_
                exact wpR_some ⟨rfl, trivial⟩
              · skip
                refine wpR_lt ?_
                refine wpR_eq (x := (0 &&& (((((1 : Int32) <<< ((((M.1 11 (v2 : Int32).toNatClampNeg) - (M.1 12 (v2 : Int32).toNatClampNeg)) + 1) &&& 31)) - 1) : Int32) <<< ((M.1 12 (v2 : Int32).toNatClampNeg) &&& 31)) : Int32).toInt) (y := 0) rfl (rfl : (0 : Int32).toInt = 0) (fun c17 => ?_) (fun c17 => ?_)
                · skip
                  refine wpR_lt ?_
                  have z18 : (v2 + 1 : Int32).toInt = v2.toInt + 1 := iadd rfl (rfl : (1 : Int32).toInt = 1) (by omega) (by omega)
                  exact ih (0 ||| (((((1 : Int32) <<< ((((M.1 11 (v2 : Int32).toNatClampNeg) - (M.1 12 (v2 : Int32).toNatClampNeg)) + 1) &&& 31)) - 1) : Int32) <<< ((M.1 12 (v2 : Int32).toNatClampNeg) &&& 31))) (v2 + 1) (by omega) (by omega)
                · skip
                  refine wpR_ix (vI k5) ?_
                  exact wpR_some ⟨rfl, trivial⟩
      · skip
        have k19 : 0 ≤ (v2 : Int32).toInt ∧ (v2 : Int32).toInt < ((128 : Nat) : Int) := by omega
        refine wpR_ix (vI k19) ?_
        have z20 : (v2 - 1 : Int32).toInt = v2.toInt - 1 := isub rfl (rfl : (1 : Int32).toInt = 1) (by omega) (by omega)
        have k21 : 0 ≤ ((v2 - 1) : Int32).toInt ∧ ((v2 - 1) : Int32).toInt < ((128 : Nat) : Int) := by omega
        refine wpR_ix (vI k21) ?_
        have z22 := hI.dhome ((v2 : Int32).toNatClampNeg)
        have z23 := hI.dhome (((v2 - 1) : Int32).toNatClampNeg)
        refine wpR_eq (x := (M.1 9 (v2 : Int32).toNatClampNeg : Int32).toInt) (y := (M.1 9 ((v2 - 1) : Int32).toNatClampNeg : Int32).toInt) rfl rfl (fun c24 => ?_) (fun c24 => ?_)
        · skip
          unfold q_Judge_badField_44
          refine wpR_ix (vI k19) ?_
          refine wpR_lt ?_
          refine wpR_ix (vI k19) ?_
          refine wpR_lt ?_
          refine wpR_ix (vI k19) ?_
          refine wpR_ro (w_Draft_rowOf hI (M.1 7 (v2 : Int32).toNatClampNeg)) (fun u25 h28 => ?_)
          obtain ⟨h26, h27⟩ := h28
          refine wpR_lw (x := u25.toInt) (y := v2.toInt) rfl rfl (fun c29 => ?_) (fun c29 => ?_)
          · skip
            unfold q_Judge_badField_117
            refine wpR_ix (vI k19) ?_
            exact wpR_some ⟨rfl, trivial⟩
          · skip
            refine wpR_le (x := 16) (y := (M.1 11 (v2 : Int32).toNatClampNeg : Int32).toInt) (rfl : (16 : Int32).toInt = 16) rfl (fun c30 => ?_) (fun c30 => ?_)
            · skip
              unfold q_Judge_badField_117
              refine wpR_ix (vI k19) ?_
              exact wpR_some ⟨rfl, trivial⟩
            · skip
              refine wpR_lw (x := (M.1 11 (v2 : Int32).toNatClampNeg : Int32).toInt) (y := (M.1 12 (v2 : Int32).toNatClampNeg : Int32).toInt) rfl rfl (fun c31 => ?_) (fun c31 => ?_)
              · skip
                unfold q_Judge_badField_117
                refine wpR_ix (vI k19) ?_
                exact wpR_some ⟨rfl, trivial⟩
              · skip
                refine wpR_ix (vI k19) ?_
                refine wpR_ro (w_Draft_fits hI v2 (M.1 13 (v2 : Int32).toNatClampNeg) (by omega)) (fun u32 h33 => ?_)
                refine wpR_eq (x := u32.toInt) (y := 0) rfl (rfl : (0 : Int32).toInt = 0) (fun c35 => ?_) (fun c35 => ?_)
                · skip
                  unfold q_Judge_badField_117
                  refine wpR_ix (vI k19) ?_
                  exact wpR_some ⟨rfl, trivial⟩
                · skip
                  refine wpR_lt ?_
                  refine wpR_eq (x := (v1 &&& (((((1 : Int32) <<< ((((M.1 11 (v2 : Int32).toNatClampNeg) - (M.1 12 (v2 : Int32).toNatClampNeg)) + 1) &&& 31)) - 1) : Int32) <<< ((M.1 12 (v2 : Int32).toNatClampNeg) &&& 31)) : Int32).toInt) (y := 0) rfl (rfl : (0 : Int32).toInt = 0) (fun c36 => ?_) (fun c36 => ?_)
                  · skip
                    refine wpR_lt ?_
                    have z37 : (v2 + 1 : Int32).toInt = v2.toInt + 1 := iadd rfl (rfl : (1 : Int32).toInt = 1) (by omega) (by omega)
                    exact ih (v1 ||| (((((1 : Int32) <<< ((((M.1 11 (v2 : Int32).toNatClampNeg) - (M.1 12 (v2 : Int32).toNatClampNeg)) + 1) &&& 31)) - 1) : Int32) <<< ((M.1 12 (v2 : Int32).toNatClampNeg) &&& 31))) (v2 + 1) (by omega) (by omega)
                  · skip
                    refine wpR_ix (vI k19) ?_
                    exact wpR_some ⟨rfl, trivial⟩
        · skip
          unfold q_Judge_badField_42
          unfold q_Judge_badField_44
          refine wpR_ix (vI k19) ?_
          refine wpR_lt ?_
          refine wpR_ix (vI k19) ?_
          refine wpR_lt ?_
          refine wpR_ix (vI k19) ?_
          refine wpR_ro (w_Draft_rowOf hI (M.1 7 (v2 : Int32).toNatClampNeg)) (fun u38 h41 => ?_)
          obtain ⟨h39, h40⟩ := h41
          refine wpR_lw (x := u38.toInt) (y := v2.toInt) rfl rfl (fun c42 => ?_) (fun c42 => ?_)
          · skip
            unfold q_Judge_badField_117
            refine wpR_ix (vI k19) ?_
            exact wpR_some ⟨rfl, trivial⟩
          · skip
            refine wpR_le (x := 16) (y := (M.1 11 (v2 : Int32).toNatClampNeg : Int32).toInt) (rfl : (16 : Int32).toInt = 16) rfl (fun c43 => ?_) (fun c43 => ?_)
            · skip
              unfold q_Judge_badField_117
              refine wpR_ix (vI k19) ?_
              exact wpR_some ⟨rfl, trivial⟩
            · skip
              refine wpR_lw (x := (M.1 11 (v2 : Int32).toNatClampNeg : Int32).toInt) (y := (M.1 12 (v2 : Int32).toNatClampNeg : Int32).toInt) rfl rfl (fun c44 => ?_) (fun c44 => ?_)
              · skip
                unfold q_Judge_badField_117
                refine wpR_ix (vI k19) ?_
                exact wpR_some ⟨rfl, trivial⟩
              · skip
                refine wpR_ix (vI k19) ?_
                refine wpR_ro (w_Draft_fits hI v2 (M.1 13 (v2 : Int32).toNatClampNeg) (by omega)) (fun u45 h46 => ?_)
                refine wpR_eq (x := u45.toInt) (y := 0) rfl (rfl : (0 : Int32).toInt = 0) (fun c48 => ?_) (fun c48 => ?_)
                · skip
                  unfold q_Judge_badField_117
                  refine wpR_ix (vI k19) ?_
                  exact wpR_some ⟨rfl, trivial⟩
                · skip
                  refine wpR_lt ?_
                  refine wpR_eq (x := (0 &&& (((((1 : Int32) <<< ((((M.1 11 (v2 : Int32).toNatClampNeg) - (M.1 12 (v2 : Int32).toNatClampNeg)) + 1) &&& 31)) - 1) : Int32) <<< ((M.1 12 (v2 : Int32).toNatClampNeg) &&& 31)) : Int32).toInt) (y := 0) rfl (rfl : (0 : Int32).toInt = 0) (fun c49 => ?_) (fun c49 => ?_)
                  · skip
                    refine wpR_lt ?_
                    have z50 : (v2 + 1 : Int32).toInt = v2.toInt + 1 := iadd rfl (rfl : (1 : Int32).toInt = 1) (by omega) (by omega)
                    exact ih (0 ||| (((((1 : Int32) <<< ((((M.1 11 (v2 : Int32).toNatClampNeg) - (M.1 12 (v2 : Int32).toNatClampNeg)) + 1) &&& 31)) - 1) : Int32) <<< ((M.1 12 (v2 : Int32).toNatClampNeg) &&& 31))) (v2 + 1) (by omega) (by omega)
                  · skip
                    refine wpR_ix (vI k19) ?_
                    exact wpR_some ⟨rfl, trivial⟩
theorem w_Judge_badField {G : Gx} {K : Int} {M : Mm} (hI : IX G K M)  : wpR (q_Judge_badField M) (fun M' r => M = M' ∧ True) := by
  unfold q_Judge_badField
  have z1 := hI.rgR
  have z2 : (0 : Int32).toInt = 0 := rfl
  exact w_Judge_badField_4 hI 4000 0 0 (by omega) (by omega)
theorem w_Judge_isWritable {G : Gx} {K : Int} {M : Mm} (hI : IX G K M)  (a1 : Int32) (p0 : -1 ≤ a1.toInt ∧ a1.toInt ≤ 127) : wpR (q_Judge_isWritable M a1) (fun M' r => M = M' ∧ (0 ≤ r.toInt ∧ r.toInt ≤ 1 ∧ (r.toInt ≠ 0 → 0 ≤ a1.toInt))) := by
  unfold q_Judge_isWritable
  have z1 := hI.rgR
  refine wpR_eq (x := a1.toInt) (y := (-1)) rfl (by decide : (-1 : Int32).toInt = -1) (fun c2 => ?_) (fun c2 => ?_)
  · skip
    have z3 : (0 : Int32).toInt = 0 := rfl
    exact wpR_some ⟨rfl, (by omega)⟩
  · skip
    have k4 : 0 ≤ (a1 : Int32).toInt ∧ (a1 : Int32).toInt < ((128 : Nat) : Int) := by omega
    refine wpR_ix (vI k4) ?_
    have z5 := hI.dacc ((a1 : Int32).toNatClampNeg)
    refine wpR_eq (x := (M.1 10 (a1 : Int32).toNatClampNeg : Int32).toInt) (y := 1) rfl (rfl : (1 : Int32).toInt = 1) (fun c6 => ?_) (fun c6 => ?_)
    · skip
      have z7 : (0 : Int32).toInt = 0 := rfl
      exact wpR_some ⟨rfl, (by omega)⟩
    · skip
      refine wpR_ix (vI k4) ?_
      refine wpR_eq (x := (M.1 10 (a1 : Int32).toNatClampNeg : Int32).toInt) (y := 3) rfl (rfl : (3 : Int32).toInt = 3) (fun c8 => ?_) (fun c8 => ?_)
      · skip
        have z9 : (0 : Int32).toInt = 0 := rfl
        exact wpR_some ⟨rfl, (by omega)⟩
      · skip
        have z10 : (1 : Int32).toInt = 1 := rfl
        exact wpR_some ⟨rfl, (by omega)⟩
theorem w_Judge_isKnown {G : Gx} {K : Int} {M : Mm} (hI : IX G K M)  (a1 : Int32) (p0 : -1 ≤ a1.toInt ∧ a1.toInt ≤ 127) : wpR (q_Judge_isKnown M a1) (fun M' r => M = M' ∧ (0 ≤ r.toInt ∧ r.toInt ≤ 1 ∧ (r.toInt ≠ 0 → 0 ≤ a1.toInt))) := by
  unfold q_Judge_isKnown
  have z1 := hI.rgR
  refine wpR_eq (x := a1.toInt) (y := (-1)) rfl (by decide : (-1 : Int32).toInt = -1) (fun c2 => ?_) (fun c2 => ?_)
  · skip
    have z3 : (0 : Int32).toInt = 0 := rfl
    exact wpR_some ⟨rfl, (by omega)⟩
  · skip
    have k4 : 0 ≤ (a1 : Int32).toInt ∧ (a1 : Int32).toInt < ((128 : Nat) : Int) := by omega
    refine wpR_ix (vI k4) ?_
    have z5 := hI.dacc ((a1 : Int32).toNatClampNeg)
    refine wpR_eq (x := (M.1 10 (a1 : Int32).toNatClampNeg : Int32).toInt) (y := 0) rfl (rfl : (0 : Int32).toInt = 0) (fun c6 => ?_) (fun c6 => ?_)
    · skip
      have z7 : (1 : Int32).toInt = 1 := rfl
      exact wpR_some ⟨rfl, (by omega)⟩
    · skip
      refine wpR_ix (vI k4) ?_
      refine wpR_eq (x := (M.1 10 (a1 : Int32).toNatClampNeg : Int32).toInt) (y := 2) rfl (rfl : (2 : Int32).toInt = 2) (fun c8 => ?_) (fun c8 => ?_)
      · skip
        have z9 : (1 : Int32).toInt = 1 := rfl
        exact wpR_some ⟨rfl, (by omega)⟩
      · skip
        have z10 : (0 : Int32).toInt = 0 := rfl
        exact wpR_some ⟨rfl, (by omega)⟩
theorem w_Judge_areApart {G : Gx} {K : Int} {M : Mm} (hI : IX G K M)  (a1 : Int32) (a2 : Int32) (p0 : 0 ≤ a1.toInt ∧ a1.toInt ≤ 15) (p1 : 0 ≤ a2.toInt ∧ a2.toInt ≤ 15) : wpR (q_Judge_areApart M a1 a2) (fun M' r => M = M' ∧ (0 ≤ r.toInt ∧ r.toInt ≤ 1)) := by
  unfold q_Judge_areApart
  have z1 := hI.rgR
  have k2 : 0 ≤ (a1 : Int32).toInt ∧ (a1 : Int32).toInt < ((16 : Nat) : Int) := by omega
  refine wpR_ix (vI k2) ?_
  have z3 := hI.dbank ((a1 : Int32).toNatClampNeg)
  refine wpR_eq (x := (M.1 4 (a1 : Int32).toNatClampNeg : Int32).toInt) (y := (-1)) rfl (by decide : (-1 : Int32).toInt = -1) (fun c4 => ?_) (fun c4 => ?_)
  · skip
    have z5 : (0 : Int32).toInt = 0 := rfl
    exact wpR_some ⟨rfl, (by omega)⟩
  · skip
    refine wpR_ix (vI k2) ?_
    have k6 : 0 ≤ (a2 : Int32).toInt ∧ (a2 : Int32).toInt < ((16 : Nat) : Int) := by omega
    refine wpR_ix (vI k6) ?_
    have z7 := hI.dbank ((a2 : Int32).toNatClampNeg)
    refine wpR_eq (x := (M.1 4 (a1 : Int32).toNatClampNeg : Int32).toInt) (y := (M.1 4 (a2 : Int32).toNatClampNeg : Int32).toInt) rfl rfl (fun c8 => ?_) (fun c8 => ?_)
    · skip
      refine wpR_ix (vI k2) ?_
      refine wpR_ix (vI k6) ?_
      refine wpR_eq (x := (M.1 6 (a1 : Int32).toNatClampNeg : Int32).toInt) (y := (M.1 6 (a2 : Int32).toNatClampNeg : Int32).toInt) rfl rfl (fun c9 => ?_) (fun c9 => ?_)
      · skip
        have z10 : (0 : Int32).toInt = 0 := rfl
        exact wpR_some ⟨rfl, (by omega)⟩
      · skip
        have z11 : (1 : Int32).toInt = 1 := rfl
        exact wpR_some ⟨rfl, (by omega)⟩
    · skip
      have z12 : (0 : Int32).toInt = 0 := rfl
      exact wpR_some ⟨rfl, (by omega)⟩
theorem w_Judge_badOffset_15 {G : Gx} {K : Int} {M : Mm} (hI : IX G K M) {kf2 : Mm → Int32 → Rs} {n2 : Nat} (hk2 : ∀ (v1 : Int32), (0 ≤ v1.toInt ∧ v1.toInt ≤ 16) → 16 - v1.toInt < (n2 : Int) → wpR (kf2 M v1) (fun M' r => M = M' ∧ True)) : ∀ (n' : Nat) (v1 : Int32) (v2 : Int32), (0 ≤ v1.toInt ∧ v1.toInt ≤ 15) → (0 ≤ v2.toInt ∧ v2.toInt ≤ v1.toInt) → (16 - v1.toInt < ((n2 : Nat) : Int) + 1) → v1.toInt - v2.toInt < (n' : Int) → wpR (q_Judge_badOffset_15 kf2 n' M v1 v2) (fun M' r => M = M' ∧ True) := by
  intro n'
  induction n' with
  | zero =>
    intro v1 v2 p0 p1 p2 hn
    exfalso; omega
  | succ n' ih =>
    intro v1 v2 p0 p1 p2 hn
    rw [q_Judge_badOffset_15]
    have z1 := hI.rgR
    refine wpR_le (x := v1.toInt) (y := v2.toInt) rfl rfl (fun c2 => ?_) (fun c2 => ?_)
    · skip
      have z3 : (v1 + 1 : Int32).toInt = v1.toInt + 1 := iadd rfl (rfl : (1 : Int32).toInt = 1) (by omega) (by omega)
      exact hk2 (v1 + 1) (by omega) (by omega)
    · skip
      have k4 : 0 ≤ (v1 : Int32).toInt ∧ (v1 : Int32).toInt < ((16 : Nat) : Int) := by omega
      refine wpR_ix (vI k4) ?_
      have k5 : 0 ≤ (v2 : Int32).toInt ∧ (v2 : Int32).toInt < ((16 : Nat) : Int) := by omega
      refine wpR_ix (vI k5) ?_
      refine wpR_eq (x := (M.1 3 (v1 : Int32).toNatClampNeg : Int32).toInt) (y := (M.1 3 (v2 : Int32).toNatClampNeg : Int32).toInt) rfl rfl (fun c6 => ?_) (fun c6 => ?_)
      · skip
        refine wpR_ro (w_Judge_areApart hI v1 v2 (by omega) (by omega)) (fun u7 h8 => ?_)
        refine wpR_eq (x := u7.toInt) (y := 0) rfl (rfl : (0 : Int32).toInt = 0) (fun c10 => ?_) (fun c10 => ?_)
        · skip
          refine wpR_ix (vI k4) ?_
          exact wpR_some ⟨rfl, trivial⟩
        · skip
          unfold q_Judge_badOffset_60
          have z11 : (v2 + 1 : Int32).toInt = v2.toInt + 1 := iadd rfl (rfl : (1 : Int32).toInt = 1) (by omega) (by omega)
          exact ih v1 (v2 + 1) (by omega) (by omega) (by omega) (by omega)
      · skip
        unfold q_Judge_badOffset_60
        have z12 : (v2 + 1 : Int32).toInt = v2.toInt + 1 := iadd rfl (rfl : (1 : Int32).toInt = 1) (by omega) (by omega)
        exact ih v1 (v2 + 1) (by omega) (by omega) (by omega) (by omega)
theorem w_Judge_badOffset_2 {G : Gx} {K : Int} {M : Mm} (hI : IX G K M) : ∀ (n' : Nat) (v1 : Int32), (0 ≤ v1.toInt ∧ v1.toInt ≤ 16) → 16 - v1.toInt < (n' : Int) → wpR (q_Judge_badOffset_2 n' M v1) (fun M' r => M = M' ∧ True) := by
  intro n'
  induction n' with
  | zero =>
    intro v1 p0 hn
    exfalso; omega
  | succ n' ih =>
    intro v1 p0 hn
    rw [q_Judge_badOffset_2]
    have z1 := hI.rgR
    have z2 := hI.dreg
    refine wpR_le (x := (M.1 1 0 : Int32).toInt) (y := v1.toInt) rfl rfl (fun c3 => ?_) (fun c3 => ?_)
    · skip
      exact wpR_some ⟨rfl, trivial⟩
    · skip
      have z4 : (0 : Int32).toInt = 0 := rfl
      exact w_Judge_badOffset_15 hI (n2 := n') ih 4000 v1 0 (by omega) (by omega) (by omega) (by omega)
theorem w_Judge_badOffset {G : Gx} {K : Int} {M : Mm} (hI : IX G K M)  : wpR (q_Judge_badOffset M) (fun M' r => M = M' ∧ True) := by
  unfold q_Judge_badOffset
  have z1 := hI.rgR
  have z2 : (1 : Int32).toInt = 1 := rfl
  exact w_Judge_badOffset_2 hI 4000 1 (by omega) (by omega)
theorem w_Judge_canBeBank {G : Gx} {K : Int} {M : Mm} (hI : IX G K M)  (a1 : Int32) (a2 : Int32) (p0 : -1 ≤ a1.toInt ∧ a1.toInt ≤ 127) : wpR (q_Judge_canBeBank M a1 a2) (fun M' r => M = M' ∧ (0 ≤ r.toInt ∧ r.toInt ≤ 1 ∧ (r.toInt ≠ 0 → 0 ≤ a1.toInt))) := by
  unfold q_Judge_canBeBank
  have z1 := hI.rgR
  refine wpR_eq (x := a1.toInt) (y := (-1)) rfl (by decide : (-1 : Int32).toInt = -1) (fun c2 => ?_) (fun c2 => ?_)
  · skip
    have z3 : (0 : Int32).toInt = 0 := rfl
    exact wpR_some ⟨rfl, (by omega)⟩
  · skip
    have k4 : 0 ≤ (a1 : Int32).toInt ∧ (a1 : Int32).toInt < ((128 : Nat) : Int) := by omega
    refine wpR_ix (vI k4) ?_
    have z5 := hI.dacc ((a1 : Int32).toNatClampNeg)
    refine wpR_eq (x := (M.1 10 (a1 : Int32).toNatClampNeg : Int32).toInt) (y := 0) rfl (rfl : (0 : Int32).toInt = 0) (fun c6 => ?_) (fun c6 => ?_)
    · skip
      refine wpR_ix (vI k4) ?_
      have z7 := hI.dhome ((a1 : Int32).toNatClampNeg)
      have k8 : 0 ≤ ((M.1 9 (a1 : Int32).toNatClampNeg) : Int32).toInt ∧ ((M.1 9 (a1 : Int32).toNatClampNeg) : Int32).toInt < ((16 : Nat) : Int) := by omega
      refine wpR_ix (vI k8) ?_
      have z9 := hI.dbank (((M.1 9 (a1 : Int32).toNatClampNeg) : Int32).toNatClampNeg)
      refine wpR_eq (x := (M.1 4 ((M.1 9 (a1 : Int32).toNatClampNeg) : Int32).toNatClampNeg : Int32).toInt) (y := (-1)) rfl (by decide : (-1 : Int32).toInt = -1) (fun c10 => ?_) (fun c10 => ?_)
      · skip
        refine wpR_ro (w_Draft_fits hI a1 a2 (by omega)) (fun u11 h12 => ?_)
        refine wpR_eq (x := u11.toInt) (y := 0) rfl (rfl : (0 : Int32).toInt = 0) (fun c14 => ?_) (fun c14 => ?_)
        · skip
          have z15 : (0 : Int32).toInt = 0 := rfl
          exact wpR_some ⟨rfl, (by omega)⟩
        · skip
          have z16 : (1 : Int32).toInt = 1 := rfl
          exact wpR_some ⟨rfl, (by omega)⟩
      · skip
        have z17 : (0 : Int32).toInt = 0 := rfl
        exact wpR_some ⟨rfl, (by omega)⟩
    · skip
      have z18 : (0 : Int32).toInt = 0 := rfl
      exact wpR_some ⟨rfl, (by omega)⟩
theorem w_Layout_isKnown {G : Gx} {K : Int} {M : Mm} (hI : IX G K M)  (a1 : Int32) (p0 : 0 ≤ a1.toInt ∧ a1.toInt ≤ 25) : wpR (q_Layout_isKnown M a1) (fun M' r => M = M' ∧ (0 ≤ r.toInt ∧ r.toInt ≤ 1)) := by
  unfold q_Layout_isKnown
  have z1 := hI.rgR
  have k2 : 0 ≤ (a1 : Int32).toInt ∧ (a1 : Int32).toInt < ((26 : Nat) : Int) := by omega
  refine wpR_ix (vI k2) ?_
  refine wpR_eq (x := (M.1 39 (a1 : Int32).toNatClampNeg : Int32).toInt) (y := 0) rfl (rfl : (0 : Int32).toInt = 0) (fun c3 => ?_) (fun c3 => ?_)
  · skip
    have z4 : (1 : Int32).toInt = 1 := rfl
    exact wpR_some ⟨rfl, (by omega)⟩
  · skip
    refine wpR_ix (vI k2) ?_
    refine wpR_eq (x := (M.1 39 (a1 : Int32).toNatClampNeg : Int32).toInt) (y := 2) rfl (rfl : (2 : Int32).toInt = 2) (fun c5 => ?_) (fun c5 => ?_)
    · skip
      have z6 : (1 : Int32).toInt = 1 := rfl
      exact wpR_some ⟨rfl, (by omega)⟩
    · skip
      have z7 : (0 : Int32).toInt = 0 := rfl
      exact wpR_some ⟨rfl, (by omega)⟩
theorem w_Mind_restart_2 {G : Gx} {K : Int}  : ∀ (n' : Nat) (M : Mm) (v1 : Int32), IX G K M → (0 ≤ v1.toInt ∧ v1.toInt ≤ 16) → 16 - v1.toInt < (n' : Int) → wpR (q_Mind_restart_2 n' M v1) (fun M' r => IX G K M' ∧ True) := by
  intro n'
  induction n' with
  | zero =>
    intro M v1 hI p0 hn
    have z1 := hI.rgR
    exfalso; omega
  | succ n' ih =>
    intro M v1 hI p0 hn
    rw [q_Mind_restart_2]
    have z2 := hI.rgR
    refine wpR_le (x := 16) (y := v1.toInt) (rfl : (16 : Int32).toInt = 16) rfl (fun c3 => ?_) (fun c3 => ?_)
    · skip
      refine wpR_ltv (fun m4 e5 => ?_)
      have i6 : IX G K m4 := by rw [e5]; exact hI.s51_2 _
      exact wpR_some ⟨i6, trivial⟩
    · skip
      have k7 : 0 ≤ (v1 : Int32).toInt ∧ (v1 : Int32).toInt < ((16 : Nat) : Int) := by omega
      refine wpR_ix (vI k7) ?_
      refine wpR_ix (vI k7) ?_
      refine wpR_ix (vI k7) ?_
      refine wpR_ltv (fun m8 e9 => ?_)
      have i10 : IX G K m8 := by rw [e9]; exact hI.s52 _
      have z11 : (v1 + 1 : Int32).toInt = v1.toInt + 1 := iadd rfl (rfl : (1 : Int32).toInt = 1) (by omega) (by omega)
      exact ih m8 (v1 + 1) i10 (by omega) (by omega)
theorem w_Mind_restart {G : Gx} {K : Int} {M : Mm} (hI : IX G K M)  : wpR (q_Mind_restart M) (fun M' r => IX G K M' ∧ True) := by
  unfold q_Mind_restart
  have z1 := hI.rgR
  have z2 : (0 : Int32).toInt = 0 := rfl
  exact w_Mind_restart_2 4000 M 0 hI (by omega) (by omega)
theorem w_Device_restart_9 {G : Gx} {K : Int}  : ∀ (n' : Nat) (M : Mm) (v1 : Int32), IX G K M → (0 ≤ v1.toInt ∧ v1.toInt ≤ 16) → 16 - v1.toInt < (n' : Int) → wpR (q_Device_restart_9 n' M v1) (fun M' r => IX G K M' ∧ True) := by
  intro n'
  induction n' with
  | zero =>
    intro M v1 hI p0 hn
    have z1 := hI.rgR
    exfalso; omega
  | succ n' ih =>
    intro M v1 hI p0 hn
    rw [q_Device_restart_9]
    have z2 := hI.rgR
    refine wpR_le (x := 16) (y := v1.toInt) (rfl : (16 : Int32).toInt = 16) rfl (fun c3 => ?_) (fun c3 => ?_)
    · skip
      refine wpR_ltv (fun m4 e5 => ?_)
      have i6 : IX G K m4 := by rw [e5]; exact hI.s58 _
      refine wpR_ltv (fun m7 e8 => ?_)
      have i9 : IX G K m7 := by rw [e8]; exact i6.s59 _
      refine wpR_ltv (fun m10 e11 => ?_)
      have i12 : IX G K m10 := by rw [e11]; exact i9.s50_3 _
      have z16 : (0 : Int32).toInt = 0 := rfl
      have z17 := i12.log
      refine wpR_ltv (fun m13 e14 => ?_)
      have i15 : IX G K m13 := by rw [e14]; exact i12.s53_0 (by omega)
      exact wpR_some ⟨i15, trivial⟩
    · skip
      have k18 : 0 ≤ (v1 : Int32).toInt ∧ (v1 : Int32).toInt < ((16 : Nat) : Int) := by omega
      refine wpR_ix (vI k18) ?_
      refine wpR_ix (vI k18) ?_
      refine wpR_ix (vI k18) ?_
      refine wpR_ltv (fun m19 e20 => ?_)
      have i21 : IX G K m19 := by rw [e20]; exact hI.s57 _
      have z22 : (v1 + 1 : Int32).toInt = v1.toInt + 1 := iadd rfl (rfl : (1 : Int32).toInt = 1) (by omega) (by omega)
      exact ih m19 (v1 + 1) i21 (by omega) (by omega)
theorem w_Device_restart {G : Gx} {K : Int} {M : Mm} (hI : IX G K M)  : wpR (q_Device_restart M) (fun M' r => IX G K M' ∧ True) := by
  unfold q_Device_restart
  have z1 := hI.rgR
  refine wpR_cl (w_Mind_restart hI) (fun m3 u2 h4 => ?_)
  have i5 := h4.1
  have z6 : (0 : Int32).toInt = 0 := rfl
  exact w_Device_restart_9 4000 m3 0 i5 (by omega) (by omega)
theorem w_ChipMap_startAgain {G : Gx} {K : Int} {M : Mm} (hI : IX G K M)  : wpR (q_ChipMap_startAgain M) (fun M' r => IX G K M' ∧ True) := by
  unfold q_ChipMap_startAgain
  have z1 := hI.rgR
  refine wpR_cl (w_Device_restart hI) (fun m3 u2 h4 => ?_)
  have i5 := h4.1
  refine wpR_ltv (fun m6 e7 => ?_)
  have i8 : IX G K m6 := by rw [e7]; exact i5.s65_0
  exact wpR_some ⟨i8, trivial⟩
theorem w_ChipMap_fault {G : Gx} {K : Int} {M : Mm} (hI : IX G K M)  (a1 : Int32) : wpR (q_ChipMap_fault M a1) (fun M' r => M = M' ∧ True) := by
  unfold q_ChipMap_fault
  have z1 := hI.rgR
  refine wpR_eq (x := a1.toInt) (y := 0) rfl (rfl : (0 : Int32).toInt = 0) (fun c2 => ?_) (fun c2 => ?_)
  · skip
    exact wpR_some ⟨rfl, trivial⟩
  · skip
    refine wpR_eq (x := a1.toInt) (y := 1) rfl (rfl : (1 : Int32).toInt = 1) (fun c3 => ?_) (fun c3 => ?_)
    · skip
      exact wpR_some ⟨rfl, trivial⟩
    · skip
      exact wpR_some ⟨rfl, trivial⟩
theorem w_Layout_has {G : Gx} {K : Int} {M : Mm} (hI : IX G K M)  (a1 : Int32) : wpR (q_Layout_has M a1) (fun M' r => M = M' ∧ (0 ≤ r.toInt ∧ r.toInt ≤ 1) ∧ ((r.toInt ≠ 0 → HasF G.hm a1))) := by
  unfold q_Layout_has
  have z1 := hI.rgR
  refine wpR_lw (x := a1.toInt) (y := 0) rfl (rfl : (0 : Int32).toInt = 0) (fun c2 => ?_) (fun c2 => ?_)
  · skip
    have z3 : (0 : Int32).toInt = 0 := rfl
    exact wpR_some ⟨rfl, (by omega), (fun h => absurd rfl h)⟩
  · skip
    refine wpR_le (x := 26) (y := a1.toInt) (rfl : (26 : Int32).toInt = 26) rfl (fun c4 => ?_) (fun c4 => ?_)
    · skip
      have z5 : (0 : Int32).toInt = 0 := rfl
      exact wpR_some ⟨rfl, (by omega), (fun h => absurd rfl h)⟩
    · skip
      have k6 : 0 ≤ (a1 : Int32).toInt ∧ (a1 : Int32).toInt < ((26 : Nat) : Int) := by omega
      refine wpR_ix (vI k6) ?_
      have z7 := hI.f38 ((a1 : Int32).toNatClampNeg)
      refine wpR_eq (x := (M.1 38 (a1 : Int32).toNatClampNeg : Int32).toInt) (y := (-1)) rfl (by decide : (-1 : Int32).toInt = -1) (fun c8 => ?_) (fun c8 => ?_)
      · skip
        have z9 : (0 : Int32).toInt = 0 := rfl
        exact wpR_some ⟨rfl, (by omega), (fun h => absurd rfl h)⟩
      · skip
        have z10 : (1 : Int32).toInt = 1 := rfl
        exact wpR_some ⟨rfl, (by omega), (fun _ => hI.mkF (by omega) (by omega) (by omega))⟩
theorem w_Layout_bitsOf {G : Gx} {K : Int} {M : Mm} (hI : IX G K M)  (a1 : Int32) (a2 : Int32) (p0 : 0 ≤ a1.toInt ∧ a1.toInt ≤ 25) : wpR (q_Layout_bitsOf M a1 a2) (fun M' r => M = M' ∧ True) := by
  unfold q_Layout_bitsOf
  have z1 := hI.rgR
  have k2 : 0 ≤ (a1 : Int32).toInt ∧ (a1 : Int32).toInt < ((26 : Nat) : Int) := by omega
  refine wpR_ix (vI k2) ?_
  refine wpR_ix (vI k2) ?_
  exact wpR_some ⟨rfl, trivial⟩
theorem w_Device_valueOf {G : Gx} {K : Int} {M : Mm} (hI : IX G K M)  (a1 : Int32) (p0 : HasF G.hm a1) : wpR (q_Device_valueOf M a1) (fun M' r => M = M' ∧ True) := by
  unfold q_Device_valueOf
  have z1 := hI.rgR
  have z2 := p0.r
  have k3 : 0 ≤ (a1 : Int32).toInt ∧ (a1 : Int32).toInt < ((26 : Nat) : Int) := by omega
  refine wpR_ix (vI k3) ?_
  refine wpR_lt ?_
  have z4 := hI.f38 ((a1 : Int32).toNatClampNeg)
  have k5 : 0 ≤ ((M.1 38 (a1 : Int32).toNatClampNeg) : Int32).toInt ∧ ((M.1 38 (a1 : Int32).toNatClampNeg) : Int32).toInt < ((16 : Nat) : Int) := by omega
  refine wpR_ix (vI k5) ?_
  refine wpR_ix (vI k5) ?_
  refine wpR_ro (w_Layout_bitsOf hI a1 ((M.1 52 ((M.1 38 (a1 : Int32).toNatClampNeg) : Int32).toNatClampNeg) ||| (M.1 57 ((M.1 38 (a1 : Int32).toNatClampNeg) : Int32).toNatClampNeg)) (by omega)) (fun u6 _ => ?_)
  exact wpR_some ⟨rfl, trivial⟩
theorem w_ChipMap_field {G : Gx} {K : Int} {M : Mm} (hI : IX G K M)  (a1 : Int32) (a2 : Int32) : wpR (q_ChipMap_field M a1 a2) (fun M' r => M = M' ∧ True) := by
  unfold q_ChipMap_field
  have z1 := hI.rgR
  refine wpR_ro (w_Layout_has hI a1) (fun u2 h5 => ?_)
  obtain ⟨h3, h4⟩ := h5
  refine wpR_eq (x := u2.toInt) (y := 0) rfl (rfl : (0 : Int32).toInt = 0) (fun c6 => ?_) (fun c6 => ?_)
  · skip
    exact wpR_some ⟨rfl, trivial⟩
  · skip
    have f7 : HasF G.hm a1 := h4 c6
    have z8 := f7.r
    refine wpR_eq (x := a2.toInt) (y := 0) rfl (rfl : (0 : Int32).toInt = 0) (fun c9 => ?_) (fun c9 => ?_)
    · skip
      have k10 : 0 ≤ (a1 : Int32).toInt ∧ (a1 : Int32).toInt < ((26 : Nat) : Int) := by omega
      refine wpR_ix (vI k10) ?_
      exact wpR_some ⟨rfl, trivial⟩
    · skip
      refine wpR_eq (x := a2.toInt) (y := 1) rfl (rfl : (1 : Int32).toInt = 1) (fun c11 => ?_) (fun c11 => ?_)
      · skip
        have k12 : 0 ≤ (a1 : Int32).toInt ∧ (a1 : Int32).toInt < ((26 : Nat) : Int) := by omega
        refine wpR_ix (vI k12) ?_
        exact wpR_some ⟨rfl, trivial⟩
      · skip
        refine wpR_eq (x := a2.toInt) (y := 2) rfl (rfl : (2 : Int32).toInt = 2) (fun c13 => ?_) (fun c13 => ?_)
        · skip
          have k14 : 0 ≤ (a1 : Int32).toInt ∧ (a1 : Int32).toInt < ((26 : Nat) : Int) := by omega
          refine wpR_ix (vI k14) ?_
          exact wpR_some ⟨rfl, trivial⟩
        · skip
          refine wpR_eq (x := a2.toInt) (y := 3) rfl (rfl : (3 : Int32).toInt = 3) (fun c15 => ?_) (fun c15 => ?_)
          · skip
            refine wpR_ro (w_Device_valueOf hI a1 f7) (fun u16 _ => ?_)
            exact wpR_some ⟨rfl, trivial⟩
          · skip
            refine wpR_eq (x := a2.toInt) (y := 4) rfl (rfl : (4 : Int32).toInt = 4) (fun c18 => ?_) (fun c18 => ?_)
            · skip
              have k19 : 0 ≤ (a1 : Int32).toInt ∧ (a1 : Int32).toInt < ((26 : Nat) : Int) := by omega
              refine wpR_ix (vI k19) ?_
              have z20 := hI.f38 ((a1 : Int32).toNatClampNeg)
              have k21 : 0 ≤ ((M.1 38 (a1 : Int32).toNatClampNeg) : Int32).toInt ∧ ((M.1 38 (a1 : Int32).toNatClampNeg) : Int32).toInt < ((16 : Nat) : Int) := by omega
              refine wpR_ix (vI k21) ?_
              refine wpR_ro (w_Layout_bitsOf hI a1 (M.1 58 ((M.1 38 (a1 : Int32).toNatClampNeg) : Int32).toNatClampNeg) (by omega)) (fun u22 _ => ?_)
              exact wpR_some ⟨rfl, trivial⟩
            · skip
              exact wpR_some ⟨rfl, trivial⟩
theorem w_ChipMap_hasMap {G : Gx} {K : Int} {M : Mm} (hI : IX G K M)  : wpR (q_ChipMap_hasMap M) (fun M' r => M = M' ∧ (0 ≤ r.toInt ∧ r.toInt ≤ 1)) := by
  unfold q_ChipMap_hasMap
  have z1 := hI.rgR
  have z2 := hI.f24_0
  refine wpR_le (x := (M.1 24 0 : Int32).toInt) (y := 0) rfl (rfl : (0 : Int32).toInt = 0) (fun c3 => ?_) (fun c3 => ?_)
  · skip
    have z4 : (0 : Int32).toInt = 0 := rfl
    exact wpR_some ⟨rfl, (by omega)⟩
  · skip
    have z5 : (1 : Int32).toInt = 1 := rfl
    exact wpR_some ⟨rfl, (by omega)⟩
theorem w_ChipMap_reset {G : Gx} {K : Int} {M : Mm} (hI : IX G K M)  : wpR (q_ChipMap_reset M) (fun M' r => IX G K M' ∧ True) := by
  unfold q_ChipMap_reset
  have z1 := hI.rgR
  refine wpR_ro (w_ChipMap_hasMap hI) (fun u2 h3 => ?_)
  refine wpR_eq (x := u2.toInt) (y := 0) rfl (rfl : (0 : Int32).toInt = 0) (fun c5 => ?_) (fun c5 => ?_)
  · skip
    exact wpR_some ⟨hI, trivial⟩
  · skip
    refine wpR_cl (w_ChipMap_startAgain hI) (fun m7 u6 h8 => ?_)
    have i9 := h8.1
    exact wpR_some ⟨i9, trivial⟩
theorem w_Mind_knownValue {G : Gx} {K : Int} {M : Mm} (hI : IX G K M)  (a1 : Int32) (p0 : HasF G.hm a1) : wpR (q_Mind_knownValue M a1) (fun M' r => M = M' ∧ True) := by
  unfold q_Mind_knownValue
  have z1 := hI.rgR
  have z2 := p0.r
  have k3 : 0 ≤ (a1 : Int32).toInt ∧ (a1 : Int32).toInt < ((26 : Nat) : Int) := by omega
  refine wpR_ix (vI k3) ?_
  have z4 := hI.f38 ((a1 : Int32).toNatClampNeg)
  have k5 : 0 ≤ ((M.1 38 (a1 : Int32).toNatClampNeg) : Int32).toInt ∧ ((M.1 38 (a1 : Int32).toNatClampNeg) : Int32).toInt < ((16 : Nat) : Int) := by omega
  refine wpR_ix (vI k5) ?_
  refine wpR_ix (vI k3) ?_
  refine wpR_ix (vI k3) ?_
  exact wpR_some ⟨rfl, trivial⟩
theorem w_Mind_isThere {G : Gx} {K : Int} {M : Mm} (hI : IX G K M)  (a1 : Int32) (p0 : 0 ≤ a1.toInt ∧ a1.toInt < G.rg) : wpR (q_Mind_isThere M a1) (fun M' r => M = M' ∧ (0 ≤ r.toInt ∧ r.toInt ≤ 1) ∧ ((r.toInt = 0 → HasF G.hm (M.1 26 (a1 : Int32).toNatClampNeg)))) := by
  unfold q_Mind_isThere
  have z1 := hI.rgR
  have k2 : 0 ≤ (a1 : Int32).toInt ∧ (a1 : Int32).toInt < ((16 : Nat) : Int) := by omega
  refine wpR_ix (vI k2) ?_
  refine wpR_lt ?_
  refine wpR_eq (x := (M.1 26 (a1 : Int32).toNatClampNeg : Int32).toInt) (y := (-1)) rfl (by decide : (-1 : Int32).toInt = -1) (fun c3 => ?_) (fun c3 => ?_)
  · skip
    have z4 : (1 : Int32).toInt = 1 := rfl
    exact wpR_some ⟨rfl, (by omega), (fun h => absurd h (by decide))⟩
  · skip
    refine wpR_ro (w_Mind_knownValue hI (M.1 26 (a1 : Int32).toNatClampNeg) (hI.f26 (v := a1) (by omega) (by omega) (by omega))) (fun u5 _ => ?_)
    refine wpR_ix (vI k2) ?_
    refine wpR_eq (x := u5.toInt) (y := (M.1 27 (a1 : Int32).toNatClampNeg : Int32).toInt) rfl rfl (fun c7 => ?_) (fun c7 => ?_)
    · skip
      have z8 : (1 : Int32).toInt = 1 := rfl
      exact wpR_some ⟨rfl, (by omega), (fun h => absurd h (by decide))⟩
    · skip
      have z9 : (0 : Int32).toInt = 0 := rfl
      exact wpR_some ⟨rfl, (by omega), (fun _ => hI.f26 (by omega) (by omega) (by omega))⟩
theorem w_Device_registerAt_2 {G : Gx} {K : Int} {M : Mm} (hI : IX G K M) : ∀ (n' : Nat) (v1 : Int32) (v2 : Int32), (0 ≤ v2.toInt ∧ v2.toInt ≤ 16) → 16 - v2.toInt < (n' : Int) → wpR (q_Device_registerAt_2 n' M v1 v2) (fun M' r => M = M' ∧ (-1 ≤ r.toInt ∧ r.toInt < G.rg ∧ G.rg ≤ 16)) := by
  intro n'
  induction n' with
  | zero =>
    intro v1 v2 p0 hn
    exfalso; omega
  | succ n' ih =>
    intro v1 v2 p0 hn
    rw [q_Device_registerAt_2]
    have z1 := hI.rgR
    have z2 := hI.f24_0
    refine wpR_le (x := (M.1 24 0 : Int32).toInt) (y := v2.toInt) rfl rfl (fun c3 => ?_) (fun c3 => ?_)
    · skip
      have z4 : (-1 : Int32).toInt = -1 := by decide
      exact wpR_some ⟨rfl, (by omega)⟩
    · skip
      have k5 : 0 ≤ (v2 : Int32).toInt ∧ (v2 : Int32).toInt < ((16 : Nat) : Int) := by omega
      refine wpR_ix (vI k5) ?_
      refine wpR_eq (x := (M.1 25 (v2 : Int32).toNatClampNeg : Int32).toInt) (y := v1.toInt) rfl rfl (fun c6 => ?_) (fun c6 => ?_)
      · skip
        refine wpR_ro (w_Mind_isThere hI v2 (by omega)) (fun u7 h10 => ?_)
        obtain ⟨h8, h9⟩ := h10
        refine wpR_eq (x := u7.toInt) (y := 0) rfl (rfl : (0 : Int32).toInt = 0) (fun c11 => ?_) (fun c11 => ?_)
        · skip
          have f12 : HasF G.hm (M.1 26 (v2 : Int32).toNatClampNeg) := h9 c11
          have z13 := f12.r
          unfold q_Device_registerAt_39
          have z14 : (v2 + 1 : Int32).toInt = v2.toInt + 1 := iadd rfl (rfl : (1 : Int32).toInt = 1) (by omega) (by omega)
          exact ih v1 (v2 + 1) (by omega) (by omega)
        · skip
          exact wpR_some ⟨rfl, (by omega)⟩
      · skip
        unfold q_Device_registerAt_39
        have z15 : (v2 + 1 : Int32).toInt = v2.toInt + 1 := iadd rfl (rfl : (1 : Int32).toInt = 1) (by omega) (by omega)
        exact ih v1 (v2 + 1) (by omega) (by omega)
theorem w_Device_registerAt {G : Gx} {K : Int} {M : Mm} (hI : IX G K M)  (a1 : Int32) : wpR (q_Device_registerAt M a1) (fun M' r => M = M' ∧ (-1 ≤ r.toInt ∧ r.toInt < G.rg ∧ G.rg ≤ 16)) := by
  unfold q_Device_registerAt
  have z1 := hI.rgR
  have z2 : (0 : Int32).toInt = 0 := rfl
  exact w_Device_registerAt_2 hI 4000 a1 0 (by omega) (by omega)
theorem w_Mind_isWritten {G : Gx} {K : Int} {M : Mm} (hI : IX G K M)  (a1 : Int32) (a2 : Int32) (a3 : Int32) (p0 : 0 ≤ a1.toInt ∧ a1.toInt ≤ 25) (p1 : 0 ≤ a2.toInt ∧ a2.toInt ≤ 15) : wpR (q_Mind_isWritten M a1 a2 a3) (fun M' r => M = M' ∧ (0 ≤ r.toInt ∧ r.toInt ≤ 1)) := by
  unfold q_Mind_isWritten
  have z1 := hI.rgR
  have k2 : 0 ≤ (a1 : Int32).toInt ∧ (a1 : Int32).toInt < ((26 : Nat) : Int) := by omega
  refine wpR_ix (vI k2) ?_
  have z3 := hI.f38 ((a1 : Int32).toNatClampNeg)
  refine wpR_eq (x := (M.1 38 (a1 : Int32).toNatClampNeg : Int32).toInt) (y := a2.toInt) rfl rfl (fun c4 => ?_) (fun c4 => ?_)
  · skip
    have k5 : 0 ≤ (a2 : Int32).toInt ∧ (a2 : Int32).toInt < ((16 : Nat) : Int) := by omega
    refine wpR_ix (vI k5) ?_
    refine wpR_ix (vI k2) ?_
    refine wpR_eq (x := ((a3 ^^^ (M.1 52 (a2 : Int32).toNatClampNeg)) &&& (M.1 42 (a1 : Int32).toNatClampNeg) : Int32).toInt) (y := 0) rfl (rfl : (0 : Int32).toInt = 0) (fun c6 => ?_) (fun c6 => ?_)
    · skip
      have z7 : (0 : Int32).toInt = 0 := rfl
      exact wpR_some ⟨rfl, (by omega)⟩
    · skip
      have z8 : (1 : Int32).toInt = 1 := rfl
      exact wpR_some ⟨rfl, (by omega)⟩
  · skip
    have z9 : (0 : Int32).toInt = 0 := rfl
    exact wpR_some ⟨rfl, (by omega)⟩
theorem w_Mind_brokenBy_14 {G : Gx} {K : Int} {M : Mm} (hI : IX G K M) : ∀ (n' : Nat) (v1 : Int32) (v2 : Int32) (v4 : Int32) (v5 : Int32), (0 ≤ v5.toInt ∧ v5.toInt ≤ 12) → (0 ≤ v1.toInt ∧ v1.toInt ≤ 15) → 12 - v5.toInt < (n' : Int) → wpR (q_Mind_brokenBy_14 n' M v1 v2 v4 v5) (fun M' r => M = M' ∧ True) := by
  intro n'
  induction n' with
  | zero =>
    intro v1 v2 v4 v5 p0 p1 hn
    exfalso; omega
  | succ n' ih =>
    intro v1 v2 v4 v5 p0 p1 hn
    rw [q_Mind_brokenBy_14]
    have z1 := hI.rgR
    have z2 := hI.rc
    refine wpR_le (x := (M.1 43 0 : Int32).toInt) (y := v5.toInt) rfl rfl (fun c3 => ?_) (fun c3 => ?_)
    · skip
      exact wpR_some ⟨rfl, trivial⟩
    · skip
      refine wpR_eq (x := ((((M.1 51 2) : Int32) >>> (v5 &&& 31)) &&& 1 : Int32).toInt) (y := 1) rfl (rfl : (1 : Int32).toInt = 1) (fun c4 => ?_) (fun c4 => ?_)
      · skip
        unfold q_Mind_brokenBy_41
        have k5 : 0 ≤ (v5 : Int32).toInt ∧ (v5 : Int32).toInt < ((12 : Nat) : Int) := by omega
        refine wpR_ix (vI k5) ?_
        refine wpR_eq (x := (M.1 44 (v5 : Int32).toNatClampNeg : Int32).toInt) (y := 0) rfl (rfl : (0 : Int32).toInt = 0) (fun c6 => ?_) (fun c6 => ?_)
        · skip
          refine wpR_eq (x := 1) (y := 0) (rfl : (1 : Int32).toInt = 1) (rfl : (0 : Int32).toInt = 0) (fun c7 => ?_) (fun c7 => ?_)
          · skip
            refine wpR_ix (vI k5) ?_
            have f8 := hI.f46 (v := v5) (by omega) (by omega)
            have z9 := f8.r
            refine wpR_ro (w_Mind_isWritten hI (M.1 46 (v5 : Int32).toNatClampNeg) v1 v2 (by omega) (by omega)) (fun u10 h11 => ?_)
            refine wpR_eq (x := u10.toInt) (y := 0) rfl (rfl : (0 : Int32).toInt = 0) (fun c13 => ?_) (fun c13 => ?_)
            · skip
              unfold q_Mind_brokenBy_78
              unfold q_Mind_brokenBy_79
              unfold q_Mind_brokenBy_170
              refine wpR_eq (x := 0) (y := 0) (rfl : (0 : Int32).toInt = 0) (rfl : (0 : Int32).toInt = 0) (fun c14 => ?_) (fun c14 => ?_)
              · skip
                unfold q_Mind_brokenBy_184
                have z15 : (v5 + 1 : Int32).toInt = v5.toInt + 1 := iadd rfl (rfl : (1 : Int32).toInt = 1) (by omega) (by omega)
                exact ih v1 v2 v4 (v5 + 1) (by omega) (by omega) (by omega)
              · skip
                refine wpR_lt ?_
                unfold q_Mind_brokenBy_184
                have z16 : (v5 + 1 : Int32).toInt = v5.toInt + 1 := iadd rfl (rfl : (1 : Int32).toInt = 1) (by omega) (by omega)
                exact ih v1 v2 (v4 ||| ((1 : Int32) <<< (v5 &&& 31))) (v5 + 1) (by omega) (by omega) (by omega)
            · skip
              unfold q_Mind_brokenBy_79
              unfold q_Mind_brokenBy_170
              refine wpR_eq (x := 1) (y := 0) (rfl : (1 : Int32).toInt = 1) (rfl : (0 : Int32).toInt = 0) (fun c17 => ?_) (fun c17 => ?_)
              · skip
                unfold q_Mind_brokenBy_184
                have z18 : (v5 + 1 : Int32).toInt = v5.toInt + 1 := iadd rfl (rfl : (1 : Int32).toInt = 1) (by omega) (by omega)
                exact ih v1 v2 v4 (v5 + 1) (by omega) (by omega) (by omega)
              · skip
                refine wpR_lt ?_
                unfold q_Mind_brokenBy_184
                have z19 : (v5 + 1 : Int32).toInt = v5.toInt + 1 := iadd rfl (rfl : (1 : Int32).toInt = 1) (by omega) (by omega)
                exact ih v1 v2 (v4 ||| ((1 : Int32) <<< (v5 &&& 31))) (v5 + 1) (by omega) (by omega) (by omega)
          · skip
            unfold q_Mind_brokenBy_78
            unfold q_Mind_brokenBy_79
            unfold q_Mind_brokenBy_170
            refine wpR_eq (x := 0) (y := 0) (rfl : (0 : Int32).toInt = 0) (rfl : (0 : Int32).toInt = 0) (fun c20 => ?_) (fun c20 => ?_)
            · skip
              unfold q_Mind_brokenBy_184
              have z21 : (v5 + 1 : Int32).toInt = v5.toInt + 1 := iadd rfl (rfl : (1 : Int32).toInt = 1) (by omega) (by omega)
              exact ih v1 v2 v4 (v5 + 1) (by omega) (by omega) (by omega)
            · skip
              refine wpR_lt ?_
              unfold q_Mind_brokenBy_184
              have z22 : (v5 + 1 : Int32).toInt = v5.toInt + 1 := iadd rfl (rfl : (1 : Int32).toInt = 1) (by omega) (by omega)
              exact ih v1 v2 (v4 ||| ((1 : Int32) <<< (v5 &&& 31))) (v5 + 1) (by omega) (by omega) (by omega)
        · skip
          refine wpR_ix (vI k5) ?_
          refine wpR_eq (x := (M.1 44 (v5 : Int32).toNatClampNeg : Int32).toInt) (y := 2) rfl (rfl : (2 : Int32).toInt = 2) (fun c23 => ?_) (fun c23 => ?_)
          · skip
            refine wpR_eq (x := 1) (y := 0) (rfl : (1 : Int32).toInt = 1) (rfl : (0 : Int32).toInt = 0) (fun c24 => ?_) (fun c24 => ?_)
            · skip
              unfold q_Mind_brokenBy_120
              unfold q_Mind_brokenBy_121
              unfold q_Mind_brokenBy_170
              refine wpR_eq (x := 0) (y := 0) (rfl : (0 : Int32).toInt = 0) (rfl : (0 : Int32).toInt = 0) (fun c25 => ?_) (fun c25 => ?_)
              · skip
                unfold q_Mind_brokenBy_184
                have z26 : (v5 + 1 : Int32).toInt = v5.toInt + 1 := iadd rfl (rfl : (1 : Int32).toInt = 1) (by omega) (by omega)
                exact ih v1 v2 v4 (v5 + 1) (by omega) (by omega) (by omega)
              · skip
                refine wpR_lt ?_
                unfold q_Mind_brokenBy_184
                have z27 : (v5 + 1 : Int32).toInt = v5.toInt + 1 := iadd rfl (rfl : (1 : Int32).toInt = 1) (by omega) (by omega)
                exact ih v1 v2 (v4 ||| ((1 : Int32) <<< (v5 &&& 31))) (v5 + 1) (by omega) (by omega) (by omega)
            · skip
              refine wpR_ix (vI k5) ?_
              have z28 := hI.f45 (v := v5) (by omega) (by omega)
              refine wpR_ro (w_Mind_isWritten hI (M.1 45 (v5 : Int32).toNatClampNeg) v1 v2 (by omega) (by omega)) (fun u29 h30 => ?_)
              refine wpR_eq (x := u29.toInt) (y := 0) rfl (rfl : (0 : Int32).toInt = 0) (fun c32 => ?_) (fun c32 => ?_)
              · skip
                unfold q_Mind_brokenBy_120
                unfold q_Mind_brokenBy_121
                unfold q_Mind_brokenBy_170
                refine wpR_eq (x := 0) (y := 0) (rfl : (0 : Int32).toInt = 0) (rfl : (0 : Int32).toInt = 0) (fun c33 => ?_) (fun c33 => ?_)
                · skip
                  unfold q_Mind_brokenBy_184
                  have z34 : (v5 + 1 : Int32).toInt = v5.toInt + 1 := iadd rfl (rfl : (1 : Int32).toInt = 1) (by omega) (by omega)
                  exact ih v1 v2 v4 (v5 + 1) (by omega) (by omega) (by omega)
                · skip
                  refine wpR_lt ?_
                  unfold q_Mind_brokenBy_184
                  have z35 : (v5 + 1 : Int32).toInt = v5.toInt + 1 := iadd rfl (rfl : (1 : Int32).toInt = 1) (by omega) (by omega)
                  exact ih v1 v2 (v4 ||| ((1 : Int32) <<< (v5 &&& 31))) (v5 + 1) (by omega) (by omega) (by omega)
              · skip
                unfold q_Mind_brokenBy_121
                unfold q_Mind_brokenBy_170
                refine wpR_eq (x := 1) (y := 0) (rfl : (1 : Int32).toInt = 1) (rfl : (0 : Int32).toInt = 0) (fun c36 => ?_) (fun c36 => ?_)
                · skip
                  unfold q_Mind_brokenBy_184
                  have z37 : (v5 + 1 : Int32).toInt = v5.toInt + 1 := iadd rfl (rfl : (1 : Int32).toInt = 1) (by omega) (by omega)
                  exact ih v1 v2 v4 (v5 + 1) (by omega) (by omega) (by omega)
                · skip
                  refine wpR_lt ?_
                  unfold q_Mind_brokenBy_184
                  have z38 : (v5 + 1 : Int32).toInt = v5.toInt + 1 := iadd rfl (rfl : (1 : Int32).toInt = 1) (by omega) (by omega)
                  exact ih v1 v2 (v4 ||| ((1 : Int32) <<< (v5 &&& 31))) (v5 + 1) (by omega) (by omega) (by omega)
          · skip
            refine wpR_ix (vI k5) ?_
            have z39 := hI.f45 (v := v5) (by omega) (by omega)
            refine wpR_ro (w_Mind_isWritten hI (M.1 45 (v5 : Int32).toNatClampNeg) v1 v2 (by omega) (by omega)) (fun u40 h41 => ?_)
            refine wpR_eq (x := u40.toInt) (y := 0) rfl (rfl : (0 : Int32).toInt = 0) (fun c43 => ?_) (fun c43 => ?_)
            · skip
              unfold q_Mind_brokenBy_167
              unfold q_Mind_brokenBy_168
              unfold q_Mind_brokenBy_170
              refine wpR_eq (x := 0) (y := 0) (rfl : (0 : Int32).toInt = 0) (rfl : (0 : Int32).toInt = 0) (fun c44 => ?_) (fun c44 => ?_)
              · skip
                unfold q_Mind_brokenBy_184
                have z45 : (v5 + 1 : Int32).toInt = v5.toInt + 1 := iadd rfl (rfl : (1 : Int32).toInt = 1) (by omega) (by omega)
                exact ih v1 v2 v4 (v5 + 1) (by omega) (by omega) (by omega)
              · skip
                refine wpR_lt ?_
                unfold q_Mind_brokenBy_184
                have z46 : (v5 + 1 : Int32).toInt = v5.toInt + 1 := iadd rfl (rfl : (1 : Int32).toInt = 1) (by omega) (by omega)
                exact ih v1 v2 (v4 ||| ((1 : Int32) <<< (v5 &&& 31))) (v5 + 1) (by omega) (by omega) (by omega)
            · skip
              refine wpR_ix (vI k5) ?_
              have f47 := hI.f46 (v := v5) (by omega) (by omega)
              have z48 := f47.r
              refine wpR_ro (w_Mind_knownValue hI (M.1 46 (v5 : Int32).toNatClampNeg) f47) (fun u49 _ => ?_)
              refine wpR_ix (vI k5) ?_
              refine wpR_eq (x := u49.toInt) (y := (M.1 47 (v5 : Int32).toNatClampNeg : Int32).toInt) rfl rfl (fun c51 => ?_) (fun c51 => ?_)
              · skip
                unfold q_Mind_brokenBy_167
                unfold q_Mind_brokenBy_168
                unfold q_Mind_brokenBy_170
                refine wpR_eq (x := 0) (y := 0) (rfl : (0 : Int32).toInt = 0) (rfl : (0 : Int32).toInt = 0) (fun c52 => ?_) (fun c52 => ?_)
                · skip
                  unfold q_Mind_brokenBy_184
                  have z53 : (v5 + 1 : Int32).toInt = v5.toInt + 1 := iadd rfl (rfl : (1 : Int32).toInt = 1) (by omega) (by omega)
                  exact ih v1 v2 v4 (v5 + 1) (by omega) (by omega) (by omega)
                · skip
                  refine wpR_lt ?_
                  unfold q_Mind_brokenBy_184
                  have z54 : (v5 + 1 : Int32).toInt = v5.toInt + 1 := iadd rfl (rfl : (1 : Int32).toInt = 1) (by omega) (by omega)
                  exact ih v1 v2 (v4 ||| ((1 : Int32) <<< (v5 &&& 31))) (v5 + 1) (by omega) (by omega) (by omega)
              · skip
                unfold q_Mind_brokenBy_168
                unfold q_Mind_brokenBy_170
                refine wpR_eq (x := 1) (y := 0) (rfl : (1 : Int32).toInt = 1) (rfl : (0 : Int32).toInt = 0) (fun c55 => ?_) (fun c55 => ?_)
                · skip
                  unfold q_Mind_brokenBy_184
                  have z56 : (v5 + 1 : Int32).toInt = v5.toInt + 1 := iadd rfl (rfl : (1 : Int32).toInt = 1) (by omega) (by omega)
                  exact ih v1 v2 v4 (v5 + 1) (by omega) (by omega) (by omega)
                · skip
                  refine wpR_lt ?_
                  unfold q_Mind_brokenBy_184
                  have z57 : (v5 + 1 : Int32).toInt = v5.toInt + 1 := iadd rfl (rfl : (1 : Int32).toInt = 1) (by omega) (by omega)
                  exact ih v1 v2 (v4 ||| ((1 : Int32) <<< (v5 &&& 31))) (v5 + 1) (by omega) (by omega) (by omega)
      · skip
        unfold q_Mind_brokenBy_41
        have k58 : 0 ≤ (v5 : Int32).toInt ∧ (v5 : Int32).toInt < ((12 : Nat) : Int) := by omega
        refine wpR_ix (vI k58) ?_
        refine wpR_eq (x := (M.1 44 (v5 : Int32).toNatClampNeg : Int32).toInt) (y := 0) rfl (rfl : (0 : Int32).toInt = 0) (fun c59 => ?_) (fun c59 => ?_)
        · skip
          refine wpR_eq (x := 0) (y := 0) (rfl : (0 : Int32).toInt = 0) (rfl : (0 : Int32).toInt = 0) (fun c60 => ?_) (fun c60 => ?_)
          · skip
            refine wpR_ix (vI k58) ?_
            have f61 := hI.f46 (v := v5) (by omega) (by omega)
            have z62 := f61.r
            refine wpR_ro (w_Mind_isWritten hI (M.1 46 (v5 : Int32).toNatClampNeg) v1 v2 (by omega) (by omega)) (fun u63 h64 => ?_)
            refine wpR_eq (x := u63.toInt) (y := 0) rfl (rfl : (0 : Int32).toInt = 0) (fun c66 => ?_) (fun c66 => ?_)
            · skip
              unfold q_Mind_brokenBy_78
              unfold q_Mind_brokenBy_79
              unfold q_Mind_brokenBy_170
              refine wpR_eq (x := 0) (y := 0) (rfl : (0 : Int32).toInt = 0) (rfl : (0 : Int32).toInt = 0) (fun c67 => ?_) (fun c67 => ?_)
              · skip
                unfold q_Mind_brokenBy_184
                have z68 : (v5 + 1 : Int32).toInt = v5.toInt + 1 := iadd rfl (rfl : (1 : Int32).toInt = 1) (by omega) (by omega)
                exact ih v1 v2 v4 (v5 + 1) (by omega) (by omega) (by omega)
              · skip
                refine wpR_lt ?_
                unfold q_Mind_brokenBy_184
                have z69 : (v5 + 1 : Int32).toInt = v5.toInt + 1 := iadd rfl (rfl : (1 : Int32).toInt = 1) (by omega) (by omega)
                exact ih v1 v2 (v4 ||| ((1 : Int32) <<< (v5 &&& 31))) (v5 + 1) (by omega) (by omega) (by omega)
            · skip
              unfold q_Mind_brokenBy_79
              unfold q_Mind_brokenBy_170
              refine wpR_eq (x := 1) (y := 0) (rfl : (1 : Int32).toInt = 1) (rfl : (0 : Int32).toInt = 0) (fun c70 => ?_) (fun c70 => ?_)
              · skip
                unfold q_Mind_brokenBy_184
                have z71 : (v5 + 1 : Int32).toInt = v5.toInt + 1 := iadd rfl (rfl : (1 : Int32).toInt = 1) (by omega) (by omega)
                exact ih v1 v2 v4 (v5 + 1) (by omega) (by omega) (by omega)
              · skip
                refine wpR_lt ?_
                unfold q_Mind_brokenBy_184
                have z72 : (v5 + 1 : Int32).toInt = v5.toInt + 1 := iadd rfl (rfl : (1 : Int32).toInt = 1) (by omega) (by omega)
                exact ih v1 v2 (v4 ||| ((1 : Int32) <<< (v5 &&& 31))) (v5 + 1) (by omega) (by omega) (by omega)
          · skip
            unfold q_Mind_brokenBy_78
            unfold q_Mind_brokenBy_79
            unfold q_Mind_brokenBy_170
            refine wpR_eq (x := 0) (y := 0) (rfl : (0 : Int32).toInt = 0) (rfl : (0 : Int32).toInt = 0) (fun c73 => ?_) (fun c73 => ?_)
            · skip
              unfold q_Mind_brokenBy_184
              have z74 : (v5 + 1 : Int32).toInt = v5.toInt + 1 := iadd rfl (rfl : (1 : Int32).toInt = 1) (by omega) (by omega)
              exact ih v1 v2 v4 (v5 + 1) (by omega) (by omega) (by omega)
            · skip
              refine wpR_lt ?_
              unfold q_Mind_brokenBy_184
              have z75 : (v5 + 1 : Int32).toInt = v5.toInt + 1 := iadd rfl (rfl : (1 : Int32).toInt = 1) (by omega) (by omega)
              exact ih v1 v2 (v4 ||| ((1 : Int32) <<< (v5 &&& 31))) (v5 + 1) (by omega) (by omega) (by omega)
        · skip
          refine wpR_ix (vI k58) ?_
          refine wpR_eq (x := (M.1 44 (v5 : Int32).toNatClampNeg : Int32).toInt) (y := 2) rfl (rfl : (2 : Int32).toInt = 2) (fun c76 => ?_) (fun c76 => ?_)
          · skip
            refine wpR_eq (x := 0) (y := 0) (rfl : (0 : Int32).toInt = 0) (rfl : (0 : Int32).toInt = 0) (fun c77 => ?_) (fun c77 => ?_)
            · skip
              unfold q_Mind_brokenBy_120
              unfold q_Mind_brokenBy_121
              unfold q_Mind_brokenBy_170
              refine wpR_eq (x := 0) (y := 0) (rfl : (0 : Int32).toInt = 0) (rfl : (0 : Int32).toInt = 0) (fun c78 => ?_) (fun c78 => ?_)
              · skip
                unfold q_Mind_brokenBy_184
                have z79 : (v5 + 1 : Int32).toInt = v5.toInt + 1 := iadd rfl (rfl : (1 : Int32).toInt = 1) (by omega) (by omega)
                exact ih v1 v2 v4 (v5 + 1) (by omega) (by omega) (by omega)
              · skip
                refine wpR_lt ?_
                unfold q_Mind_brokenBy_184
                have z80 : (v5 + 1 : Int32).toInt = v5.toInt + 1 := iadd rfl (rfl : (1 : Int32).toInt = 1) (by omega) (by omega)
                exact ih v1 v2 (v4 ||| ((1 : Int32) <<< (v5 &&& 31))) (v5 + 1) (by omega) (by omega) (by omega)
            · skip
              refine wpR_ix (vI k58) ?_
              have z81 := hI.f45 (v := v5) (by omega) (by omega)
              refine wpR_ro (w_Mind_isWritten hI (M.1 45 (v5 : Int32).toNatClampNeg) v1 v2 (by omega) (by omega)) (fun u82 h83 => ?_)
              refine wpR_eq (x := u82.toInt) (y := 0) rfl (rfl : (0 : Int32).toInt = 0) (fun c85 => ?_) (fun c85 => ?_)
              · skip
                unfold q_Mind_brokenBy_120
                unfold q_Mind_brokenBy_121
                unfold q_Mind_brokenBy_170
                refine wpR_eq (x := 0) (y := 0) (rfl : (0 : Int32).toInt = 0) (rfl : (0 : Int32).toInt = 0) (fun c86 => ?_) (fun c86 => ?_)
                · skip
                  unfold q_Mind_brokenBy_184
                  have z87 : (v5 + 1 : Int32).toInt = v5.toInt + 1 := iadd rfl (rfl : (1 : Int32).toInt = 1) (by omega) (by omega)
                  exact ih v1 v2 v4 (v5 + 1) (by omega) (by omega) (by omega)
                · skip
                  refine wpR_lt ?_
                  unfold q_Mind_brokenBy_184
                  have z88 : (v5 + 1 : Int32).toInt = v5.toInt + 1 := iadd rfl (rfl : (1 : Int32).toInt = 1) (by omega) (by omega)
                  exact ih v1 v2 (v4 ||| ((1 : Int32) <<< (v5 &&& 31))) (v5 + 1) (by omega) (by omega) (by omega)
              · skip
                unfold q_Mind_brokenBy_121
                unfold q_Mind_brokenBy_170
                refine wpR_eq (x := 1) (y := 0) (rfl : (1 : Int32).toInt = 1) (rfl : (0 : Int32).toInt = 0) (fun c89 => ?_) (fun c89 => ?_)
                · skip
                  unfold q_Mind_brokenBy_184
                  have z90 : (v5 + 1 : Int32).toInt = v5.toInt + 1 := iadd rfl (rfl : (1 : Int32).toInt = 1) (by omega) (by omega)
                  exact ih v1 v2 v4 (v5 + 1) (by omega) (by omega) (by omega)
                · skip
                  refine wpR_lt ?_
                  unfold q_Mind_brokenBy_184
                  have z91 : (v5 + 1 : Int32).toInt = v5.toInt + 1 := iadd rfl (rfl : (1 : Int32).toInt = 1) (by omega) (by omega)
                  exact ih v1 v2 (v4 ||| ((1 : Int32) <<< (v5 &&& 31))) (v5 + 1) (by omega) (by omega) (by omega)
          · skip
            refine wpR_ix (vI k58) ?_
            have z92 := hI.f45 (v := v5) (by omega) (by omega)
            refine wpR_ro (w_Mind_isWritten hI (M.1 45 (v5 : Int32).toNatClampNeg) v1 v2 (by omega) (by omega)) (fun u93 h94 => ?_)
            refine wpR_eq (x := u93.toInt) (y := 0) rfl (rfl : (0 : Int32).toInt = 0) (fun c96 => ?_) (fun c96 => ?_)
            · skip
              unfold q_Mind_brokenBy_167
              unfold q_Mind_brokenBy_168
              unfold q_Mind_brokenBy_170
              refine wpR_eq (x := 0) (y := 0) (rfl : (0 : Int32).toInt = 0) (rfl : (0 : Int32).toInt = 0) (fun c97 => ?_) (fun c97 => ?_)
              · skip
                unfold q_Mind_brokenBy_184
                have z98 : (v5 + 1 : Int32).toInt = v5.toInt + 1 := iadd rfl (rfl : (1 : Int32).toInt = 1) (by omega) (by omega)
                exact ih v1 v2 v4 (v5 + 1) (by omega) (by omega) (by omega)
              · skip
                refine wpR_lt ?_
                unfold q_Mind_brokenBy_184
                have z99 : (v5 + 1 : Int32).toInt = v5.toInt + 1 := iadd rfl (rfl : (1 : Int32).toInt = 1) (by omega) (by omega)
                exact ih v1 v2 (v4 ||| ((1 : Int32) <<< (v5 &&& 31))) (v5 + 1) (by omega) (by omega) (by omega)
            · skip
              refine wpR_ix (vI k58) ?_
              have f100 := hI.f46 (v := v5) (by omega) (by omega)
              have z101 := f100.r
              refine wpR_ro (w_Mind_knownValue hI (M.1 46 (v5 : Int32).toNatClampNeg) f100) (fun u102 _ => ?_)
              refine wpR_ix (vI k58) ?_
              refine wpR_eq (x := u102.toInt) (y := (M.1 47 (v5 : Int32).toNatClampNeg : Int32).toInt) rfl rfl (fun c104 => ?_) (fun c104 => ?_)
              · skip
                unfold q_Mind_brokenBy_167
                unfold q_Mind_brokenBy_168
                unfold q_Mind_brokenBy_170
                refine wpR_eq (x := 0) (y := 0) (rfl : (0 : Int32).toInt = 0) (rfl : (0 : Int32).toInt = 0) (fun c105 => ?_) (fun c105 => ?_)
                · skip
                  unfold q_Mind_brokenBy_184
                  have z106 : (v5 + 1 : Int32).toInt = v5.toInt + 1 := iadd rfl (rfl : (1 : Int32).toInt = 1) (by omega) (by omega)
                  exact ih v1 v2 v4 (v5 + 1) (by omega) (by omega) (by omega)
                · skip
                  refine wpR_lt ?_
                  unfold q_Mind_brokenBy_184
                  have z107 : (v5 + 1 : Int32).toInt = v5.toInt + 1 := iadd rfl (rfl : (1 : Int32).toInt = 1) (by omega) (by omega)
                  exact ih v1 v2 (v4 ||| ((1 : Int32) <<< (v5 &&& 31))) (v5 + 1) (by omega) (by omega) (by omega)
              · skip
                unfold q_Mind_brokenBy_168
                unfold q_Mind_brokenBy_170
                refine wpR_eq (x := 1) (y := 0) (rfl : (1 : Int32).toInt = 1) (rfl : (0 : Int32).toInt = 0) (fun c108 => ?_) (fun c108 => ?_)
                · skip
                  unfold q_Mind_brokenBy_184
                  have z109 : (v5 + 1 : Int32).toInt = v5.toInt + 1 := iadd rfl (rfl : (1 : Int32).toInt = 1) (by omega) (by omega)
                  exact ih v1 v2 v4 (v5 + 1) (by omega) (by omega) (by omega)
                · skip
                  refine wpR_lt ?_
                  unfold q_Mind_brokenBy_184
                  have z110 : (v5 + 1 : Int32).toInt = v5.toInt + 1 := iadd rfl (rfl : (1 : Int32).toInt = 1) (by omega) (by omega)
                  exact ih v1 v2 (v4 ||| ((1 : Int32) <<< (v5 &&& 31))) (v5 + 1) (by omega) (by omega) (by omega)
