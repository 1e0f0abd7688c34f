-- type() of both sides leaves the same letters
theorem ch_id {y : Int32} (h : y.toUInt32.toNat ≤ 255) : vp_nar .char ((y.toUInt32 % 65536).toInt32) = y := by
  have e : vp_nar .char ((y.toUInt32 % 65536).toInt32) = (y.toUInt32 % 65536).toUInt16.toUInt32.toInt32 := rfl
  have e3 : (y.toUInt32 % 65536).toUInt16.toUInt32 = y.toUInt32 := by
    apply UInt32.toNat_inj.mp
    simp
    omega
  rw [e, e3]
  rfl
theorem bX_255 (w : Int64) (i : Int32) : (bX w i).toUInt32.toNat ≤ 255 := by
  unfold bX
  have h1 : ∀ a : Int32, (a &&& 255).toUInt32 = a.toUInt32 &&& 255 := fun _ => rfl
  rw [h1, UInt32.toNat_and]
  exact Nat.and_le_right
theorem nI_tn {L : Nat} (h : L ≤ 480) : (nI L).toNatClampNeg = L := by
  have e : (nI L).toInt = (L : Int) := nI_toInt (by omega)
  have := tnc (i := nI L) (by omega)
  omega
theorem nI_m (k : Nat) : nI k + (-1) = nI k - 1 := (i_m1 (nI k)).symm ▸ rfl
theorem ty_loop (w : Int64) : ∀ (k L n1 n2 : Nat) (M N : Mm), k ≤ 8 → k < n1 → k < n2 → M.1 21 2 = nI L → N.1 0 2 = nI L → L + k ≤ 480 → (∀ j, j < L → M.1 22 j = N.1 1 j) → ∀ (M' N' : Mm) (r s : Int32), q_Reader_append_69 n1 M w (nI k - 1) = some (M', r) → q_ChipMapModel_type_80 n2 N w (nI k - 1) = some (N', s) → M'.1 21 2 = nI (L + k) ∧ ∀ j, j < L + k → M'.1 22 j = N'.1 1 j := by
  intro k
  induction k with
  | zero =>
    intro L n1 n2 M N h8 hn1 hn2 hM hN hL ht M' N' r s h1 h2
    obtain ⟨n1, rfl⟩ : ∃ m, n1 = m + 1 := ⟨n1 - 1, by omega⟩
    obtain ⟨n2, rfl⟩ : ∃ m, n2 = m + 1 := ⟨n2 - 1, by omega⟩
    rw [q_Reader_append_69, if_pos (by decide)] at h1
    rw [q_ChipMapModel_type_80, if_pos (by decide)] at h2
    obtain ⟨rfl, -⟩ := rs_e h1
    obtain ⟨rfl, -⟩ := rs_e h2
    exact ⟨hM, ht⟩
  | succ k ih =>
    intro L n1 n2 M N h8 hn1 hn2 hM hN hL ht M' N' r s h1 h2
    obtain ⟨n1, rfl⟩ : ∃ m, n1 = m + 1 := ⟨n1 - 1, by omega⟩
    obtain ⟨n2, rfl⟩ : ∃ m, n2 = m + 1 := ⟨n2 - 1, by omega⟩
    have hb : q_Reader_byteOf M w (nI k) = some (M, bX w (nI k)) := rfl
    have hv : vp_in (nI L) 480 := vp_in_nI (by omega) (by omega)
    rw [q_Reader_append_69, nI_pred, if_neg (nI_pos (by omega)), hb, cal_s, hM, ix_e hv, lq_s, lq_s, nI_m] at h1
    rw [q_ChipMapModel_type_80, nI_pred, if_neg (nI_pos (by omega)), hN, ix_e hv, lq_s, lq_s, nI_m] at h2
    have key := ih (L + 1) n1 n2 _ _ (by omega) (by omega) (by omega) ?_ ?_ (by omega) ?_ M' N' r s h1 h2
    · rw [show L + (k + 1) = L + 1 + k by omega]
      exact key
    · rw [stI_at]
      show upd _ 2 _ 2 = _
      rw [pk_us, stI_ne _ _ (by decide), hM, nI_1]
    · rw [stI_at]
      show upd _ 2 _ 2 = _
      rw [pk_us, stI_ne _ _ (by decide), hN, nI_1]
    · intro j hj
      rw [nI_tn (by omega)]
      show upd (M.1 22) L _ j = upd (N.1 1) L _ j
      by_cases hjL : j = L
      · rw [hjL, updS, updS, ch_id (bX_255 _ _), bXM w k (by omega)]
        rfl
      · rw [updN hjL, updN hjL]
        exact ht j (by omega)
theorem ty_28 (w : Int64) {N L : Nat} (hN : N ≤ 8) (hL : L + N ≤ 480) : ∀ (k i n1 n2 : Nat) (M Y : Mm), i + k = N → k < n1 → k < n2 → M.1 21 2 = nI L → Y.1 0 2 = nI L → (∀ j, j < L → M.1 22 j = Y.1 1 j) → ∀ (M' Y' : Mm) (r s : Int32), q_Reader_append_28 n1 M w (nI N) (nI i) = some (M', r) → q_ChipMapModel_type_33 n2 Y w (nI N) (nI i) = some (Y', s) → ∀ j : Nat, (j : Int) < (M'.1 21 2).toInt → M'.1 22 j = Y'.1 1 j := by
  intro k
  have eL : (nI L).toInt = (L : Int) := nI_toInt (by omega)
  induction k with
  | zero =>
    intro i n1 n2 M Y hi hn1 hn2 hM hY ht M' Y' r s h1 h2
    obtain rfl : i = N := by omega
    obtain ⟨n1, rfl⟩ : ∃ m, n1 = m + 1 := ⟨n1 - 1, by omega⟩
    obtain ⟨n2, rfl⟩ : ∃ m, n2 = m + 1 := ⟨n2 - 1, by omega⟩
    rw [q_Reader_append_28, if_pos (nI_le (Nat.le_refl i) (by omega)), lq_s] at h1
    rw [q_ChipMapModel_type_33, if_pos (nI_le (Nat.le_refl i) (by omega)), lq_s] at h2
    obtain ⟨g1, g2⟩ := ty_loop w i L 4000 4000 M Y hN (by omega) (by omega) hM hY hL ht M' Y' r s h1 h2
    have eK : (nI (L + i)).toInt = ((L + i : Nat) : Int) := nI_toInt (by omega)
    intro j hj
    rw [g1] at hj
    exact g2 j (by omega)
  | succ k ih =>
    intro i n1 n2 M Y hi hn1 hn2 hM hY ht M' Y' r s h1 h2
    obtain ⟨n1, rfl⟩ : ∃ m, n1 = m + 1 := ⟨n1 - 1, by omega⟩
    obtain ⟨n2, rfl⟩ : ∃ m, n2 = m + 1 := ⟨n2 - 1, by omega⟩
    have old : ∀ j : Nat, (j : Int) < (M.1 21 2).toInt → M.1 22 j = Y.1 1 j := by
      intro j hj
      rw [hM] at hj
      exact ht j (by omega)
    have hb : q_Reader_byteOf M w (nI i) = some (M, bX w (nI i)) := rfl
    rw [q_Reader_append_28, if_neg (nI_ge (by omega) (by omega)), hb, cal_s] at h1
    rw [q_ChipMapModel_type_33, if_neg (nI_ge (by omega) (by omega)), lq_s] at h2
    change (if bM w (nI i) < 33 then (some (Y, 0) : Rs) else (if bM w (nI i) ≤ 126 then q_ChipMapModel_type_33 n2 Y w (nI N) (nI i + 1) else some (Y, 0))) = some (Y', s) at h2
    rw [← bXM w i (by omega)] at h2
    by_cases c1 : bX w (nI i) < 33
    · rw [if_pos c1] at h1 h2
      obtain ⟨rfl, -⟩ := rs_e h1
      obtain ⟨rfl, -⟩ := rs_e h2
      exact old
    · rw [if_neg c1] at h1 h2
      by_cases c2 : bX w (nI i) ≤ 126
      · rw [if_pos c2, nI_1] at h1 h2
        exact ih (i + 1) n1 n2 M Y (by omega) (by omega) (by omega) hM hY ht M' Y' r s h1 h2
      · rw [if_neg c2] at h1 h2
        obtain ⟨rfl, -⟩ := rs_e h1
        obtain ⟨rfl, -⟩ := rs_e h2
        exact old
theorem ty_rel {M Y : Mm} {L : Nat} (hM : M.1 21 2 = nI L) (hY : Y.1 0 2 = nI L) (hL : L ≤ 480) (ht : ∀ j : Nat, (j : Int) < (M.1 21 2).toInt → M.1 22 j = Y.1 1 j) {w : Int64} {n : Int32} {M' Y' : Mm} {r s : Int32} (h0 : q_ChipMap_type M w n = some (M', r)) (h2 : q_ChipMapModel_type Y w n = some (Y', s)) : ∀ j : Nat, (j : Int) < (M'.1 21 2).toInt → M'.1 22 j = Y'.1 1 j := by
  have eL : (nI L).toInt = (L : Int) := nI_toInt (by omega)
  unfold q_ChipMap_type at h0
  obtain ⟨M1, r1, h1, h3⟩ := cal_o h0
  have h3 := bz_r h3
  obtain ⟨rfl, -⟩ := rs_e h3
  unfold q_Reader_append at h1
  unfold q_ChipMapModel_type at h2
  rw [lq_s] at h2
  obtain ⟨Y1, eY⟩ : ∃ z, z = stI Y 0 (upd (Y.1 0) 0 0) := ⟨_, rfl⟩
  rw [← eY] at h2
  have hY1 : Y1.1 0 2 = nI L := by
    rw [eY]
    exact hY
  have ht1 : ∀ j : Nat, (j : Int) < (M.1 21 2).toInt → M.1 22 j = Y1.1 1 j := by
    rw [eY]
    exact ht
  by_cases c1 : n < 1
  · rw [if_pos c1] at h1 h2
    obtain ⟨rfl, -⟩ := rs_e h1
    obtain ⟨rfl, -⟩ := rs_e h2
    exact ht1
  rw [if_neg c1] at h1 h2
  by_cases c8 : 8 < n
  · rw [if_pos c8] at h1 h2
    obtain ⟨rfl, -⟩ := rs_e h1
    obtain ⟨rfl, -⟩ := rs_e h2
    exact ht1
  rw [if_neg c8] at h1 h2
  obtain ⟨N, hN1, hN8, rfl⟩ := nI_18 c1 c8
  rw [hM, nI_add] at h1
  rw [hY1, nI_add] at h2
  by_cases cL : nI (L + N) ≤ 480
  · rw [if_pos cL] at h1 h2
    have hLN : L + N ≤ 480 := (nI_leI (b := 480) (by omega) (by decide)).mp cL
    have a := ty_28 w hN8 hLN N 0 4000 4000 M Y1 (by omega) (by omega) (by omega) hM hY1 (fun j hj => ht1 j (by rw [hM]; omega))
    rw [nI_0] at a
    exact a M1 Y' r1 s h1 h2
  · rw [if_neg cL] at h1 h2
    obtain ⟨rfl, -⟩ := rs_e h1
    obtain ⟨rfl, -⟩ := rs_e h2
    exact ht1
