-- what a function answers, without the machine
def wpR (t : Rs) (Q : Mm → Int32 → Prop) : Prop := ∃ (M : Mm) (r : Int32), t = some (M, r) ∧ Q M r
theorem wpR_some {M : Mm} {r : Int32} {Q : Mm → Int32 → Prop} (h : Q M r) : wpR (some (M, r)) Q := ⟨M, r, rfl, h⟩
theorem wpR_lt {α : Type} {x : α} {k : α → Rs} {Q : Mm → Int32 → Prop} (h : wpR (k x) Q) : wpR (lt' x k) Q := h
theorem wpR_ix {i : Int32} {n : Nat} {k : Rs} {Q : Mm → Int32 → Prop} (hi : vp_in i n) (h : wpR k Q) : wpR (ix i n k) Q := by
  unfold ix
  rw [if_neg hi]
  exact h
theorem wpR_cal {t : Rs} {k : Mm → Int32 → Rs} {Q : Mm → Int32 → Prop} (h : wpR t (fun M r => wpR (k M r) Q)) : wpR (cal t k) Q := by
  obtain ⟨M, r, e, h⟩ := h
  rw [e]
  exact h
theorem wpR_if {c : Prop} [Decidable c] {a b : Rs} {Q : Mm → Int32 → Prop} (ha : c → wpR a Q) (hb : ¬ c → wpR b Q) : wpR (if c then a else b) Q := by
  by_cases hc : c
  · rw [if_pos hc]; exact ha hc
  · rw [if_neg hc]; exact hb hc
theorem wpR_bz {v : Int32} {k : Rs} {Q : Mm → Int32 → Prop} (hv : v = 0 ∨ v = 1) (h : wpR k Q) : wpR (bz v k) Q := by
  unfold bz
  rw [if_pos hv]
  exact h
theorem wpR_cz {v : Int32} {k : Rs} {Q : Mm → Int32 → Prop} (hv : (v.toUInt32 % 65536).toInt32 = v) (h : wpR k Q) : wpR (cz v k) Q := by
  unfold cz
  rw [if_pos hv]
  exact h
theorem wpR_cpk {sp dp n : Int32} {n0 n1 : Nat} {k : Rs} {Q : Mm → Int32 → Prop} (hv : cp_ok sp dp n n0 n1) (h : wpR k Q) : wpR (cpk sp dp n n0 n1 k) Q := by
  unfold cp_ok at hv
  unfold cpk
  rw [if_pos hv]
  exact h
theorem wpR_mono {t : Rs} {Q Q' : Mm → Int32 → Prop} (h : wpR t Q) (hq : ∀ M r, Q M r → Q' M r) : wpR t Q' := by
  obtain ⟨M, r, e, h⟩ := h
  exact ⟨M, r, e, hq M r h⟩
theorem upd_self {f : Nat → Int32} {k : Nat} {v : Int32} (h : f k = v) : upd f k v = f := by
  funext j
  unfold upd
  by_cases hj : j = k
  · rw [hj, if_pos rfl, h]
  · rw [if_neg hj]
theorem stI_ne (M : Mm) {k j : Nat} (f : Nat → Int32) (h : j ≠ k) : (stI M k f).1 j = M.1 j := by simp [stI, h]
/-- the tape's length alone is followed: the class's second loop of append -/
theorem ap69 (w : Int64) : ∀ (k L n' : Nat) (M : Mm), k < n' → M.1 21 2 = nI L → L + k ≤ 480 → wpR (q_Reader_append_69 n' M w (nI k - 1)) (fun M' r => r = 1 ∧ M'.1 21 2 = nI (L + k) ∧ (∀ j, j ≠ 2 → M'.1 21 j = M.1 21 j) ∧ M'.2 = M.2 ∧ ∀ p, p ≠ 21 → p ≠ 22 → M'.1 p = M.1 p) := by
  intro k
  induction k with
  | zero =>
    intro L n' M hn hM hL
    obtain ⟨n', rfl⟩ : ∃ m, n' = m + 1 := ⟨n' - 1, by omega⟩
    rw [q_Reader_append_69]
    refine wpR_if (fun _ => wpR_some ⟨rfl, hM, fun _ _ => rfl, rfl, fun _ _ _ => rfl⟩) (fun h => absurd (by decide) h)
  | succ k ih =>
    intro L n' M hn hM hL
    obtain ⟨n', rfl⟩ : ∃ m, n' = m + 1 := ⟨n' - 1, by omega⟩
    rw [q_Reader_append_69, nI_pred]
    refine wpR_if (fun h => absurd h (nI_pos (by omega))) (fun _ => ?_)
    refine wpR_cal (wpR_some ?_)
    refine wpR_ix (by rw [hM]; exact vp_in_nI (by omega) (by omega)) (wpR_lt (wpR_lt ?_))
    rw [show nI k + (-1) = nI k - 1 from (i_m1 (nI k)).symm ▸ rfl]
    refine wpR_mono (ih (L + 1) n' _ (by omega) ?_ (by omega)) (fun M' r h => ⟨h.1, ?_, fun j hj => ?_, ?_, fun p h1 h2 => ?_⟩)
    · rw [stI_at]
      show upd _ 2 _ 2 = _
      rw [pk_us, stI_ne _ _ (by decide), hM, nI_1]
    · rw [h.2.1]; congr 1; omega
    · rw [h.2.2.1 j hj, stI_at, pk_un hj, stI_ne _ _ (by decide)]
    · rw [h.2.2.2.1]; rfl
    · rw [h.2.2.2.2 p h1 h2, stI_ne _ _ h1, stI_ne _ _ h2]
def frX (M M' : Mm) : Prop := (∀ j, j ≠ 2 → M'.1 21 j = M.1 21 j) ∧ M'.2 = M.2 ∧ ∀ p, p ≠ 21 → p ≠ 22 → M'.1 p = M.1 p
theorem frX.rf (M : Mm) : frX M M := ⟨fun _ _ => rfl, rfl, fun _ _ _ => rfl⟩
theorem ap28 (w : Int64) {N L : Nat} (hN : N ≤ 8) (hL : L + N ≤ 480) : ∀ (k i n' : Nat) (M : Mm), i + k = N → k < n' → M.1 21 2 = nI L → wpR (q_Reader_append_28 n' M w (nI N) (nI i)) (fun M' r => frX M M' ∧ ((r = 1 ∧ (∀ j, i ≤ j → j < N → okB (bX w (nI j))) ∧ M'.1 21 2 = nI (L + N)) ∨ (r = 0 ∧ (∃ j, i ≤ j ∧ j < N ∧ ¬ okB (bX w (nI j))) ∧ M'.1 21 2 = nI L))) := by
  intro k
  induction k with
  | zero =>
    intro i n' M hi hn hM
    obtain rfl : i = N := by omega
    obtain ⟨n', rfl⟩ : ∃ m, n' = m + 1 := ⟨n' - 1, by omega⟩
    rw [q_Reader_append_28]
    refine wpR_if (fun _ => wpR_lt ?_) (fun h => absurd (nI_le (Nat.le_refl i) (by omega)) h)
    exact wpR_mono (ap69 w i L 4000 M (by omega) hM hL) (fun M' r h => ⟨⟨h.2.2.1, h.2.2.2.1, h.2.2.2.2⟩, Or.inl ⟨h.1, fun j h1 h2 => absurd h2 (Nat.not_lt.mpr h1), h.2.1⟩⟩)
  | succ k ih =>
    intro i n' M hi hn hM
    obtain ⟨n', rfl⟩ : ∃ m, n' = m + 1 := ⟨n' - 1, by omega⟩
    rw [q_Reader_append_28]
    refine wpR_if (fun h => absurd h (nI_ge (by omega) (by omega))) (fun _ => ?_)
    refine wpR_cal (wpR_some ?_)
    refine wpR_if (fun h => wpR_some ⟨frX.rf M, Or.inr ⟨rfl, ⟨i, Nat.le_refl i, by omega, fun z => z.1 h⟩, hM⟩⟩) (fun h33 => ?_)
    refine wpR_if (fun h126 => ?_) (fun h => wpR_some ⟨frX.rf M, Or.inr ⟨rfl, ⟨i, Nat.le_refl i, by omega, fun z => h z.2⟩, hM⟩⟩)
    rw [nI_1]
    refine wpR_mono (ih (i + 1) n' M (by omega) (by omega) hM) (fun M' r h => ⟨h.1, ?_⟩)
    rcases h.2 with ⟨h1, h2, h3⟩ | ⟨h1, ⟨j, h2, h3, h4⟩, h5⟩
    · refine Or.inl ⟨h1, fun j hj1 hj2 => ?_, h3⟩
      rcases Nat.eq_or_lt_of_le hj1 with rfl | hlt
      · exact ⟨h33, h126⟩
      · exact h2 j hlt hj2
    · exact Or.inr ⟨h1, ⟨j, by omega, h3, h4⟩, h5⟩
theorem mt80 (w : Int64) : ∀ (k L n' : Nat) (M : Mm), k < n' → M.1 0 2 = nI L → L + k ≤ 480 → wpR (q_ChipMapModel_type_80 n' M w (nI k - 1)) (fun M' r => r = 1 ∧ M'.1 0 2 = nI (L + k) ∧ (∀ j, j ≠ 2 → M'.1 0 j = M.1 0 j) ∧ M'.2 = M.2 ∧ ∀ p, p ≠ 0 → p ≠ 1 → M'.1 p = M.1 p) := by
  intro k
  induction k with
  | zero =>
    intro L n' M hn hM hL
    obtain ⟨n', rfl⟩ : ∃ m, n' = m + 1 := ⟨n' - 1, by omega⟩
    rw [q_ChipMapModel_type_80]
    refine wpR_if (fun _ => wpR_some ⟨rfl, hM, fun _ _ => rfl, rfl, fun _ _ _ => rfl⟩) (fun h => absurd (by decide) h)
  | succ k ih =>
    intro L n' M hn hM hL
    obtain ⟨n', rfl⟩ : ∃ m, n' = m + 1 := ⟨n' - 1, by omega⟩
    rw [q_ChipMapModel_type_80, nI_pred]
    refine wpR_if (fun h => absurd h (nI_pos (by omega))) (fun _ => ?_)
    refine wpR_ix (by rw [hM]; exact vp_in_nI (by omega) (by omega)) (wpR_lt (wpR_lt ?_))
    rw [show nI k + (-1) = nI k - 1 from (i_m1 (nI k)).symm ▸ rfl]
    refine wpR_mono (ih (L + 1) n' _ (by omega) ?_ (by omega)) (fun M' r h => ⟨h.1, ?_, fun j hj => ?_, ?_, fun p h1 h2 => ?_⟩)
    · rw [stI_at]
      show upd _ 2 _ 2 = _
      rw [pk_us, stI_ne _ _ (by decide), hM, nI_1]
    · rw [h.2.1]; congr 1; omega
    · rw [h.2.2.1 j hj, stI_at, pk_un hj, stI_ne _ _ (by decide)]
    · rw [h.2.2.2.1]; rfl
    · rw [h.2.2.2.2 p h1 h2, stI_ne _ _ h1, stI_ne _ _ h2]
def frY (M M' : Mm) : Prop := (∀ j, j ≠ 2 → M'.1 0 j = M.1 0 j) ∧ M'.2 = M.2 ∧ ∀ p, p ≠ 0 → p ≠ 1 → M'.1 p = M.1 p
theorem frY.rf (M : Mm) : frY M M := ⟨fun _ _ => rfl, rfl, fun _ _ _ => rfl⟩
theorem mt33 (w : Int64) {N L : Nat} (hN : N ≤ 8) (hL : L + N ≤ 480) : ∀ (k i n' : Nat) (M : Mm), i + k = N → k < n' → M.1 0 2 = nI L → wpR (q_ChipMapModel_type_33 n' M w (nI N) (nI i)) (fun M' r => frY M M' ∧ ((r = 1 ∧ (∀ j, i ≤ j → j < N → okB (bM w (nI j))) ∧ M'.1 0 2 = nI (L + N)) ∨ (r = 0 ∧ (∃ j, i ≤ j ∧ j < N ∧ ¬ okB (bM w (nI j))) ∧ M'.1 0 2 = nI L))) := by
  intro k
  induction k with
  | zero =>
    intro i n' M hi hn hM
    obtain rfl : i = N := by omega
    obtain ⟨n', rfl⟩ : ∃ m, n' = m + 1 := ⟨n' - 1, by omega⟩
    rw [q_ChipMapModel_type_33]
    refine wpR_if (fun _ => wpR_lt ?_) (fun h => absurd (nI_le (Nat.le_refl i) (by omega)) h)
    exact wpR_mono (mt80 w i L 4000 M (by omega) hM hL) (fun M' r h => ⟨⟨h.2.2.1, h.2.2.2.1, h.2.2.2.2⟩, Or.inl ⟨h.1, fun j h1 h2 => absurd h2 (Nat.not_lt.mpr h1), h.2.1⟩⟩)
  | succ k ih =>
    intro i n' M hi hn hM
    obtain ⟨n', rfl⟩ : ∃ m, n' = m + 1 := ⟨n' - 1, by omega⟩
    rw [q_ChipMapModel_type_33]
    refine wpR_if (fun h => absurd h (nI_ge (by omega) (by omega))) (fun _ => wpR_lt ?_)
    refine wpR_if (fun h => wpR_some ⟨frY.rf M, Or.inr ⟨rfl, ⟨i, Nat.le_refl i, by omega, fun z => z.1 h⟩, hM⟩⟩) (fun h33 => ?_)
    refine wpR_if (fun h126 => ?_) (fun h => wpR_some ⟨frY.rf M, Or.inr ⟨rfl, ⟨i, Nat.le_refl i, by omega, fun z => h z.2⟩, hM⟩⟩)
    rw [nI_1]
    refine wpR_mono (ih (i + 1) n' M (by omega) (by omega) hM) (fun M' r h => ⟨h.1, ?_⟩)
    rcases h.2 with ⟨h1, h2, h3⟩ | ⟨h1, ⟨j, h2, h3, h4⟩, h5⟩
    · refine Or.inl ⟨h1, fun j hj1 hj2 => ?_, h3⟩
      rcases Nat.eq_or_lt_of_le hj1 with rfl | hlt
      · exact ⟨h33, h126⟩
      · exact h2 j hlt hj2
    · exact Or.inr ⟨h1, ⟨j, by omega, h3, h4⟩, h5⟩
