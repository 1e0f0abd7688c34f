-- type() of both sides: the same answer, and the tapes stay equally long
def tyC (f : Int32 → Int32) (L : Nat) (n : Int32) (N : Nat) : Prop := 1 ≤ N ∧ N ≤ 8 ∧ n = nI N ∧ L + N ≤ 480 ∧ ∀ j, j < N → okB (f (nI j))
theorem x_typeW {M : Mm} {L : Nat} (hM : M.1 21 2 = nI L) (hL : L ≤ 480) (w : Int64) (n : Int32) : wpR (q_ChipMap_type M w n) (fun M' r => frX M M' ∧ ((∃ N, tyC (bX w) L n N ∧ r = 1 ∧ M'.1 21 2 = nI (L + N)) ∨ ((∀ N, ¬ tyC (bX w) L n N) ∧ r = 0 ∧ M'.1 21 2 = nI L))) := by
  have key : wpR (q_Reader_append M w n) (fun M' r => frX M M' ∧ ((∃ N, tyC (bX w) L n N ∧ r = 1 ∧ M'.1 21 2 = nI (L + N)) ∨ ((∀ N, ¬ tyC (bX w) L n N) ∧ r = 0 ∧ M'.1 21 2 = nI L))) := by
    unfold q_Reader_append
    refine wpR_if (fun h => wpR_some ⟨frX.rf M, Or.inr ⟨fun N hc => ?_, rfl, hM⟩⟩) (fun h1 => ?_)
    · rw [hc.2.2.1] at h
      exact absurd h (nI_nlt (b := 1) hc.1 (by have := hc.2.1; omega))
    refine wpR_if (fun h => wpR_some ⟨frX.rf M, Or.inr ⟨fun N hc => ?_, rfl, hM⟩⟩) (fun h8 => ?_)
    · rw [hc.2.2.1] at h
      exact absurd h (nI_nlt (a := 8) hc.2.1 (by decide))
    obtain ⟨N, hN1, hN8, rfl⟩ := nI_18 h1 h8
    rw [hM, nI_add]
    refine wpR_if (fun h => ?_) (fun h => wpR_some ⟨frX.rf M, Or.inr ⟨fun N' hc => ?_, rfl, hM⟩⟩)
    · have hLN : L + N ≤ 480 := (nI_leI (b := 480) (by omega) (by decide)).mp h
      have a := ap28 w hN8 hLN N 0 4000 M (by omega) (by omega) hM
      rw [nI_0] at a
      refine wpR_mono a (fun M' r h => ⟨h.1, ?_⟩)
      rcases h.2 with ⟨h1, h2, h3⟩ | ⟨h1, ⟨j, h2, h3, h4⟩, h5⟩
      · exact Or.inl ⟨N, ⟨hN1, hN8, rfl, hLN, fun j hj => h2 j (Nat.zero_le j) hj⟩, h1, h3⟩
      · refine Or.inr ⟨fun N' hc => ?_, h1, h5⟩
        have e : N = N' := (nI_eq (by omega) (by have := hc.2.1; omega)).mp hc.2.2.1
        subst e
        exact h4 (hc.2.2.2.2 j h3)
    · have e : N = N' := (nI_eq (by omega) (by have := hc.2.1; omega)).mp hc.2.2.1
      subst e
      exact h (nI_le (b := 480) hc.2.2.2.1 (by decide))
  unfold q_ChipMap_type
  refine wpR_cal (wpR_mono key (fun M' r h => wpR_bz ?_ (wpR_some h)))
  rcases h.2 with ⟨N, -, h1, -⟩ | ⟨-, h1, -⟩
  · exact Or.inr h1
  · exact Or.inl h1
def frT (M M' : Mm) : Prop := (∀ j, j ≠ 2 → j ≠ 0 → M'.1 0 j = M.1 0 j) ∧ M'.2 = M.2 ∧ ∀ p, p ≠ 0 → p ≠ 1 → M'.1 p = M.1 p
theorem m_typeW {M : Mm} {L : Nat} (hM : M.1 0 2 = nI L) (hL : L ≤ 480) (w : Int64) (n : Int32) : wpR (q_ChipMapModel_type M w n) (fun M' r => frT M M' ∧ ((∃ N, tyC (bM w) L n N ∧ r = 1 ∧ M'.1 0 2 = nI (L + N)) ∨ ((∀ N, ¬ tyC (bM w) L n N) ∧ r = 0 ∧ M'.1 0 2 = nI L))) := by
  unfold q_ChipMapModel_type
  refine wpR_lt ?_
  have hM1 : (stI M 0 (upd (M.1 0) 0 0)).1 0 2 = nI L := by
    rw [stI_at]
    show upd _ 0 _ 2 = _
    rw [pk_un (by decide)]
    exact hM
  have hT : ∀ M', frY (stI M 0 (upd (M.1 0) 0 0)) M' → frT M M' := fun M' h => ⟨fun j h2 h0 => by rw [h.1 j h2, stI_at, pk_un h0], h.2.1, fun p h1 h2 => by rw [h.2.2 p h1 h2, stI_ne _ _ h1]⟩
  generalize stI M 0 (upd (M.1 0) 0 0) = M1 at hM1 hT ⊢
  refine wpR_if (fun h => wpR_some ⟨hT _ (frY.rf M1), Or.inr ⟨fun N hc => ?_, rfl, hM1⟩⟩) (fun h1 => ?_)
  · rw [hc.2.2.1] at h
    exact absurd h (nI_nlt (b := 1) hc.1 (by have := hc.2.1; omega))
  refine wpR_if (fun h => wpR_some ⟨hT _ (frY.rf M1), Or.inr ⟨fun N hc => ?_, rfl, hM1⟩⟩) (fun h8 => ?_)
  · rw [hc.2.2.1] at h
    exact absurd h (nI_nlt (a := 8) hc.2.1 (by decide))
  obtain ⟨N, hN1, hN8, rfl⟩ := nI_18 h1 h8
  rw [hM1, nI_add]
  refine wpR_if (fun h => ?_) (fun h => wpR_some ⟨hT _ (frY.rf M1), Or.inr ⟨fun N' hc => ?_, rfl, hM1⟩⟩)
  · have hLN : L + N ≤ 480 := (nI_leI (b := 480) (by omega) (by decide)).mp h
    have a := mt33 w hN8 hLN N 0 4000 M1 (by omega) (by omega) hM1
    rw [nI_0] at a
    refine wpR_mono a (fun M' r h => ⟨hT _ h.1, ?_⟩)
    rcases h.2 with ⟨h1, h2, h3⟩ | ⟨h1, ⟨j, h2, h3, h4⟩, h5⟩
    · exact Or.inl ⟨N, ⟨hN1, hN8, rfl, hLN, fun j hj => h2 j (Nat.zero_le j) hj⟩, h1, h3⟩
    · refine Or.inr ⟨fun N' hc => ?_, h1, h5⟩
      have e : N = N' := (nI_eq (by omega) (by have := hc.2.1; omega)).mp hc.2.2.1
      subst e
      exact h4 (hc.2.2.2.2 j h3)
  · have e : N = N' := (nI_eq (by omega) (by have := hc.2.1; omega)).mp hc.2.2.1
    subst e
    exact h (nI_le (b := 480) hc.2.2.2.1 (by decide))
theorem tyC_iff (w : Int64) (L : Nat) (n : Int32) (N : Nat) : tyC (bX w) L n N ↔ tyC (bM w) L n N := by
  constructor
  · exact fun h => ⟨h.1, h.2.1, h.2.2.1, h.2.2.2.1, fun j hj => by rw [← bXM w j (by have := h.2.1; omega)]; exact h.2.2.2.2 j hj⟩
  · exact fun h => ⟨h.1, h.2.1, h.2.2.1, h.2.2.2.1, fun j hj => by rw [bXM w j (by have := h.2.1; omega)]; exact h.2.2.2.2 j hj⟩
/-- type: both answer, they answer alike, both tapes are then equally long, nothing else has changed -/
theorem type_rel {Mx My : Mm} {L : Nat} (hx : Mx.1 21 2 = nI L) (hy : My.1 0 2 = nI L) (hL : L ≤ 480) (w : Int64) (n : Int32) : ∃ (Mx' My' : Mm) (r : Int32) (L' : Nat), q_ChipMap_type Mx w n = some (Mx', r) ∧ q_ChipMapModel_type My w n = some (My', r) ∧ Mx'.1 21 2 = nI L' ∧ My'.1 0 2 = nI L' ∧ L' ≤ 480 ∧ frX Mx Mx' ∧ frT My My' := by
  obtain ⟨Mx', r, e1, f1, h1⟩ := x_typeW hx hL w n
  obtain ⟨My', r2, e2, f2, h2⟩ := m_typeW hy hL w n
  rcases h1 with ⟨N, c1, rfl, l1⟩ | ⟨c1, rfl, l1⟩
  · rcases h2 with ⟨N', c2, rfl, l2⟩ | ⟨c2, rfl, l2⟩
    · have e : N = N' := (nI_eq (by have := c1.2.1; omega) (by have := c2.2.1; omega)).mp (c1.2.2.1.symm.trans c2.2.2.1)
      subst e
      exact ⟨Mx', My', 1, L + N, e1, e2, l1, l2, c1.2.2.2.1, f1, f2⟩
    · exact absurd ((tyC_iff w L n N).mp c1) (c2 N)
  · rcases h2 with ⟨N', c2, rfl, l2⟩ | ⟨c2, rfl, l2⟩
    · exact absurd ((tyC_iff w L n N').mpr c2) (c1 N')
    · exact ⟨Mx', My', 0, L, e1, e2, l1, l2, hL, f1, f2⟩
