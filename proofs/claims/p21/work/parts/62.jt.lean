theorem jx_compile {L : Int32} {K : Int} {M : Mm} (h : JX L K M) (hK : K + 5100 ≤ 2000000000) : wpR (q_ChipMap_compile M) (fun M' _ => JX 0 (K + 5100) M') ∨ wpR (qt_ChipMap_compile M) (fun M' r => r = 1 ∧ JX 0 (K + 5100) M') := by
  obtain ⟨G, rfl, hI⟩ := h
  obtain ⟨M1, M3, r1, r3, q1, q3, i3, hk⟩ := compile_x hI
  by_cases hc : (M3.1 23 1).toInt = 0
  · exact Or.inl (wpR_mono (hk hc) (fun _ _ h => by
      obtain ⟨G', e, h⟩ := h
      exact ⟨G', e, h.mono (by omega)⟩))
  · refine Or.inr ?_
    unfold qt_ChipMap_compile
    rw [q1]
    refine wpR_cal (wpR_some ?_)
    rw [q3]
    refine wpR_cal (wpR_some ?_)
    refine wpR_eq (x := (M3.1 23 1).toInt) (y := 0) rfl rfl (fun c => absurd c hc) (fun _ => ?_)
    exact wpR_some ⟨rfl, G.l0, rfl, i3.mono (by omega)⟩
theorem jx_fetch {L : Int32} {K : Int} {M : Mm} (h : JX L K M) (hK : K + 5100 ≤ 2000000000) (a1 : Int32) : wpR (q_ChipMap_fetch M a1) (fun M' _ => JX L (K + 5100) M') ∨ wpR (qt_ChipMap_fetch M a1) (fun M' r => (r = 1 ∨ r = 2) ∧ JX L (K + 5100) M') := by
  obtain ⟨G, rfl, hI⟩ := h
  obtain ⟨M1, r2, q1, rfl, hb, hT⟩ := w_Layout_canFetch hI a1
  by_cases h0 : r2.toInt = 0
  · refine Or.inr ?_
    unfold qt_ChipMap_fetch
    rw [q1]
    refine wpR_cal (wpR_some ?_)
    exact wpR_eq (x := r2.toInt) (y := 0) rfl rfl (fun _ => wpR_some ⟨Or.inl rfl, G, rfl, hI.mono (by omega)⟩) (fun c => absurd h0 c)
  · by_cases h1 : 0 < (M.1 65 0).toInt
    · refine Or.inr ?_
      unfold qt_ChipMap_fetch
      rw [q1]
      refine wpR_cal (wpR_some ?_)
      refine wpR_eq (x := r2.toInt) (y := 0) rfl rfl (fun c => absurd c h0) (fun _ => ?_)
      exact wpR_lw (x := 0) (y := (M.1 65 0).toInt) rfl rfl (fun _ => wpR_some ⟨Or.inr rfl, G, rfl, hI.mono (by omega)⟩) (fun c => absurd h1 (by omega))
    · obtain ⟨M3, r4, q3, i3, hb3⟩ := w_ChipMap_reachForFetch hI (by omega) a1 (hT h0)
      by_cases h4 : r4.toInt = 0
      · refine Or.inr ?_
        unfold qt_ChipMap_fetch
        rw [q1]
        refine wpR_cal (wpR_some ?_)
        refine wpR_eq (x := r2.toInt) (y := 0) rfl rfl (fun c => absurd c h0) (fun _ => ?_)
        refine wpR_lw (x := 0) (y := (M.1 65 0).toInt) rfl rfl (fun c => absurd c h1) (fun _ => ?_)
        rw [q3]
        refine wpR_cal (wpR_some ?_)
        exact wpR_eq (x := r4.toInt) (y := 0) rfl rfl (fun _ => wpR_some ⟨Or.inr rfl, G, rfl, i3.mono (by omega)⟩) (fun c => absurd h4 c)
      · refine Or.inl ?_
        unfold q_ChipMap_fetch
        rw [q1]
        refine wpR_cal (wpR_some ?_)
        refine wpR_eq (x := r2.toInt) (y := 0) rfl rfl (fun c => absurd c h0) (fun _ => ?_)
        refine wpR_lw (x := 0) (y := (M.1 65 0).toInt) rfl rfl (fun c => absurd c h1) (fun _ => ?_)
        rw [q3]
        refine wpR_cal (wpR_some ?_)
        refine wpR_eq (x := r4.toInt) (y := 0) rfl rfl (fun c => absurd c h4) (fun _ => ?_)
        exact wpR_cl (w_ChipMap_readOut i3 (by omega) a1 (hT h0)) (fun M5 r6 h => wpR_some ⟨G, rfl, h.1.mono (by omega)⟩)
