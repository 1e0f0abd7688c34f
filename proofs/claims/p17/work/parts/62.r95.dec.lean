theorem d86 {M : Mm} (h : ¬ M.1 23 2 = -1) : q_Judge_decide_86 M = some (M, 0) := by
  unfold q_Judge_decide_86
  rw [if_neg h]
theorem d65 {M : Mm} (h : ¬ M.1 23 2 = -1) : q_Judge_decide_65 M = some (M, 0) := by
  unfold q_Judge_decide_65
  rw [if_neg h, d86 h]
theorem d49 {M : Mm} (h : ¬ M.1 23 2 = -1) : q_Judge_decide_49 M = some (M, 0) := by
  unfold q_Judge_decide_49
  rw [if_neg h, d65 h]
def dQ (M N : Mm) (M' : Mm) (N' : Mm) (s : Int32) : Prop := M'.1 23 1 = N'.1 0 4 ∧ M'.1 23 2 = N'.1 0 5 ∧ ((s = 1 ∧ M'.1 23 1 = 0 ∧ N' = N) ∨ (s = 0 ∧ M'.1 23 1 ≠ 0 ∧ ∃ k v, N' = wrY N k v)) ∧ (∀ p, p ≠ 23 → M'.1 p = M.1 p)
theorem nm1 {v : Int32} (h : 0 ≤ v.toInt) : ¬ v = -1 := by
  intro z
  rw [z] at h
  exact absurd h (by decide)
theorem dec_r {M N : Mm} (h : dR M N) (hz : nf N) (a : Int32) : ∃ (M' N' : Mm) (r s : Int32), q_Judge_decide M 1 a = some (M', r) ∧ jdY N = some (N', s) ∧ dQ M N M' N' s := by
  unfold q_Judge_decide jdY
  rw [if_neg (by decide : ¬ (1 : Int32) = 0), lq_s]
  obtain ⟨M1, eM1⟩ : ∃ z, z = stI M 23 (upd (M.1 23) 1 2) := ⟨_, rfl⟩
  rw [← eM1]
  have g1 : dR M1 N := by subst eM1; exact h
  have k1 : M1.1 23 1 = 2 := by subst eM1; rfl
  have f1 : ∀ p, p ≠ 23 → M1.1 p = M.1 p := fun p hp => by rw [eM1]; exact stI_ne _ _ hp
  rcases ff_rel g1 with ⟨x1, y1⟩ | ⟨v, v0, x1, y1⟩
  rotate_left
  · rw [x1, y1, cal_s, cal_s, lq_s, st_up, if_neg (nm1 v0), if_pos rfl, d49 (by rw [st_up]; exact nm1 v0)]
    refine ⟨_, _, _, _, rfl, rfl, ?_, st_up, Or.inr ⟨rfl, ?_, 2, v, rfl⟩, fun p hp => (stI_ne _ _ hp).trans (f1 p hp)⟩
    · exact k1
    · show ¬ M1.1 23 1 = 0
      rw [k1]
      decide
  rw [x1, y1, cal_s, cal_s, lq_s, st_up, if_pos rfl, if_neg (by decide : ¬ (1 : Int32) = 0), lq_s]
  obtain ⟨M5, eM5⟩ : ∃ z, z = stI (stI M1 23 (upd (M1.1 23) 2 (-1))) 23 (upd ((stI M1 23 (upd (M1.1 23) 2 (-1))).1 23) 1 3) := ⟨_, rfl⟩
  rw [← eM5]
  have g5 : dR M5 N := by subst eM5; exact g1
  have k5 : M5.1 23 1 = 3 := by subst eM5; rfl
  have f5 : ∀ p, p ≠ 23 → M5.1 p = M.1 p := fun p hp => by rw [eM5, stI_ne _ _ hp, stI_ne _ _ hp]; exact f1 p hp
  rcases bb_rel g5 with ⟨x2, y2⟩ | ⟨v, v0, x2, y2⟩
  rotate_left
  · rw [x2, y2, cal_s, cal_s, lq_s, if_pos rfl, d49 (by rw [st_up]; exact nm1 v0)]
    refine ⟨_, _, _, _, rfl, rfl, ?_, st_up, Or.inr ⟨rfl, ?_, 3, v, rfl⟩, fun p hp => (stI_ne _ _ hp).trans (f5 p hp)⟩
    · exact k5
    · show ¬ M5.1 23 1 = 0
      rw [k5]
      decide
  rw [x2, y2, cal_s, lq_s]
  obtain ⟨M8, eM8⟩ : ∃ z, z = stI M5 23 (upd (M5.1 23) 2 (-1)) := ⟨_, rfl⟩
  rw [← eM8]
  have g8 : dR M8 N := by subst eM8; exact g5
  have k8 : M8.1 23 1 = 3 := by subst eM8; exact k5
  have k82 : M8.1 23 2 = -1 := by subst eM8; rfl
  have f8 : ∀ p, p ≠ 23 → M8.1 p = M.1 p := fun p hp => by rw [eM8, stI_ne _ _ hp]; exact f5 p hp
  unfold q_Judge_decide_49
  rw [if_pos k82]
  rcases bo_rel g8 with ⟨x3, y3⟩ | ⟨v, v0, x3, y3⟩
  rotate_left
  · rw [x3, y3, cal_s, cal_s, lq_s, if_pos rfl, d65 (by rw [st_up]; exact nm1 v0)]
    refine ⟨_, _, _, _, rfl, rfl, ?_, st_up, Or.inr ⟨rfl, ?_, 3, v, rfl⟩, fun p hp => (stI_ne _ _ hp).trans (f8 p hp)⟩
    · exact k8
    · show ¬ M8.1 23 1 = 0
      rw [k8]
      decide
  rw [x3, y3, cal_s, cal_s, lq_s, if_neg (by decide : ¬ (1 : Int32) = 0)]
  unfold q_Judge_decide_65
  rw [st_up, if_pos rfl, lq_s]
  obtain ⟨M9, eM9⟩ : ∃ z, z = stI (stI M8 23 (upd (M8.1 23) 2 (-1))) 23 (upd ((stI M8 23 (upd (M8.1 23) 2 (-1))).1 23) 1 4) := ⟨_, rfl⟩
  rw [← eM9]
  have g9 : dR M9 N := by subst eM9; exact g8
  have k9 : M9.1 23 1 = 4 := by subst eM9; rfl
  have f9 : ∀ p, p ≠ 23 → M9.1 p = M.1 p := fun p hp => by rw [eM9, stI_ne _ _ hp, stI_ne _ _ hp]; exact f8 p hp
  rcases br_rel g9 with ⟨x4, y4⟩ | ⟨v, v0, x4, y4⟩
  rotate_left
  · rw [x4, y4, cal_s, cal_s, lq_s, if_pos rfl, d86 (by rw [st_up]; exact nm1 v0)]
    refine ⟨_, _, _, _, rfl, rfl, ?_, st_up, Or.inr ⟨rfl, ?_, 4, v, rfl⟩, fun p hp => (stI_ne _ _ hp).trans (f9 p hp)⟩
    · exact k9
    · show ¬ M9.1 23 1 = 0
      rw [k9]
      decide
  rw [x4, y4, cal_s, cal_s, lq_s, if_neg (by decide : ¬ (1 : Int32) = 0)]
  unfold q_Judge_decide_86
  rw [st_up, if_pos rfl, lq_s, lq_s]
  refine ⟨_, _, _, _, rfl, rfl, hz.1.symm, hz.2.symm, Or.inl ⟨rfl, rfl, rfl⟩, fun p hp => ?_⟩
  rw [stI_ne _ _ hp, stI_ne _ _ hp, stI_ne _ _ hp]
  exact f9 p hp
theorem dec_0 (M : Mm) (a : Int32) : ∃ M' : Mm, q_Judge_decide M 0 a = some (M', 0) ∧ M'.1 23 1 = 1 ∧ M'.1 23 2 = a ∧ ∀ p, p ≠ 23 → M'.1 p = M.1 p := by
  unfold q_Judge_decide
  rw [if_pos rfl, lq_s, lq_s]
  refine ⟨_, rfl, rfl, rfl, fun p hp => ?_⟩
  rw [stI_ne _ _ hp, stI_ne _ _ hp]
