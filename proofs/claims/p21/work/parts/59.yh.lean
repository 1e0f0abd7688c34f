def Gy.l0 (G : Gy) : Gy := ⟨G.sk, G.sf, G.sv, 0⟩
theorem IY.sL0 {G : Gy} {K : Int} {M : Mm} (h : IY G K M) : IY G.l0 K (stI M 0 (upd (M.1 0) 2 0)) := ⟨rfl, ⟨Int.le_refl 0, (by decide : (0 : Int) ≤ 480)⟩, h.atR, h.rr, h.rf, h.ru, h.rin, h.regs, h.rules, h.bank, h.inn, h.ra, h.rb, h.ops, h.opb, h.jc, h.jf, h.sc, h.skE, h.sfE, h.svE, h.stE, h.sit, h.sia, h.nm, h.bk, h.qa, h.qb⟩
theorem w_ChipMapModel_compile {G : Gy} {K : Int} {M : Mm} (hI : IY G K M) : wpR (q_ChipMapModel_compile M) (fun M' _ => ∃ G' : Gy, G'.L = 0 ∧ IY G' K M') := by
  unfold q_ChipMapModel_compile
  refine wpR_ltv (fun M1 e1 => wpR_ltv (fun M2 e2 => ?_))
  have i2 : IY G K M2 := by rw [e2, e1]; exact (hI.s0_4 _).s0_5 _
  refine wpR_cl (w_ChipMapModel_readAll i2) (fun M3 r4 h3 => ?_)
  obtain ⟨i3, hb⟩ := h3
  refine wpR_ltv (fun M5 e5 => ?_)
  have i5 : IY G.l0 K M5 := by rw [e5]; exact i3.sL0
  refine wpR_if (fun _ => ?_) (fun _ => ?_)
  · refine wpR_cl (w_ChipMapModel_raise i5 1) (fun M6 r7 h => wpR_some ⟨G.l0, rfl, h.1⟩)
  · refine wpR_ltv (fun M6 e6 => wpR_ltv (fun M7 e7 => wpR_ltv (fun M8 e8 => ?_)))
    have i7 : IY G.l0 K M7 := by rw [e7, e6]; exact (i5.s0_0 _).s0_27 _
    have i8 : IY G.l0 K M8 := by rw [e8]; exact i7.s0_28 i7.rr
    exact wpR_mono (w_ChipMapModel_compile_50 4000 M8 0 i8 (by decide) (by rw [e8]; rfl) (by decide)) (fun M' r h => ⟨G.l0, rfl, h.1⟩)
def Gy.step (G : Gy) (c : Nat) (a1 a2 a3 : Int32) : Gy := ⟨upd G.sk c a1, upd G.sf c a2, upd G.sv c a3, G.L⟩
theorem IY.step {G : Gy} {K : Int} {M : Mm} {a1 a2 a3 : Int32} (h : IY G K M) (hc : (M.1 0 59).toInt < 40) (h1 : a1.toInt ≠ 3 → a1.toInt ≠ 2 → 0 ≤ a2.toInt ∧ a2.toInt ≤ 25) (h2 : a1.toInt = 2 → 0 ≤ a3.toInt ∧ a3.toInt ≤ 40) : IY (G.step (M.1 0 59).toNatClampNeg a1 a2 a3) K (stI (stI (stI (stI M 42 (upd (M.1 42) (M.1 0 59).toNatClampNeg a1)) 43 (upd (M.1 43) (M.1 0 59).toNatClampNeg a2)) 44 (upd (M.1 44) (M.1 0 59).toNatClampNeg a3)) 0 (upd (M.1 0) 59 (M.1 0 59 + 1))) := by
  have z := h.sc
  have e : (M.1 0 59 + 1).toInt = (M.1 0 59).toInt + 1 := iadd rfl (rfl : (1 : Int32).toInt = 1) (by omega) (by omega)
  exact ⟨h.LE, h.LR, h.atR, h.rr, h.rf, h.ru, h.rin, h.regs, h.rules, h.bank, h.inn, h.ra, h.rb, h.ops, h.opb, h.jc, h.jf, (by show 0 ≤ (M.1 0 59 + 1).toInt ∧ (M.1 0 59 + 1).toInt ≤ 40; omega), (by show upd (M.1 42) _ a1 = upd G.sk _ a1; rw [h.skE]), (by show upd (M.1 43) _ a2 = upd G.sf _ a2; rw [h.sfE]), (by show upd (M.1 44) _ a3 = upd G.sv _ a3; rw [h.svE]), (fun j => by show ((upd G.sk (M.1 0 59).toNatClampNeg a1 j).toInt ≠ 3 → (upd G.sk (M.1 0 59).toNatClampNeg a1 j).toInt ≠ 2 → 0 ≤ (upd G.sf (M.1 0 59).toNatClampNeg a2 j).toInt ∧ (upd G.sf (M.1 0 59).toNatClampNeg a2 j).toInt ≤ 25) ∧ ((upd G.sk (M.1 0 59).toNatClampNeg a1 j).toInt = 2 → 0 ≤ (upd G.sv (M.1 0 59).toNatClampNeg a3 j).toInt ∧ (upd G.sv (M.1 0 59).toNatClampNeg a3 j).toInt ≤ 40); by_cases hne : j = (M.1 0 59).toNatClampNeg; (rw [hne, updS, updS, updS]; exact ⟨h1, h2⟩); (rw [updN hne, updN hne, updN hne]; exact h.stE j)), h.sit, h.sia, h.nm, h.bk, h.qa, h.qb⟩
def stQ (G : Gy) (K : Int) (M' : Mm) : Prop := ∃ G' : Gy, G'.L = G.L ∧ IY G' K M'
theorem w_step_73 {G : Gy} {K : Int} {M : Mm} (hI : IY G K M) (a1 a2 a3 : Int32) (hc : (M.1 0 59).toInt ≠ 40) (h1 : a1.toInt ≠ 3 → a1.toInt ≠ 2 → 0 ≤ a2.toInt ∧ a2.toInt ≤ 25) (h2 : a1.toInt = 2 → 0 ≤ a3.toInt ∧ a3.toInt ≤ 40) : wpR (q_ChipMapModel_step_73 M a1 a2 a3) (fun M' _ => stQ G K M') := by
  unfold q_ChipMapModel_step_73
  have z := hI.sc
  have k : vp_in (M.1 0 59) 40 := vI (by omega)
  refine wpR_ix k (wpR_lt (wpR_ix k (wpR_lt (wpR_ix k (wpR_lt (wpR_lt (wpR_some ?_)))))))
  exact ⟨G.step (M.1 0 59).toNatClampNeg a1 a2 a3, rfl, hI.step (by omega) h1 h2⟩
theorem w_step_56 {G : Gy} {K : Int} {M : Mm} (hI : IY G K M) (a1 a2 a3 : Int32) (hc : (M.1 0 59).toInt ≠ 40) (h1 : a1.toInt ≠ 3 → a1.toInt ≠ 2 → 0 ≤ a2.toInt ∧ a2.toInt ≤ 25) : wpR (q_ChipMapModel_step_56 M a1 a2 a3) (fun M' _ => stQ G K M') := by
  unfold q_ChipMapModel_step_56
  refine wpR_eq (x := a1.toInt) (y := 2) rfl rfl (fun c => ?_) (fun c => ?_)
  · refine wpR_lw (x := a3.toInt) (y := 0) rfl rfl (fun c2 => wpR_some ⟨G, rfl, hI⟩) (fun c2 => ?_)
    refine wpR_le (x := a3.toInt) (y := 40) rfl rfl (fun c3 => ?_) (fun c3 => wpR_some ⟨G, rfl, hI⟩)
    exact w_step_73 hI a1 a2 a3 hc h1 (fun _ => ⟨c2, c3⟩)
  · exact w_step_73 hI a1 a2 a3 hc h1 (fun z => absurd z c)
theorem w_step_43 {G : Gy} {K : Int} {M : Mm} (hI : IY G K M) (a1 a2 a3 : Int32) (hc : (M.1 0 59).toInt ≠ 40) (hr : 0 ≤ a1.toInt ∧ a1.toInt ≤ 3) (h1 : a1.toInt = 0 → 0 ≤ a2.toInt ∧ a2.toInt ≤ 25) : wpR (q_ChipMapModel_step_43 M a1 a2 a3) (fun M' _ => stQ G K M') := by
  unfold q_ChipMapModel_step_43
  refine wpR_eq (x := a1.toInt) (y := 1) rfl rfl (fun c => ?_) (fun c => ?_)
  · refine wpR_ro (w_ChipMapModel_isFetch hI a2) (fun r2 h => ?_)
    refine wpR_eq (x := r2.toInt) (y := 0) rfl rfl (fun c2 => wpR_some ⟨G, rfl, hI⟩) (fun c2 => ?_)
    exact w_step_56 hI a1 a2 a3 hc (fun _ _ => h.2.2 c2)
  · exact w_step_56 hI a1 a2 a3 hc (fun z1 z2 => h1 (by omega))
theorem w_ChipMapModel_step {G : Gy} {K : Int} {M : Mm} (hI : IY G K M) (a1 a2 a3 : Int32) : wpR (q_ChipMapModel_step M a1 a2 a3) (fun M' _ => stQ G K M') := by
  unfold q_ChipMapModel_step
  refine wpR_ltv (fun M1 e1 => ?_)
  have i1 : IY G K M1 := by rw [e1]; exact hI.s0_0 _
  refine wpR_if (fun _ => wpR_some ⟨G, rfl, i1⟩) (fun _ => ?_)
  refine wpR_eq (x := (M1.1 0 59).toInt) (y := 40) rfl rfl (fun _ => wpR_some ⟨G, rfl, i1⟩) (fun hc => ?_)
  refine wpR_lw (x := a1.toInt) (y := 0) rfl rfl (fun _ => wpR_some ⟨G, rfl, i1⟩) (fun c0 => ?_)
  refine wpR_lw (x := 3) (y := a1.toInt) rfl rfl (fun _ => wpR_some ⟨G, rfl, i1⟩) (fun c3 => ?_)
  refine wpR_eq (x := a1.toInt) (y := 0) rfl rfl (fun c => ?_) (fun c => ?_)
  · refine wpR_ro (w_ChipMapModel_isPut i1 a2 a3) (fun r3 h => ?_)
    refine wpR_eq (x := r3.toInt) (y := 0) rfl rfl (fun c2 => wpR_some ⟨G, rfl, i1⟩) (fun c2 => ?_)
    exact w_step_43 i1 a1 a2 a3 hc ⟨c0, c3⟩ (fun _ => h.2.2 c2)
  · exact w_step_43 i1 a1 a2 a3 hc ⟨c0, c3⟩ (fun z => absurd z c)
