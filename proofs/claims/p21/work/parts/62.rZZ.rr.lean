-- the two sides in step through every call, with their devices
theorem reset_jf {M M' : Mm} {r : Int32} (hj : JF M) (q1 : q_ChipMap_reset M = some (M', r)) : JF M' := by
  unfold q_ChipMap_reset q_ChipMap_hasMap at q1
  by_cases c : M.1 24 0 ≤ 0
  · rw [if_pos c, cal_s, if_pos rfl] at q1
    obtain ⟨rfl, -⟩ := rs_e q1
    exact hj
  · rw [if_neg c, cal_s, if_neg (by decide : ¬ (1 : Int32) = 0)] at q1
    obtain ⟨M1, s1, p1, q1⟩ := cal_o q1
    obtain ⟨rfl, -⟩ := rs_e q1
    exact JF.z (sa_i p1).2.2.1
theorem drop_jf {M M' : Mm} {r : Int32} (q1 : q_ChipMap_drop M = some (M', r)) : JF M' := by
  unfold q_ChipMap_drop q_Steps_empty at q1
  rw [lq_s, lq_s, cal_s] at q1
  obtain ⟨rfl, -⟩ := rs_e q1
  exact JF.z rfl
theorem join_jf {G : Gx} {K : Int} {M N : Mm} (hI : IX G K M) (rq : RQ M N) (hl : LF M N) (hj : JF M) {a1 a2 : Int32} {M' : Mm} {r1 : Int32} (q1 : q_ChipMap_join M a1 a2 = some (M', r1)) : JF M' := by
  have jc := hI.jc
  obtain ⟨t, x, -, ht⟩ := put_eq hI rq hl a1 a2
  unfold q_ChipMap_join at q1
  rw [x, cal_s] at q1
  rcases ht with rfl | rfl
  · rw [if_pos rfl] at q1
    obtain ⟨rfl, -⟩ := rs_e q1
    exact hj
  rw [if_neg (by decide : ¬ (1 : Int32) = 0)] at q1
  unfold q_Steps_isFull at q1
  have z8 : (8 : Int32).toInt = 8 := rfl
  by_cases c8 : M.1 65 0 < 8
  · have g8 := Int32.lt_iff_toInt_lt.mp c8
    have t65 := tnc jc.1
    rw [if_pos c8, cal_s, if_pos rfl] at q1
    obtain ⟨M5, s, p, q1⟩ := cal_o q1
    unfold q_Steps_append at p
    have p := ix_r p
    rw [lq_s] at p
    have p := ix_r p
    rw [lq_s] at p
    have p := ix_r p
    rw [lq_s, lq_s] at p
    obtain ⟨e5, -⟩ := rs_e p
    obtain ⟨rfl, -⟩ := rs_e q1
    have x65 : M5.1 65 = upd (M.1 65) 0 (M.1 65 0 + 1) := by rw [← e5]; rfl
    have x67 : M5.1 67 = upd (M.1 67) (M.1 65 0).toNatClampNeg a1 := by rw [← e5]; rfl
    have x68 : M5.1 68 = upd (M.1 68) (M.1 65 0).toNatClampNeg a2 := by rw [← e5]; rfl
    have xo : ∀ p, p < 65 ∨ 69 ≤ p → M5.1 p = M.1 p := fun p hp => by rw [← e5, stI_ne _ _ (by omega), stI_ne _ _ (by omega), stI_ne _ _ (by omega), stI_ne _ _ (by omega)]
    have ec : (M.1 65 0 + 1).toInt = (M.1 65 0).toInt + 1 := iadd rfl (rfl : (1 : Int32).toInt = 1) (by omega) (by omega)
    obtain ⟨a0, hp, -, -, ft⟩ := pf_put x
    intro j hj'
    rw [x65, updS, ec] at hj'
    unfold pf
    rw [x67, x68, xo 38 (by omega), xo 41 (by omega)]
    by_cases cj : j = (M.1 65 0).toNatClampNeg
    · rw [cj, updS, updS]
      exact ⟨a0, hp, ft⟩
    · rw [updN cj, updN cj]
      exact hj j (by omega)
  · rw [if_neg c8, cal_s, if_neg (by decide : ¬ (1 : Int32) = 0)] at q1
    obtain ⟨rfl, -⟩ := rs_e q1
    exact hj
theorem rd_0 : RD M0 N0 := by
  have np : ∀ f, ¬ pf M0 f := fun f hp => hp.2 rfl
  have z0 : (0 : Int32).toInt = 0 := rfl
  refine ⟨fun f hf => Or.inl ⟨rfl, rfl⟩, ⟨fun f hp => (np f hp).elim, fun f g hp => (np f hp).elim, fun r b => ⟨fun z => ?_, fun ⟨f, hp, _⟩ => (np f hp).elim⟩, ⟨rfl, fun j hj => ?_⟩, ⟨rfl, fun k hk => ?_⟩⟩, ⟨⟨fun f hp => (np f hp).elim, fun r hr b hb => ?_⟩, fun k hk => ?_⟩, rfl, rfl, rfl, ⟨rfl, fun j hj => ?_⟩, ⟨rfl, fun j hj => ?_⟩⟩
  · have z : tb 0 b = true := z
    rw [tb_0] at z
    cases z
  · have hj : (j : Int) < (0 : Int32).toInt := hj
    omega
  · have hk : (k : Int) < (0 : Int32).toInt := hk
    omega
  · have z : tb 0 b = true := hb
    rw [tb_0] at z
    cases z
  · have hk : (k : Int) < (0 : Int32).toInt := hk
    omega
  · have hj : (j : Int) < (0 : Int32).toInt := hj
    omega
  · have hj : (j : Int) < (0 : Int32).toInt := hj
    omega
def RR (Lt : Nat) (K : Int) (Mx My : Mm) : Prop := JX (nI Lt) K Mx ∧ JY (nI Lt) K My ∧ RQ Mx My ∧ RD Mx My ∧ JF Mx
theorem JX.mono {L : Int32} {K K' : Int} {M : Mm} (h : JX L K M) (hk : K ≤ K') : JX L K' M := by
  obtain ⟨G, e, h⟩ := h
  exact ⟨G, e, h.mono hk⟩
theorem JY.mono {L : Int32} {K K' : Int} {M : Mm} (h : JY L K M) (hk : K ≤ K') : JY L K' M := by
  obtain ⟨G, e, h⟩ := h
  exact ⟨G, e, h.mono hk⟩
theorem RR.mono {Lt : Nat} {K K' : Int} {Mx My : Mm} (h : RR Lt K Mx My) (hk : K ≤ K') : RR Lt K' Mx My := ⟨h.1.mono hk, h.2.1.mono hk, h.2.2⟩
theorem rr_0 : RR 0 0 M0 N0 := ⟨jx_0, jy_0, ⟨fun j hj => (by
  have e : (M0.1 21 2).toInt = 0 := rfl
  omega), rfl, rfl, Or.inl ⟨rfl, rfl⟩⟩, rd_0, JF.z rfl⟩
theorem lg_self (x : Int64) : lg_cmp x x = 0 := by
  unfold lg_cmp
  have h : ¬ x > x := fun h => by
    have := Int64.lt_iff_toInt_lt.mp h
    omega
  rw [if_neg h, if_pos rfl]
theorem rr_fault {Lt : Nat} {K : Int} {Mx My : Mm} (h : RR Lt K Mx My) (hK : K + 5100 ≤ 2000000000) (a1 : Int32) : ∃ (Mx' : Mm) (r1 : Int32) (My' : Mm) (r2 : Int32), q_ChipMap_fault Mx a1 = some (Mx', r1) ∧ q_ChipMapModel_fault My a1 = some (My', r2) ∧ RR Lt (K + 5100) Mx' My' := by
  obtain ⟨Mx', r1, q1, jx⟩ := jx_fault h.1 hK a1
  obtain ⟨My', r2, q2, jy⟩ := jy_fault h.2.1 hK a1
  have kx := kx_ChipMap_fault Mx a1 (kX.rf Mx) Mx' r1 q1
  have ky := ky_ChipMapModel_fault My a1 (kY.rf My) My' r2 q2
  have rq : RQ Mx' My' := h.2.2.1.kp kx ky
  obtain ⟨Gx0, -, ix⟩ := h.1
  have hl := h.2.2.2.1.1
  have e : Mx' = Mx := ke_ChipMap_fault Mx a1 (show kE Mx Mx from rfl) Mx' r1 q1
  have kn := kn_ChipMapModel_fault My a1 (show kN My My from ⟨fun _ _ => rfl, fun _ _ => rfl⟩) My' r2 q2
  have rd : RD Mx' My' := by rw [e]; exact h.2.2.2.1.kN kn
  have jf : JF Mx' := by rw [e]; exact h.2.2.2.2
  exact ⟨Mx', r1, My', r2, q1, q2, jx, jy, rq, rd, jf⟩
theorem rr_field {Lt : Nat} {K : Int} {Mx My : Mm} (h : RR Lt K Mx My) (hK : K + 5100 ≤ 2000000000) (a1 a2 : Int32) : ∃ (Mx' : Mm) (r1 : Int32) (My' : Mm) (r2 : Int32), q_ChipMap_field Mx a1 a2 = some (Mx', r1) ∧ q_ChipMapModel_field My a1 a2 = some (My', r2) ∧ RR Lt (K + 5100) Mx' My' := by
  obtain ⟨Mx', r1, q1, jx⟩ := jx_field h.1 hK a1 a2
  obtain ⟨My', r2, q2, jy⟩ := jy_field h.2.1 hK a1 a2
  have kx := kx_ChipMap_field Mx a1 a2 (kX.rf Mx) Mx' r1 q1
  have ky := ky_ChipMapModel_field My a1 a2 (kY.rf My) My' r2 q2
  have rq : RQ Mx' My' := h.2.2.1.kp kx ky
  obtain ⟨Gx0, -, ix⟩ := h.1
  have hl := h.2.2.2.1.1
  have e : Mx' = Mx := ke_ChipMap_field Mx a1 a2 (show kE Mx Mx from rfl) Mx' r1 q1
  have kn := kn_ChipMapModel_field My a1 a2 (show kN My My from ⟨fun _ _ => rfl, fun _ _ => rfl⟩) My' r2 q2
  have rd : RD Mx' My' := by rw [e]; exact h.2.2.2.1.kN kn
  have jf : JF Mx' := by rw [e]; exact h.2.2.2.2
  exact ⟨Mx', r1, My', r2, q1, q2, jx, jy, rq, rd, jf⟩
theorem rr_reset {Lt : Nat} {K : Int} {Mx My : Mm} (h : RR Lt K Mx My) (hK : K + 5100 ≤ 2000000000) : ∃ (Mx' : Mm) (r1 : Int32) (My' : Mm) (r2 : Int32), q_ChipMap_reset Mx = some (Mx', r1) ∧ q_ChipMapModel_reset My = some (My', r2) ∧ RR Lt (K + 5100) Mx' My' := by
  obtain ⟨Mx', r1, q1, jx⟩ := jx_reset h.1 hK
  obtain ⟨My', r2, q2, jy⟩ := jy_reset h.2.1 hK
  have kx := kx_ChipMap_reset Mx (kX.rf Mx) Mx' r1 q1
  have ky := ky_ChipMapModel_reset My (kY.rf My) My' r2 q2
  have rq : RQ Mx' My' := h.2.2.1.kp kx ky
  obtain ⟨Gx0, -, ix⟩ := h.1
  have hl := h.2.2.2.1.1
  have rd := reset_rel ix h.2.2.1 h.2.2.2.1 q1 q2 kx ky
  have jf := reset_jf h.2.2.2.2 q1
  exact ⟨Mx', r1, My', r2, q1, q2, jx, jy, rq, rd, jf⟩
theorem rr_busWrite {Lt : Nat} {K : Int} {Mx My : Mm} (h : RR Lt K Mx My) (hK : K + 5100 ≤ 2000000000) (a1 a2 : Int32) : ∃ (Mx' : Mm) (r1 : Int32) (My' : Mm) (r2 : Int32), q_ChipMap_busWrite Mx a1 a2 = some (Mx', r1) ∧ q_ChipMapModel_busWrite My a1 a2 = some (My', r2) ∧ RR Lt (K + 5100) Mx' My' := by
  obtain ⟨Mx', r1, q1, jx⟩ := jx_busWrite h.1 hK a1 a2
  obtain ⟨My', r2, q2, jy⟩ := jy_busWrite h.2.1 hK a1 a2
  have kx := kx_ChipMap_busWrite Mx a1 a2 (kX.rf Mx) Mx' r1 q1
  have ky := ky_ChipMapModel_busWrite My a1 a2 (kY.rf My) My' r2 q2
  have rq : RQ Mx' My' := h.2.2.1.kp kx ky
  obtain ⟨Gx0, -, ix⟩ := h.1
  have hl := h.2.2.2.1.1
  have br := bw_rel ix h.2.2.1 h.2.2.2.1 q1 q2 kx ky
  have rd := br.2
  have kj := kj_ChipMap_busWrite Mx a1 a2 (show kJ Mx Mx from fun _ _ _ => rfl) Mx' r1 q1
  have jf : JF Mx' := h.2.2.2.2.kp kx (kj 65 (by decide) (by decide)) (kj 67 (by decide) (by decide)) (kj 68 (by decide) (by decide))
  exact ⟨Mx', r1, My', r2, q1, q2, jx, jy, rq, rd, jf⟩
theorem rr_busRead {Lt : Nat} {K : Int} {Mx My : Mm} (h : RR Lt K Mx My) (hK : K + 5100 ≤ 2000000000) (a1 : Int32) : ∃ (Mx' : Mm) (r1 : Int32) (My' : Mm) (r2 : Int32), q_ChipMap_busRead Mx a1 = some (Mx', r1) ∧ q_ChipMapModel_busRead My a1 = some (My', r2) ∧ RR Lt (K + 5100) Mx' My' := by
  obtain ⟨Mx', r1, q1, jx⟩ := jx_busRead h.1 hK a1
  obtain ⟨My', r2, q2, jy⟩ := jy_busRead h.2.1 hK a1
  have kx := kx_ChipMap_busRead Mx a1 (kX.rf Mx) Mx' r1 q1
  have ky := ky_ChipMapModel_busRead My a1 (kY.rf My) My' r2 q2
  have rq : RQ Mx' My' := h.2.2.1.kp kx ky
  obtain ⟨Gx0, -, ix⟩ := h.1
  have hl := h.2.2.2.1.1
  have rd := brd_rel ix h.2.2.1 h.2.2.2.1 q1 q2 kx ky
  have kj := kj_ChipMap_busRead Mx a1 (show kJ Mx Mx from fun _ _ _ => rfl) Mx' r1 q1
  have jf : JF Mx' := h.2.2.2.2.kp kx (kj 65 (by decide) (by decide)) (kj 67 (by decide) (by decide)) (kj 68 (by decide) (by decide))
  exact ⟨Mx', r1, My', r2, q1, q2, jx, jy, rq, rd, jf⟩
theorem rr_poke {Lt : Nat} {K : Int} {Mx My : Mm} (h : RR Lt K Mx My) (hK : K + 5100 ≤ 2000000000) (a1 a2 : Int32) : ∃ (Mx' : Mm) (r1 : Int32) (My' : Mm) (r2 : Int32), q_ChipMap_poke Mx a1 a2 = some (Mx', r1) ∧ q_ChipMapModel_poke My a1 a2 = some (My', r2) ∧ RR Lt (K + 5100) Mx' My' := by
  obtain ⟨Mx', r1, q1, jx⟩ := jx_poke h.1 hK a1 a2
  obtain ⟨My', r2, q2, jy⟩ := jy_poke h.2.1 hK a1 a2
  have kx := kx_ChipMap_poke Mx a1 a2 (kX.rf Mx) Mx' r1 q1
  have ky := ky_ChipMapModel_poke My a1 a2 (kY.rf My) My' r2 q2
  have rq : RQ Mx' My' := h.2.2.1.kp kx ky
  obtain ⟨Gx0, -, ix⟩ := h.1
  have hl := h.2.2.2.1.1
  have rd := pk_rel ix h.2.2.1 h.2.2.2.1 q1 q2 kx ky
  have kj := kj_ChipMap_poke Mx a1 a2 (show kJ Mx Mx from fun _ _ _ => rfl) Mx' r1 q1
  have jf : JF Mx' := h.2.2.2.2.kp kx (kj 65 (by decide) (by decide)) (kj 67 (by decide) (by decide)) (kj 68 (by decide) (by decide))
  exact ⟨Mx', r1, My', r2, q1, q2, jx, jy, rq, rd, jf⟩
theorem rr_put {Lt : Nat} {K : Int} {Mx My : Mm} (h : RR Lt K Mx My) (hK : K + 5100 ≤ 2000000000) (a1 a2 : Int32) : ∃ (Mx' : Mm) (r1 : Int32) (My' : Mm) (r2 : Int32), q_ChipMap_put Mx a1 a2 = some (Mx', r1) ∧ q_ChipMapModel_put My a1 a2 = some (My', r2) ∧ RR Lt (K + 5100) Mx' My' := by
  obtain ⟨Mx', r1, q1, jx⟩ := jx_put h.1 hK a1 a2
  obtain ⟨My', r2, q2, jy⟩ := jy_put h.2.1 hK a1 a2
  have kx := kx_ChipMap_put Mx a1 a2 (kX.rf Mx) Mx' r1 q1
  have ky := ky_ChipMapModel_put My a1 a2 (kY.rf My) My' r2 q2
  have rq : RQ Mx' My' := h.2.2.1.kp kx ky
  obtain ⟨Gx0, -, ix⟩ := h.1
  have hl := h.2.2.2.1.1
  have br := put_rd ix (by omega) h.2.2.1 h.2.2.2.1 q1 q2
  have rd := br.2
  have kj := kj_ChipMap_put Mx a1 a2 (show kJ Mx Mx from fun _ _ _ => rfl) Mx' r1 q1
  have jf : JF Mx' := h.2.2.2.2.kp kx (kj 65 (by decide) (by decide)) (kj 67 (by decide) (by decide)) (kj 68 (by decide) (by decide))
  exact ⟨Mx', r1, My', r2, q1, q2, jx, jy, rq, rd, jf⟩
theorem rr_join {Lt : Nat} {K : Int} {Mx My : Mm} (h : RR Lt K Mx My) (hK : K + 5100 ≤ 2000000000) (a1 a2 : Int32) : ∃ (Mx' : Mm) (r1 : Int32) (My' : Mm) (r2 : Int32), q_ChipMap_join Mx a1 a2 = some (Mx', r1) ∧ q_ChipMapModel_join My a1 a2 = some (My', r2) ∧ RR Lt (K + 5100) Mx' My' := by
  obtain ⟨Mx', r1, q1, jx⟩ := jx_join h.1 hK a1 a2
  obtain ⟨My', r2, q2, jy⟩ := jy_join h.2.1 hK a1 a2
  have kx := kx_ChipMap_join Mx a1 a2 (kX.rf Mx) Mx' r1 q1
  have ky := ky_ChipMapModel_join My a1 a2 (kY.rf My) My' r2 q2
  have rq : RQ Mx' My' := h.2.2.1.kp kx ky
  obtain ⟨Gx0, -, ix⟩ := h.1
  have hl := h.2.2.2.1.1
  have br := join_rel ix h.2.2.1 h.2.2.2.1 q1 q2 kx ky
  have rd := br.2
  have jf := join_jf ix h.2.2.1 hl h.2.2.2.2 q1
  exact ⟨Mx', r1, My', r2, q1, q2, jx, jy, rq, rd, jf⟩
theorem rr_flush {Lt : Nat} {K : Int} {Mx My : Mm} (h : RR Lt K Mx My) (hK : K + 5100 ≤ 2000000000) : ∃ (Mx' : Mm) (r1 : Int32) (My' : Mm) (r2 : Int32), q_ChipMap_flush Mx = some (Mx', r1) ∧ q_ChipMapModel_flush My = some (My', r2) ∧ RR Lt (K + 5100) Mx' My' := by
  obtain ⟨Mx', r1, q1, jx⟩ := jx_flush h.1 hK
  obtain ⟨My', r2, q2, jy⟩ := jy_flush h.2.1 hK
  have kx := kx_ChipMap_flush Mx (kX.rf Mx) Mx' r1 q1
  have ky := ky_ChipMapModel_flush My (kY.rf My) My' r2 q2
  have rq : RQ Mx' My' := h.2.2.1.kp kx ky
  obtain ⟨Gx0, -, ix⟩ := h.1
  have hl := h.2.2.2.1.1
  have br := flush_rd ix (by omega) h.2.2.2.1 h.2.2.2.2 q1 q2
  have rd := br.2.1
  have jf := br.2.2
  exact ⟨Mx', r1, My', r2, q1, q2, jx, jy, rq, rd, jf⟩
theorem rr_drop {Lt : Nat} {K : Int} {Mx My : Mm} (h : RR Lt K Mx My) (hK : K + 5100 ≤ 2000000000) : ∃ (Mx' : Mm) (r1 : Int32) (My' : Mm) (r2 : Int32), q_ChipMap_drop Mx = some (Mx', r1) ∧ q_ChipMapModel_drop My = some (My', r2) ∧ RR Lt (K + 5100) Mx' My' := by
  obtain ⟨Mx', r1, q1, jx⟩ := jx_drop h.1 hK
  obtain ⟨My', r2, q2, jy⟩ := jy_drop h.2.1 hK
  have kx := kx_ChipMap_drop Mx (kX.rf Mx) Mx' r1 q1
  have ky := ky_ChipMapModel_drop My (kY.rf My) My' r2 q2
  have rq : RQ Mx' My' := h.2.2.1.kp kx ky
  obtain ⟨Gx0, -, ix⟩ := h.1
  have hl := h.2.2.2.1.1
  have br := drop_rel h.2.2.2.1 q1 q2 kx ky
  have rd := br.2
  have jf := drop_jf q1
  exact ⟨Mx', r1, My', r2, q1, q2, jx, jy, rq, rd, jf⟩
theorem rr_trace {Lt : Nat} {K : Int} {Mx My : Mm} (h : RR Lt K Mx My) (hK : K + 5100 ≤ 2000000000) (a1 a2 : Int32) : ∃ (Mx' : Mm) (r1 : Int32) (My' : Mm) (r2 : Int32), q_ChipMap_trace Mx a1 a2 = some (Mx', r1) ∧ q_ChipMapModel_trace_1 My a1 a2 = some (My', r2) ∧ RR Lt (K + 5100) Mx' My' := by
  obtain ⟨Mx', r1, q1, jx⟩ := jx_trace h.1 hK a1 a2
  obtain ⟨My', r2, q2, jy⟩ := jy_trace h.2.1 hK a1 a2
  have kx := kx_ChipMap_trace Mx a1 a2 (kX.rf Mx) Mx' r1 q1
  have ky := ky_ChipMapModel_trace_1 My a1 a2 (kY.rf My) My' r2 q2
  have rq : RQ Mx' My' := h.2.2.1.kp kx ky
  obtain ⟨Gx0, -, ix⟩ := h.1
  have hl := h.2.2.2.1.1
  have e : Mx' = Mx := ke_ChipMap_trace Mx a1 a2 (show kE Mx Mx from rfl) Mx' r1 q1
  have kn := kn_ChipMapModel_trace_1 My a1 a2 (show kN My My from ⟨fun _ _ => rfl, fun _ _ => rfl⟩) My' r2 q2
  have rd : RD Mx' My' := by rw [e]; exact h.2.2.2.1.kN kn
  have jf : JF Mx' := by rw [e]; exact h.2.2.2.2
  exact ⟨Mx', r1, My', r2, q1, q2, jx, jy, rq, rd, jf⟩
theorem rr_step {Lt : Nat} {K : Int} {Mx My : Mm} (h : RR Lt K Mx My) (hK : K + 5100 ≤ 2000000000) (a1 a2 a3 : Int32) : ∃ (Mx' : Mm) (r1 : Int32) (My' : Mm) (r2 : Int32), q_ChipMap_step Mx a1 a2 a3 = some (Mx', r1) ∧ q_ChipMapModel_step My a1 a2 a3 = some (My', r2) ∧ RR Lt (K + 5100) Mx' My' := by
  obtain ⟨Mx', r1, q1, jx⟩ := jx_step h.1 hK a1 a2 a3
  obtain ⟨My', r2, q2, jy⟩ := jy_step h.2.1 hK a1 a2 a3
  have kx := kx_ChipMap_step Mx a1 a2 a3 (kX.rf Mx) Mx' r1 q1
  have ky := ky_ChipMapModel_step My a1 a2 a3 (kY.rf My) My' r2 q2
  have rq : RQ Mx' My' := h.2.2.1.kp kx ky
  obtain ⟨Gx0, -, ix⟩ := h.1
  have hl := h.2.2.2.1.1
  have rd := step_rd ix h.2.2.1 h.2.2.2.1 q1 q2 kx ky
  have kj := kj_ChipMap_step Mx a1 a2 a3 (show kJ Mx Mx from fun _ _ _ => rfl) Mx' r1 q1
  have jf : JF Mx' := h.2.2.2.2.kp kx (kj 65 (by decide) (by decide)) (kj 67 (by decide) (by decide)) (kj 68 (by decide) (by decide))
  exact ⟨Mx', r1, My', r2, q1, q2, jx, jy, rq, rd, jf⟩
theorem rr_erase {Lt : Nat} {K : Int} {Mx My : Mm} (h : RR Lt K Mx My) (hK : K + 5100 ≤ 2000000000) : ∃ (Mx' : Mm) (r1 : Int32) (My' : Mm) (r2 : Int32), q_ChipMap_erase Mx = some (Mx', r1) ∧ q_ChipMapModel_erase My = some (My', r2) ∧ RR Lt (K + 5100) Mx' My' := by
  obtain ⟨Mx', r1, q1, jx⟩ := jx_erase h.1 hK
  obtain ⟨My', r2, q2, jy⟩ := jy_erase h.2.1 hK
  have kx := kx_ChipMap_erase Mx (kX.rf Mx) Mx' r1 q1
  have ky := ky_ChipMapModel_erase My (kY.rf My) My' r2 q2
  have rq : RQ Mx' My' := h.2.2.1.kp kx ky
  obtain ⟨Gx0, -, ix⟩ := h.1
  have hl := h.2.2.2.1.1
  have rd := erase_rd h.2.2.2.1 q1 q2 kx ky
  have kj := kj_ChipMap_erase Mx (show kJ Mx Mx from fun _ _ _ => rfl) Mx' r1 q1
  have jf : JF Mx' := h.2.2.2.2.kp kx (kj 65 (by decide) (by decide)) (kj 67 (by decide) (by decide)) (kj 68 (by decide) (by decide))
  exact ⟨Mx', r1, My', r2, q1, q2, jx, jy, rq, rd, jf⟩
theorem rr_check {Lt : Nat} {K : Int} {Mx My : Mm} (h : RR Lt K Mx My) (hK : K + 5100 ≤ 2000000000) : ∃ (Mx' : Mm) (r1 : Int32) (My' : Mm) (r2 : Int32), q_ChipMap_check Mx = some (Mx', r1) ∧ q_ChipMapModel_check My = some (My', r2) ∧ RR Lt (K + 5100) Mx' My' := by
  obtain ⟨Mx', r1, q1, jx⟩ := jx_check h.1 hK
  obtain ⟨My', r2, q2, jy⟩ := jy_check h.2.1 hK
  have kx := kx_ChipMap_check Mx (kX.rf Mx) Mx' r1 q1
  have ky := ky_ChipMapModel_check My (kY.rf My) My' r2 q2
  have rq : RQ Mx' My' := h.2.2.1.kp kx ky
  obtain ⟨Gx0, -, ix⟩ := h.1
  have hl := h.2.2.2.1.1
  have rd := check_rd ix h.2.2.2.1 q1 q2
  have kc := kc_ChipMap_check Mx (show kC Mx Mx from fun _ _ => rfl) Mx' r1 q1
  have jf : JF Mx' := h.2.2.2.2.c2 (fun p _ hp => kc p hp)
  exact ⟨Mx', r1, My', r2, q1, q2, jx, jy, rq, rd, jf⟩
theorem rr_found {Lt : Nat} {K : Int} {Mx My : Mm} (h : RR Lt K Mx My) (hK : K + 5100 ≤ 2000000000) (a1 : Int32) : ∃ (Mx' : Mm) (r1 : Int32) (My' : Mm) (r2 : Int32), q_ChipMap_found Mx a1 = some (Mx', r1) ∧ q_ChipMapModel_found My a1 = some (My', r2) ∧ RR Lt (K + 5100) Mx' My' := by
  obtain ⟨Mx', r1, q1, jx⟩ := jx_found h.1 hK a1
  obtain ⟨My', r2, q2, jy⟩ := jy_found h.2.1 hK a1
  have kx := kx_ChipMap_found Mx a1 (kX.rf Mx) Mx' r1 q1
  have ky := ky_ChipMapModel_found My a1 (kY.rf My) My' r2 q2
  have rq : RQ Mx' My' := h.2.2.1.kp kx ky
  obtain ⟨Gx0, -, ix⟩ := h.1
  have hl := h.2.2.2.1.1
  have e : Mx' = Mx := ke_ChipMap_found Mx a1 (show kE Mx Mx from rfl) Mx' r1 q1
  have kn := kn_ChipMapModel_found My a1 (show kN My My from ⟨fun _ _ => rfl, fun _ _ => rfl⟩) My' r2 q2
  have rd : RD Mx' My' := by rw [e]; exact h.2.2.2.1.kN kn
  have jf : JF Mx' := by rw [e]; exact h.2.2.2.2
  exact ⟨Mx', r1, My', r2, q1, q2, jx, jy, rq, rd, jf⟩
theorem rr_run {Lt : Nat} {K : Int} {Mx My : Mm} (h : RR Lt K Mx My) (hK : K + 5100 ≤ 2000000000) (a1 : Int32) : ∃ (Mx' : Mm) (r1 : Int32) (My' : Mm) (r2 : Int32), q_ChipMap_run Mx a1 = some (Mx', r1) ∧ q_ChipMapModel_run My a1 = some (My', r2) ∧ RR Lt (K + 5100) Mx' My' := by
  obtain ⟨Mx', r1, q1, jx⟩ := jx_run h.1 hK a1
  obtain ⟨My', r2, q2, jy⟩ := jy_run h.2.1 hK a1
  have kx := kx_ChipMap_run Mx a1 (kX.rf Mx) Mx' r1 q1
  have ky := ky_ChipMapModel_run My a1 (kY.rf My) My' r2 q2
  have rq : RQ Mx' My' := h.2.2.1.kp kx ky
  obtain ⟨Gx0, -, ix⟩ := h.1
  have hl := h.2.2.2.1.1
  have br := run_rd ix hK h.2.2.1 h.2.2.2.1 q1 q2
  have rd := br.2
  have kj := kj_ChipMap_run Mx a1 (show kJ Mx Mx from fun _ _ _ => rfl) Mx' r1 q1
  have jf : JF Mx' := h.2.2.2.2.kp kx (kj 65 (by decide) (by decide)) (kj 67 (by decide) (by decide)) (kj 68 (by decide) (by decide))
  exact ⟨Mx', r1, My', r2, q1, q2, jx, jy, rq, rd, jf⟩
theorem rr_state {Lt : Nat} {K : Int} {Mx My : Mm} (h : RR Lt K Mx My) (hK : K + 5100 ≤ 2000000000) (a1 : Int32) : ∃ (Mx' : Mm) (r1 : Int32) (My' : Mm) (r2 : Int32), q_ChipMap_state Mx a1 = some (Mx', r1) ∧ q_ChipMapModel_state My a1 = some (My', r2) ∧ RR Lt (K + 5100) Mx' My' ∧ r1 = r2 := by
  obtain ⟨Mx', r1, q1, jx⟩ := jx_state h.1 hK a1
  obtain ⟨My', r2, q2, jy⟩ := jy_state h.2.1 hK a1
  have kx := kx_ChipMap_state Mx a1 (kX.rf Mx) Mx' r1 q1
  have ky := ky_ChipMapModel_state My a1 (kY.rf My) My' r2 q2
  have rq : RQ Mx' My' := h.2.2.1.kp kx ky
  obtain ⟨Gx0, -, ix⟩ := h.1
  have hl := h.2.2.2.1.1
  have e : Mx' = Mx := ke_ChipMap_state Mx a1 (show kE Mx Mx from rfl) Mx' r1 q1
  have kn := kn_ChipMapModel_state My a1 (show kN My My from ⟨fun _ _ => rfl, fun _ _ => rfl⟩) My' r2 q2
  have rd : RD Mx' My' := by rw [e]; exact h.2.2.2.1.kN kn
  have jf : JF Mx' := by rw [e]; exact h.2.2.2.2
  exact ⟨Mx', r1, My', r2, q1, q2, ⟨jx, jy, rq, rd, jf⟩, state_eq h.2.2.2.1 q1 q2⟩
theorem rr_fetch {Lt : Nat} {K : Int} {Mx My : Mm} (h : RR Lt K Mx My) (hK : K + 5100 ≤ 2000000000) (a1 : Int32) : ∃ (Mx' My' : Mm) (r2 : Int32), q_ChipMapModel_fetch My a1 = some (My', r2) ∧ RR Lt (K + 5100) Mx' My' ∧ ((∃ r1, q_ChipMap_fetch Mx a1 = some (Mx', r1)) ∨ (∃ r1, qt_ChipMap_fetch Mx a1 = some (Mx', r1) ∧ (r1 = 1 ∨ r1 = 2))) := by
  obtain ⟨My', r2, q2, jy⟩ := jy_fetch h.2.1 hK a1
  have ky := ky_ChipMapModel_fetch My a1 (kY.rf My) My' r2 q2
  have h1 := h.1
  obtain ⟨Gx0, -, ix⟩ := h1
  rcases jx_fetch h.1 hK a1 with ⟨Mx', r1, q1, jx⟩ | ⟨Mx', r1, q1, hr, jx⟩
  · have kx := kx_ChipMap_fetch Mx a1 (kX.rf Mx) Mx' r1 q1
    have kj := kj_ChipMap_fetch Mx a1 (show kJ Mx Mx from fun _ _ _ => rfl) Mx' r1 q1
    exact ⟨Mx', My', r2, q2, ⟨jx, jy, h.2.2.1.kp kx ky, fetch_rd ix (by omega) h.2.2.1 h.2.2.2.1 (Or.inl q1) q2, h.2.2.2.2.kp kx (kj 65 (by decide) (by decide)) (kj 67 (by decide) (by decide)) (kj 68 (by decide) (by decide))⟩, Or.inl ⟨r1, q1⟩⟩
  · have kx := kx_t_ChipMap_fetch Mx a1 (kX.rf Mx) Mx' r1 q1
    have kj := kj_t_ChipMap_fetch Mx a1 (show kJ Mx Mx from fun _ _ _ => rfl) Mx' r1 q1
    exact ⟨Mx', My', r2, q2, ⟨jx, jy, h.2.2.1.kp kx ky, fetch_rd ix (by omega) h.2.2.1 h.2.2.2.1 (Or.inr q1) q2, h.2.2.2.2.kp kx (kj 65 (by decide) (by decide)) (kj 67 (by decide) (by decide)) (kj 68 (by decide) (by decide))⟩, Or.inr ⟨r1, q1, hr⟩⟩
theorem rr_compile {Lt : Nat} {K : Int} {Mx My : Mm} (h : RR Lt K Mx My) (hK : K + 5100 ≤ 2000000000) : ∃ (Mx' My' : Mm) (r2 : Int32), q_ChipMapModel_compile My = some (My', r2) ∧ RR 0 (K + 5100) Mx' My' ∧ ((q_ChipMap_compile Mx = some (Mx', r2) ∧ My'.1 0 0 = 0) ∨ (qt_ChipMap_compile Mx = some (Mx', 1) ∧ My'.1 0 0 = 1)) := by
  obtain ⟨Mx', My', r2, q2, jx, jy, rq, hc⟩ := cmp_rel h.1 h.2.1 hK h.2.2.1
  exact ⟨Mx', My', r2, q2, ⟨jx, jy, rq, cmp_rd h.1 h.2.1 h.2.2.1 h.2.2.2.1 h.2.2.2.2 q2 hc⟩, hc⟩
theorem rr_type {Lt : Nat} {K : Int} {Mx My : Mm} (h : RR Lt K Mx My) (hL : Lt ≤ 480) (hK : K + 5100 ≤ 2000000000) (w : Int64) (n : Int32) : ∃ (Mx' My' : Mm) (r : Int32) (L' : Nat), q_ChipMap_type Mx w n = some (Mx', r) ∧ q_ChipMapModel_type My w n = some (My', r) ∧ L' ≤ 480 ∧ RR L' (K + 5100) Mx' My' := by
  have hx := h.1
  have hy := h.2.1
  obtain ⟨Mx', My', r, L', q1, q2, hL', jx, jy⟩ := j_type hx hy hL hK w n
  obtain ⟨Gx', ex, ix⟩ := hx
  obtain ⟨Gy', ey, iy⟩ := hy
  have lx : Mx.1 21 2 = nI Lt := by rw [ix.LE, ex]
  have ly : My.1 0 2 = nI Lt := by rw [iy.LE, ey]
  obtain ⟨Mx2, My2, r', L2, p1, p2, -, -, -, f1, f2⟩ := type_rel lx ly hL w n
  rw [q1] at p1
  rw [q2] at p2
  obtain ⟨rfl, rfl⟩ := rs_e p1
  obtain ⟨rfl, -⟩ := rs_e p2
  have x : ∀ p, 24 ≤ p → p < 60 ∨ (65 ≤ p ∧ p ≤ 72) → Mx'.1 p = Mx.1 p := fun p h1 _ => f1.2.2 p (by omega) (by omega)
  refine ⟨Mx', My', r, L', q1, q2, hL', jx, jy, ⟨ty_rel lx ly hL h.2.2.1.1 q1 q2, ?_⟩, h.2.2.2.1.all x (fun p h1 h2 => f2.2.2 p (by omega) (by omega)) (fun j h1 h2 => f2.1 j (by omega) (by omega)), h.2.2.2.2.c2 x⟩
  rw [f1.2.2 23 (by decide) (by decide), f1.2.2 24 (by decide) (by decide), f2.1 4 (by decide) (by decide), f2.1 5 (by decide) (by decide), f2.1 27 (by decide) (by decide)]
  exact h.2.2.1.2
