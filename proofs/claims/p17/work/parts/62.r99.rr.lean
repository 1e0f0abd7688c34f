-- the two sides in step through every call
def RR (Lt : Nat) (K : Int) (Mx My : Mm) : Prop := JX (nI Lt) K Mx ∧ JY (nI Lt) K My ∧ RS Mx My
theorem JX.mono {L : Int32} {K K' : Int} {M : Mm} (h : JX L K M) (hk : K ≤ K') : JX L K' M := by
  obtain ⟨G, e, h⟩ := h
  exact ⟨G, e, h.mono hk⟩
theorem JY.mono {L : Int32} {K K' : Int} {M : Mm} (h : JY L K M) (hk : K ≤ K') : JY L K' M := by
  obtain ⟨G, e, h⟩ := h
  exact ⟨G, e, h.mono hk⟩
theorem RR.mono {Lt : Nat} {K K' : Int} {Mx My : Mm} (h : RR Lt K Mx My) (hk : K ≤ K') : RR Lt K' Mx My := ⟨h.1.mono hk, h.2.1.mono hk, h.2.2⟩
theorem rr_0 : RR 0 0 M0 N0 := ⟨jx_0, jy_0, ⟨fun j hj => (by
  have e : (M0.1 21 2).toInt = 0 := rfl
  omega), rfl, rfl, Or.inl ⟨rfl, rfl⟩⟩, fun f hf => Or.inl ⟨rfl, rfl⟩, rfl⟩
theorem lg_self (x : Int64) : lg_cmp x x = 0 := by
  unfold lg_cmp
  have h : ¬ x > x := fun h => by
    have := Int64.lt_iff_toInt_lt.mp h
    omega
  rw [if_neg h, if_pos rfl]
theorem fault_eq {Mx My : Mm} (h : RQ Mx My) {a : Int32} {Mx' My' : Mm} {r1 r2 : Int32} (q1 : q_ChipMap_fault Mx a = some (Mx', r1)) (q2 : q_ChipMapModel_fault My a = some (My', r2)) : r1 = r2 := by
  unfold q_ChipMap_fault at q1
  unfold q_ChipMapModel_fault at q2
  rw [lq_s] at q2
  by_cases c0 : a = 0
  · rw [if_pos c0] at q1 q2
    obtain ⟨-, rfl⟩ := rs_e q1
    obtain ⟨-, rfl⟩ := rs_e q2
    exact h.2.1
  · rw [if_neg c0] at q1 q2
    by_cases c1 : a = 1
    · rw [if_pos c1] at q1 q2
      obtain ⟨-, rfl⟩ := rs_e q1
      obtain ⟨-, rfl⟩ := rs_e q2
      exact h.2.2.1
    · rw [if_neg c1] at q1 q2
      obtain ⟨-, rfl⟩ := rs_e q1
      obtain ⟨-, rfl⟩ := rs_e q2
      rfl
theorem reset_eq {Mx My : Mm} (h : RQ Mx My) {Mx' My' : Mm} {r1 r2 : Int32} (q1 : q_ChipMap_reset Mx = some (Mx', r1)) (q2 : q_ChipMapModel_reset My = some (My', r2)) : r1 = r2 := by
  unfold q_ChipMap_reset q_ChipMap_hasMap at q1
  unfold q_ChipMapModel_reset at q2
  rw [lq_s] at q2
  have z0 : (0 : Int32).toInt = 0 := rfl
  have e27 : (stI My 0 (upd (My.1 0) 0 0)).1 0 27 = My.1 0 27 := rfl
  rw [e27] at q2
  rcases h.2.2.2 with ⟨g1, g2⟩ | ⟨g1, g2⟩
  · have c : Mx.1 24 0 ≤ 0 := Int32.le_iff_toInt_le.mpr (by omega)
    rw [if_pos c, cal_s, if_pos rfl] at q1
    rw [if_pos g2] at q2
    obtain ⟨-, rfl⟩ := rs_e q1
    obtain ⟨-, rfl⟩ := rs_e q2
    rfl
  · have c : ¬ Mx.1 24 0 ≤ 0 := fun c => by
      have := Int32.le_iff_toInt_le.mp c
      omega
    rw [if_neg c, cal_s, if_neg (by decide)] at q1
    rw [if_neg (by rw [g2]; decide)] at q2
    obtain ⟨M1, s1, -, q1⟩ := cal_o q1
    obtain ⟨N1, s2, -, q2⟩ := cal_o q2
    obtain ⟨-, rfl⟩ := rs_e q1
    obtain ⟨-, rfl⟩ := rs_e q2
    rfl
theorem RS.kp {M N M' N' : Mm} (h : RS M N) (hx : kX M M') (hy : kY N N') (sx : kS M M') (sy : kT N N') : RS M' N' := ⟨h.1.kp hx hy, h.2.1.kp hx hy, by rw [sx 69 (by decide) (by decide), sy.2]; exact h.2.2⟩
theorem rr_fault {Lt : Nat} {K : Int} {Mx My : Mm} (h : RR Lt K Mx My) (hK : K + 5100 ≤ 2000000000) (a1 : Int32) : ∃ (Mx' : Mm) (r1 : Int32) (My' : Mm) (r2 : Int32), q_ChipMap_fault Mx a1 = some (Mx', r1) ∧ q_ChipMapModel_fault My a1 = some (My', r2) ∧ RR Lt (K + 5100) Mx' My' := by
  obtain ⟨Mx', r1, q1, jx⟩ := jx_fault h.1 hK a1
  obtain ⟨My', r2, q2, jy⟩ := jy_fault h.2.1 hK a1
  have kx := kx_ChipMap_fault Mx a1 (kX.rf Mx) Mx' r1 q1
  have ky := ky_ChipMapModel_fault My a1 (kY.rf My) My' r2 q2
  have rq : RS Mx' My' := h.2.2.kp kx ky (ks_ChipMap_fault Mx a1 (kS.rf Mx) Mx' r1 q1) (kt_ChipMapModel_fault My a1 (kT.rf My) My' r2 q2)
  exact ⟨Mx', r1, My', r2, q1, q2, jx, jy, rq⟩
theorem rr_field {Lt : Nat} {K : Int} {Mx My : Mm} (h : RR Lt K Mx My) (hK : K + 5100 ≤ 2000000000) (a1 a2 : Int32) : ∃ (Mx' : Mm) (r1 : Int32) (My' : Mm) (r2 : Int32), q_ChipMap_field Mx a1 a2 = some (Mx', r1) ∧ q_ChipMapModel_field My a1 a2 = some (My', r2) ∧ RR Lt (K + 5100) Mx' My' := by
  obtain ⟨Mx', r1, q1, jx⟩ := jx_field h.1 hK a1 a2
  obtain ⟨My', r2, q2, jy⟩ := jy_field h.2.1 hK a1 a2
  have kx := kx_ChipMap_field Mx a1 a2 (kX.rf Mx) Mx' r1 q1
  have ky := ky_ChipMapModel_field My a1 a2 (kY.rf My) My' r2 q2
  have rq : RS Mx' My' := h.2.2.kp kx ky (ks_ChipMap_field Mx a1 a2 (kS.rf Mx) Mx' r1 q1) (kt_ChipMapModel_field My a1 a2 (kT.rf My) My' r2 q2)
  exact ⟨Mx', r1, My', r2, q1, q2, jx, jy, rq⟩
theorem rr_reset {Lt : Nat} {K : Int} {Mx My : Mm} (h : RR Lt K Mx My) (hK : K + 5100 ≤ 2000000000) : ∃ (Mx' : Mm) (r1 : Int32) (My' : Mm) (r2 : Int32), q_ChipMap_reset Mx = some (Mx', r1) ∧ q_ChipMapModel_reset My = some (My', r2) ∧ RR Lt (K + 5100) Mx' My' := by
  obtain ⟨Mx', r1, q1, jx⟩ := jx_reset h.1 hK
  obtain ⟨My', r2, q2, jy⟩ := jy_reset h.2.1 hK
  have kx := kx_ChipMap_reset Mx (kX.rf Mx) Mx' r1 q1
  have ky := ky_ChipMapModel_reset My (kY.rf My) My' r2 q2
  have rq : RS Mx' My' := h.2.2.kp kx ky (ks_ChipMap_reset Mx (kS.rf Mx) Mx' r1 q1) (kt_ChipMapModel_reset My (kT.rf My) My' r2 q2)
  exact ⟨Mx', r1, My', r2, q1, q2, jx, jy, rq⟩
theorem rr_busWrite {Lt : Nat} {K : Int} {Mx My : Mm} (h : RR Lt K Mx My) (hK : K + 5100 ≤ 2000000000) (a1 a2 : Int32) : ∃ (Mx' : Mm) (r1 : Int32) (My' : Mm) (r2 : Int32), q_ChipMap_busWrite Mx a1 a2 = some (Mx', r1) ∧ q_ChipMapModel_busWrite My a1 a2 = some (My', r2) ∧ RR Lt (K + 5100) Mx' My' := by
  obtain ⟨Mx', r1, q1, jx⟩ := jx_busWrite h.1 hK a1 a2
  obtain ⟨My', r2, q2, jy⟩ := jy_busWrite h.2.1 hK a1 a2
  have kx := kx_ChipMap_busWrite Mx a1 a2 (kX.rf Mx) Mx' r1 q1
  have ky := ky_ChipMapModel_busWrite My a1 a2 (kY.rf My) My' r2 q2
  have rq : RS Mx' My' := h.2.2.kp kx ky (ks_ChipMap_busWrite Mx a1 a2 (kS.rf Mx) Mx' r1 q1) (kt_ChipMapModel_busWrite My a1 a2 (kT.rf My) My' r2 q2)
  exact ⟨Mx', r1, My', r2, q1, q2, jx, jy, rq⟩
theorem rr_busRead {Lt : Nat} {K : Int} {Mx My : Mm} (h : RR Lt K Mx My) (hK : K + 5100 ≤ 2000000000) (a1 : Int32) : ∃ (Mx' : Mm) (r1 : Int32) (My' : Mm) (r2 : Int32), q_ChipMap_busRead Mx a1 = some (Mx', r1) ∧ q_ChipMapModel_busRead My a1 = some (My', r2) ∧ RR Lt (K + 5100) Mx' My' := by
  obtain ⟨Mx', r1, q1, jx⟩ := jx_busRead h.1 hK a1
  obtain ⟨My', r2, q2, jy⟩ := jy_busRead h.2.1 hK a1
  have kx := kx_ChipMap_busRead Mx a1 (kX.rf Mx) Mx' r1 q1
  have ky := ky_ChipMapModel_busRead My a1 (kY.rf My) My' r2 q2
  have rq : RS Mx' My' := h.2.2.kp kx ky (ks_ChipMap_busRead Mx a1 (kS.rf Mx) Mx' r1 q1) (kt_ChipMapModel_busRead My a1 (kT.rf My) My' r2 q2)
  exact ⟨Mx', r1, My', r2, q1, q2, jx, jy, rq⟩
theorem rr_poke {Lt : Nat} {K : Int} {Mx My : Mm} (h : RR Lt K Mx My) (hK : K + 5100 ≤ 2000000000) (a1 a2 : Int32) : ∃ (Mx' : Mm) (r1 : Int32) (My' : Mm) (r2 : Int32), q_ChipMap_poke Mx a1 a2 = some (Mx', r1) ∧ q_ChipMapModel_poke My a1 a2 = some (My', r2) ∧ RR Lt (K + 5100) Mx' My' := by
  obtain ⟨Mx', r1, q1, jx⟩ := jx_poke h.1 hK a1 a2
  obtain ⟨My', r2, q2, jy⟩ := jy_poke h.2.1 hK a1 a2
  have kx := kx_ChipMap_poke Mx a1 a2 (kX.rf Mx) Mx' r1 q1
  have ky := ky_ChipMapModel_poke My a1 a2 (kY.rf My) My' r2 q2
  have rq : RS Mx' My' := h.2.2.kp kx ky (ks_ChipMap_poke Mx a1 a2 (kS.rf Mx) Mx' r1 q1) (kt_ChipMapModel_poke My a1 a2 (kT.rf My) My' r2 q2)
  exact ⟨Mx', r1, My', r2, q1, q2, jx, jy, rq⟩
theorem rr_put {Lt : Nat} {K : Int} {Mx My : Mm} (h : RR Lt K Mx My) (hK : K + 5100 ≤ 2000000000) (a1 a2 : Int32) : ∃ (Mx' : Mm) (r1 : Int32) (My' : Mm) (r2 : Int32), q_ChipMap_put Mx a1 a2 = some (Mx', r1) ∧ q_ChipMapModel_put My a1 a2 = some (My', r2) ∧ RR Lt (K + 5100) Mx' My' := by
  obtain ⟨Mx', r1, q1, jx⟩ := jx_put h.1 hK a1 a2
  obtain ⟨My', r2, q2, jy⟩ := jy_put h.2.1 hK a1 a2
  have kx := kx_ChipMap_put Mx a1 a2 (kX.rf Mx) Mx' r1 q1
  have ky := ky_ChipMapModel_put My a1 a2 (kY.rf My) My' r2 q2
  have rq : RS Mx' My' := h.2.2.kp kx ky (ks_ChipMap_put Mx a1 a2 (kS.rf Mx) Mx' r1 q1) (kt_ChipMapModel_put My a1 a2 (kT.rf My) My' r2 q2)
  exact ⟨Mx', r1, My', r2, q1, q2, jx, jy, rq⟩
theorem rr_join {Lt : Nat} {K : Int} {Mx My : Mm} (h : RR Lt K Mx My) (hK : K + 5100 ≤ 2000000000) (a1 a2 : Int32) : ∃ (Mx' : Mm) (r1 : Int32) (My' : Mm) (r2 : Int32), q_ChipMap_join Mx a1 a2 = some (Mx', r1) ∧ q_ChipMapModel_join My a1 a2 = some (My', r2) ∧ RR Lt (K + 5100) Mx' My' := by
  obtain ⟨Mx', r1, q1, jx⟩ := jx_join h.1 hK a1 a2
  obtain ⟨My', r2, q2, jy⟩ := jy_join h.2.1 hK a1 a2
  have kx := kx_ChipMap_join Mx a1 a2 (kX.rf Mx) Mx' r1 q1
  have ky := ky_ChipMapModel_join My a1 a2 (kY.rf My) My' r2 q2
  have rq : RS Mx' My' := h.2.2.kp kx ky (ks_ChipMap_join Mx a1 a2 (kS.rf Mx) Mx' r1 q1) (kt_ChipMapModel_join My a1 a2 (kT.rf My) My' r2 q2)
  exact ⟨Mx', r1, My', r2, q1, q2, jx, jy, rq⟩
theorem rr_flush {Lt : Nat} {K : Int} {Mx My : Mm} (h : RR Lt K Mx My) (hK : K + 5100 ≤ 2000000000) : ∃ (Mx' : Mm) (r1 : Int32) (My' : Mm) (r2 : Int32), q_ChipMap_flush Mx = some (Mx', r1) ∧ q_ChipMapModel_flush My = some (My', r2) ∧ RR Lt (K + 5100) Mx' My' := by
  obtain ⟨Mx', r1, q1, jx⟩ := jx_flush h.1 hK
  obtain ⟨My', r2, q2, jy⟩ := jy_flush h.2.1 hK
  have kx := kx_ChipMap_flush Mx (kX.rf Mx) Mx' r1 q1
  have ky := ky_ChipMapModel_flush My (kY.rf My) My' r2 q2
  have rq : RS Mx' My' := h.2.2.kp kx ky (ks_ChipMap_flush Mx (kS.rf Mx) Mx' r1 q1) (kt_ChipMapModel_flush My (kT.rf My) My' r2 q2)
  exact ⟨Mx', r1, My', r2, q1, q2, jx, jy, rq⟩
theorem rr_drop {Lt : Nat} {K : Int} {Mx My : Mm} (h : RR Lt K Mx My) (hK : K + 5100 ≤ 2000000000) : ∃ (Mx' : Mm) (r1 : Int32) (My' : Mm) (r2 : Int32), q_ChipMap_drop Mx = some (Mx', r1) ∧ q_ChipMapModel_drop My = some (My', r2) ∧ RR Lt (K + 5100) Mx' My' := by
  obtain ⟨Mx', r1, q1, jx⟩ := jx_drop h.1 hK
  obtain ⟨My', r2, q2, jy⟩ := jy_drop h.2.1 hK
  have kx := kx_ChipMap_drop Mx (kX.rf Mx) Mx' r1 q1
  have ky := ky_ChipMapModel_drop My (kY.rf My) My' r2 q2
  have rq : RS Mx' My' := h.2.2.kp kx ky (ks_ChipMap_drop Mx (kS.rf Mx) Mx' r1 q1) (kt_ChipMapModel_drop My (kT.rf My) My' r2 q2)
  exact ⟨Mx', r1, My', r2, q1, q2, jx, jy, rq⟩
theorem rr_trace {Lt : Nat} {K : Int} {Mx My : Mm} (h : RR Lt K Mx My) (hK : K + 5100 ≤ 2000000000) (a1 a2 : Int32) : ∃ (Mx' : Mm) (r1 : Int32) (My' : Mm) (r2 : Int32), q_ChipMap_trace Mx a1 a2 = some (Mx', r1) ∧ q_ChipMapModel_trace_1 My a1 a2 = some (My', r2) ∧ RR Lt (K + 5100) Mx' My' := by
  obtain ⟨Mx', r1, q1, jx⟩ := jx_trace h.1 hK a1 a2
  obtain ⟨My', r2, q2, jy⟩ := jy_trace h.2.1 hK a1 a2
  have kx := kx_ChipMap_trace Mx a1 a2 (kX.rf Mx) Mx' r1 q1
  have ky := ky_ChipMapModel_trace_1 My a1 a2 (kY.rf My) My' r2 q2
  have rq : RS Mx' My' := h.2.2.kp kx ky (ks_ChipMap_trace Mx a1 a2 (kS.rf Mx) Mx' r1 q1) (kt_ChipMapModel_trace_1 My a1 a2 (kT.rf My) My' r2 q2)
  exact ⟨Mx', r1, My', r2, q1, q2, jx, jy, rq⟩
theorem rr_step {Lt : Nat} {K : Int} {Mx My : Mm} (h : RR Lt K Mx My) (hK : K + 5100 ≤ 2000000000) (a1 a2 a3 : Int32) : ∃ (Mx' : Mm) (r1 : Int32) (My' : Mm) (r2 : Int32), q_ChipMap_step Mx a1 a2 a3 = some (Mx', r1) ∧ q_ChipMapModel_step My a1 a2 a3 = some (My', r2) ∧ RR Lt (K + 5100) Mx' My' := by
  obtain ⟨Mx', r1, q1, jx⟩ := jx_step h.1 hK a1 a2 a3
  obtain ⟨My', r2, q2, jy⟩ := jy_step h.2.1 hK a1 a2 a3
  have kx := kx_ChipMap_step Mx a1 a2 a3 (kX.rf Mx) Mx' r1 q1
  have ky := ky_ChipMapModel_step My a1 a2 a3 (kY.rf My) My' r2 q2
  obtain ⟨Gx', ex, ix⟩ := h.1
  have sr := step_rel ix h.2.2 q1 q2
  have rq : RS Mx' My' := ⟨h.2.2.1.kp kx ky, h.2.2.2.1.kp kx ky, sr.2⟩
  exact ⟨Mx', r1, My', r2, q1, q2, jx, jy, rq⟩
theorem rr_erase {Lt : Nat} {K : Int} {Mx My : Mm} (h : RR Lt K Mx My) (hK : K + 5100 ≤ 2000000000) : ∃ (Mx' : Mm) (r1 : Int32) (My' : Mm) (r2 : Int32), q_ChipMap_erase Mx = some (Mx', r1) ∧ q_ChipMapModel_erase My = some (My', r2) ∧ RR Lt (K + 5100) Mx' My' ∧ r1 = r2 := by
  obtain ⟨Mx', r1, q1, jx⟩ := jx_erase h.1 hK
  obtain ⟨My', r2, q2, jy⟩ := jy_erase h.2.1 hK
  have kx := kx_ChipMap_erase Mx (kX.rf Mx) Mx' r1 q1
  have ky := ky_ChipMapModel_erase My (kY.rf My) My' r2 q2
  have sr := erase_rel h.2.2 q1 q2
  have rq : RS Mx' My' := ⟨h.2.2.1.kp kx ky, h.2.2.2.1.kp kx ky, sr.2⟩
  exact ⟨Mx', r1, My', r2, q1, q2, ⟨jx, jy, rq⟩, sr.1⟩
theorem rr_check {Lt : Nat} {K : Int} {Mx My : Mm} (h : RR Lt K Mx My) (hK : K + 5100 ≤ 2000000000) : ∃ (Mx' : Mm) (r1 : Int32) (My' : Mm) (r2 : Int32), q_ChipMap_check Mx = some (Mx', r1) ∧ q_ChipMapModel_check My = some (My', r2) ∧ RR Lt (K + 5100) Mx' My' := by
  obtain ⟨Mx', r1, q1, jx⟩ := jx_check h.1 hK
  obtain ⟨My', r2, q2, jy⟩ := jy_check h.2.1 hK
  have kx := kx_ChipMap_check Mx (kX.rf Mx) Mx' r1 q1
  have ky := ky_ChipMapModel_check My (kY.rf My) My' r2 q2
  have rq : RS Mx' My' := h.2.2.kp kx ky (ks_ChipMap_check Mx (kS.rf Mx) Mx' r1 q1) (kt_ChipMapModel_check My (kT.rf My) My' r2 q2)
  exact ⟨Mx', r1, My', r2, q1, q2, jx, jy, rq⟩
theorem rr_found {Lt : Nat} {K : Int} {Mx My : Mm} (h : RR Lt K Mx My) (hK : K + 5100 ≤ 2000000000) (a1 : Int32) : ∃ (Mx' : Mm) (r1 : Int32) (My' : Mm) (r2 : Int32), q_ChipMap_found Mx a1 = some (Mx', r1) ∧ q_ChipMapModel_found My a1 = some (My', r2) ∧ RR Lt (K + 5100) Mx' My' := by
  obtain ⟨Mx', r1, q1, jx⟩ := jx_found h.1 hK a1
  obtain ⟨My', r2, q2, jy⟩ := jy_found h.2.1 hK a1
  have kx := kx_ChipMap_found Mx a1 (kX.rf Mx) Mx' r1 q1
  have ky := ky_ChipMapModel_found My a1 (kY.rf My) My' r2 q2
  have rq : RS Mx' My' := h.2.2.kp kx ky (ks_ChipMap_found Mx a1 (kS.rf Mx) Mx' r1 q1) (kt_ChipMapModel_found My a1 (kT.rf My) My' r2 q2)
  exact ⟨Mx', r1, My', r2, q1, q2, jx, jy, rq⟩
theorem rr_run {Lt : Nat} {K : Int} {Mx My : Mm} (h : RR Lt K Mx My) (hK : K + 5100 ≤ 2000000000) (a1 : Int32) : ∃ (Mx' : Mm) (r1 : Int32) (My' : Mm) (r2 : Int32), q_ChipMap_run Mx a1 = some (Mx', r1) ∧ q_ChipMapModel_run My a1 = some (My', r2) ∧ RR Lt (K + 5100) Mx' My' := by
  obtain ⟨Mx', r1, q1, jx⟩ := jx_run h.1 hK a1
  obtain ⟨My', r2, q2, jy⟩ := jy_run h.2.1 hK a1
  have kx := kx_ChipMap_run Mx a1 (kX.rf Mx) Mx' r1 q1
  have ky := ky_ChipMapModel_run My a1 (kY.rf My) My' r2 q2
  have rq : RS Mx' My' := h.2.2.kp kx ky (ks_ChipMap_run Mx a1 (kS.rf Mx) Mx' r1 q1) (kt_ChipMapModel_run My a1 (kT.rf My) My' r2 q2)
  exact ⟨Mx', r1, My', r2, q1, q2, jx, jy, rq⟩
theorem rr_state {Lt : Nat} {K : Int} {Mx My : Mm} (h : RR Lt K Mx My) (hK : K + 5100 ≤ 2000000000) (a1 : Int32) : ∃ (Mx' : Mm) (r1 : Int32) (My' : Mm) (r2 : Int32), q_ChipMap_state Mx a1 = some (Mx', r1) ∧ q_ChipMapModel_state My a1 = some (My', r2) ∧ RR Lt (K + 5100) Mx' My' := by
  obtain ⟨Mx', r1, q1, jx⟩ := jx_state h.1 hK a1
  obtain ⟨My', r2, q2, jy⟩ := jy_state h.2.1 hK a1
  have kx := kx_ChipMap_state Mx a1 (kX.rf Mx) Mx' r1 q1
  have ky := ky_ChipMapModel_state My a1 (kY.rf My) My' r2 q2
  have rq : RS Mx' My' := h.2.2.kp kx ky (ks_ChipMap_state Mx a1 (kS.rf Mx) Mx' r1 q1) (kt_ChipMapModel_state My a1 (kT.rf My) My' r2 q2)
  exact ⟨Mx', r1, My', r2, q1, q2, jx, jy, rq⟩
theorem rr_fetch {Lt : Nat} {K : Int} {Mx My : Mm} (h : RR Lt K Mx My) (hK : K + 5100 ≤ 2000000000) (a1 : Int32) : ∃ (Mx' My' : Mm) (r2 : Int32), q_ChipMapModel_fetch My a1 = some (My', r2) ∧ RR Lt (K + 5100) Mx' My' ∧ ((∃ r1, q_ChipMap_fetch Mx a1 = some (Mx', r1)) ∨ (∃ r1, qt_ChipMap_fetch Mx a1 = some (Mx', r1) ∧ (r1 = 1 ∨ r1 = 2))) := by
  obtain ⟨My', r2, q2, jy⟩ := jy_fetch h.2.1 hK a1
  have ky := ky_ChipMapModel_fetch My a1 (kY.rf My) My' r2 q2
  have kt := kt_ChipMapModel_fetch My a1 (kT.rf My) My' r2 q2
  rcases jx_fetch h.1 hK a1 with ⟨Mx', r1, q1, jx⟩ | ⟨Mx', r1, q1, hr, jx⟩
  · exact ⟨Mx', My', r2, q2, ⟨jx, jy, h.2.2.kp (kx_ChipMap_fetch Mx a1 (kX.rf Mx) Mx' r1 q1) ky (ks_ChipMap_fetch Mx a1 (kS.rf Mx) Mx' r1 q1) kt⟩, Or.inl ⟨r1, q1⟩⟩
  · exact ⟨Mx', My', r2, q2, ⟨jx, jy, h.2.2.kp (kx_t_ChipMap_fetch Mx a1 (kX.rf Mx) Mx' r1 q1) ky (ks_t_ChipMap_fetch Mx a1 (kS.rf Mx) Mx' r1 q1) kt⟩, Or.inr ⟨r1, q1, hr⟩⟩
theorem rr_compile {Lt : Nat} {K : Int} {Mx My : Mm} (h : RR Lt K Mx My) (hK : K + 5100 ≤ 2000000000) : ∃ (Mx' My' : Mm) (r2 : Int32), q_ChipMapModel_compile My = some (My', r2) ∧ RR 0 (K + 5100) Mx' My' ∧ ((q_ChipMap_compile Mx = some (Mx', r2) ∧ My'.1 0 0 = 0) ∨ (qt_ChipMap_compile Mx = some (Mx', 1) ∧ My'.1 0 0 = 1)) := by
  obtain ⟨Mx', My', r2, q2, jx, jy, rq, hc⟩ := cmp_rel h.1 h.2.1 hK h.2.2.1
  exact ⟨Mx', My', r2, q2, ⟨jx, jy, rq, cmp_lay h.1 h.2.1 h.2.2 q2 hc⟩, hc⟩
theorem rr_type {Lt : Nat} {K : Int} {Mx My : Mm} (h : RR Lt K Mx My) (hL : Lt ≤ 480) (hK : K + 5100 ≤ 2000000000) (w : Int64) (n : Int32) : ∃ (Mx' My' : Mm) (r : Int32) (L' : Nat), q_ChipMap_type Mx w n = some (Mx', r) ∧ q_ChipMapModel_type My w n = some (My', r) ∧ L' ≤ 480 ∧ RR L' (K + 5100) Mx' My' := by
  have hx := h.1
  have hy := h.2.1
  obtain ⟨Mx', My', r, L', q1, q2, hL', jx, jy⟩ := j_type hx hy hL hK w n
  obtain ⟨Gx', ex, ix⟩ := hx
  obtain ⟨Gy', ey, iy⟩ := hy
  have lx : Mx.1 21 2 = nI Lt := by rw [ix.LE, ex]
  have ly : My.1 0 2 = nI Lt := by rw [iy.LE, ey]
  obtain ⟨Mx2, My2, r', L2, p1, p2, -, -, -, f1, f2⟩ := type_rel lx ly hL w n
  rw [q1] at p1
  rw [q2] at p2
  obtain ⟨rfl, rfl⟩ := rs_e p1
  obtain ⟨rfl, -⟩ := rs_e p2
  refine ⟨Mx', My', r, L', q1, q2, hL', jx, jy, ⟨ty_rel lx ly hL h.2.2.1.1 q1 q2, ?_⟩, ?_, ?_⟩
  · rw [f1.2.2 23 (by decide) (by decide), f1.2.2 24 (by decide) (by decide), f2.1 4 (by decide) (by decide), f2.1 5 (by decide) (by decide), f2.1 27 (by decide) (by decide)]
    exact h.2.2.1.2
  · exact h.2.2.2.1.cg (f1.2.2 38 (by decide) (by decide)) (f1.2.2 39 (by decide) (by decide)) (f1.2.2 40 (by decide) (by decide)) (f1.2.2 41 (by decide) (by decide)) (f2.2.2 23 (by decide) (by decide)) (f2.2.2 24 (by decide) (by decide)) (f2.2.2 25 (by decide) (by decide)) (f2.2.2 26 (by decide) (by decide)) (f2.2.2 27 (by decide) (by decide))
  · rw [f1.2.2 69 (by decide) (by decide), f2.1 59 (by decide) (by decide)]
    exact h.2.2.2.2
