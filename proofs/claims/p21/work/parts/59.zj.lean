def JX (L : Int32) (K : Int) (M : Mm) : Prop := ∃ G : Gx, G.L = L ∧ IX G K M
def JY (L : Int32) (K : Int) (M : Mm) : Prop := ∃ G : Gy, G.L = L ∧ IY G K M
theorem jx_fault {L : Int32} {K : Int} {M : Mm} (h : JX L K M) (hK : K + 5100 ≤ 2000000000) (a1 : Int32) : wpR (q_ChipMap_fault M a1) (fun M' _ => JX L (K + 5100) M') := by
  obtain ⟨G, rfl, hI⟩ := h
  exact wpR_mono (w_ChipMap_fault hI a1) (fun _ _ h => by
    obtain ⟨rfl, _⟩ := h
    exact ⟨G, rfl, hI.mono (by omega)⟩)
theorem jy_fault {L : Int32} {K : Int} {M : Mm} (h : JY L K M) (hK : K + 5100 ≤ 2000000000) (a1 : Int32) : wpR (q_ChipMapModel_fault M a1) (fun M' _ => JY L (K + 5100) M') := by
  obtain ⟨G, rfl, hI⟩ := h
  exact wpR_mono (w_ChipMapModel_fault hI a1) (fun _ _ h => ⟨G, rfl, h.1.mono (by omega)⟩)
theorem jx_field {L : Int32} {K : Int} {M : Mm} (h : JX L K M) (hK : K + 5100 ≤ 2000000000) (a1 a2 : Int32) : wpR (q_ChipMap_field M a1 a2) (fun M' _ => JX L (K + 5100) M') := by
  obtain ⟨G, rfl, hI⟩ := h
  exact wpR_mono (w_ChipMap_field hI a1 a2) (fun _ _ h => by
    obtain ⟨rfl, _⟩ := h
    exact ⟨G, rfl, hI.mono (by omega)⟩)
theorem jy_field {L : Int32} {K : Int} {M : Mm} (h : JY L K M) (hK : K + 5100 ≤ 2000000000) (a1 a2 : Int32) : wpR (q_ChipMapModel_field M a1 a2) (fun M' _ => JY L (K + 5100) M') := by
  obtain ⟨G, rfl, hI⟩ := h
  exact wpR_mono (w_ChipMapModel_field hI a1 a2) (fun _ _ h => ⟨G, rfl, h.1.mono (by omega)⟩)
theorem jx_reset {L : Int32} {K : Int} {M : Mm} (h : JX L K M) (hK : K + 5100 ≤ 2000000000) : wpR (q_ChipMap_reset M) (fun M' _ => JX L (K + 5100) M') := by
  obtain ⟨G, rfl, hI⟩ := h
  exact wpR_mono (w_ChipMap_reset hI) (fun _ _ h => ⟨G, rfl, h.1.mono (by omega)⟩)
theorem jy_reset {L : Int32} {K : Int} {M : Mm} (h : JY L K M) (hK : K + 5100 ≤ 2000000000) : wpR (q_ChipMapModel_reset M) (fun M' _ => JY L (K + 5100) M') := by
  obtain ⟨G, rfl, hI⟩ := h
  exact wpR_mono (w_ChipMapModel_reset hI) (fun _ _ h => ⟨G, rfl, h.1.mono (by omega)⟩)
theorem jx_busWrite {L : Int32} {K : Int} {M : Mm} (h : JX L K M) (hK : K + 5100 ≤ 2000000000) (a1 a2 : Int32) : wpR (q_ChipMap_busWrite M a1 a2) (fun M' _ => JX L (K + 5100) M') := by
  obtain ⟨G, rfl, hI⟩ := h
  exact wpR_mono (w_ChipMap_busWrite hI (by omega) a1 a2) (fun _ _ h => ⟨G, rfl, h.1.mono (by omega)⟩)
theorem jy_busWrite {L : Int32} {K : Int} {M : Mm} (h : JY L K M) (hK : K + 5100 ≤ 2000000000) (a1 a2 : Int32) : wpR (q_ChipMapModel_busWrite M a1 a2) (fun M' _ => JY L (K + 5100) M') := by
  obtain ⟨G, rfl, hI⟩ := h
  exact wpR_mono (w_ChipMapModel_busWrite hI (by omega) a1 a2) (fun _ _ h => ⟨G, rfl, h.1.mono (by omega)⟩)
theorem jx_busRead {L : Int32} {K : Int} {M : Mm} (h : JX L K M) (hK : K + 5100 ≤ 2000000000) (a1 : Int32) : wpR (q_ChipMap_busRead M a1) (fun M' _ => JX L (K + 5100) M') := by
  obtain ⟨G, rfl, hI⟩ := h
  exact wpR_mono (w_ChipMap_busRead hI (by omega) a1) (fun _ _ h => ⟨G, rfl, h.1.mono (by omega)⟩)
theorem jy_busRead {L : Int32} {K : Int} {M : Mm} (h : JY L K M) (hK : K + 5100 ≤ 2000000000) (a1 : Int32) : wpR (q_ChipMapModel_busRead M a1) (fun M' _ => JY L (K + 5100) M') := by
  obtain ⟨G, rfl, hI⟩ := h
  exact wpR_mono (w_ChipMapModel_busRead hI (by omega) a1) (fun _ _ h => ⟨G, rfl, h.1.mono (by omega)⟩)
theorem jx_poke {L : Int32} {K : Int} {M : Mm} (h : JX L K M) (hK : K + 5100 ≤ 2000000000) (a1 a2 : Int32) : wpR (q_ChipMap_poke M a1 a2) (fun M' _ => JX L (K + 5100) M') := by
  obtain ⟨G, rfl, hI⟩ := h
  exact wpR_mono (w_ChipMap_poke hI a1 a2) (fun _ _ h => ⟨G, rfl, h.1.mono (by omega)⟩)
theorem jy_poke {L : Int32} {K : Int} {M : Mm} (h : JY L K M) (hK : K + 5100 ≤ 2000000000) (a1 a2 : Int32) : wpR (q_ChipMapModel_poke M a1 a2) (fun M' _ => JY L (K + 5100) M') := by
  obtain ⟨G, rfl, hI⟩ := h
  exact wpR_mono (w_ChipMapModel_poke hI a1 a2) (fun _ _ h => ⟨G, rfl, h.1.mono (by omega)⟩)
theorem jx_put {L : Int32} {K : Int} {M : Mm} (h : JX L K M) (hK : K + 5100 ≤ 2000000000) (a1 a2 : Int32) : wpR (q_ChipMap_put M a1 a2) (fun M' _ => JX L (K + 5100) M') := by
  obtain ⟨G, rfl, hI⟩ := h
  exact wpR_mono (w_ChipMap_put hI (by omega) a1 a2) (fun _ _ h => ⟨G, rfl, h.1.mono (by omega)⟩)
theorem jy_put {L : Int32} {K : Int} {M : Mm} (h : JY L K M) (hK : K + 5100 ≤ 2000000000) (a1 a2 : Int32) : wpR (q_ChipMapModel_put M a1 a2) (fun M' _ => JY L (K + 5100) M') := by
  obtain ⟨G, rfl, hI⟩ := h
  exact wpR_mono (w_ChipMapModel_put hI (by omega) a1 a2) (fun _ _ h => ⟨G, rfl, h.1.mono (by omega)⟩)
theorem jx_join {L : Int32} {K : Int} {M : Mm} (h : JX L K M) (hK : K + 5100 ≤ 2000000000) (a1 a2 : Int32) : wpR (q_ChipMap_join M a1 a2) (fun M' _ => JX L (K + 5100) M') := by
  obtain ⟨G, rfl, hI⟩ := h
  exact wpR_mono (w_ChipMap_join hI a1 a2) (fun _ _ h => ⟨G, rfl, h.1.mono (by omega)⟩)
theorem jy_join {L : Int32} {K : Int} {M : Mm} (h : JY L K M) (hK : K + 5100 ≤ 2000000000) (a1 a2 : Int32) : wpR (q_ChipMapModel_join M a1 a2) (fun M' _ => JY L (K + 5100) M') := by
  obtain ⟨G, rfl, hI⟩ := h
  exact wpR_mono (w_ChipMapModel_join hI a1 a2) (fun _ _ h => ⟨G, rfl, h.1.mono (by omega)⟩)
theorem jx_flush {L : Int32} {K : Int} {M : Mm} (h : JX L K M) (hK : K + 5100 ≤ 2000000000) : wpR (q_ChipMap_flush M) (fun M' _ => JX L (K + 5100) M') := by
  obtain ⟨G, rfl, hI⟩ := h
  exact wpR_mono (w_ChipMap_flush hI (by omega)) (fun _ _ h => ⟨G, rfl, h.1.mono (by omega)⟩)
theorem jy_flush {L : Int32} {K : Int} {M : Mm} (h : JY L K M) (hK : K + 5100 ≤ 2000000000) : wpR (q_ChipMapModel_flush M) (fun M' _ => JY L (K + 5100) M') := by
  obtain ⟨G, rfl, hI⟩ := h
  exact wpR_mono (w_ChipMapModel_flush hI (by omega)) (fun _ _ h => ⟨G, rfl, h.1.mono (by omega)⟩)
theorem jx_drop {L : Int32} {K : Int} {M : Mm} (h : JX L K M) (hK : K + 5100 ≤ 2000000000) : wpR (q_ChipMap_drop M) (fun M' _ => JX L (K + 5100) M') := by
  obtain ⟨G, rfl, hI⟩ := h
  exact wpR_mono (w_ChipMap_drop hI) (fun _ _ h => ⟨G, rfl, h.1.mono (by omega)⟩)
theorem jy_drop {L : Int32} {K : Int} {M : Mm} (h : JY L K M) (hK : K + 5100 ≤ 2000000000) : wpR (q_ChipMapModel_drop M) (fun M' _ => JY L (K + 5100) M') := by
  obtain ⟨G, rfl, hI⟩ := h
  exact wpR_mono (w_ChipMapModel_drop hI) (fun _ _ h => ⟨G, rfl, h.1.mono (by omega)⟩)
theorem jx_trace {L : Int32} {K : Int} {M : Mm} (h : JX L K M) (hK : K + 5100 ≤ 2000000000) (a1 a2 : Int32) : wpR (q_ChipMap_trace M a1 a2) (fun M' _ => JX L (K + 5100) M') := by
  obtain ⟨G, rfl, hI⟩ := h
  exact wpR_mono (w_ChipMap_trace hI a1 a2) (fun _ _ h => by
    obtain ⟨rfl, _⟩ := h
    exact ⟨G, rfl, hI.mono (by omega)⟩)
theorem jy_trace {L : Int32} {K : Int} {M : Mm} (h : JY L K M) (hK : K + 5100 ≤ 2000000000) (a1 a2 : Int32) : wpR (q_ChipMapModel_trace_1 M a1 a2) (fun M' _ => JY L (K + 5100) M') := by
  obtain ⟨G, rfl, hI⟩ := h
  exact wpR_mono (w_ChipMapModel_trace_1 hI a1 a2) (fun _ _ h => ⟨G, rfl, h.1.mono (by omega)⟩)
theorem jx_step {L : Int32} {K : Int} {M : Mm} (h : JX L K M) (hK : K + 5100 ≤ 2000000000) (a1 a2 a3 : Int32) : wpR (q_ChipMap_step M a1 a2 a3) (fun M' _ => JX L (K + 5100) M') := by
  obtain ⟨G, rfl, hI⟩ := h
  exact wpR_mono (w_ChipMap_step hI a1 a2 a3) (fun _ _ h => by
    obtain ⟨G', e, h⟩ := h
    exact ⟨G', e, h.mono (by omega)⟩)
theorem jy_step {L : Int32} {K : Int} {M : Mm} (h : JY L K M) (hK : K + 5100 ≤ 2000000000) (a1 a2 a3 : Int32) : wpR (q_ChipMapModel_step M a1 a2 a3) (fun M' _ => JY L (K + 5100) M') := by
  obtain ⟨G, rfl, hI⟩ := h
  exact wpR_mono (w_ChipMapModel_step hI a1 a2 a3) (fun _ _ h => by
    obtain ⟨G', e, h⟩ := h
    exact ⟨G', e, h.mono (by omega)⟩)
theorem jx_erase {L : Int32} {K : Int} {M : Mm} (h : JX L K M) (hK : K + 5100 ≤ 2000000000) : wpR (q_ChipMap_erase M) (fun M' _ => JX L (K + 5100) M') := by
  obtain ⟨G, rfl, hI⟩ := h
  exact wpR_mono (w_ChipMap_erase hI) (fun _ _ h => ⟨G, rfl, h.1.mono (by omega)⟩)
theorem jy_erase {L : Int32} {K : Int} {M : Mm} (h : JY L K M) (hK : K + 5100 ≤ 2000000000) : wpR (q_ChipMapModel_erase M) (fun M' _ => JY L (K + 5100) M') := by
  obtain ⟨G, rfl, hI⟩ := h
  exact wpR_mono (w_ChipMapModel_erase hI) (fun _ _ h => ⟨G, rfl, h.1.mono (by omega)⟩)
theorem jx_check {L : Int32} {K : Int} {M : Mm} (h : JX L K M) (hK : K + 5100 ≤ 2000000000) : wpR (q_ChipMap_check M) (fun M' _ => JX L (K + 5100) M') := by
  obtain ⟨G, rfl, hI⟩ := h
  exact wpR_mono (w_ChipMap_check hI) (fun _ _ h => ⟨G, rfl, h.1.mono (by omega)⟩)
theorem jy_check {L : Int32} {K : Int} {M : Mm} (h : JY L K M) (hK : K + 5100 ≤ 2000000000) : wpR (q_ChipMapModel_check M) (fun M' _ => JY L (K + 5100) M') := by
  obtain ⟨G, rfl, hI⟩ := h
  exact wpR_mono (w_ChipMapModel_check hI (by omega)) (fun _ _ h => ⟨G, rfl, h.1.mono (by omega)⟩)
theorem jx_found {L : Int32} {K : Int} {M : Mm} (h : JX L K M) (hK : K + 5100 ≤ 2000000000) (a1 : Int32) : wpR (q_ChipMap_found M a1) (fun M' _ => JX L (K + 5100) M') := by
  obtain ⟨G, rfl, hI⟩ := h
  exact wpR_mono (w_ChipMap_found hI a1) (fun _ _ h => by
    obtain ⟨rfl, _⟩ := h
    exact ⟨G, rfl, hI.mono (by omega)⟩)
theorem jy_found {L : Int32} {K : Int} {M : Mm} (h : JY L K M) (hK : K + 5100 ≤ 2000000000) (a1 : Int32) : wpR (q_ChipMapModel_found M a1) (fun M' _ => JY L (K + 5100) M') := by
  obtain ⟨G, rfl, hI⟩ := h
  exact wpR_mono (w_ChipMapModel_found hI a1) (fun _ _ h => ⟨G, rfl, h.1.mono (by omega)⟩)
theorem jx_run {L : Int32} {K : Int} {M : Mm} (h : JX L K M) (hK : K + 5100 ≤ 2000000000) (a1 : Int32) : wpR (q_ChipMap_run M a1) (fun M' _ => JX L (K + 5100) M') := by
  obtain ⟨G, rfl, hI⟩ := h
  exact wpR_mono (w_ChipMap_run hI (by omega) a1) (fun _ _ h => ⟨G, rfl, h.1.mono (by omega)⟩)
theorem jy_run {L : Int32} {K : Int} {M : Mm} (h : JY L K M) (hK : K + 5100 ≤ 2000000000) (a1 : Int32) : wpR (q_ChipMapModel_run M a1) (fun M' _ => JY L (K + 5100) M') := by
  obtain ⟨G, rfl, hI⟩ := h
  exact wpR_mono (w_ChipMapModel_run hI (by omega) a1) (fun _ _ h => ⟨G, rfl, h.1.mono (by omega)⟩)
theorem jx_state {L : Int32} {K : Int} {M : Mm} (h : JX L K M) (hK : K + 5100 ≤ 2000000000) (a1 : Int32) : wpR (q_ChipMap_state M a1) (fun M' _ => JX L (K + 5100) M') := by
  obtain ⟨G, rfl, hI⟩ := h
  exact wpR_mono (w_ChipMap_state hI a1) (fun _ _ h => by
    obtain ⟨rfl, _⟩ := h
    exact ⟨G, rfl, hI.mono (by omega)⟩)
theorem jy_state {L : Int32} {K : Int} {M : Mm} (h : JY L K M) (hK : K + 5100 ≤ 2000000000) (a1 : Int32) : wpR (q_ChipMapModel_state M a1) (fun M' _ => JY L (K + 5100) M') := by
  obtain ⟨G, rfl, hI⟩ := h
  exact wpR_mono (w_ChipMapModel_state hI a1) (fun _ _ h => ⟨G, rfl, h.1.mono (by omega)⟩)
theorem jy_fetch {L : Int32} {K : Int} {M : Mm} (h : JY L K M) (hK : K + 5100 ≤ 2000000000) (a1 : Int32) : wpR (q_ChipMapModel_fetch M a1) (fun M' _ => JY L (K + 5100) M') := by
  obtain ⟨G, rfl, hI⟩ := h
  exact wpR_mono (w_ChipMapModel_fetch hI (by omega) a1) (fun _ _ h => ⟨G, rfl, h.1.mono (by omega)⟩)
theorem jy_compile {L : Int32} {K : Int} {M : Mm} (h : JY L K M) (hK : K + 5100 ≤ 2000000000) : wpR (q_ChipMapModel_compile M) (fun M' _ => JY 0 (K + 5100) M') := by
  obtain ⟨G, rfl, hI⟩ := h
  exact wpR_mono (w_ChipMapModel_compile hI) (fun _ _ h => by
    obtain ⟨G', e, h⟩ := h
    exact ⟨G', e, h.mono (by omega)⟩)
theorem chN (x : Int32) : ((vp_nar .char x).toUInt32 % 65536).toInt32 = vp_nar .char x := by
  have e : vp_nar .char x = x.toUInt32.toUInt16.toUInt32.toInt32 := rfl
  rw [e]
  have e2 : x.toUInt32.toUInt16.toUInt32.toInt32.toUInt32 = x.toUInt32.toUInt16.toUInt32 := rfl
  rw [e2]
  congr 1
  apply UInt32.toNat_inj.mp
  simp
def chT (M : Mm) : Prop := ∀ j, ((M.1 22 j).toUInt32 % 65536).toInt32 = M.1 22 j
theorem IX.typ {G : Gx} {K : Int} {M N : Mm} (h : IX G K M) (f : frX M N) (hc : chT N) (hL : 0 ≤ (N.1 21 2).toInt ∧ (N.1 21 2).toInt ≤ 480) : IX ⟨G.hm, G.rg, G.sk, G.sf, G.sv, N.1 21 2⟩ K N := ⟨(by rw [f.2.2 38 (by decide) (by decide)]; exact h.hmE),
  h.hmR,
  (by rw [f.2.2 24 (by decide) (by decide)]; exact h.rgE),
  h.rgR,
  rfl,
  hL,
  (by rw [f.1 3 (by decide)]; exact h.atR),
  hc,
  (by rw [f.2.2 1 (by decide) (by decide)]; exact h.dreg),
  (by rw [f.2.2 1 (by decide) (by decide)]; exact h.dfl),
  (by rw [f.2.2 4 (by decide) (by decide)]; exact h.dbank),
  (by rw [f.2.2 5 (by decide) (by decide)]; exact h.dbp),
  (by rw [f.2.2 7 (by decide) (by decide)]; exact h.dname),
  (by rw [f.2.2 9 (by decide) (by decide)]; exact h.dhome),
  (by rw [f.2.2 10 (by decide) (by decide)]; exact h.dacc),
  (by rw [f.2.2 14 (by decide) (by decide)]; exact h.drc),
  (by rw [f.2.2 16 (by decide) (by decide)]; exact h.da),
  (by rw [f.2.2 17 (by decide) (by decide)]; exact h.db),
  (by rw [f.2.2 1 (by decide) (by decide), f.2.2 7 (by decide) (by decide)]; exact h.dnm),
  (by rw [f.2.2 1 (by decide) (by decide), f.2.2 10 (by decide) (by decide)]; exact h.dac),
  (by rw [f.2.2 1 (by decide) (by decide), f.2.2 9 (by decide) (by decide)]; exact h.dhr),
  (by rw [f.2.2 14 (by decide) (by decide), f.2.2 16 (by decide) (by decide)]; exact h.dqa),
  (by rw [f.2.2 14 (by decide) (by decide), f.2.2 17 (by decide) (by decide)]; exact h.dqb),
  (by rw [f.2.2 19 (by decide) (by decide)]; exact h.dpa),
  (by rw [f.2.2 20 (by decide) (by decide)]; exact h.dpb),
  (by rw [f.2.2 26 (by decide) (by decide)]; exact h.bank),
  (by rw [f.2.2 43 (by decide) (by decide)]; exact h.rc),
  (by rw [f.2.2 43 (by decide) (by decide), f.2.2 45 (by decide) (by decide)]; exact h.ra),
  (by rw [f.2.2 43 (by decide) (by decide), f.2.2 46 (by decide) (by decide)]; exact h.rb),
  (by rw [f.2.2 53 (by decide) (by decide)]; exact h.log),
  (by rw [f.2.2 60 (by decide) (by decide)]; exact h.wr),
  (by rw [f.2.2 63 (by decide) (by decide)]; exact h.wreg),
  (by rw [f.2.2 65 (by decide) (by decide)]; exact h.jc),
  (by rw [f.2.2 65 (by decide) (by decide), f.2.2 67 (by decide) (by decide)]; exact h.jf),
  (by rw [f.2.2 69 (by decide) (by decide)]; exact h.sc),
  (by rw [f.2.2 70 (by decide) (by decide)]; exact h.skE),
  (by rw [f.2.2 71 (by decide) (by decide)]; exact h.sfE),
  (by rw [f.2.2 72 (by decide) (by decide)]; exact h.svE),
  (by rw [f.2.2 69 (by decide) (by decide)]; exact h.stE),
  (by rw [f.2.2 73 (by decide) (by decide)]; exact h.cc),
  (by rw [f.2.2 76 (by decide) (by decide)]; exact h.cs)⟩
theorem IY.typ {G : Gy} {K : Int} {M N : Mm} (h : IY G K M) (f : frT M N) (hL : 0 ≤ (N.1 0 2).toInt ∧ (N.1 0 2).toInt ≤ 480) : IY ⟨G.sk, G.sf, G.sv, N.1 0 2⟩ K N := ⟨rfl,
  hL,
  (by rw [f.1 3 (by decide) (by decide)]; exact h.atR),
  (by rw [f.1 6 (by decide) (by decide)]; exact h.rr),
  (by rw [f.1 12 (by decide) (by decide)]; exact h.rf),
  (by rw [f.1 20 (by decide) (by decide)]; exact h.ru),
  (by rw [f.2.2 12 (by decide) (by decide)]; exact h.rin),
  (by rw [f.1 28 (by decide) (by decide)]; exact h.regs),
  (by rw [f.1 38 (by decide) (by decide)]; exact h.rules),
  (by rw [f.2.2 21 (by decide) (by decide)]; exact h.bank),
  (by rw [f.2.2 25 (by decide) (by decide)]; exact h.inn),
  (by rw [f.2.2 30 (by decide) (by decide)]; exact h.ra),
  (by rw [f.2.2 31 (by decide) (by decide)]; exact h.rb),
  (by rw [f.1 47 (by decide) (by decide)]; exact h.ops),
  (by rw [f.1 71 (by decide) (by decide)]; exact h.opb),
  (by rw [f.1 52 (by decide) (by decide)]; exact h.jc),
  (by rw [f.2.2 40 (by decide) (by decide)]; exact h.jf),
  (by rw [f.1 59 (by decide) (by decide)]; exact h.sc),
  (by rw [f.2.2 42 (by decide) (by decide)]; exact h.skE),
  (by rw [f.2.2 43 (by decide) (by decide)]; exact h.sfE),
  (by rw [f.2.2 44 (by decide) (by decide)]; exact h.svE),
  h.stE,
  (by rw [f.1 63 (by decide) (by decide)]; exact h.sit),
  (by rw [f.2.2 45 (by decide) (by decide)]; exact h.sia),
  (by rw [f.1 12 (by decide) (by decide), f.2.2 7 (by decide) (by decide)]; exact h.nm),
  (by rw [f.1 6 (by decide) (by decide), f.2.2 3 (by decide) (by decide)]; exact h.bk),
  (by rw [f.1 20 (by decide) (by decide), f.2.2 15 (by decide) (by decide)]; exact h.qa),
  (by rw [f.1 20 (by decide) (by decide), f.2.2 16 (by decide) (by decide)]; exact h.qb)⟩
theorem ch69 : ∀ (n' : Nat) (M : Mm) (w : Int64) (v : Int32) (M' : Mm) (r : Int32), chT M → q_Reader_append_69 n' M w v = some (M', r) → chT M' := by
  intro n'
  induction n' with
  | zero =>
    intro M w v M' r _ h
    rw [q_Reader_append_69] at h
    cases h
  | succ n' ih =>
    intro M w v M' r hM h
    rw [q_Reader_append_69] at h
    by_cases hc : v < 0
    · rw [if_pos hc] at h
      obtain ⟨rfl, -⟩ := rs_e h
      exact hM
    · rw [if_neg hc] at h
      obtain ⟨M1, r1, h1, h⟩ := cal_o h
      obtain ⟨rfl, -⟩ := rs_e h1
      refine ih _ _ _ M' r ?_ (ix_r h)
      exact fun j => updR (P := fun z => (z.toUInt32 % 65536).toInt32 = z) hM (chN _) j
theorem ch28 : ∀ (n' : Nat) (M : Mm) (w : Int64) (n v : Int32) (M' : Mm) (r : Int32), chT M → q_Reader_append_28 n' M w n v = some (M', r) → chT M' := by
  intro n'
  induction n' with
  | zero =>
    intro M w n v M' r _ h
    rw [q_Reader_append_28] at h
    cases h
  | succ n' ih =>
    intro M w n v M' r hM h
    rw [q_Reader_append_28] at h
    by_cases hc : n ≤ v
    · rw [if_pos hc] at h
      exact ch69 _ _ _ _ M' r hM h
    · rw [if_neg hc] at h
      obtain ⟨M1, r1, h1, h⟩ := cal_o h
      obtain ⟨rfl, -⟩ := rs_e h1
      by_cases h33 : r1 < 33
      · rw [if_pos h33] at h
        obtain ⟨rfl, -⟩ := rs_e h
        exact hM
      · rw [if_neg h33] at h
        by_cases h126 : r1 ≤ 126
        · rw [if_pos h126] at h
          exact ih _ _ _ _ M' r hM h
        · rw [if_neg h126] at h
          obtain ⟨rfl, -⟩ := rs_e h
          exact hM
theorem ch_type {M M' : Mm} {w : Int64} {n r : Int32} (hM : chT M) (h : q_ChipMap_type M w n = some (M', r)) : chT M' := by
  unfold q_ChipMap_type at h
  obtain ⟨M1, r1, h1, h⟩ := cal_o h
  have h := bz_r h
  obtain ⟨rfl, -⟩ := rs_e h
  unfold q_Reader_append at h1
  by_cases c1 : n < 1
  · rw [if_pos c1] at h1
    obtain ⟨rfl, -⟩ := rs_e h1
    exact hM
  · rw [if_neg c1] at h1
    by_cases c8 : 8 < n
    · rw [if_pos c8] at h1
      obtain ⟨rfl, -⟩ := rs_e h1
      exact hM
    · rw [if_neg c8] at h1
      by_cases cL : (M.1 21 2) + n ≤ 480
      · rw [if_pos cL] at h1
        exact ch28 _ _ _ _ _ _ _ hM h1
      · rw [if_neg cL] at h1
        obtain ⟨rfl, -⟩ := rs_e h1
        exact hM
theorem j_type {L : Nat} {K : Int} {Mx My : Mm} (hx : JX (nI L) K Mx) (hy : JY (nI L) K My) (hL : L ≤ 480) (hK : K + 5100 ≤ 2000000000) (w : Int64) (n : Int32) : ∃ (Mx' My' : Mm) (r : Int32) (L' : Nat), q_ChipMap_type Mx w n = some (Mx', r) ∧ q_ChipMapModel_type My w n = some (My', r) ∧ L' ≤ 480 ∧ JX (nI L') (K + 5100) Mx' ∧ JY (nI L') (K + 5100) My' := by
  obtain ⟨Gx', ex, ix⟩ := hx
  obtain ⟨Gy', ey, iy⟩ := hy
  obtain ⟨Mx', My', r, L', q1, q2, l1, l2, hL', f1, f2⟩ := type_rel (L := L) (by rw [ix.LE, ex]) (by rw [iy.LE, ey]) hL w n
  have hr : 0 ≤ (nI L').toInt ∧ (nI L').toInt ≤ 480 := by
    rw [nI_toInt (by omega)]
    omega
  refine ⟨Mx', My', r, L', q1, q2, hL', ⟨_, ?_, (ix.typ f1 (ch_type ix.tapeC q1) (by rw [l1]; exact hr)).mono (by omega)⟩, ⟨_, ?_, (iy.typ f2 (by rw [l2]; exact hr)).mono (by omega)⟩⟩
  · exact l1
  · exact l2
theorem jx_0 : JX (nI 0) 0 M0 := ⟨⟨fun _ => -1, 0, fun _ => 0, fun _ => 0, fun _ => 0, 0⟩, rfl, ⟨rfl, (fun _ => (by decide : -1 ≤ (-1 : Int32).toInt ∧ (-1 : Int32).toInt < (0 : Int))), rfl, (by decide : (0 : Int) ≤ 0 ∧ (0 : Int) ≤ 16), rfl, (by decide : 0 ≤ (0 : Int32).toInt ∧ (0 : Int32).toInt ≤ 480), (by decide : 0 ≤ (0 : Int32).toInt ∧ (0 : Int32).toInt ≤ 480), (fun _ => (by decide : ((0 : Int32).toUInt32 % 65536).toInt32 = (0 : Int32))), (by decide : 0 ≤ (0 : Int32).toInt ∧ (0 : Int32).toInt ≤ 16), (by decide : 0 ≤ (0 : Int32).toInt ∧ (0 : Int32).toInt ≤ 128), (fun _ => (by decide : -1 ≤ (0 : Int32).toInt ∧ (0 : Int32).toInt ≤ 25)), (fun _ => (by decide : 0 ≤ (0 : Int32).toInt)), (fun _ => (by decide : -1 ≤ (0 : Int32).toInt ∧ (0 : Int32).toInt ≤ 25)), (fun _ => (by decide : 0 ≤ (0 : Int32).toInt ∧ (0 : Int32).toInt ≤ 15)), (fun _ => (by decide : -1 ≤ (0 : Int32).toInt ∧ (0 : Int32).toInt ≤ 6)), (by decide : 0 ≤ (0 : Int32).toInt ∧ (0 : Int32).toInt ≤ 12), (fun _ => (by decide : -1 ≤ (0 : Int32).toInt ∧ (0 : Int32).toInt ≤ 25)), (fun _ => (by decide : -1 ≤ (0 : Int32).toInt ∧ (0 : Int32).toInt ≤ 25)), (fun j hj => absurd hj (show ¬ ((j : Int) < 0) by omega)), (fun j hj => absurd hj (show ¬ ((j : Int) < 0) by omega)), (fun j hj => absurd hj (show ¬ ((j : Int) < 0) by omega)), (fun j hj => absurd hj (show ¬ ((j : Int) < 0) by omega)), (fun j hj => absurd hj (show ¬ ((j : Int) < 0) by omega)), (fun _ => (by decide : 0 ≤ (0 : Int32).toInt)), (fun _ => (by decide : 0 ≤ (0 : Int32).toInt)), (fun j hj => absurd hj (show ¬ ((j : Int) < 0) by omega)), (by decide : 0 ≤ (0 : Int32).toInt ∧ (0 : Int32).toInt ≤ 12), (fun j hj => absurd hj (show ¬ ((j : Int) < 0) by omega)), (fun j hj => absurd hj (show ¬ ((j : Int) < 0) by omega)), (by decide : 0 ≤ (0 : Int32).toInt ∧ (0 : Int32).toInt ≤ (0 : Int)), (by decide : 0 ≤ (0 : Int32).toInt ∧ (0 : Int32).toInt ≤ 16), (fun _ => (by decide : 0 ≤ (0 : Int32).toInt ∧ (0 : Int32).toInt ≤ 15)), (by decide : 0 ≤ (0 : Int32).toInt ∧ (0 : Int32).toInt ≤ 8), (fun j hj => absurd hj (show ¬ ((j : Int) < 0) by omega)), (by decide : 0 ≤ (0 : Int32).toInt ∧ (0 : Int32).toInt ≤ 40), rfl, rfl, rfl, (fun j hj => absurd hj (show ¬ ((j : Int) < 0) by omega)), (by decide : 0 ≤ (0 : Int32).toInt ∧ (0 : Int32).toInt ≤ 1000), (fun _ => (by decide : 0 ≤ (0 : Int32).toInt ∧ (0 : Int32).toInt ≤ 1000))⟩⟩
theorem jy_0 : JY (nI 0) 0 N0 := ⟨⟨fun _ => 0, fun _ => 0, fun _ => 0, 0⟩, rfl, ⟨rfl, (by decide : 0 ≤ (0 : Int32).toInt ∧ (0 : Int32).toInt ≤ 480), (by decide : 0 ≤ (0 : Int32).toInt ∧ (0 : Int32).toInt ≤ 480), (by decide : 0 ≤ (0 : Int32).toInt ∧ (0 : Int32).toInt ≤ 16), (by decide : 0 ≤ (0 : Int32).toInt ∧ (0 : Int32).toInt ≤ 128), (by decide : 0 ≤ (0 : Int32).toInt ∧ (0 : Int32).toInt ≤ 12), (fun _ => (by decide : 0 ≤ (0 : Int32).toInt ∧ (0 : Int32).toInt ≤ 15)), (by decide : 0 ≤ (0 : Int32).toInt ∧ (0 : Int32).toInt ≤ 16), (by decide : 0 ≤ (0 : Int32).toInt ∧ (0 : Int32).toInt ≤ 12), (fun _ => (by decide : -1 ≤ (0 : Int32).toInt ∧ (0 : Int32).toInt ≤ 25)), (fun _ => (by decide : 0 ≤ (0 : Int32).toInt ∧ (0 : Int32).toInt ≤ 15)), (fun _ => (by decide : 0 ≤ (0 : Int32).toInt ∧ (0 : Int32).toInt ≤ 25)), (fun _ => (by decide : 0 ≤ (0 : Int32).toInt ∧ (0 : Int32).toInt ≤ 25)), (by decide : 0 ≤ (0 : Int32).toInt ∧ (0 : Int32).toInt ≤ (0 : Int)), (by decide : 0 ≤ (0 : Int32).toInt ∧ (0 : Int32).toInt ≤ (0 : Int)), (by decide : 0 ≤ (0 : Int32).toInt ∧ (0 : Int32).toInt ≤ 8), (fun _ => (by decide : 0 ≤ (0 : Int32).toInt ∧ (0 : Int32).toInt ≤ 25)), (by decide : 0 ≤ (0 : Int32).toInt ∧ (0 : Int32).toInt ≤ 40), rfl, rfl, rfl, (fun _ => ⟨fun _ _ => (by decide : 0 ≤ (0 : Int32).toInt ∧ (0 : Int32).toInt ≤ 25), fun h => absurd h (by decide : ¬ (0 : Int32).toInt = 2)⟩), (by decide : 0 ≤ (0 : Int32).toInt ∧ (0 : Int32).toInt ≤ 1000), (fun _ => (by decide : 0 ≤ (0 : Int32).toInt ∧ (0 : Int32).toInt ≤ 40)), (fun j hj => absurd hj (show ¬ ((j : Int) < 0) by omega)), (fun j hj => absurd hj (show ¬ ((j : Int) < 0) by omega)), (fun j hj => absurd hj (show ¬ ((j : Int) < 0) by omega)), (fun j hj => absurd hj (show ¬ ((j : Int) < 0) by omega))⟩⟩
