def Gx.step (G : Gx) (c : Nat) (a1 a2 a3 : Int32) : Gx := ⟨G.hm, G.rg, upd G.sk c a1, upd G.sf c a2, upd G.sv c a3, G.L⟩
theorem IX.step {G : Gx} {K : Int} {M : Mm} {a1 a2 a3 : Int32} (h : IX G K M) (hc : (M.1 69 0).toInt < 40) (hf : stp G.hm a1 a2 a3) : IX (G.step (M.1 69 0).toNatClampNeg a1 a2 a3) K (stI (stI (stI (stI M 70 (upd (M.1 70) (M.1 69 0).toNatClampNeg a1)) 71 (upd (M.1 71) (M.1 69 0).toNatClampNeg a2)) 72 (upd (M.1 72) (M.1 69 0).toNatClampNeg a3)) 69 (upd (M.1 69) 0 (M.1 69 0 + 1))) := by
  have z := h.sc
  have e : (M.1 69 0 + 1).toInt = (M.1 69 0).toInt + 1 := iadd rfl (rfl : (1 : Int32).toInt = 1) (by omega) (by omega)
  have t := tnc z.1
  exact ⟨h.hmE, h.hmR, h.rgE, h.rgR, h.LE, h.LR, h.atR, h.tapeC, h.dreg, h.dfl, h.dbank, h.dbp, h.dname, h.dhome, h.dacc, h.drc, h.da, h.db, h.dnm, h.dac, h.dhr, h.dqa, h.dqb, h.dpa, h.dpb, h.bank, h.rc, h.ra, h.rb, h.log, h.wr, h.wreg, h.jc, h.jf, (by show 0 ≤ (M.1 69 0 + 1).toInt ∧ (M.1 69 0 + 1).toInt ≤ 40; omega), (by show upd (M.1 70) _ a1 = upd G.sk _ a1; rw [h.skE]), (by show upd (M.1 71) _ a2 = upd G.sf _ a2; rw [h.sfE]), (by show upd (M.1 72) _ a3 = upd G.sv _ a3; rw [h.svE]), (fun j hj => by have hj : (j : Int) < (M.1 69 0 + 1).toInt := hj; show stp G.hm (upd G.sk (M.1 69 0).toNatClampNeg a1 j) (upd G.sf (M.1 69 0).toNatClampNeg a2 j) (upd G.sv (M.1 69 0).toNatClampNeg a3 j); by_cases hne : j = (M.1 69 0).toNatClampNeg; (rw [hne, updS, updS, updS]; exact hf); (rw [updN hne, updN hne, updN hne]; exact h.stE j (by omega))), h.cc, h.cs⟩
theorem w_ChipMap_step {G : Gx} {K : Int} {M : Mm} (hI : IX G K M) (a1 a2 a3 : Int32) : wpR (q_ChipMap_step M a1 a2 a3) (fun M' r => ∃ G' : Gx, G'.L = G.L ∧ IX G' K M') := by
  unfold q_ChipMap_step
  refine wpR_ro (w_Steps_isFull_1 hI) (fun r1 h1 => ?_)
  refine wpR_eq (x := r1.toInt) (y := 0) rfl rfl (fun c1 => ?_) (fun c1 => ?_)
  · refine wpR_ro (w_ChipMap_hasMap hI) (fun r2 h2 => ?_)
    refine wpR_eq (x := r2.toInt) (y := 0) rfl rfl (fun c2 => wpR_some ⟨G, rfl, hI⟩) (fun c2 => ?_)
    refine wpR_ro (w_ChipMap_isStep hI a1 a2 a3) (fun r3 h3 => ?_)
    refine wpR_eq (x := r3.toInt) (y := 0) rfl rfl (fun c3 => wpR_some ⟨G, rfl, hI⟩) (fun c3 => ?_)
    refine wpR_cl (P := fun M' _ => ∃ G' : Gx, G'.L = G.L ∧ IX G' K M') ?_ (fun M' r h => wpR_some h)
    unfold q_Steps_append_1
    have z := hI.sc
    have hlt := h1.2 c1
    have k : vp_in (M.1 69 0) 40 := vI (by omega)
    refine wpR_ix k (wpR_lt (wpR_ix k (wpR_lt (wpR_ix k (wpR_lt (wpR_lt (wpR_some ?_)))))))
    exact ⟨G.step (M.1 69 0).toNatClampNeg a1 a2 a3, rfl, hI.step hlt (h3.2 c3)⟩
  · exact wpR_some ⟨G, rfl, hI⟩
theorem IX.clr {G : Gx} {K : Int} {M : Mm} (h : IX G K M) : IX G K (stI (stI (stI M 1 (upd (M.1 1) 0 0)) 1 (upd (upd (M.1 1) 0 0) 6 0)) 14 (upd (M.1 14) 0 0)) := ⟨h.hmE, h.hmR, h.rgE, h.rgR, h.LE, h.LR, h.atR, h.tapeC, ⟨Int.le_refl 0, (by decide : (0 : Int) ≤ 16)⟩, ⟨Int.le_refl 0, (by decide : (0 : Int) ≤ 128)⟩, h.dbank, h.dbp, h.dname, h.dhome, h.dacc, ⟨Int.le_refl 0, (by decide : (0 : Int) ≤ 12)⟩, h.da, h.db, (fun j hj => absurd hj (show ¬ ((j : Int) < 0) by omega)), (fun j hj => absurd hj (show ¬ ((j : Int) < 0) by omega)), (fun j hj => absurd hj (show ¬ ((j : Int) < 0) by omega)), (fun j hj => absurd hj (show ¬ ((j : Int) < 0) by omega)), (fun j hj => absurd hj (show ¬ ((j : Int) < 0) by omega)), h.dpa, h.dpb, h.bank, h.rc, h.ra, h.rb, h.log, h.wr, h.wreg, h.jc, h.jf, h.sc, h.skE, h.sfE, h.svE, h.stE, h.cc, h.cs⟩
theorem w_Draft_clear {G : Gx} {K : Int} {M : Mm} (hI : IX G K M) : wpR (q_Draft_clear M) (fun M' _ => IX G K M' ∧ ((M'.1 1 0).toInt = 0 ∧ (M'.1 1 6).toInt = 0) ∧ (M'.1 14 0).toInt = 0 ∧ DS M') := by
  unfold q_Draft_clear
  refine wpR_lt (wpR_lt (wpR_lt (wpR_some ⟨hI.clr, ⟨rfl, rfl⟩, rfl, ?_⟩)))
  exact (fun j hj => absurd hj (show ¬ ((j : Int) < 0) by omega))
def Gx.l0 (G : Gx) : Gx := ⟨G.hm, G.rg, G.sk, G.sf, G.sv, 0⟩
theorem IX.sL0 {G : Gx} {K : Int} {M : Mm} (h : IX G K M) : IX G.l0 K (stI M 21 (upd (M.1 21) 2 0)) := ⟨h.hmE, h.hmR, h.rgE, h.rgR, rfl, ⟨Int.le_refl 0, (by decide : (0 : Int) ≤ 480)⟩, h.atR, h.tapeC, h.dreg, h.dfl, h.dbank, h.dbp, h.dname, h.dhome, h.dacc, h.drc, h.da, h.db, h.dnm, h.dac, h.dhr, h.dqa, h.dqb, h.dpa, h.dpb, h.bank, h.rc, h.ra, h.rb, h.log, h.wr, h.wreg, h.jc, h.jf, h.sc, h.skE, h.sfE, h.svE, h.stE, h.cc, h.cs⟩
theorem w_Reader_readAll_42 {G : Gx} {K : Int} {M : Mm} (hI : IX G K M) (t0 : Int32) (ht : 0 ≤ t0.toInt ∧ t0.toInt ≤ 1) (hd : t0.toInt ≠ 0 → DS M) : wpR (q_Reader_readAll_42 M t0) (fun M' r => IX G.l0 K M' ∧ (0 ≤ r.toInt ∧ r.toInt ≤ 1) ∧ (r.toInt ≠ 0 → DS M')) := by
  unfold q_Reader_readAll_42
  exact wpR_lt (wpR_bz (b01 ht) (wpR_some ⟨hI.sL0, ht, fun h => hd h⟩))
theorem w_Reader_readAll {G : Gx} {K : Int} {M : Mm} (hI : IX G K M) : wpR (q_Reader_readAll M) (fun M' r => IX G.l0 K M' ∧ (0 ≤ r.toInt ∧ r.toInt ≤ 1) ∧ (r.toInt ≠ 0 → DS M')) := by
  unfold q_Reader_readAll
  refine wpR_cl (w_Draft_clear hI) (fun M1 r2 h1 => ?_)
  obtain ⟨i1, ⟨h10, h16⟩, h14, hds⟩ := h1
  refine wpR_ltv (fun M3 e3 => ?_)
  have i3 : IX G K M3 := by rw [e3]; exact i1.s21_3 (by decide)
  have ds3 : DS M3 := DS.of (by rw [e3]; rfl) (by rw [e3]; rfl) hds
  have z1 : (M3.1 1 0).toInt = 0 := by rw [e3]; exact h10
  have z2 : (M3.1 1 6).toInt = 0 := by rw [e3]; exact h16
  have z3 : (M3.1 14 0).toInt = 0 := by rw [e3]; exact h14
  refine wpR_cl (w_Reader_readRegisters i3 ⟨z1, z2⟩ ds3) (fun M4 r5 h4 => ?_)
  obtain ⟨i4, hb4, hd4, he4⟩ := h4
  refine wpR_eq (x := r5.toInt) (y := 0) rfl rfl (fun c => ?_) (fun c => ?_)
  · unfold q_Reader_readAll_41
    exact w_Reader_readAll_42 i4 0 (by decide) (fun h => absurd rfl h)
  · refine wpR_cl (w_Reader_readRules i4 (by rw [he4]; exact z3)) (fun M6 r7 h6 => ?_)
    obtain ⟨i6, hb6, e1, e9⟩ := h6
    refine wpR_eq (x := r7.toInt) (y := 0) rfl rfl (fun c2 => ?_) (fun c2 => ?_)
    · unfold q_Reader_readAll_41
      exact w_Reader_readAll_42 i6 0 (by decide) (fun h => absurd rfl h)
    · refine wpR_if (fun _ => ?_) (fun _ => ?_)
      · exact w_Reader_readAll_42 i6 1 (by decide) (fun _ => DS.of e1 e9 (hd4 c))
      · unfold q_Reader_readAll_41
        exact w_Reader_readAll_42 i6 0 (by decide) (fun h => absurd rfl h)
def rowN (M : Mm) (x : Int32) : Prop := ∃ w : Int32, 0 ≤ w.toInt ∧ w.toInt < (M.1 1 6).toInt ∧ M.1 7 w.toNatClampNeg = x
def GB (M : Mm) (b : Int) : Prop := ∀ j : Nat, (j : Int) < b → (M.1 4 j).toInt = -1 ∨ rowN M (M.1 4 j)
def GR (M : Mm) (b : Int) : Prop := ∀ j : Nat, (j : Int) < b → rowN M (M.1 17 j)
theorem GB.up {M : Mm} {v : Int32} (h : GB M v.toInt) (h0 : 0 ≤ v.toInt) (hn : (M.1 4 v.toNatClampNeg).toInt = -1 ∨ rowN M (M.1 4 v.toNatClampNeg)) : GB M (v.toInt + 1) := by
  intro j hj
  by_cases hc : (j : Int) < v.toInt
  · exact h j hc
  · have t := tnc h0
    have ej : j = v.toNatClampNeg := by omega
    rw [ej]
    exact hn
theorem GR.up {M : Mm} {v : Int32} (h : GR M v.toInt) (h0 : 0 ≤ v.toInt) (hn : rowN M (M.1 17 v.toNatClampNeg)) : GR M (v.toInt + 1) := by
  intro j hj
  by_cases hc : (j : Int) < v.toInt
  · exact h j hc
  · have t := tnc h0
    have ej : j = v.toNatClampNeg := by omega
    rw [ej]
    exact hn
theorem w_Judge_badBank_2 {G : Gx} {K : Int} {M : Mm} (hI : IX G K M) : ∀ (n' : Nat) (v1 : Int32), (0 ≤ v1.toInt ∧ v1.toInt ≤ 16) → GB M v1.toInt → 16 - v1.toInt < (n' : Int) → wpR (q_Judge_badBank_2 n' M v1) (fun M' r => M = M' ∧ (r.toInt = -1 → GB M (M.1 1 0).toInt)) := by
  intro n'
  induction n' with
  | zero =>
    intro v1 p0 p1 hn
    exfalso; omega
  | succ n' ih =>
    intro v1 p0 p1 hn
    rw [q_Judge_badBank_2]
    have z1 := hI.dreg
    refine wpR_le (x := (M.1 1 0).toInt) (y := v1.toInt) rfl rfl (fun c => ?_) (fun c => ?_)
    · exact wpR_some ⟨rfl, fun _ j hj => p1 j (by omega)⟩
    · have k : vp_in v1 16 := vI (by omega)
      have ez : (v1 + 1).toInt = v1.toInt + 1 := iadd rfl (rfl : (1 : Int32).toInt = 1) (by omega) (by omega)
      have go : ((M.1 4 v1.toNatClampNeg).toInt = -1 ∨ rowN M (M.1 4 v1.toNatClampNeg)) → wpR (q_Judge_badBank_68 (q_Judge_badBank_2 n') M v1) (fun M' r => M = M' ∧ (r.toInt = -1 → GB M (M.1 1 0).toInt)) := by
        intro hn2
        unfold q_Judge_badBank_68
        exact ih (v1 + 1) (by omega) (by rw [ez]; exact p1.up p0.1 hn2) (by omega)
      refine wpR_ix k ?_
      refine wpR_eq (x := (M.1 4 v1.toNatClampNeg).toInt) (y := -1) rfl (by decide) (fun c2 => go (Or.inl c2)) (fun c2 => ?_)
      refine wpR_ix k ?_
      refine wpR_ro (w_Draft_rowOf hI _) (fun r2 h2 => ?_)
      refine wpR_ix k ?_
      refine wpR_ro (w_Judge_canBeBank hI r2 _ (by omega)) (fun r4 h4 => ?_)
      refine wpR_eq (x := r4.toInt) (y := 0) rfl rfl (fun c3 => ?_) (fun c3 => ?_)
      · refine wpR_ix k (wpR_some ⟨rfl, fun hc => ?_⟩)
        have := hI.dbp v1.toNatClampNeg
        omega
      · have h0 := h4.2.2 c3
        exact go (Or.inr ⟨r2, h0, h2.1.2.1, h2.2 h0⟩)
theorem w_Judge_badBank {G : Gx} {K : Int} {M : Mm} (hI : IX G K M) : wpR (q_Judge_badBank M) (fun M' r => M = M' ∧ (r.toInt = -1 → GB M (M.1 1 0).toInt)) := by
  unfold q_Judge_badBank
  exact w_Judge_badBank_2 hI 4000 0 (by decide) (fun j hj => absurd hj (show ¬ ((j : Int) < 0) by omega)) (by decide)
theorem w_Judge_badRule_10 {G : Gx} {K : Int} {M : Mm} (hI : IX G K M) : ∀ (n' : Nat) (v2 : Int32), (0 ≤ v2.toInt ∧ v2.toInt ≤ 12) → GR M v2.toInt → 12 - v2.toInt < (n' : Int) → wpR (q_Judge_badRule_10 n' M v2) (fun M' r => M = M' ∧ (r.toInt = -1 → GR M (M.1 14 0).toInt)) := by
  intro n'
  induction n' with
  | zero =>
    intro v2 p0 p1 hn
    exfalso; omega
  | succ n' ih =>
    intro v2 p0 p1 hn
    rw [q_Judge_badRule_10]
    have z1 := hI.drc
    refine wpR_le (x := (M.1 14 0).toInt) (y := v2.toInt) rfl rfl (fun c => ?_) (fun c => ?_)
    · exact wpR_some ⟨rfl, fun _ j hj => p1 j (by omega)⟩
    · have k : vp_in v2 12 := vI (by omega)
      have ez : (v2 + 1).toInt = v2.toInt + 1 := iadd rfl (rfl : (1 : Int32).toInt = 1) (by omega) (by omega)
      have zb := hI.dpb v2.toNatClampNeg
      have za := hI.dpa v2.toNatClampNeg
      have go : ∀ t : Int32, (t.toInt ≠ 0 → rowN M (M.1 17 v2.toNatClampNeg)) → wpR (q_Judge_badRule_107 (q_Judge_badRule_10 n') M v2 t) (fun M' r => M = M' ∧ (r.toInt = -1 → GR M (M.1 14 0).toInt)) := by
        intro t ht
        unfold q_Judge_badRule_107
        refine wpR_eq (x := t.toInt) (y := 0) rfl rfl (fun c2 => ?_) (fun c2 => ?_)
        · exact wpR_ix k (wpR_some ⟨rfl, fun hc => by omega⟩)
        · exact ih (v2 + 1) (by omega) (by rw [ez]; exact p1.up p0.1 (ht c2)) (by omega)
      have stop : wpR (q_Judge_badRule_98 (q_Judge_badRule_10 n') M v2) (fun M' r => M = M' ∧ (r.toInt = -1 → GR M (M.1 14 0).toInt)) := by
        unfold q_Judge_badRule_98
        exact go 0 (fun h => absurd rfl h)
      refine wpR_ix k ?_
      refine wpR_ro (w_Draft_rowOf hI _) (fun r2 h2 => ?_)
      refine wpR_ro (w_Judge_isWritable hI r2 (by omega)) (fun r4 h4 => ?_)
      refine wpR_eq (x := r4.toInt) (y := 0) rfl rfl (fun c3 => ?_) (fun c3 => ?_)
      · exact wpR_ix k (wpR_some ⟨rfl, fun hc => by omega⟩)
      · refine wpR_ix k ?_
        refine wpR_ro (w_Draft_rowOf hI _) (fun r6 h6 => ?_)
        refine wpR_ix k ?_
        refine wpR_if (fun _ => ?_) (fun _ => ?_)
        · refine wpR_ro (w_Judge_isKnown hI r6 (by omega)) (fun r8 h8 => ?_)
          refine wpR_eq (x := r8.toInt) (y := 0) rfl rfl (fun c4 => stop) (fun c4 => ?_)
          have h0 := h8.2.2 c4
          refine wpR_ix k ?_
          refine wpR_ro (w_Draft_fits hI r6 _ (by omega)) (fun r10 h10 => ?_)
          refine wpR_eq (x := r10.toInt) (y := 0) rfl rfl (fun c5 => stop) (fun c5 => go 1 (fun _ => ⟨r6, h0, h6.1.2.1, h6.2 h0⟩))
        · refine wpR_ro (w_Judge_isWritable hI r6 (by omega)) (fun r8 h8 => ?_)
          exact go r8 (fun hc => ⟨r6, h8.2.2 hc, h6.1.2.1, h6.2 (h8.2.2 hc)⟩)
theorem w_Judge_badRule {G : Gx} {K : Int} {M : Mm} (hI : IX G K M) : wpR (q_Judge_badRule M) (fun M' r => M = M' ∧ (r.toInt = -1 → GR M (M.1 14 0).toInt)) := by
  unfold q_Judge_badRule
  exact w_Judge_badRule_10 hI 4000 0 (by decide) (fun j hj => absurd hj (show ¬ ((j : Int) < 0) by omega)) (by decide)
def frJ (M N : Mm) : Prop := ∀ p, p ≠ 23 → N.1 p = M.1 p
theorem frJ.rf (M : Mm) : frJ M M := fun _ _ => rfl
theorem frJ.st {A B C : Mm} {f : Nat → Int32} (h : frJ A B) (e : C = stI B 23 f) : frJ A C := fun p hp => by rw [e, stI_ne B _ hp]; exact h p hp
theorem GB.of {A B : Mm} {b : Int} (h : frJ A B) (g : GB B b) : GB A b := by
  intro j hj
  have e4 := h 4 (by decide)
  have e7 := h 7 (by decide)
  have e1 := h 1 (by decide)
  have := g j hj
  unfold rowN at this ⊢
  rw [e4, e7, e1] at this
  exact this
theorem GR.of {A B : Mm} {b : Int} (h : frJ A B) (g : GR B b) : GR A b := by
  intro j hj
  have e17 := h 17 (by decide)
  have e7 := h 7 (by decide)
  have e1 := h 1 (by decide)
  have := g j hj
  unfold rowN at this ⊢
  rw [e17, e7, e1] at this
  exact this
def dcQ (G : Gx) (K : Int) (A : Mm) (M' : Mm) : Prop := IX G K M' ∧ frJ A M' ∧ ((M'.1 23 1).toInt = 0 → GB A (A.1 1 0).toInt ∧ GR A (A.1 14 0).toInt)
theorem w_decide_86 {G : Gx} {K : Int} {A M : Mm} (hI : IX G K M) (hf : frJ A M) (hk : (M.1 23 1).toInt ≠ 0) (hp : (M.1 23 2).toInt = -1 → GB A (A.1 1 0).toInt ∧ GR A (A.1 14 0).toInt) : wpR (q_Judge_decide_86 M) (fun M' _ => dcQ G K A M') := by
  unfold q_Judge_decide_86
  refine wpR_eq (x := (M.1 23 2).toInt) (y := -1) rfl (by decide) (fun c => ?_) (fun c => ?_)
  · refine wpR_ltv (fun M1 e1 => wpR_ltv (fun M2 e2 => wpR_some ⟨?_, ?_, fun _ => hp c⟩))
    · rw [e2, e1]; exact (hI.s23_1 _).s23_2 _
    · exact (hf.st e1).st e2
  · exact wpR_some ⟨hI, hf, fun h => absurd h hk⟩
theorem w_decide_65 {G : Gx} {K : Int} {A M : Mm} (hI : IX G K M) (hf : frJ A M) (hk : (M.1 23 1).toInt ≠ 0) (hp : (M.1 23 2).toInt = -1 → GB A (A.1 1 0).toInt) : wpR (q_Judge_decide_65 M) (fun M' _ => dcQ G K A M') := by
  unfold q_Judge_decide_65
  refine wpR_eq (x := (M.1 23 2).toInt) (y := -1) rfl (by decide) (fun c => ?_) (fun c => ?_)
  · refine wpR_ltv (fun M1 e1 => ?_)
    have i1 : IX G K M1 := by rw [e1]; exact hI.s23_1 _
    have f1 : frJ A M1 := hf.st e1
    refine wpR_ro (w_Judge_badRule i1) (fun r3 h3 => ?_)
    refine wpR_ltv (fun M4 e4 => ?_)
    refine w_decide_86 (by rw [e4]; exact i1.s23_2 _) (f1.st e4) (by rw [e4, e1]; exact (by decide : (4 : Int32).toInt ≠ 0)) (fun h => ⟨hp c, ?_⟩)
    have h : r3.toInt = -1 := by rw [e4] at h; exact h
    have := h3 h
    rw [f1 14 (by decide)] at this
    exact GR.of f1 this
  · exact w_decide_86 hI hf hk (fun h => absurd h c)
theorem w_decide_49 {G : Gx} {K : Int} {A M : Mm} (hI : IX G K M) (hf : frJ A M) (hk : (M.1 23 1).toInt ≠ 0) (hp : (M.1 23 2).toInt = -1 → GB A (A.1 1 0).toInt) : wpR (q_Judge_decide_49 M) (fun M' _ => dcQ G K A M') := by
  unfold q_Judge_decide_49
  refine wpR_eq (x := (M.1 23 2).toInt) (y := -1) rfl (by decide) (fun c => ?_) (fun c => ?_)
  · refine wpR_ro (w_Judge_badOffset hI) (fun r2 _ => ?_)
    refine wpR_ltv (fun M3 e3 => ?_)
    exact w_decide_65 (by rw [e3]; exact hI.s23_2 _) (hf.st e3) (by rw [e3]; exact hk) (fun _ => hp c)
  · exact w_decide_65 hI hf hk (fun h => absurd h c)
theorem w_Judge_decide {G : Gx} {K : Int} {M : Mm} (hI : IX G K M) (a1 a2 : Int32) : wpR (q_Judge_decide M a1 a2) (fun M' _ => IX G K M' ∧ frJ M M' ∧ ((M'.1 23 1).toInt = 0 → a1.toInt ≠ 0 ∧ GB M (M.1 1 0).toInt ∧ GR M (M.1 14 0).toInt)) := by
  unfold q_Judge_decide
  refine wpR_eq (x := a1.toInt) (y := 0) rfl rfl (fun c => ?_) (fun c => ?_)
  · refine wpR_ltv (fun M1 e1 => wpR_ltv (fun M2 e2 => wpR_some ⟨?_, ?_, fun h => ?_⟩))
    · rw [e2, e1]; exact (hI.s23_1 _).s23_2 _
    · exact ((frJ.rf M).st e1).st e2
    · rw [e2, e1] at h
      exact absurd h (by decide : ¬ (1 : Int32).toInt = 0)
  · have fin : ∀ M' : Mm, dcQ G K M M' → IX G K M' ∧ frJ M M' ∧ ((M'.1 23 1).toInt = 0 → a1.toInt ≠ 0 ∧ GB M (M.1 1 0).toInt ∧ GR M (M.1 14 0).toInt) := fun M' h => ⟨h.1, h.2.1, fun z => ⟨c, h.2.2 z⟩⟩
    refine wpR_ltv (fun M1 e1 => ?_)
    have i1 : IX G K M1 := by rw [e1]; exact hI.s23_1 _
    have f1 : frJ M M1 := (frJ.rf M).st e1
    refine wpR_ro (w_Judge_badField i1) (fun r3 _ => ?_)
    refine wpR_ltv (fun M4 e4 => ?_)
    have i4 : IX G K M4 := by rw [e4]; exact i1.s23_2 _
    have f4 : frJ M M4 := f1.st e4
    refine wpR_eq (x := (M4.1 23 2).toInt) (y := -1) rfl (by decide) (fun c2 => ?_) (fun c2 => ?_)
    · refine wpR_ltv (fun M5 e5 => ?_)
      have i5 : IX G K M5 := by rw [e5]; exact i4.s23_1 _
      have f5 : frJ M M5 := f4.st e5
      refine wpR_ro (w_Judge_badBank i5) (fun r7 h7 => ?_)
      refine wpR_ltv (fun M8 e8 => ?_)
      refine wpR_mono (w_decide_49 (A := M) (by rw [e8]; exact i5.s23_2 _) (f5.st e8) (by rw [e8, e5]; exact (by decide : (3 : Int32).toInt ≠ 0)) (fun h => ?_)) (fun M' _ h => fin M' h)
      have h : r7.toInt = -1 := by rw [e8] at h; exact h
      have := h7 h
      rw [f5 1 (by decide)] at this
      exact GB.of f5 this
    · exact wpR_mono (w_decide_49 (A := M) i4 f4 (by rw [e4, e1]; exact (by decide : (2 : Int32).toInt ≠ 0)) (fun h => absurd h c2)) (fun M' _ h => fin M' h)
theorem cpy0 {f g : Nat → Int32} {n : Int32} {j : Nat} (hj : j < n.toNatClampNeg) : va_cpy f g (0 : Int32).toNatClampNeg (0 : Int32).toNatClampNeg n.toNatClampNeg j = f j := by
  have e0 : (0 : Int32).toNatClampNeg = 0 := rfl
  unfold va_cpy
  rw [e0, if_pos (by omega)]
  simp
theorem w0_isKnown {M : Mm} (a1 : Int32) (p0 : 0 ≤ a1.toInt ∧ a1.toInt ≤ 25) : wpR (q_Layout_isKnown M a1) (fun M' _ => M = M' ∧ True) := by
  unfold q_Layout_isKnown
  have k : vp_in a1 26 := vI (by omega)
  refine wpR_ix k (wpR_if (fun _ => wpR_some ⟨rfl, trivial⟩) (fun _ => wpR_ix k (wpR_if (fun _ => wpR_some ⟨rfl, trivial⟩) (fun _ => wpR_some ⟨rfl, trivial⟩))))
def frL (M N : Mm) : Prop := ∀ p, p < 28 ∨ 43 ≤ p → N.1 p = M.1 p
theorem frL.rf (M : Mm) : frL M M := fun _ _ => rfl
theorem frL.tr {A B C : Mm} (h : frL A B) (g : frL B C) : frL A C := fun p hp => (g p hp).trans (h p hp)
theorem frL.st {A B C : Mm} {k : Nat} {f : Nat → Int32} (h : frL A B) (e : C = stI B k f) (hk : 28 ≤ k ∧ k < 43) : frL A C := fun p hp => by rw [e, stI_ne B _ (by omega)]; exact h p hp
theorem st_o {B C : Mm} {k j : Nat} {f : Nat → Int32} (e : C = stI B k f) (hk : j ≠ k) : C.1 j = B.1 j := by rw [e, stI_ne B _ hk]
theorem w_Layout_addField {M : Mm} (a2 : Int32) (h2 : 0 ≤ a2.toInt ∧ a2.toInt ≤ 127) (hn : 0 ≤ (M.1 7 a2.toNatClampNeg).toInt ∧ (M.1 7 a2.toNatClampNeg).toInt ≤ 25) (hh : 0 ≤ (M.1 9 a2.toNatClampNeg).toInt ∧ (M.1 9 a2.toNatClampNeg).toInt ≤ 15) (ha : 0 ≤ (M.1 10 a2.toNatClampNeg).toInt ∧ (M.1 10 a2.toNatClampNeg).toInt ≤ 6) : wpR (q_Layout_addField M a2) (fun M' _ => frL M M' ∧ M'.1 38 = upd (M.1 38) (M.1 7 a2.toNatClampNeg).toNatClampNeg (M.1 9 a2.toNatClampNeg)) := by
  unfold q_Layout_addField
  have k2 : vp_in a2 128 := vI (by omega)
  have k7 : vp_in (M.1 7 a2.toNatClampNeg) 26 := vI (by omega)
  have k9 : vp_in (M.1 9 a2.toNatClampNeg) 16 := vI (by omega)
  refine wpR_ix k2 (wpR_lt (wpR_ix k2 (wpR_lt (wpR_ix k7 (wpR_ltv (fun M3 e3 => ?_))))))
  have f3 : frL M M3 := (frL.rf M).st e3 (by omega)
  have g3 : M3.1 38 = upd (M.1 38) (M.1 7 a2.toNatClampNeg).toNatClampNeg (M.1 9 a2.toNatClampNeg) := by rw [e3, stI_at]
  refine wpR_ix k2 (wpR_ix k7 (wpR_ltv (fun M4 e4 => ?_)))
  have f4 : frL M M4 := f3.st e4 (by omega)
  have g4 := (st_o (j := 38) e4 (by decide)).trans g3
  have a4 : M4.1 39 (M.1 7 a2.toNatClampNeg).toNatClampNeg = M.1 10 a2.toNatClampNeg := by rw [e4, stI_at, updS, f3 10 (by omega)]
  refine wpR_ix k2 (wpR_ix k7 (wpR_ltv (fun M5 e5 => ?_)))
  have f5 : frL M M5 := f4.st e5 (by omega)
  have g5 := (st_o (j := 38) e5 (by decide)).trans g4
  have a5 : M5.1 39 (M.1 7 a2.toNatClampNeg).toNatClampNeg = M.1 10 a2.toNatClampNeg := by rw [st_o (j := 39) e5 (by decide)]; exact a4
  refine wpR_ix k2 (wpR_ix k2 (wpR_ix k7 (wpR_ltv (fun M6 e6 => ?_))))
  have f6 : frL M M6 := f5.st e6 (by omega)
  have g6 := (st_o (j := 38) e6 (by decide)).trans g5
  have a6 : M6.1 39 (M.1 7 a2.toNatClampNeg).toNatClampNeg = M.1 10 a2.toNatClampNeg := by rw [st_o (j := 39) e6 (by decide)]; exact a5
  refine wpR_ix k7 (wpR_ix k7 (wpR_ix k7 (wpR_ltv (fun M7 e7 => ?_))))
  have f7 : frL M M7 := f6.st e7 (by omega)
  have g7 := (st_o (j := 38) e7 (by decide)).trans g6
  have a7 : M7.1 39 (M.1 7 a2.toNatClampNeg).toNatClampNeg = M.1 10 a2.toNatClampNeg := by rw [st_o (j := 39) e7 (by decide)]; exact a6
  refine wpR_ix k9 (wpR_ix k2 (wpR_ix k7 (wpR_ix k9 (wpR_ltv (fun M8 e8 => ?_)))))
  have f8 : frL M M8 := f7.st e8 (by omega)
  have g8 := (st_o (j := 38) e8 (by decide)).trans g7
  have a8 : M8.1 39 (M.1 7 a2.toNatClampNeg).toNatClampNeg = M.1 10 a2.toNatClampNeg := by rw [st_o (j := 39) e8 (by decide)]; exact a7
  have ka : vp_in (M8.1 39 (M.1 7 a2.toNatClampNeg).toNatClampNeg) 7 := by rw [a8]; exact vI (by omega)
  have kt : (M8.1 39 (M.1 7 a2.toNatClampNeg).toNatClampNeg).toNatClampNeg < 7 := by
    rw [a8]
    have := tnc (i := M.1 10 a2.toNatClampNeg) ha.1
    omega
  refine wpR_ix k7 (wpR_ix ka (wpR_ix k9 (wpR_ix k7 (wpR_ix k9 (wpR_ltv (fun M9 e9 => ?_))))))
  have f9 : frL M M9 := f8.st e9 (by omega)
  have g9 := (st_o (j := 38) e9 (by omega)).trans g8
  refine wpR_ro (w0_isKnown _ (by omega)) (fun r11 _ => ?_)
  refine wpR_if (fun _ => wpR_some ⟨f9, g9⟩) (fun _ => ?_)
  refine wpR_ix k9 (wpR_ix k7 (wpR_ix k9 (wpR_ltv (fun M12 e12 => wpR_some ⟨f9.st e12 (by omega), (st_o (j := 38) e12 (by decide)).trans g9⟩))))
def Dr (A : Mm) : Prop := (0 ≤ (A.1 1 6).toInt ∧ (A.1 1 6).toInt ≤ 128) ∧ (0 ≤ (A.1 1 0).toInt ∧ (A.1 1 0).toInt ≤ 16) ∧ (∀ j : Nat, (j : Int) < (A.1 1 6).toInt → 0 ≤ (A.1 7 j).toInt ∧ (A.1 7 j).toInt ≤ 25) ∧ (∀ j : Nat, (j : Int) < (A.1 1 6).toInt → 0 ≤ (A.1 10 j).toInt ∧ (A.1 10 j).toInt ≤ 6) ∧ (∀ j : Nat, (j : Int) < (A.1 1 6).toInt → 0 ≤ (A.1 9 j).toInt ∧ (A.1 9 j).toInt < (A.1 1 0).toInt)
theorem Dr.rows {A : Mm} (h : Dr A) : 0 ≤ (A.1 1 6).toInt ∧ (A.1 1 6).toInt ≤ 128 := h.1
theorem Dr.regs {A : Mm} (h : Dr A) : 0 ≤ (A.1 1 0).toInt ∧ (A.1 1 0).toInt ≤ 16 := h.2.1
theorem Dr.nm {A : Mm} (h : Dr A) : ∀ j : Nat, (j : Int) < (A.1 1 6).toInt → 0 ≤ (A.1 7 j).toInt ∧ (A.1 7 j).toInt ≤ 25 := h.2.2.1
theorem Dr.ac {A : Mm} (h : Dr A) : ∀ j : Nat, (j : Int) < (A.1 1 6).toInt → 0 ≤ (A.1 10 j).toInt ∧ (A.1 10 j).toInt ≤ 6 := h.2.2.2.1
theorem Dr.ho {A : Mm} (h : Dr A) : ∀ j : Nat, (j : Int) < (A.1 1 6).toInt → 0 ≤ (A.1 9 j).toInt ∧ (A.1 9 j).toInt < (A.1 1 0).toInt := h.2.2.2.2
theorem w_follow_117 {A : Mm} (hA : Dr A) : ∀ (n' : Nat) (M : Mm) (v2 : Int32), (0 ≤ v2.toInt ∧ v2.toInt ≤ 128) → frL A M → (∀ j, -1 ≤ (M.1 38 j).toInt ∧ (M.1 38 j).toInt < (A.1 1 0).toInt) → (∀ w : Nat, (w : Int) < v2.toInt → (w : Int) < (A.1 1 6).toInt → 0 ≤ (M.1 38 (A.1 7 w).toNatClampNeg).toInt) → 128 - v2.toInt < (n' : Int) → wpR (q_Layout_follow_117 n' M v2) (fun M' _ => frL A M' ∧ (∀ j, -1 ≤ (M'.1 38 j).toInt ∧ (M'.1 38 j).toInt < (A.1 1 0).toInt) ∧ (∀ w : Nat, (w : Int) < (A.1 1 6).toInt → 0 ≤ (M'.1 38 (A.1 7 w).toNatClampNeg).toInt)) := by
  intro n'
  induction n' with
  | zero =>
    intro M v2 p0 hf hr hw hn
    exfalso; omega
  | succ n' ih =>
    intro M v2 p0 hf hr hw hn
    rw [q_Layout_follow_117]
    have z1 := hA.rows
    have e1 : M.1 1 = A.1 1 := hf 1 (by omega)
    have e7 : M.1 7 = A.1 7 := hf 7 (by omega)
    have e9 : M.1 9 = A.1 9 := hf 9 (by omega)
    have e10 : M.1 10 = A.1 10 := hf 10 (by omega)
    refine wpR_le (x := (A.1 1 6).toInt) (y := v2.toInt) (by rw [e1]) rfl (fun c => ?_) (fun c => ?_)
    · exact wpR_some ⟨hf, hr, fun w h => hw w (by omega) h⟩
    · have t := tnc p0.1
      have ez : (v2 + 1).toInt = v2.toInt + 1 := iadd rfl (rfl : (1 : Int32).toInt = 1) (by omega) (by omega)
      have n1 := hA.nm v2.toNatClampNeg (by omega)
      have n2 := hA.ac v2.toNatClampNeg (by omega)
      have n3 := hA.ho v2.toNatClampNeg (by omega)
      have n4 := hA.regs
      refine wpR_cl (w_Layout_addField v2 (by omega) (by rw [e7]; exact n1) (by rw [e9]; omega) (by rw [e10]; exact n2)) (fun M1 r h => ?_)
      obtain ⟨f1, g1⟩ := h
      rw [e7, e9] at g1
      refine ih M1 (v2 + 1) (by omega) (hf.tr f1) (fun j => ?_) (fun w h1 h2 => ?_) (by omega)
      · rw [g1]
        exact updR (P := fun z => -1 ≤ z.toInt ∧ z.toInt < (A.1 1 0).toInt) hr (by omega) j
      · rw [g1]
        by_cases hc : (A.1 7 w).toNatClampNeg = (A.1 7 v2.toNatClampNeg).toNatClampNeg
        · rw [hc, updS]; exact n3.1
        · rw [updN hc]
          refine hw w ?_ h2
          rcases Int.lt_or_eq_of_le (show (w : Int) ≤ v2.toInt by omega) with h3 | h3
          · exact h3
          · exfalso
            apply hc
            have : w = v2.toNatClampNeg := by omega
            rw [this]
theorem w_follow_82 {A : Mm} (hA : Dr A) : ∀ (n' : Nat) (M : Mm) (v2 : Int32), (0 ≤ v2.toInt ∧ v2.toInt ≤ 7) → frL A M → 7 - v2.toInt < (n' : Int) → wpR (q_Layout_follow_82 n' M v2) (fun M' _ => frL A M' ∧ (∀ j, -1 ≤ (M'.1 38 j).toInt ∧ (M'.1 38 j).toInt < (A.1 1 0).toInt) ∧ (∀ w : Nat, (w : Int) < (A.1 1 6).toInt → 0 ≤ (M'.1 38 (A.1 7 w).toNatClampNeg).toInt)) := by
  intro n'
  induction n' with
  | zero =>
    intro M v2 p0 hf hn
    exfalso; omega
  | succ n' ih =>
    intro M v2 p0 hf hn
    rw [q_Layout_follow_82]
    have z := hA.regs
    refine wpR_le (x := 7) (y := v2.toInt) rfl rfl (fun c => ?_) (fun c => ?_)
    · refine wpR_ltv (fun M1 e1 => ?_)
      refine w_follow_117 hA 4000 M1 0 (by decide) (hf.st e1 (by omega)) (fun j => ?_) (fun w h _ => absurd h (show ¬ ((w : Int) < 0) by omega)) (by decide)
      rw [e1, stI_at]
      have : (-1 : Int32).toInt = -1 := by decide
      omega
    · have t := tnc p0.1
      have ez : (v2 + 1).toInt = v2.toInt + 1 := iadd rfl (rfl : (1 : Int32).toInt = 1) (by omega) (by omega)
      refine wpR_ix (vI (by omega)) (wpR_ltv (fun M1 e1 => ?_))
      exact ih M1 (v2 + 1) (by omega) (hf.st e1 (by omega)) (by omega)
theorem w_Rules_copy {M : Mm} : wpR (q_Rules_copy M) (fun M' _ => (∀ p, p < 43 ∨ 48 ≤ p → M'.1 p = M.1 p) ∧ M'.1 43 0 = M.1 14 0 ∧ (∀ j, j < 12 → M'.1 45 j = M.1 16 j ∧ M'.1 46 j = M.1 17 j)) := by
  unfold q_Rules_copy
  refine wpR_ltv (fun M1 e1 => wpR_cpk (by unfold cp_ok; decide) (wpR_ltv (fun M2 e2 => wpR_cpk (by unfold cp_ok; decide) (wpR_ltv (fun M3 e3 => wpR_cpk (by unfold cp_ok; decide) (wpR_ltv (fun M4 e4 => wpR_cpk (by unfold cp_ok; decide) (wpR_ltv (fun M5 e5 => wpR_some ⟨fun p hp => ?_, ?_, fun j hj => ⟨?_, ?_⟩⟩)))))))))
  · rw [st_o e5 (by omega), st_o e4 (by omega), st_o e3 (by omega), st_o e2 (by omega), st_o e1 (by omega)]
  · rw [st_o e5 (by omega), st_o e4 (by omega), st_o e3 (by omega), st_o e2 (by omega), e1, stI_at, updS]
  · rw [st_o e5 (by omega), st_o e4 (by omega), e3, stI_at, cpy0 hj, st_o e2 (by omega), st_o e1 (by omega)]
  · rw [st_o e5 (by omega), e4, stI_at, cpy0 hj, st_o e3 (by omega), st_o e2 (by omega), st_o e1 (by omega)]
theorem w_Layout_follow {A : Mm} (hA : Dr A) : wpR (q_Layout_follow A) (fun M' _ => (∀ p, p < 24 ∨ 48 ≤ p → M'.1 p = A.1 p) ∧ M'.1 24 0 = A.1 1 0 ∧ (∀ j, j < 16 → M'.1 26 j = A.1 4 j) ∧ M'.1 43 0 = A.1 14 0 ∧ (∀ j, j < 12 → M'.1 45 j = A.1 16 j ∧ M'.1 46 j = A.1 17 j) ∧ (∀ j, -1 ≤ (M'.1 38 j).toInt ∧ (M'.1 38 j).toInt < (A.1 1 0).toInt) ∧ (∀ w : Nat, (w : Int) < (A.1 1 6).toInt → 0 ≤ (M'.1 38 (A.1 7 w).toNatClampNeg).toInt)) := by
  unfold q_Layout_follow
  refine wpR_ltv (fun M1 e1 => wpR_cpk (by unfold cp_ok; decide) (wpR_ltv (fun M2 e2 => wpR_cpk (by unfold cp_ok; decide) (wpR_ltv (fun M3 e3 => wpR_cpk (by unfold cp_ok; decide) (wpR_ltv (fun M4 e4 => ?_)))))))
  refine wpR_cl w_Rules_copy (fun M5 r6 h5 => ?_)
  obtain ⟨f5, g5, q5⟩ := h5
  refine wpR_ltv (fun M7 e7 => wpR_ltv (fun M8 e8 => ?_))
  have o4 : ∀ p, p < 24 ∨ 28 ≤ p → M4.1 p = A.1 p := fun p hp => by rw [st_o e4 (by omega), st_o e3 (by omega), st_o e2 (by omega), st_o e1 (by omega)]
  have o8 : ∀ p, p < 24 ∨ 48 ≤ p → M8.1 p = A.1 p := fun p hp => by rw [st_o e8 (by omega), st_o e7 (by omega), f5 p (by omega), o4 p (by omega)]
  have hB : Dr M8 := by
    have x1 := o8 1 (by omega)
    have x7 := o8 7 (by omega)
    have x9 := o8 9 (by omega)
    have x10 := o8 10 (by omega)
    refine ⟨?_, ?_, ?_, ?_, ?_⟩
    · rw [x1]; exact hA.rows
    · rw [x1]; exact hA.regs
    · rw [x1, x7]; exact hA.nm
    · rw [x1, x10]; exact hA.ac
    · rw [x1, x9]; exact hA.ho
  refine wpR_mono (w_follow_82 hB 4000 M8 0 (by decide) (frL.rf M8) (by decide)) (fun M' r h => ?_)
  obtain ⟨f, h1, h2⟩ := h
  rw [o8 1 (by omega)] at h1 h2
  rw [o8 7 (by omega)] at h2
  refine ⟨fun p hp => ?_, ?_, fun j hj => ?_, ?_, fun j hj => ?_, h1, h2⟩
  · rw [f p (by omega)]; exact o8 p hp
  · rw [f 24 (by omega), st_o e8 (by omega), st_o e7 (by omega), f5 24 (by omega), st_o e4 (by omega), st_o e3 (by omega), st_o e2 (by omega), e1, stI_at, updS]
  · rw [f 26 (by omega), st_o e8 (by omega), st_o e7 (by omega), f5 26 (by omega), st_o e4 (by omega), e3, stI_at, cpy0 hj, st_o e2 (by omega), st_o e1 (by omega)]
  · rw [f 43 (by omega), st_o e8 (by omega), st_o e7 (by omega), g5, o4 14 (by omega)]
  · have q := q5 j hj
    rw [o4 16 (by omega), o4 17 (by omega)] at q
    rw [f 45 (by omega), st_o e8 (by omega), st_o e7 (by omega), f 46 (by omega), st_o e8 (by omega), st_o e7 (by omega)]
    exact q
def IW (G : Gx) (K : Int) (M : Mm) : Prop := (M.1 38 = G.hm) ∧ (∀ j, -1 ≤ (G.hm j).toInt ∧ (G.hm j).toInt < G.rg) ∧ ((M.1 24 0).toInt = G.rg) ∧ (0 ≤ G.rg ∧ G.rg ≤ 16) ∧ (M.1 21 2 = G.L) ∧ (0 ≤ G.L.toInt ∧ G.L.toInt ≤ 480) ∧ (0 ≤ (M.1 21 3).toInt ∧ (M.1 21 3).toInt ≤ 480) ∧ (∀ j, ((M.1 22 j).toUInt32 % 65536).toInt32 = M.1 22 j) ∧ (0 ≤ (M.1 1 0).toInt ∧ (M.1 1 0).toInt ≤ 16) ∧ (0 ≤ (M.1 1 6).toInt ∧ (M.1 1 6).toInt ≤ 128) ∧ (∀ j, -1 ≤ (M.1 4 j).toInt ∧ (M.1 4 j).toInt ≤ 25) ∧ (∀ j, 0 ≤ (M.1 5 j).toInt) ∧ (∀ j, -1 ≤ (M.1 7 j).toInt ∧ (M.1 7 j).toInt ≤ 25) ∧ (∀ j, 0 ≤ (M.1 9 j).toInt ∧ (M.1 9 j).toInt ≤ 15) ∧ (∀ j, -1 ≤ (M.1 10 j).toInt ∧ (M.1 10 j).toInt ≤ 6) ∧ (0 ≤ (M.1 14 0).toInt ∧ (M.1 14 0).toInt ≤ 12) ∧ (∀ j, -1 ≤ (M.1 16 j).toInt ∧ (M.1 16 j).toInt ≤ 25) ∧ (∀ j, -1 ≤ (M.1 17 j).toInt ∧ (M.1 17 j).toInt ≤ 25) ∧ (∀ j : Nat, (j : Int) < (M.1 1 6).toInt → 0 ≤ (M.1 7 j).toInt) ∧ (∀ j : Nat, (j : Int) < (M.1 1 6).toInt → 0 ≤ (M.1 10 j).toInt) ∧ (∀ j : Nat, (j : Int) < (M.1 1 6).toInt → (M.1 9 j).toInt ≤ (M.1 1 0).toInt) ∧ (∀ j : Nat, (j : Int) < (M.1 14 0).toInt → 0 ≤ (M.1 16 j).toInt) ∧ (∀ j : Nat, (j : Int) < (M.1 14 0).toInt → 0 ≤ (M.1 17 j).toInt) ∧ (∀ j, 0 ≤ (M.1 19 j).toInt) ∧ (∀ j, 0 ≤ (M.1 20 j).toInt) ∧ (∀ j : Nat, (j : Int) < G.rg → (M.1 26 j).toInt = -1 ∨ HasF G.hm (M.1 26 j)) ∧ (0 ≤ (M.1 43 0).toInt ∧ (M.1 43 0).toInt ≤ 12) ∧ (∀ j : Nat, (j : Int) < (M.1 43 0).toInt → 0 ≤ (M.1 45 j).toInt ∧ (M.1 45 j).toInt ≤ 25) ∧ (∀ j : Nat, (j : Int) < (M.1 43 0).toInt → HasF G.hm (M.1 46 j)) ∧ (0 ≤ (M.1 53 0).toInt ∧ (M.1 53 0).toInt ≤ K) ∧ (0 ≤ (M.1 60 2).toInt ∧ (M.1 60 2).toInt ≤ 16) ∧ (∀ j, 0 ≤ (M.1 63 j).toInt ∧ (M.1 63 j).toInt ≤ 15) ∧ (0 ≤ (M.1 65 0).toInt ∧ (M.1 65 0).toInt ≤ 8) ∧ (0 ≤ (M.1 69 0).toInt ∧ (M.1 69 0).toInt ≤ 40) ∧ (M.1 70 = G.sk) ∧ (M.1 71 = G.sf) ∧ (M.1 72 = G.sv) ∧ (0 ≤ (M.1 73 6).toInt ∧ (M.1 73 6).toInt ≤ 1000) ∧ (∀ j, 0 ≤ (M.1 76 j).toInt ∧ (M.1 76 j).toInt ≤ 1000)
theorem IW.hmE {G : Gx} {K : Int} {M : Mm} (h : IW G K M) : M.1 38 = G.hm := h.1
theorem IW.hmR {G : Gx} {K : Int} {M : Mm} (h : IW G K M) : ∀ j, -1 ≤ (G.hm j).toInt ∧ (G.hm j).toInt < G.rg := h.2.1
theorem IW.rgE {G : Gx} {K : Int} {M : Mm} (h : IW G K M) : (M.1 24 0).toInt = G.rg := h.2.2.1
theorem IW.rgR {G : Gx} {K : Int} {M : Mm} (h : IW G K M) : 0 ≤ G.rg ∧ G.rg ≤ 16 := h.2.2.2.1
theorem IW.LE {G : Gx} {K : Int} {M : Mm} (h : IW G K M) : M.1 21 2 = G.L := h.2.2.2.2.1
theorem IW.LR {G : Gx} {K : Int} {M : Mm} (h : IW G K M) : 0 ≤ G.L.toInt ∧ G.L.toInt ≤ 480 := h.2.2.2.2.2.1
theorem IW.atR {G : Gx} {K : Int} {M : Mm} (h : IW G K M) : 0 ≤ (M.1 21 3).toInt ∧ (M.1 21 3).toInt ≤ 480 := h.2.2.2.2.2.2.1
theorem IW.tapeC {G : Gx} {K : Int} {M : Mm} (h : IW G K M) : ∀ j, ((M.1 22 j).toUInt32 % 65536).toInt32 = M.1 22 j := h.2.2.2.2.2.2.2.1
theorem IW.dreg {G : Gx} {K : Int} {M : Mm} (h : IW G K M) : 0 ≤ (M.1 1 0).toInt ∧ (M.1 1 0).toInt ≤ 16 := h.2.2.2.2.2.2.2.2.1
theorem IW.dfl {G : Gx} {K : Int} {M : Mm} (h : IW G K M) : 0 ≤ (M.1 1 6).toInt ∧ (M.1 1 6).toInt ≤ 128 := h.2.2.2.2.2.2.2.2.2.1
theorem IW.dbank {G : Gx} {K : Int} {M : Mm} (h : IW G K M) : ∀ j, -1 ≤ (M.1 4 j).toInt ∧ (M.1 4 j).toInt ≤ 25 := h.2.2.2.2.2.2.2.2.2.2.1
theorem IW.dbp {G : Gx} {K : Int} {M : Mm} (h : IW G K M) : ∀ j, 0 ≤ (M.1 5 j).toInt := h.2.2.2.2.2.2.2.2.2.2.2.1
theorem IW.dname {G : Gx} {K : Int} {M : Mm} (h : IW G K M) : ∀ j, -1 ≤ (M.1 7 j).toInt ∧ (M.1 7 j).toInt ≤ 25 := h.2.2.2.2.2.2.2.2.2.2.2.2.1
theorem IW.dhome {G : Gx} {K : Int} {M : Mm} (h : IW G K M) : ∀ j, 0 ≤ (M.1 9 j).toInt ∧ (M.1 9 j).toInt ≤ 15 := h.2.2.2.2.2.2.2.2.2.2.2.2.2.1
theorem IW.dacc {G : Gx} {K : Int} {M : Mm} (h : IW G K M) : ∀ j, -1 ≤ (M.1 10 j).toInt ∧ (M.1 10 j).toInt ≤ 6 := h.2.2.2.2.2.2.2.2.2.2.2.2.2.2.1
theorem IW.drc {G : Gx} {K : Int} {M : Mm} (h : IW G K M) : 0 ≤ (M.1 14 0).toInt ∧ (M.1 14 0).toInt ≤ 12 := h.2.2.2.2.2.2.2.2.2.2.2.2.2.2.2.1
theorem IW.da {G : Gx} {K : Int} {M : Mm} (h : IW G K M) : ∀ j, -1 ≤ (M.1 16 j).toInt ∧ (M.1 16 j).toInt ≤ 25 := h.2.2.2.2.2.2.2.2.2.2.2.2.2.2.2.2.1
theorem IW.db {G : Gx} {K : Int} {M : Mm} (h : IW G K M) : ∀ j, -1 ≤ (M.1 17 j).toInt ∧ (M.1 17 j).toInt ≤ 25 := h.2.2.2.2.2.2.2.2.2.2.2.2.2.2.2.2.2.1
theorem IW.dnm {G : Gx} {K : Int} {M : Mm} (h : IW G K M) : ∀ j : Nat, (j : Int) < (M.1 1 6).toInt → 0 ≤ (M.1 7 j).toInt := h.2.2.2.2.2.2.2.2.2.2.2.2.2.2.2.2.2.2.1
theorem IW.dac {G : Gx} {K : Int} {M : Mm} (h : IW G K M) : ∀ j : Nat, (j : Int) < (M.1 1 6).toInt → 0 ≤ (M.1 10 j).toInt := h.2.2.2.2.2.2.2.2.2.2.2.2.2.2.2.2.2.2.2.1
theorem IW.dhr {G : Gx} {K : Int} {M : Mm} (h : IW G K M) : ∀ j : Nat, (j : Int) < (M.1 1 6).toInt → (M.1 9 j).toInt ≤ (M.1 1 0).toInt := h.2.2.2.2.2.2.2.2.2.2.2.2.2.2.2.2.2.2.2.2.1
theorem IW.dqa {G : Gx} {K : Int} {M : Mm} (h : IW G K M) : ∀ j : Nat, (j : Int) < (M.1 14 0).toInt → 0 ≤ (M.1 16 j).toInt := h.2.2.2.2.2.2.2.2.2.2.2.2.2.2.2.2.2.2.2.2.2.1
theorem IW.dqb {G : Gx} {K : Int} {M : Mm} (h : IW G K M) : ∀ j : Nat, (j : Int) < (M.1 14 0).toInt → 0 ≤ (M.1 17 j).toInt := h.2.2.2.2.2.2.2.2.2.2.2.2.2.2.2.2.2.2.2.2.2.2.1
theorem IW.dpa {G : Gx} {K : Int} {M : Mm} (h : IW G K M) : ∀ j, 0 ≤ (M.1 19 j).toInt := h.2.2.2.2.2.2.2.2.2.2.2.2.2.2.2.2.2.2.2.2.2.2.2.1
theorem IW.dpb {G : Gx} {K : Int} {M : Mm} (h : IW G K M) : ∀ j, 0 ≤ (M.1 20 j).toInt := h.2.2.2.2.2.2.2.2.2.2.2.2.2.2.2.2.2.2.2.2.2.2.2.2.1
theorem IW.bank {G : Gx} {K : Int} {M : Mm} (h : IW G K M) : ∀ j : Nat, (j : Int) < G.rg → (M.1 26 j).toInt = -1 ∨ HasF G.hm (M.1 26 j) := h.2.2.2.2.2.2.2.2.2.2.2.2.2.2.2.2.2.2.2.2.2.2.2.2.2.1
theorem IW.rc {G : Gx} {K : Int} {M : Mm} (h : IW G K M) : 0 ≤ (M.1 43 0).toInt ∧ (M.1 43 0).toInt ≤ 12 := h.2.2.2.2.2.2.2.2.2.2.2.2.2.2.2.2.2.2.2.2.2.2.2.2.2.2.1
theorem IW.ra {G : Gx} {K : Int} {M : Mm} (h : IW G K M) : ∀ j : Nat, (j : Int) < (M.1 43 0).toInt → 0 ≤ (M.1 45 j).toInt ∧ (M.1 45 j).toInt ≤ 25 := h.2.2.2.2.2.2.2.2.2.2.2.2.2.2.2.2.2.2.2.2.2.2.2.2.2.2.2.1
theorem IW.rb {G : Gx} {K : Int} {M : Mm} (h : IW G K M) : ∀ j : Nat, (j : Int) < (M.1 43 0).toInt → HasF G.hm (M.1 46 j) := h.2.2.2.2.2.2.2.2.2.2.2.2.2.2.2.2.2.2.2.2.2.2.2.2.2.2.2.2.1
theorem IW.log {G : Gx} {K : Int} {M : Mm} (h : IW G K M) : 0 ≤ (M.1 53 0).toInt ∧ (M.1 53 0).toInt ≤ K := h.2.2.2.2.2.2.2.2.2.2.2.2.2.2.2.2.2.2.2.2.2.2.2.2.2.2.2.2.2.1
theorem IW.wr {G : Gx} {K : Int} {M : Mm} (h : IW G K M) : 0 ≤ (M.1 60 2).toInt ∧ (M.1 60 2).toInt ≤ 16 := h.2.2.2.2.2.2.2.2.2.2.2.2.2.2.2.2.2.2.2.2.2.2.2.2.2.2.2.2.2.2.1
theorem IW.wreg {G : Gx} {K : Int} {M : Mm} (h : IW G K M) : ∀ j, 0 ≤ (M.1 63 j).toInt ∧ (M.1 63 j).toInt ≤ 15 := h.2.2.2.2.2.2.2.2.2.2.2.2.2.2.2.2.2.2.2.2.2.2.2.2.2.2.2.2.2.2.2.1
theorem IW.jc {G : Gx} {K : Int} {M : Mm} (h : IW G K M) : 0 ≤ (M.1 65 0).toInt ∧ (M.1 65 0).toInt ≤ 8 := h.2.2.2.2.2.2.2.2.2.2.2.2.2.2.2.2.2.2.2.2.2.2.2.2.2.2.2.2.2.2.2.2.1
theorem IW.sc {G : Gx} {K : Int} {M : Mm} (h : IW G K M) : 0 ≤ (M.1 69 0).toInt ∧ (M.1 69 0).toInt ≤ 40 := h.2.2.2.2.2.2.2.2.2.2.2.2.2.2.2.2.2.2.2.2.2.2.2.2.2.2.2.2.2.2.2.2.2.1
theorem IW.skE {G : Gx} {K : Int} {M : Mm} (h : IW G K M) : M.1 70 = G.sk := h.2.2.2.2.2.2.2.2.2.2.2.2.2.2.2.2.2.2.2.2.2.2.2.2.2.2.2.2.2.2.2.2.2.2.1
theorem IW.sfE {G : Gx} {K : Int} {M : Mm} (h : IW G K M) : M.1 71 = G.sf := h.2.2.2.2.2.2.2.2.2.2.2.2.2.2.2.2.2.2.2.2.2.2.2.2.2.2.2.2.2.2.2.2.2.2.2.1
theorem IW.svE {G : Gx} {K : Int} {M : Mm} (h : IW G K M) : M.1 72 = G.sv := h.2.2.2.2.2.2.2.2.2.2.2.2.2.2.2.2.2.2.2.2.2.2.2.2.2.2.2.2.2.2.2.2.2.2.2.2.1
theorem IW.cc {G : Gx} {K : Int} {M : Mm} (h : IW G K M) : 0 ≤ (M.1 73 6).toInt ∧ (M.1 73 6).toInt ≤ 1000 := h.2.2.2.2.2.2.2.2.2.2.2.2.2.2.2.2.2.2.2.2.2.2.2.2.2.2.2.2.2.2.2.2.2.2.2.2.2.1
theorem IW.cs {G : Gx} {K : Int} {M : Mm} (h : IW G K M) : ∀ j, 0 ≤ (M.1 76 j).toInt ∧ (M.1 76 j).toInt ≤ 1000 := h.2.2.2.2.2.2.2.2.2.2.2.2.2.2.2.2.2.2.2.2.2.2.2.2.2.2.2.2.2.2.2.2.2.2.2.2.2.2
section IWS
variable {G : Gx} {K : Int} {M : Mm}
theorem IW.s52 (h : IW G K M) (f : Nat → Int32) : IW G K (stI M 52 f) := ⟨h.hmE, h.hmR, h.rgE, h.rgR, h.LE, h.LR, h.atR, h.tapeC, h.dreg, h.dfl, h.dbank, h.dbp, h.dname, h.dhome, h.dacc, h.drc, h.da, h.db, h.dnm, h.dac, h.dhr, h.dqa, h.dqb, h.dpa, h.dpb, h.bank, h.rc, h.ra, h.rb, h.log, h.wr, h.wreg, h.jc, h.sc, h.skE, h.sfE, h.svE, h.cc, h.cs⟩
theorem IW.s57 (h : IW G K M) (f : Nat → Int32) : IW G K (stI M 57 f) := ⟨h.hmE, h.hmR, h.rgE, h.rgR, h.LE, h.LR, h.atR, h.tapeC, h.dreg, h.dfl, h.dbank, h.dbp, h.dname, h.dhome, h.dacc, h.drc, h.da, h.db, h.dnm, h.dac, h.dhr, h.dqa, h.dqb, h.dpa, h.dpb, h.bank, h.rc, h.ra, h.rb, h.log, h.wr, h.wreg, h.jc, h.sc, h.skE, h.sfE, h.svE, h.cc, h.cs⟩
theorem IW.s58 (h : IW G K M) (f : Nat → Int32) : IW G K (stI M 58 f) := ⟨h.hmE, h.hmR, h.rgE, h.rgR, h.LE, h.LR, h.atR, h.tapeC, h.dreg, h.dfl, h.dbank, h.dbp, h.dname, h.dhome, h.dacc, h.drc, h.da, h.db, h.dnm, h.dac, h.dhr, h.dqa, h.dqb, h.dpa, h.dpb, h.bank, h.rc, h.ra, h.rb, h.log, h.wr, h.wreg, h.jc, h.sc, h.skE, h.sfE, h.svE, h.cc, h.cs⟩
theorem IW.s59 (h : IW G K M) (f : Nat → Int32) : IW G K (stI M 59 f) := ⟨h.hmE, h.hmR, h.rgE, h.rgR, h.LE, h.LR, h.atR, h.tapeC, h.dreg, h.dfl, h.dbank, h.dbp, h.dname, h.dhome, h.dacc, h.drc, h.da, h.db, h.dnm, h.dac, h.dhr, h.dqa, h.dqb, h.dpa, h.dpb, h.bank, h.rc, h.ra, h.rb, h.log, h.wr, h.wreg, h.jc, h.sc, h.skE, h.sfE, h.svE, h.cc, h.cs⟩
theorem IW.s50_3 (h : IW G K M) (x : Int32) : IW G K (stI M 50 (upd (M.1 50) 3 x)) := ⟨h.hmE, h.hmR, h.rgE, h.rgR, h.LE, h.LR, h.atR, h.tapeC, h.dreg, h.dfl, h.dbank, h.dbp, h.dname, h.dhome, h.dacc, h.drc, h.da, h.db, h.dnm, h.dac, h.dhr, h.dqa, h.dqb, h.dpa, h.dpb, h.bank, h.rc, h.ra, h.rb, h.log, h.wr, h.wreg, h.jc, h.sc, h.skE, h.sfE, h.svE, h.cc, h.cs⟩
theorem IW.s51_2 (h : IW G K M) (x : Int32) : IW G K (stI M 51 (upd (M.1 51) 2 x)) := ⟨h.hmE, h.hmR, h.rgE, h.rgR, h.LE, h.LR, h.atR, h.tapeC, h.dreg, h.dfl, h.dbank, h.dbp, h.dname, h.dhome, h.dacc, h.drc, h.da, h.db, h.dnm, h.dac, h.dhr, h.dqa, h.dqb, h.dpa, h.dpb, h.bank, h.rc, h.ra, h.rb, h.log, h.wr, h.wreg, h.jc, h.sc, h.skE, h.sfE, h.svE, h.cc, h.cs⟩
theorem IW.s53_0 {K' : Int} (h : IW G K M) {x : Int32} (hx : 0 ≤ x.toInt ∧ x.toInt ≤ K') : IW G K' (stI M 53 (upd (M.1 53) 0 x)) := ⟨h.hmE, h.hmR, h.rgE, h.rgR, h.LE, h.LR, h.atR, h.tapeC, h.dreg, h.dfl, h.dbank, h.dbp, h.dname, h.dhome, h.dacc, h.drc, h.da, h.db, h.dnm, h.dac, h.dhr, h.dqa, h.dqb, h.dpa, h.dpb, h.bank, h.rc, h.ra, h.rb, hx, h.wr, h.wreg, h.jc, h.sc, h.skE, h.sfE, h.svE, h.cc, h.cs⟩
theorem IW.s69_0 (h : IW G K M) : IW G K (stI M 69 (upd (M.1 69) 0 0)) := ⟨h.hmE, h.hmR, h.rgE, h.rgR, h.LE, h.LR, h.atR, h.tapeC, h.dreg, h.dfl, h.dbank, h.dbp, h.dname, h.dhome, h.dacc, h.drc, h.da, h.db, h.dnm, h.dac, h.dhr, h.dqa, h.dqb, h.dpa, h.dpb, h.bank, h.rc, h.ra, h.rb, h.log, h.wr, h.wreg, h.jc, ⟨Int.le_refl 0, (by decide : (0 : Int) ≤ 40)⟩, h.skE, h.sfE, h.svE, h.cc, h.cs⟩
theorem IW.full (h : IW G K M) (h1 : (M.1 65 0).toInt = 0) (h2 : (M.1 69 0).toInt = 0) : IX G K M := ⟨h.hmE, h.hmR, h.rgE, h.rgR, h.LE, h.LR, h.atR, h.tapeC, h.dreg, h.dfl, h.dbank, h.dbp, h.dname, h.dhome, h.dacc, h.drc, h.da, h.db, h.dnm, h.dac, h.dhr, h.dqa, h.dqb, h.dpa, h.dpb, h.bank, h.rc, h.ra, h.rb, h.log, h.wr, h.wreg, h.jc, (fun j hj => absurd hj (by rw [h1]; omega)), h.sc, h.skE, h.sfE, h.svE, (fun j hj => absurd hj (by rw [h2]; omega)), h.cc, h.cs⟩
theorem IW.s65_0 (h : IW G K M) : IW G K (stI M 65 (upd (M.1 65) 0 0)) := ⟨h.hmE, h.hmR, h.rgE, h.rgR, h.LE, h.LR, h.atR, h.tapeC, h.dreg, h.dfl, h.dbank, h.dbp, h.dname, h.dhome, h.dacc, h.drc, h.da, h.db, h.dnm, h.dac, h.dhr, h.dqa, h.dqb, h.dpa, h.dpb, h.bank, h.rc, h.ra, h.rb, h.log, h.wr, h.wreg, ⟨Int.le_refl 0, (by decide : (0 : Int) ≤ 8)⟩, h.sc, h.skE, h.sfE, h.svE, h.cc, h.cs⟩
end IWS
theorem wW_Mind_restart_2 {G : Gx} {K : Int}  : ∀ (n' : Nat) (M : Mm) (v1 : Int32), IW G K M → (0 ≤ v1.toInt ∧ v1.toInt ≤ 16) → 16 - v1.toInt < (n' : Int) → wpR (q_Mind_restart_2 n' M v1) (fun M' r => IW G K M' ∧ (M'.1 69 = M.1 69)) := by
  intro n'
  induction n' with
  | zero =>
    intro M v1 hI p0 hn
    have z1 := hI.rgR
    exfalso; omega
  | succ n' ih =>
    intro M v1 hI p0 hn
    rw [q_Mind_restart_2]
    have z2 := hI.rgR
    refine wpR_le (x := 16) (y := v1.toInt) (rfl : (16 : Int32).toInt = 16) rfl (fun c3 => ?_) (fun c3 => ?_)
    · skip
      refine wpR_ltv (fun m4 e5 => ?_)
      have i6 : IW G K m4 := by rw [e5]; exact hI.s51_2 _
      have q7 : m4.1 69 = M.1 69 := by rw [e5]; exact rfl
      exact wpR_some ⟨i6, q7⟩
    · skip
      have k8 : 0 ≤ (v1 : Int32).toInt ∧ (v1 : Int32).toInt < ((16 : Nat) : Int) := by omega
      refine wpR_ix (vI k8) ?_
      refine wpR_ix (vI k8) ?_
      refine wpR_ix (vI k8) ?_
      refine wpR_ltv (fun m9 e10 => ?_)
      have i11 : IW G K m9 := by rw [e10]; exact hI.s52 _
      have q12 : m9.1 69 = M.1 69 := by rw [e10]; exact rfl
      have z13 : (v1 + 1 : Int32).toInt = v1.toInt + 1 := iadd rfl (rfl : (1 : Int32).toInt = 1) (by omega) (by omega)
      refine wpR_mono (ih m9 (v1 + 1) i11 (by omega) (by omega)) (fun _ _ h15 => ?_)
      obtain ⟨i16, h14⟩ := h15
      exact ⟨i16, (h14.trans q12)⟩
theorem wW_Mind_restart {G : Gx} {K : Int} {M : Mm} (hI : IW G K M)  : wpR (q_Mind_restart M) (fun M' r => IW G K M' ∧ (M'.1 69 = M.1 69)) := by
  unfold q_Mind_restart
  have z1 := hI.rgR
  have z2 : (0 : Int32).toInt = 0 := rfl
  refine wpR_mono (wW_Mind_restart_2 4000 M 0 hI (by omega) (by omega)) (fun _ _ h4 => ?_)
  obtain ⟨i5, h3⟩ := h4
  exact ⟨i5, (h3.trans rfl)⟩
theorem wW_Device_restart_9 {G : Gx} {K : Int}  : ∀ (n' : Nat) (M : Mm) (v1 : Int32), IW G K M → (0 ≤ v1.toInt ∧ v1.toInt ≤ 16) → 16 - v1.toInt < (n' : Int) → wpR (q_Device_restart_9 n' M v1) (fun M' r => IW G K M' ∧ (M'.1 69 = M.1 69)) := by
  intro n'
  induction n' with
  | zero =>
    intro M v1 hI p0 hn
    have z1 := hI.rgR
    exfalso; omega
  | succ n' ih =>
    intro M v1 hI p0 hn
    rw [q_Device_restart_9]
    have z2 := hI.rgR
    refine wpR_le (x := 16) (y := v1.toInt) (rfl : (16 : Int32).toInt = 16) rfl (fun c3 => ?_) (fun c3 => ?_)
    · skip
      refine wpR_ltv (fun m4 e5 => ?_)
      have i6 : IW G K m4 := by rw [e5]; exact hI.s58 _
      have q7 : m4.1 69 = M.1 69 := by rw [e5]; exact rfl
      refine wpR_ltv (fun m8 e9 => ?_)
      have i10 : IW G K m8 := by rw [e9]; exact i6.s59 _
      have q11 : m8.1 69 = M.1 69 := by rw [e9]; exact q7
      refine wpR_ltv (fun m12 e13 => ?_)
      have i14 : IW G K m12 := by rw [e13]; exact i10.s50_3 _
      have q15 : m12.1 69 = M.1 69 := by rw [e13]; exact q11
      have z19 : (0 : Int32).toInt = 0 := rfl
      have z20 := i14.log
      refine wpR_ltv (fun m16 e17 => ?_)
      have i18 : IW G K m16 := by rw [e17]; exact i14.s53_0 (by omega)
      have q21 : m16.1 69 = M.1 69 := by rw [e17]; exact q15
      exact wpR_some ⟨i18, q21⟩
    · skip
      have k22 : 0 ≤ (v1 : Int32).toInt ∧ (v1 : Int32).toInt < ((16 : Nat) : Int) := by omega
      refine wpR_ix (vI k22) ?_
      refine wpR_ix (vI k22) ?_
      refine wpR_ix (vI k22) ?_
      refine wpR_ltv (fun m23 e24 => ?_)
      have i25 : IW G K m23 := by rw [e24]; exact hI.s57 _
      have q26 : m23.1 69 = M.1 69 := by rw [e24]; exact rfl
      have z27 : (v1 + 1 : Int32).toInt = v1.toInt + 1 := iadd rfl (rfl : (1 : Int32).toInt = 1) (by omega) (by omega)
      refine wpR_mono (ih m23 (v1 + 1) i25 (by omega) (by omega)) (fun _ _ h29 => ?_)
      obtain ⟨i30, h28⟩ := h29
      exact ⟨i30, (h28.trans q26)⟩
theorem wW_Device_restart {G : Gx} {K : Int} {M : Mm} (hI : IW G K M)  : wpR (q_Device_restart M) (fun M' r => IW G K M' ∧ (M'.1 69 = M.1 69)) := by
  unfold q_Device_restart
  have z1 := hI.rgR
  refine wpR_cl (wW_Mind_restart hI) (fun m4 u2 h5 => ?_)
  obtain ⟨i6, h3⟩ := h5
  have q7 : m4.1 69 = M.1 69 := (h3.trans rfl)
  have z8 : (0 : Int32).toInt = 0 := rfl
  refine wpR_mono (wW_Device_restart_9 4000 m4 0 i6 (by omega) (by omega)) (fun _ _ h10 => ?_)
  obtain ⟨i11, h9⟩ := h10
  exact ⟨i11, (h9.trans q7)⟩
theorem Dr.mk' {G : Gx} {K : Int} {M : Mm} (h : IX G K M) (hd : DS M) : Dr M := ⟨h.dfl, h.dreg, fun j hj => ⟨h.dnm j hj, (h.dname j).2⟩, fun j hj => ⟨h.dac j hj, (h.dacc j).2⟩, fun j hj => ⟨(h.dhome j).1, hd j hj⟩⟩
theorem IW.fol {G : Gx} {K : Int} {M N : Mm} (h : IX G K M) (hD : Dr M) (hB : GB M (M.1 1 0).toInt) (hR : GR M (M.1 14 0).toInt) (f : (∀ p, p < 24 ∨ 48 ≤ p → N.1 p = M.1 p) ∧ N.1 24 0 = M.1 1 0 ∧ (∀ j, j < 16 → N.1 26 j = M.1 4 j) ∧ N.1 43 0 = M.1 14 0 ∧ (∀ j, j < 12 → N.1 45 j = M.1 16 j ∧ N.1 46 j = M.1 17 j) ∧ (∀ j, -1 ≤ (N.1 38 j).toInt ∧ (N.1 38 j).toInt < (M.1 1 0).toInt) ∧ (∀ w : Nat, (w : Int) < (M.1 1 6).toInt → 0 ≤ (N.1 38 (M.1 7 w).toNatClampNeg).toInt)) : IW ⟨N.1 38, (M.1 1 0).toInt, G.sk, G.sf, G.sv, G.L⟩ K N := by
  have o := f.1
  have hasN : ∀ {x : Int32}, rowN M x → HasF (N.1 38) x := by
    intro x hx
    obtain ⟨w, h0, h1, e⟩ := hx
    have t := tnc h0
    have n1 := hD.nm w.toNatClampNeg (by omega)
    have n2 := f.2.2.2.2.2.2 w.toNatClampNeg (by omega)
    rw [e] at n1 n2
    exact ⟨n1.1, n1.2, n2⟩
  exact ⟨rfl,
    f.2.2.2.2.2.1,
    (by rw [f.2.1]; rfl),
    hD.regs,
    (by rw [o 21 (by omega)]; exact h.LE),
    h.LR,
    (by rw [o 21 (by omega)]; exact h.atR),
    (by rw [o 22 (by omega)]; exact h.tapeC),
    (by rw [o 1 (by omega)]; exact h.dreg),
    (by rw [o 1 (by omega)]; exact h.dfl),
    (by rw [o 4 (by omega)]; exact h.dbank),
    (by rw [o 5 (by omega)]; exact h.dbp),
    (by rw [o 7 (by omega)]; exact h.dname),
    (by rw [o 9 (by omega)]; exact h.dhome),
    (by rw [o 10 (by omega)]; exact h.dacc),
    (by rw [o 14 (by omega)]; exact h.drc),
    (by rw [o 16 (by omega)]; exact h.da),
    (by rw [o 17 (by omega)]; exact h.db),
    (by rw [o 1 (by omega), o 7 (by omega)]; exact h.dnm),
    (by rw [o 1 (by omega), o 10 (by omega)]; exact h.dac),
    (by rw [o 1 (by omega), o 9 (by omega)]; exact h.dhr),
    (by rw [o 14 (by omega), o 16 (by omega)]; exact h.dqa),
    (by rw [o 14 (by omega), o 17 (by omega)]; exact h.dqb),
    (by rw [o 19 (by omega)]; exact h.dpa),
    (by rw [o 20 (by omega)]; exact h.dpb),
    (fun j hj => by
    have hr := hD.regs
    have hj : (j : Int) < (M.1 1 0).toInt := hj
    rw [f.2.2.1 j (by omega)]
    rcases hB j hj with hb | hb
    · exact Or.inl hb
    · exact Or.inr (hasN hb)),
    (by rw [f.2.2.2.1]; exact h.drc),
    (fun j hj => by
    have hr := h.drc
    rw [f.2.2.2.1] at hj
    rw [(f.2.2.2.2.1 j (by omega)).1]
    exact ⟨h.dqa j hj, (h.da j).2⟩),
    (fun j hj => by
    have hr := h.drc
    rw [f.2.2.2.1] at hj
    rw [(f.2.2.2.2.1 j (by omega)).2]
    exact hasN (hR j hj)),
    (by rw [o 53 (by omega)]; exact h.log),
    (by rw [o 60 (by omega)]; exact h.wr),
    (by rw [o 63 (by omega)]; exact h.wreg),
    (by rw [o 65 (by omega)]; exact h.jc),
    (by rw [o 69 (by omega)]; exact h.sc),
    (by rw [o 70 (by omega)]; exact h.skE),
    (by rw [o 71 (by omega)]; exact h.sfE),
    (by rw [o 72 (by omega)]; exact h.svE),
    (by rw [o 73 (by omega)]; exact h.cc),
    (by rw [o 76 (by omega)]; exact h.cs)⟩
theorem compile_x {G : Gx} {K : Int} {M : Mm} (hI : IX G K M) : ∃ (M1 M3 : Mm) (r1 r3 : Int32), q_Reader_readAll M = some (M1, r1) ∧ q_Judge_decide M1 r1 (M1.1 21 3) = some (M3, r3) ∧ IX G.l0 K M3 ∧ ((M3.1 23 1).toInt = 0 → wpR (q_ChipMap_compile M) (fun M' _ => ∃ G' : Gx, G'.L = 0 ∧ IX G' K M')) := by
  obtain ⟨M1, r1, q1, i1, hb1, hd1⟩ := w_Reader_readAll hI
  obtain ⟨M3, r3, q3, i3, f3, hk3⟩ := w_Judge_decide i1 r1 (M1.1 21 3)
  refine ⟨M1, M3, r1, r3, q1, q3, i3, fun hk => ?_⟩
  obtain ⟨hr, hB, hR⟩ := hk3 hk
  have ds3 : DS M3 := DS.of (f3 1 (by decide)) (f3 9 (by decide)) (hd1 hr)
  have hD := Dr.mk' i3 ds3
  have b3 : GB M3 (M3.1 1 0).toInt := by
    have e1 := f3 1 (by decide)
    have e4 := f3 4 (by decide)
    have e7 := f3 7 (by decide)
    intro j hj
    rw [e1] at hj
    have := hB j hj
    unfold rowN at this ⊢
    rw [e1, e4, e7]
    exact this
  have g3 : GR M3 (M3.1 14 0).toInt := by
    have e1 := f3 1 (by decide)
    have e17 := f3 17 (by decide)
    have e7 := f3 7 (by decide)
    intro j hj
    rw [f3 14 (by decide)] at hj
    have := hR j hj
    unfold rowN at this ⊢
    rw [e1, e17, e7]
    exact this
  unfold q_ChipMap_compile
  rw [q1]
  refine wpR_cal (wpR_some ?_)
  rw [q3]
  refine wpR_cal (wpR_some ?_)
  refine wpR_eq (x := (M3.1 23 1).toInt) (y := 0) rfl rfl (fun _ => ?_) (fun c => absurd hk c)
  refine wpR_cl (w_Layout_follow hD) (fun M5 r6 f5 => ?_)
  have w5 := IW.fol i3 hD b3 g3 f5
  refine wpR_ltv (fun M7 e7 => ?_)
  have w7 : IW ⟨M5.1 38, (M3.1 1 0).toInt, G.l0.sk, G.l0.sf, G.l0.sv, G.l0.L⟩ K M7 := by rw [e7]; exact w5.s69_0
  have s7 : (M7.1 69 0).toInt = 0 := by rw [e7]; rfl
  refine wpR_cl (P := fun M' _ => ∃ G' : Gx, G'.L = 0 ∧ IX G' K M') ?_ (fun M' r h => wpR_some h)
  unfold q_ChipMap_startAgain
  refine wpR_cl (wW_Device_restart w7) (fun M8 r h => ?_)
  obtain ⟨w8, e8⟩ := h
  refine wpR_lt (wpR_some ⟨⟨M5.1 38, (M3.1 1 0).toInt, G.l0.sk, G.l0.sf, G.l0.sv, G.l0.L⟩, rfl, w8.s65_0.full rfl ?_⟩)
  show (M8.1 69 0).toInt = 0
  rw [e8]
  exact s7
