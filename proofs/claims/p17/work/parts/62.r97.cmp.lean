-- compile() of both sides, in step
theorem kX.rf (A : Mm) : kX A A := fun _ _ => rfl
theorem kR.rf (A : Mm) : kR A A := fun _ _ => rfl
theorem kY.rf (A : Mm) : kY A A := ⟨fun _ _ _ => rfl, fun _ _ _ => rfl⟩
theorem kM.rf (A : Mm) : kM A A := ⟨fun _ _ => rfl, fun _ _ _ => rfl⟩
theorem kW.rf (A : Mm) : kW A A := ⟨fun _ _ _ => rfl, fun _ _ => rfl⟩
/-- what both sides hold in common: the tape's letters, the fault, whether there is a map -/
def RQ (M N : Mm) : Prop := (∀ j : Nat, (j : Int) < (M.1 21 2).toInt → M.1 22 j = N.1 1 j) ∧ M.1 23 1 = N.1 0 4 ∧ M.1 23 2 = N.1 0 5 ∧ (((M.1 24 0).toInt = 0 ∧ N.1 0 27 = 0) ∨ (1 ≤ (M.1 24 0).toInt ∧ N.1 0 27 = 1))
theorem RQ.kp {M N M' N' : Mm} (h : RQ M N) (hx : kX M M') (hy : kY N N') : RQ M' N' := by
  unfold RQ
  rw [hx 21 (by decide), hx 22 (by decide), hx 23 (by decide), hx 24 (by decide), hy.1 1 (by decide) (by decide), hy.2 4 (by decide) (by decide), hy.2 5 (by decide) (by decide), hy.2 27 (by decide) (by decide)]
  exact h
def n2 (N : Mm) : Mm := stI (stI N 0 (upd (N.1 0) 4 0)) 0 (upd ((stI N 0 (upd (N.1 0) 4 0)).1 0) 5 0)
def n5 (N : Mm) : Mm := stI N 0 (upd (N.1 0) 2 0)
def n6 (N : Mm) : Mm := stI (n5 N) 0 (upd ((n5 N).1 0) 0 1)
def n7 (N : Mm) : Mm := stI (stI (n5 N) 0 (upd ((n5 N).1 0) 0 0)) 0 (upd ((stI (n5 N) 0 (upd ((n5 N).1 0) 0 0)).1 0) 27 1)
def n8 (N : Mm) : Mm := stI (n7 N) 0 (upd ((n7 N).1 0) 28 ((n7 N).1 0 6))
theorem cp_0 {N N3 : Mm} (h : q_ChipMapModel_readAll (n2 N) = some (N3, 0)) : q_ChipMapModel_compile N = some (n6 N3, 0) := by
  unfold q_ChipMapModel_compile
  rw [lq_s, lq_s]
  show cal (q_ChipMapModel_readAll (n2 N)) _ = _
  rw [h, cal_s, lq_s, if_pos rfl]
  unfold q_ChipMapModel_raise
  rw [lq_s, cal_s]
  rfl
theorem cp_1 {N N3 : Mm} (h : q_ChipMapModel_readAll (n2 N) = some (N3, 1)) : q_ChipMapModel_compile N = q_ChipMapModel_compile_50 4000 (n8 N3) 0 := by
  unfold q_ChipMapModel_compile
  rw [lq_s, lq_s]
  show cal (q_ChipMapModel_readAll (n2 N)) _ = _
  rw [h, cal_s, lq_s, if_neg (by decide), lq_s, lq_s, lq_s]
  rfl
def kq (t : Rs) : Prop := ∀ (M : Mm) (r : Int32), t = some (M, r) → r = M.1 0 28
theorem kq_none : kq none := fun M r e => by cases e
theorem kq_some {M : Mm} : kq (some (M, M.1 0 28)) := fun M' r e => by
  obtain ⟨rfl, rfl⟩ := rs_e e
  rfl
theorem kq_lt {α : Type} {x : α} {k : α → Rs} (h : kq (k x)) : kq (lt' x k) := h
theorem kq_ix {i : Int32} {n : Nat} {k : Rs} (h : kq k) : kq (ix i n k) := fun M r e => h M r (ix_r e)
theorem kq_cal {t : Rs} {k : Mm → Int32 → Rs} (h : ∀ M r, kq (k M r)) : kq (cal t k) := fun M r e => by
  obtain ⟨M1, r1, e1, e2⟩ := cal_o e
  exact h M1 r1 M r e2
theorem kq_if {c : Prop} [Decidable c] {a b : Rs} (ha : kq a) (hb : kq b) : kq (if c then a else b) := by
  by_cases hc : c
  · rw [if_pos hc]; exact ha
  · rw [if_neg hc]; exact hb
theorem c230_a : ∀ (n' : Nat) (M : Mm) (v : Int32), kq (q_ChipMapModel_compile_230 n' M v) := by
  intro n'
  induction n' with
  | zero =>
    intro M v
    rw [q_ChipMapModel_compile_230]
    exact kq_none
  | succ n' ih =>
    intro M v
    rw [q_ChipMapModel_compile_230]
    exact kq_if (kq_lt (kq_lt (kq_lt (kq_cal (fun _ _ => kq_some))))) (kq_ix (kq_ix (kq_lt (kq_ix (kq_ix (kq_lt (kq_ix (kq_ix (kq_lt (kq_ix (kq_ix (kq_lt (ih _ _)))))))))))))
theorem c123_a : ∀ (n' : Nat) (M : Mm) (v : Int32), kq (q_ChipMapModel_compile_123 n' M v) := by
  intro n'
  induction n' with
  | zero =>
    intro M v
    rw [q_ChipMapModel_compile_123]
    exact kq_none
  | succ n' ih =>
    intro M v
    rw [q_ChipMapModel_compile_123]
    refine kq_if (kq_lt (c230_a _ _ _)) ?_
    refine kq_ix (kq_lt (kq_ix (kq_lt (kq_ix (kq_ix (kq_lt (kq_ix (kq_ix (kq_lt (kq_ix (kq_ix (kq_lt ?_))))))))))))
    exact kq_ix (kq_ix (kq_ix (kq_lt (kq_ix (kq_ix (kq_lt (ih _ _)))))))
theorem c102_a : ∀ (n' : Nat) (M : Mm) (v : Int32), kq (q_ChipMapModel_compile_102 n' M v) := by
  intro n'
  induction n' with
  | zero =>
    intro M v
    rw [q_ChipMapModel_compile_102]
    exact kq_none
  | succ n' ih =>
    intro M v
    rw [q_ChipMapModel_compile_102]
    exact kq_if (c123_a _ _ _) (kq_ix (kq_lt (ih _ _)))
theorem c50_a : ∀ (n' : Nat) (M : Mm) (v : Int32), kq (q_ChipMapModel_compile_50 n' M v) := by
  intro n'
  induction n' with
  | zero =>
    intro M v
    rw [q_ChipMapModel_compile_50]
    exact kq_none
  | succ n' ih =>
    intro M v
    rw [q_ChipMapModel_compile_50]
    exact kq_if (c102_a _ _ _) (kq_ix (kq_ix (kq_lt (kq_ix (kq_ix (kq_lt (kq_ix (kq_ix (kq_lt (ih _ _))))))))))
theorem DS.d {M N : Mm} (h : dR M N) : DS M := by
  obtain ⟨-, -, -, hb, -, -, -, -, hs, -⟩ := h
  intro j hj
  have e := tnc hb.1
  exact (hs.1 j (by omega)).2
/-- compile() of both sides: the class answers as the reference and the reference throws nothing, or the class throws and the reference says so -/
theorem cmp_rel {L : Nat} {K : Int} {M N : Mm} (hx : JX (nI L) K M) (hy : JY (nI L) K N) (hK : K + 5100 ≤ 2000000000) (h : RQ M N) : ∃ (M' N' : Mm) (b : Int32), q_ChipMapModel_compile N = some (N', b) ∧ JX 0 (K + 5100) M' ∧ JY 0 (K + 5100) N' ∧ RQ M' N' ∧ ((q_ChipMap_compile M = some (M', b) ∧ N'.1 0 0 = 0) ∨ (qt_ChipMap_compile M = some (M', 1) ∧ N'.1 0 0 = 1)) := by
  obtain ⟨N', b, qy, jy⟩ := jy_compile hy hK
  obtain ⟨Gx', ex, ix⟩ := hx
  obtain ⟨Gy', ey, iy⟩ := hy
  obtain ⟨M1, M3, r1, r3, q1, q3, i3, hk⟩ := compile_x ix
  have z3 : (M3.1 21 2).toInt = 0 := by
    have e := i3.LE
    rw [e]
    rfl
  have lx : M.1 21 2 = N.1 0 2 := by rw [ix.LE, ex, iy.LE, ey]
  have lr : 0 ≤ (M.1 21 2).toInt ∧ (M.1 21 2).toInt ≤ 480 := by
    rw [ix.LE]
    exact ix.LR
  have ht : tpR M (n2 N) := ⟨lx, h.1, lr, ix.tapeC⟩
  have hz : nf (n2 N) := ⟨rfl, rfl⟩
  have k1 : M1.1 24 = M.1 24 := kr_Reader_readAll M (kR.rf M) M1 r1 q1 24 (by decide)
  have nil : ∀ (A B : Mm), (A.1 21 2).toInt = 0 → ∀ j : Nat, (j : Int) < (A.1 21 2).toInt → A.1 22 j = B.1 1 j := by
    intro A B hA j hj
    omega
  rcases all_rel ht hz with ⟨M1', N3, e1, e2, e3, e4⟩ | ⟨M1', N3, e1, e2, e3, e4⟩
  · rw [q1] at e1
    obtain ⟨rfl, rfl⟩ := rs_e e1
    obtain ⟨M3', d1, d2, d3, d4⟩ := dec_0 M1 (M1.1 21 3)
    rw [q3] at d1
    obtain ⟨rfl, rfl⟩ := rs_e d1
    have qx : qt_ChipMap_compile M = some (M3, 1) := by
      unfold qt_ChipMap_compile
      rw [q1, cal_s, q3, cal_s, if_neg (by rw [d2]; decide)]
    have km : N3.1 0 27 = N.1 0 27 := (km_ChipMapModel_readAll (n2 N) (kM.rf (n2 N)) N3 0 e2).2 27 (by decide) (by decide)
    have k3 : M3.1 24 = M.1 24 := (d4 24 (by decide)).trans k1
    rw [cp_0 e2] at qy
    obtain ⟨rfl, rfl⟩ := rs_e qy
    refine ⟨M3, n6 N3, 0, cp_0 e2, ⟨Gx'.l0, rfl, i3.mono (by omega)⟩, jy, ⟨nil _ _ z3, d2.trans e4.1.symm, ?_, ?_⟩, Or.inr ⟨qx, rfl⟩⟩
    · show M3.1 23 2 = N3.1 0 5
      rw [d3, e3, e4.2]
    · show ((M3.1 24 0).toInt = 0 ∧ N3.1 0 27 = 0) ∨ (1 ≤ (M3.1 24 0).toInt ∧ N3.1 0 27 = 1)
      rw [k3, km]
      exact h.2.2.2
  · rw [q1] at e1
    obtain ⟨rfl, rfl⟩ := rs_e e1
    obtain ⟨M3', N4, r, s, d1, d2, f1, f2, f3, f4⟩ := dec_r e3 e4 (M1.1 21 3)
    rw [q3] at d1
    obtain ⟨rfl, rfl⟩ := rs_e d1
    rw [d2] at e2
    have km : N4.1 0 27 = N.1 0 27 := (km_ChipMapModel_readAll (n2 N) (kM.rf (n2 N)) N4 s e2).2 27 (by decide) (by decide)
    have k3 : M3.1 24 = M.1 24 := (f4 24 (by decide)).trans k1
    rcases f3 with ⟨rfl, k0, eN⟩ | ⟨rfl, k0, -⟩
    · obtain ⟨M', r', q5, G', eL, i5⟩ := hk (by rw [k0]; rfl)
      have q5' := q5
      unfold q_ChipMap_compile at q5'
      rw [q1, cal_s, q3, cal_s, if_pos k0] at q5'
      obtain ⟨M5, r6, q6, q7⟩ := cal_o q5'
      rw [lq_s] at q7
      obtain ⟨M8, r9, q8, q9⟩ := cal_o q7
      obtain ⟨rfl, rfl⟩ := rs_e q9
      have ds3 : DS M3 := DS.of (f4 1 (by decide)) (f4 9 (by decide)) (DS.d e3)
      obtain ⟨M5', r6', q6', g1, g2, -⟩ := w_Layout_follow (Dr.mk' i3 ds3)
      rw [q6] at q6'
      obtain ⟨rfl, rfl⟩ := rs_e q6'
      have kx : kX M5 M8 := kx_ChipMap_startAgain (A := M5) _ (kX.st (kX.rf M5) (by decide)) M8 r9 q8
      have qy' := qy
      rw [cp_1 e2] at qy'
      have kw : kW (n8 N4) N' := kw_ChipMapModel_compile_50 4000 _ _ (kW.rf (n8 N4)) N' b qy'
      have ea : b = N'.1 0 28 := c50_a 4000 _ _ N' b qy'
      have w0 : N'.1 0 0 = 0 := kw.2 0 (by decide)
      have w4 : N'.1 0 4 = N4.1 0 4 := kw.2 4 (by decide)
      have w5 : N'.1 0 5 = N4.1 0 5 := kw.2 5 (by decide)
      have w27 : N'.1 0 27 = 1 := kw.2 27 (by decide)
      have w28 : N'.1 0 28 = N4.1 0 6 := kw.2 28 (by decide)
      have x24 : M8.1 24 0 = M1.1 1 0 := by rw [kx 24 (by decide), g2, f4 1 (by decide)]
      have x23 : M8.1 23 = M3.1 23 := by rw [kx 23 (by decide), g1 23 (Or.inl (by decide))]
      have eb : M8.1 24 0 = b := by rw [x24, ea, w28, eN, e3.1]
      have z8 : (M8.1 21 2).toInt = 0 := by
        rw [i5.LE, eL]
        rfl
      refine ⟨M8, N', b, qy, ⟨G', eL, i5.mono (by omega)⟩, jy, ⟨nil _ _ z8, ?_, ?_, Or.inr ⟨?_, w27⟩⟩, Or.inl ⟨?_, w0⟩⟩
      · rw [x23, f1, w4]
      · rw [x23, f2, w5]
      · rw [x24]
        exact e3.2.1.1
      · rw [← eb]
        exact q5
    · have qx : qt_ChipMap_compile M = some (M3, 1) := by
        unfold qt_ChipMap_compile
        rw [q1, cal_s, q3, cal_s, if_neg k0]
      rw [cp_0 e2] at qy
      obtain ⟨rfl, rfl⟩ := rs_e qy
      refine ⟨M3, n6 N4, 0, cp_0 e2, ⟨Gx'.l0, rfl, i3.mono (by omega)⟩, jy, ⟨nil _ _ z3, f1, f2, ?_⟩, Or.inr ⟨qx, rfl⟩⟩
      show ((M3.1 24 0).toInt = 0 ∧ N4.1 0 27 = 0) ∨ (1 ≤ (M3.1 24 0).toInt ∧ N4.1 0 27 = 1)
      rw [k3, km]
      exact h.2.2.2
