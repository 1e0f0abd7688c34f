section
-- step(), erase() and what they need: the same fields, the same count of steps
def RS (M N : Mm) : Prop := RQ M N ∧ LF M N ∧ M.1 69 0 = N.1 0 59
def kq5 (t : Rs) : Prop := ∀ (M : Mm) (r : Int32), t = some (M, r) → M.1 0 59 = 0
theorem kq5_none : kq5 none := fun M r e => by cases e
theorem kq5_lt {α : Type} {x : α} {k : α → Rs} (h : kq5 (k x)) : kq5 (lt' x k) := h
theorem kq5_ix {i : Int32} {n : Nat} {k : Rs} (h : kq5 k) : kq5 (ix i n k) := fun M r e => h M r (ix_r e)
theorem kq5_if {c : Prop} [Decidable c] {a b : Rs} (ha : kq5 a) (hb : kq5 b) : kq5 (if c then a else b) := by
  by_cases hc : c
  · rw [if_pos hc]; exact ha
  · rw [if_neg hc]; exact hb
theorem c230_5 : ∀ (n' : Nat) (M : Mm) (v : Int32), kq5 (q_ChipMapModel_compile_230 n' M v) := by
  intro n'
  induction n' with
  | zero =>
    intro M v
    rw [q_ChipMapModel_compile_230]
    exact kq5_none
  | succ n' ih =>
    intro M v
    rw [q_ChipMapModel_compile_230]
    refine kq5_if (kq5_lt (kq5_lt (kq5_lt ?_))) (kq5_ix (kq5_ix (kq5_lt (kq5_ix (kq5_ix (kq5_lt (kq5_ix (kq5_ix (kq5_lt (kq5_ix (kq5_ix (kq5_lt (ih _ _)))))))))))))
    intro M' r e
    obtain ⟨M4, r5, e1, e2⟩ := cal_o e
    obtain ⟨rfl, -⟩ := rs_e e2
    exact (kt_ChipMapModel_resetAll _ (kT.rf _) M4 r5 e1).2
theorem c123_5 : ∀ (n' : Nat) (M : Mm) (v : Int32), kq5 (q_ChipMapModel_compile_123 n' M v) := by
  intro n'
  induction n' with
  | zero =>
    intro M v
    rw [q_ChipMapModel_compile_123]
    exact kq5_none
  | succ n' ih =>
    intro M v
    rw [q_ChipMapModel_compile_123]
    refine kq5_if (kq5_lt (c230_5 _ _ _)) ?_
    refine kq5_ix (kq5_lt (kq5_ix (kq5_lt (kq5_ix (kq5_ix (kq5_lt (kq5_ix (kq5_ix (kq5_lt (kq5_ix (kq5_ix (kq5_lt ?_))))))))))))
    exact kq5_ix (kq5_ix (kq5_ix (kq5_lt (kq5_ix (kq5_ix (kq5_lt (ih _ _)))))))
theorem c102_5 : ∀ (n' : Nat) (M : Mm) (v : Int32), kq5 (q_ChipMapModel_compile_102 n' M v) := by
  intro n'
  induction n' with
  | zero =>
    intro M v
    rw [q_ChipMapModel_compile_102]
    exact kq5_none
  | succ n' ih =>
    intro M v
    rw [q_ChipMapModel_compile_102]
    exact kq5_if (c123_5 _ _ _) (kq5_ix (kq5_lt (ih _ _)))
theorem c50_5 : ∀ (n' : Nat) (M : Mm) (v : Int32), kq5 (q_ChipMapModel_compile_50 n' M v) := by
  intro n'
  induction n' with
  | zero =>
    intro M v
    rw [q_ChipMapModel_compile_50]
    exact kq5_none
  | succ n' ih =>
    intro M v
    rw [q_ChipMapModel_compile_50]
    exact kq5_if (c102_5 _ _ _) (kq5_ix (kq5_ix (kq5_lt (kq5_ix (kq5_ix (kq5_lt (kq5_ix (kq5_ix (kq5_lt (ih _ _))))))))))
theorem n8_ne {N : Mm} {p : Nat} (h : p ≠ 0) : (n8 N).1 p = N.1 p := by
  unfold n8 n7 n5
  rw [stI_ne _ _ h, stI_ne _ _ h, stI_ne _ _ h, stI_ne _ _ h]
theorem jd_0 {N N' : Mm} {v : Int32} {k : Int32} (h : q_ChipMapModel_fieldsRight N = some (wrY N k v, 0)) (g : jdY N = some (N', 1)) : False := by
  unfold jdY at g
  rw [h, cal_s, if_pos rfl] at g
  exact absurd (rs_e g).2 (by decide)
/-- compile() of both sides leaves the same fields and no step, or all as it was -/
theorem cmp_lay {L : Nat} {K : Int} {M N : Mm} (hx : JX (nI L) K M) (hy : JY (nI L) K N) (h : RS M N) {M' N' : Mm} {b : Int32} (qy : q_ChipMapModel_compile N = some (N', b)) (hc : (q_ChipMap_compile M = some (M', b) ∧ N'.1 0 0 = 0) ∨ (qt_ChipMap_compile M = some (M', 1) ∧ N'.1 0 0 = 1)) : LF M' N' ∧ M'.1 69 0 = N'.1 0 59 := by
  obtain ⟨Gx', ex, ix⟩ := hx
  obtain ⟨Gy', ey, iy⟩ := hy
  obtain ⟨M1, r1, q1, i1, hb1, hd1⟩ := w_Reader_readAll ix
  obtain ⟨M3, r3, q3, i3, fj, -⟩ := w_Judge_decide i1 r1 (M1.1 21 3)
  have lx : M.1 21 2 = N.1 0 2 := by rw [ix.LE, ex, iy.LE, ey]
  have lr : 0 ≤ (M.1 21 2).toInt ∧ (M.1 21 2).toInt ≤ 480 := by
    rw [ix.LE]
    exact ix.LR
  have ht : tpR M (n2 N) := ⟨lx, h.1.1, lr, ix.tapeC⟩
  have hz : nf (n2 N) := ⟨rfl, rfl⟩
  have kr := kr_Reader_readAll M (kR.rf M) M1 r1 q1
  have kx3 : ∀ p, 24 ≤ p → M3.1 p = M.1 p := fun p hp => (fj p (by omega)).trans (kr p hp)
  have thr : ∀ {N3 : Mm}, q_ChipMapModel_readAll (n2 N) = some (N3, 0) → M3.1 23 1 ≠ 0 → LF M' N' ∧ M'.1 69 0 = N'.1 0 59 := by
    intro N3 e2 hk
    have km := km_ChipMapModel_readAll (n2 N) (kM.rf (n2 N)) N3 0 e2
    rw [cp_0 e2] at qy
    obtain ⟨rfl, rfl⟩ := rs_e qy
    have em : M' = M3 := by
      rcases hc with ⟨-, z⟩ | ⟨z, -⟩
      · exact absurd (show (1 : Int32) = 0 from z) (by decide)
      · unfold qt_ChipMap_compile at z
        rw [q1, cal_s, q3, cal_s, if_neg hk] at z
        exact (rs_e z).1.symm
    rw [em]
    refine ⟨h.2.1.cg (kx3 38 (by decide)) (kx3 39 (by decide)) (kx3 40 (by decide)) (kx3 41 (by decide)) ?_ ?_ ?_ ?_ ?_, ?_⟩
    · show N3.1 23 = _
      rw [km.1 23 (by decide)]; rfl
    · show N3.1 24 = _
      rw [km.1 24 (by decide)]; rfl
    · show N3.1 25 = _
      rw [km.1 25 (by decide)]; rfl
    · show N3.1 26 = _
      rw [km.1 26 (by decide)]; rfl
    · show N3.1 27 = _
      rw [km.1 27 (by decide)]; rfl
    · show M3.1 69 0 = N3.1 0 59
      rw [kx3 69 (by decide), km.2 59 (by decide) (by decide)]
      exact h.2.2
  rcases all_rel ht hz with ⟨M1', N3, e1, e2, e3, e4⟩ | ⟨M1', N3, e1, e2, e3, e4⟩
  · rw [q1] at e1
    obtain ⟨rfl, rfl⟩ := rs_e e1
    obtain ⟨M3', d1, d2, d3, d4⟩ := dec_0 M1 (M1.1 21 3)
    rw [q3] at d1
    obtain ⟨rfl, rfl⟩ := rs_e d1
    exact thr e2 (by rw [d2]; decide)
  · rw [q1] at e1
    obtain ⟨rfl, rfl⟩ := rs_e e1
    obtain ⟨M3', N4, r, s, d1, d2, f1, f2, f3, f4⟩ := dec_r e3 e4 (M1.1 21 3)
    rw [q3] at d1
    obtain ⟨rfl, rfl⟩ := rs_e d1
    rw [d2] at e2
    rcases f3 with ⟨rfl, k0, eN⟩ | ⟨rfl, k0, -⟩
    · have wd1 : wdR M1 := by
        rcases ff_rel e3 with ⟨x1, -⟩ | ⟨v, -, -, y1⟩
        · intro j hj
          unfold q_Judge_badField at x1
          have rows := e3.2.2.2.1
          exact bf_w i1 e3 (M1.1 1 6).toInt.toNat 4000 0 0 M1 (by decide) (by have e : (0 : Int32).toInt = 0 := rfl; omega) x1 j (by have e : (0 : Int32).toInt = 0 := rfl; omega) hj
        · exact (jd_0 y1 d2).elim
      have qy' := qy
      rw [cp_1 e2] at qy'
      have kw0 := (kw_ChipMapModel_compile_50 4000 _ _ (kW.rf (n8 N4)) N' b qy').2 0 (by decide)
      have n59 : N'.1 0 59 = 0 := c50_5 4000 _ _ N' b qy'
      rcases hc with ⟨z, -⟩ | ⟨-, z⟩
      · unfold q_ChipMap_compile at z
        rw [q1, cal_s, q3, cal_s, if_pos k0] at z
        obtain ⟨M5, r6, q6, q7⟩ := cal_o z
        rw [lq_s] at q7
        obtain ⟨M8, r9, q8, q9⟩ := cal_o q7
        obtain ⟨rfl, -⟩ := rs_e q9
        have kx : kX M5 M8 := kx_ChipMap_startAgain (A := M5) _ (kX.st (kX.rf M5) (by decide)) M8 r9 q8
        have ks := ks_ChipMap_startAgain _ (kS.rf _) M8 r9 q8
        have ds3 : DS M3 := DS.of (f4 1 (by decide)) (f4 9 (by decide)) (DS.d e3)
        have fr3 : fR (M3.1 1 6).toNatClampNeg M3 (n8 N4) := by
          rw [f4 1 (by decide)]
          exact e3.2.2.2.2.2.2.1.cg (fun p h1 h2 => f4 p (by omega)) (fun p h1 h2 => by rw [n8_ne (by omega), eN])
        have e12 : (n8 N4).1 0 12 = M3.1 1 6 := by
          rw [f4 1 (by decide)]
          show N4.1 0 12 = _
          rw [eN]
          exact e3.2.2.1
        have wd3 : wdR M3 := by
          unfold wdR
          rw [f4 1 (by decide), f4 11 (by decide), f4 12 (by decide)]
          exact wd1
        have lf := lay_rel (Dr.mk' i3 ds3) fr3 e12 wd3 (kW.rf (n8 N4)) q6 qy'
        refine ⟨lf.cg (kx 38 (by decide)) (kx 39 (by decide)) (kx 40 (by decide)) (kx 41 (by decide)) rfl rfl rfl rfl rfl, ?_⟩
        rw [n59, ks 69 (by decide) (by decide)]
        rfl
      · rw [z] at kw0
        exact absurd (show (1 : Int32) = 0 from kw0) (by decide)
    · exact thr e2 k0
theorem sB_1 : ∀ k : Nat, k < 7 → (sB 0 k = 114 ↔ k = 1) := by decide
theorem sB_2 : ∀ k : Nat, k < 7 → (sB 0 k = 111 ↔ k = 2) := by decide
theorem sB_3 : ∀ k : Nat, k < 7 → (sB 0 k = 99 ↔ k = 3) := by decide
theorem ac_k {a c x : Int32} {k : Nat} (hk : x.toInt = (k : Int)) (ha : 0 ≤ a.toInt ∧ a.toInt < 7) (hc : sB 0 a.toNatClampNeg = c) (y : Int32) (e : ∀ k' : Nat, k' < 7 → (sB 0 k' = y ↔ k' = k)) : (a = x) ↔ (c = y) := by
  have t := tnc ha.1
  have g := e a.toNatClampNeg (by omega)
  rw [hc] at g
  rw [g]
  constructor
  · intro h
    subst h
    omega
  · intro h
    apply Int32.toInt_inj.mp
    omega
/-- is there such a field: both sides -/
theorem has_eq {G : Gx} {K : Int} {M N : Mm} (hI : IX G K M) (h : RQ M N) (hl : LF M N) (a : Int32) : (q_Layout_has M a = some (M, 0) ∧ q_ChipMapModel_isField N a = some (N, 0)) ∨ (q_Layout_has M a = some (M, 1) ∧ q_ChipMapModel_isField N a = some (N, 1) ∧ 0 ≤ a.toInt ∧ a.toInt < 26 ∧ ((0 ≤ (M.1 39 a.toNatClampNeg).toInt ∧ (M.1 39 a.toNatClampNeg).toInt < 7) ∧ sB 0 (M.1 39 a.toNatClampNeg).toNatClampNeg = N.1 24 a.toNatClampNeg) ∧ M.1 41 a.toNatClampNeg = N.1 27 a.toNatClampNeg ∧ 1 ≤ (M.1 41 a.toNatClampNeg).toInt ∧ (M.1 41 a.toNatClampNeg).toInt ≤ 16) := by
  unfold q_Layout_has q_ChipMapModel_isField
  have z0 : (0 : Int32).toInt = 0 := rfl
  have z26 : (26 : Int32).toInt = 26 := rfl
  by_cases c0 : a < 0
  · rw [if_pos c0, if_pos c0]
    refine Or.inl ⟨rfl, ?_⟩
    split <;> rfl
  rw [if_neg c0, if_neg c0]
  by_cases c26 : 26 ≤ a
  · rw [if_pos c26, if_pos c26]
    refine Or.inl ⟨rfl, ?_⟩
    split <;> rfl
  rw [if_neg c26, if_neg c26]
  have a0 : 0 ≤ a.toInt := by
    by_cases c : 0 ≤ a.toInt
    · exact c
    · exact absurd (Int32.lt_iff_toInt_lt.mpr (by omega)) c0
  have a1 : a.toInt < 26 := by
    by_cases c : 26 ≤ a.toInt
    · exact absurd (Int32.le_iff_toInt_le.mpr (by omega)) c26
    · omega
  have t := tnc a0
  have k : vp_in a 26 := vI (by omega)
  rw [ix_e k, ix_e k]
  rcases hl a.toNatClampNeg (by omega) with ⟨g1, g2⟩ | ⟨g1, g2, g3, g4, g5, g6, g7, g8⟩
  · rw [if_pos g1, if_pos g2]
    refine Or.inl ⟨rfl, ?_⟩
    split <;> rfl
  · have hm : N.1 0 27 = 1 := by
      rcases h.2.2.2 with ⟨m1, m2⟩ | ⟨m1, m2⟩
      · have r1 := hI.hmR a.toNatClampNeg
        have r2 := hI.rgE
        rw [← hI.hmE] at r1
        omega
      · exact m2
    have c1 : ¬ M.1 38 a.toNatClampNeg = -1 := fun c => by
      rw [c] at g3
      exact absurd g3 (by decide)
    rw [if_neg c1, if_neg (by rw [hm]; decide), if_neg (by rw [g1]; decide)]
    exact Or.inr ⟨rfl, rfl, a0, a1, ⟨g4, g5⟩, g7, g8⟩
theorem put_eq {G : Gx} {K : Int} {M N : Mm} (hI : IX G K M) (h : RQ M N) (hl : LF M N) (a v : Int32) : ∃ t : Int32, q_Layout_canPut M a v = some (M, t) ∧ q_ChipMapModel_isPut N a v = some (N, t) ∧ (t = 0 ∨ t = 1) := by
  unfold q_Layout_canPut q_ChipMapModel_isPut
  rcases has_eq hI h hl a with ⟨x, y⟩ | ⟨x, y, a0, a1, ⟨ac, hc⟩, ew, hw⟩
  · rw [x, y, cal_s, cal_s, if_pos rfl, if_pos rfl]
    exact ⟨0, rfl, rfl, Or.inl rfl⟩
  have k : vp_in a 26 := vI (by omega)
  rw [x, y, cal_s, cal_s, if_neg (by decide : ¬ (1 : Int32) = 0), if_neg (by decide : ¬ (1 : Int32) = 0), ix_e k, ix_e k, ix_e k, ix_e k]
  have i1 := ac_k (k := 1) (x := 1) rfl ac hc 114 sB_1
  have i3 := ac_k (k := 3) (x := 3) rfl ac hc 99 sB_3
  by_cases c1 : M.1 39 a.toNatClampNeg = 1
  · rw [if_pos c1, if_pos (i1.mp c1)]
    exact ⟨0, rfl, rfl, Or.inl rfl⟩
  rw [if_neg c1, if_neg (fun z => c1 (i1.mpr z))]
  by_cases c3 : M.1 39 a.toNatClampNeg = 3
  · rw [if_pos c3, if_pos (i3.mp c3)]
    exact ⟨0, rfl, rfl, Or.inl rfl⟩
  rw [if_neg c3, if_neg (fun z => c3 (i3.mpr z))]
  unfold q_Layout_fits q_ChipMapModel_isFit
  rw [ix_e k, ix_e k, ← ew]
  have f := fit_i (a := v) hw
  by_cases cf : v >>> (M.1 41 a.toNatClampNeg &&& 31) = 0
  · obtain ⟨f1, f2⟩ := f.mp cf
    rw [if_pos cf, if_neg f1, if_neg f2, cal_s, cal_s, if_neg (by decide : ¬ (1 : Int32) = 0), if_neg (by decide : ¬ (1 : Int32) = 0)]
    exact ⟨1, rfl, rfl, Or.inr rfl⟩
  · rw [if_neg cf, cal_s, if_pos rfl]
    by_cases f1 : v < 0
    · rw [if_pos f1, cal_s, if_pos rfl]
      exact ⟨0, rfl, rfl, Or.inl rfl⟩
    · rw [if_neg f1]
      by_cases f2 : (1 : Int32) <<< (M.1 41 a.toNatClampNeg &&& 31) ≤ v
      · rw [if_pos f2, cal_s, if_pos rfl]
        exact ⟨0, rfl, rfl, Or.inl rfl⟩
      · exact absurd (f.mpr ⟨f1, f2⟩) cf
theorem fet_eq {G : Gx} {K : Int} {M N : Mm} (hI : IX G K M) (h : RQ M N) (hl : LF M N) (a : Int32) : ∃ t : Int32, q_Layout_canFetch M a = some (M, t) ∧ q_ChipMapModel_isFetch N a = some (N, t) ∧ (t = 0 ∨ t = 1) := by
  unfold q_Layout_canFetch q_ChipMapModel_isFetch
  rcases has_eq hI h hl a with ⟨x, y⟩ | ⟨x, y, a0, a1, ⟨ac, hc⟩, ew, hw⟩
  · rw [x, y, cal_s, cal_s, if_pos rfl, if_pos rfl]
    exact ⟨0, rfl, rfl, Or.inl rfl⟩
  have k : vp_in a 26 := vI (by omega)
  rw [x, y, cal_s, cal_s, if_neg (by decide : ¬ (1 : Int32) = 0), if_neg (by decide : ¬ (1 : Int32) = 0), ix_e k, ix_e k]
  have i2 := ac_k (k := 2) (x := 2) rfl ac hc 111 sB_2
  by_cases c2 : M.1 39 a.toNatClampNeg = 2
  · rw [if_pos c2, if_pos (i2.mp c2)]
    exact ⟨0, rfl, rfl, Or.inl rfl⟩
  · rw [if_neg c2, if_neg (fun z => c2 (i2.mpr z))]
    exact ⟨1, rfl, rfl, Or.inr rfl⟩
def stT (N : Mm) (a1 a2 a3 : Int32) : Rs := if a1 < 0 then (some (N, (-1))) else (if 3 < a1 then (some (N, (-1))) else (if a1 = 0 then (cal (q_ChipMapModel_isPut N a2 a3) fun M2 r3 => if r3 = 0 then (some (M2, (-1))) else (q_ChipMapModel_step_43 M2 a1 a2 a3)) else (q_ChipMapModel_step_43 N a1 a2 a3)))
theorem stp_eq {G : Gx} {K : Int} {M N : Mm} (hI : IX G K M) (h : RQ M N) (hl : LF M N) (a1 a2 a3 : Int32) : ∃ t : Int32, q_ChipMap_isStep M a1 a2 a3 = some (M, t) ∧ stT N a1 a2 a3 = (if t = 0 then some (N, (-1)) else q_ChipMapModel_step_73 N a1 a2 a3) := by
  unfold q_ChipMap_isStep stT
  by_cases c0 : a1 = 0
  · subst c0
    obtain ⟨t, x, y, ht⟩ := put_eq hI h hl a2 a3
    refine ⟨t, ?_, ?_⟩
    · rw [if_pos rfl, x, cal_s]
      rcases ht with rfl | rfl
      · rw [bz_e0]
      · rw [bz_e1]
    · rw [if_neg (by decide : ¬ (0 : Int32) < 0), if_neg (by decide : ¬ (3 : Int32) < 0), if_pos rfl, y, cal_s]
      by_cases c : t = 0
      · rw [if_pos c, if_pos c]
      · rw [if_neg c, if_neg c]
        unfold q_ChipMapModel_step_43
        rw [if_neg (by decide : ¬ (0 : Int32) = 1)]
        unfold q_ChipMapModel_step_56
        rw [if_neg (by decide : ¬ (0 : Int32) = 2)]
  rw [if_neg c0]
  by_cases c1 : a1 = 1
  · subst c1
    obtain ⟨t, x, y, ht⟩ := fet_eq hI h hl a2
    refine ⟨t, ?_, ?_⟩
    · rw [if_pos rfl, x, cal_s]
      rcases ht with rfl | rfl
      · rw [bz_e0]
      · rw [bz_e1]
    · rw [if_neg (by decide : ¬ (1 : Int32) < 0), if_neg (by decide : ¬ (3 : Int32) < 1), if_neg (by decide : ¬ (1 : Int32) = 0)]
      unfold q_ChipMapModel_step_43
      rw [if_pos rfl, y, cal_s]
      by_cases c : t = 0
      · rw [if_pos c, if_pos c]
      · rw [if_neg c, if_neg c]
        unfold q_ChipMapModel_step_56
        rw [if_neg (by decide : ¬ (1 : Int32) = 2)]
  rw [if_neg c1]
  by_cases c2 : a1 = 2
  · subst c2
    have em : (if (2 : Int32) < 0 then (some (N, (-1)) : Rs) else (if 3 < (2 : Int32) then (some (N, (-1))) else (if (2 : Int32) = 0 then (cal (q_ChipMapModel_isPut N a2 a3) fun M2 r3 => if r3 = 0 then (some (M2, (-1))) else (q_ChipMapModel_step_43 M2 2 a2 a3)) else (q_ChipMapModel_step_43 N 2 a2 a3)))) = q_ChipMapModel_step_56 N 2 a2 a3 := by
      rw [if_neg (by decide : ¬ (2 : Int32) < 0), if_neg (by decide : ¬ (3 : Int32) < 2), if_neg (by decide : ¬ (2 : Int32) = 0)]
      unfold q_ChipMapModel_step_43
      rw [if_neg (by decide : ¬ (2 : Int32) = 1)]
    rw [em, if_pos rfl]
    unfold q_ChipMapModel_step_56
    rw [if_pos rfl]
    by_cases d0 : a3 < 0
    · rw [if_pos d0, if_pos d0]
      exact ⟨0, rfl, rfl⟩
    rw [if_neg d0, if_neg d0]
    by_cases d1 : 40 < a3
    · have d2 : ¬ a3 ≤ 40 := fun d => by
        have g1 := Int32.lt_iff_toInt_lt.mp d1
        have g2 := Int32.le_iff_toInt_le.mp d
        omega
      rw [if_pos d1, if_neg d2]
      exact ⟨0, rfl, rfl⟩
    · have d2 : a3 ≤ 40 := by
        by_cases d : a3 ≤ 40
        · exact d
        · exfalso
          apply d1
          apply Int32.lt_iff_toInt_lt.mpr
          have g : ¬ a3.toInt ≤ (40 : Int32).toInt := fun z => d (Int32.le_iff_toInt_le.mpr z)
          omega
      rw [if_neg d1, if_pos d2]
      exact ⟨1, rfl, rfl⟩
  rw [if_neg c2]
  by_cases c3 : a1 = 3
  · subst c3
    refine ⟨1, if_pos rfl, ?_⟩
    rw [if_neg (by decide : ¬ (3 : Int32) < 0), if_neg (by decide : ¬ (3 : Int32) < 3), if_neg (by decide : ¬ (3 : Int32) = 0)]
    unfold q_ChipMapModel_step_43
    rw [if_neg (by decide : ¬ (3 : Int32) = 1)]
    unfold q_ChipMapModel_step_56
    rw [if_neg (by decide : ¬ (3 : Int32) = 2)]
    rfl
  refine ⟨0, if_neg c3, ?_⟩
  rw [if_pos (rfl : (0 : Int32) = 0)]
  by_cases d0 : a1 < 0
  · rw [if_pos d0]
  rw [if_neg d0]
  have d3 : 3 < a1 := by
    apply Int32.lt_iff_toInt_lt.mpr
    have e3 : (3 : Int32).toInt = 3 := rfl
    have e2 : (2 : Int32).toInt = 2 := rfl
    have e1 : (1 : Int32).toInt = 1 := rfl
    have e0 : (0 : Int32).toInt = 0 := rfl
    have g : ¬ a1.toInt < (0 : Int32).toInt := fun z => d0 (Int32.lt_iff_toInt_lt.mpr z)
    have n0 : ¬ a1.toInt = (0 : Int32).toInt := fun z => c0 (Int32.toInt_inj.mp z)
    have n1 : ¬ a1.toInt = (1 : Int32).toInt := fun z => c1 (Int32.toInt_inj.mp z)
    have n2 : ¬ a1.toInt = (2 : Int32).toInt := fun z => c2 (Int32.toInt_inj.mp z)
    have n3 : ¬ a1.toInt = (3 : Int32).toInt := fun z => c3 (Int32.toInt_inj.mp z)
    omega
  rw [if_pos d3]
theorem step_rel {G : Gx} {K : Int} {M N : Mm} (hI : IX G K M) (h : RS M N) {a1 a2 a3 : Int32} {M' N' : Mm} {r1 r2 : Int32} (q1 : q_ChipMap_step M a1 a2 a3 = some (M', r1)) (q2 : q_ChipMapModel_step N a1 a2 a3 = some (N', r2)) : r1 = r2 ∧ M'.1 69 0 = N'.1 0 59 := by
  unfold q_ChipMap_step q_Steps_isFull_1 q_ChipMap_hasMap at q1
  unfold q_ChipMapModel_step at q2
  rw [lq_s] at q2
  obtain ⟨N1, eN⟩ : ∃ z, z = stI N 0 (upd (N.1 0) 0 0) := ⟨_, rfl⟩
  rw [← eN] at q2
  have h1 : RS M N1 := by
    rw [eN]
    exact h
  obtain ⟨rq, hl, hs⟩ := h1
  have sc := hI.sc
  have z0 : (0 : Int32).toInt = 0 := rfl
  have z40 : (40 : Int32).toInt = 40 := rfl
  by_cases c40 : M.1 69 0 < 40
  · have c40' : ¬ N1.1 0 59 = 40 := fun c => by
      rw [← hs] at c
      rw [c] at c40
      exact absurd c40 (by decide)
    have g40 := Int32.lt_iff_toInt_lt.mp c40
    rw [if_pos c40, cal_s, if_pos rfl] at q1
    rcases rq.2.2.2 with ⟨m1, m2⟩ | ⟨m1, m2⟩
    · have c : M.1 24 0 ≤ 0 := Int32.le_iff_toInt_le.mpr (by omega)
      rw [if_pos c, cal_s, if_pos rfl] at q1
      rw [if_pos m2] at q2
      obtain ⟨rfl, rfl⟩ := rs_e q1
      obtain ⟨rfl, rfl⟩ := rs_e q2
      exact ⟨rfl, hs⟩
    · have c : ¬ M.1 24 0 ≤ 0 := fun c => by
        have := Int32.le_iff_toInt_le.mp c
        omega
      rw [if_neg c, cal_s, if_neg (by decide : ¬ (1 : Int32) = 0)] at q1
      rw [if_neg (by rw [m2]; decide), if_neg c40'] at q2
      have q2 : stT N1 a1 a2 a3 = some (N', r2) := q2
      obtain ⟨t, x, y⟩ := stp_eq hI rq hl a1 a2 a3
      rw [x, cal_s] at q1
      rw [y] at q2
      by_cases ct : t = 0
      · rw [if_pos ct] at q1 q2
        obtain ⟨rfl, rfl⟩ := rs_e q1
        obtain ⟨rfl, rfl⟩ := rs_e q2
        exact ⟨rfl, hs⟩
      · rw [if_neg ct] at q1 q2
        obtain ⟨M7, r8, p, q1⟩ := cal_o q1
        obtain ⟨rfl, rfl⟩ := rs_e q1
        unfold q_Steps_append_1 at p
        have p := ix_r p
        rw [lq_s] at p
        have p := ix_r p
        rw [lq_s] at p
        have p := ix_r p
        rw [lq_s, lq_s] at p
        obtain ⟨rfl, -⟩ := rs_e p
        unfold q_ChipMapModel_step_73 at q2
        have q2 := ix_r q2
        rw [lq_s] at q2
        have q2 := ix_r q2
        rw [lq_s] at q2
        have q2 := ix_r q2
        rw [lq_s, lq_s] at q2
        obtain ⟨rfl, rfl⟩ := rs_e q2
        constructor
        · show (M.1 69 0 + 1) - 1 = (N1.1 0 59 + 1) - 1
          rw [hs]
        · show M.1 69 0 + 1 = N1.1 0 59 + 1
          rw [hs]
  · have c40' : N1.1 0 59 = 40 := by
      rw [← hs]
      apply Int32.toInt_inj.mp
      have g : ¬ (M.1 69 0).toInt < (40 : Int32).toInt := fun z => c40 (Int32.lt_iff_toInt_lt.mpr z)
      omega
    rw [if_neg c40, cal_s, if_neg (by decide : ¬ (1 : Int32) = 0)] at q1
    obtain ⟨rfl, rfl⟩ := rs_e q1
    rw [if_pos c40'] at q2
    by_cases c27 : N1.1 0 27 = 0
    · rw [if_pos c27] at q2
      obtain ⟨rfl, rfl⟩ := rs_e q2
      exact ⟨rfl, hs⟩
    · rw [if_neg c27] at q2
      obtain ⟨rfl, rfl⟩ := rs_e q2
      exact ⟨rfl, hs⟩
theorem erase_rel {M N : Mm} (h : RS M N) {M' N' : Mm} {r1 r2 : Int32} (q1 : q_ChipMap_erase M = some (M', r1)) (q2 : q_ChipMapModel_erase N = some (N', r2)) : r1 = r2 ∧ M'.1 69 0 = N'.1 0 59 := by
  unfold q_ChipMap_erase q_Steps_empty_1 at q1
  rw [lq_s, lq_s, cal_s] at q1
  obtain ⟨rfl, rfl⟩ := rs_e q1
  unfold q_ChipMapModel_erase at q2
  rw [lq_s, lq_s, lq_s] at q2
  obtain ⟨rfl, rfl⟩ := rs_e q2
  exact ⟨h.2.2, rfl⟩
theorem sB_4 : ∀ k : Nat, k < 7 → (sB 0 k = 116 ↔ k = 4) := by decide
theorem fits_eq {M N : Mm} {a v : Int32} (a0 : 0 ≤ a.toInt) (a1 : a.toInt < 26) (ew : M.1 41 a.toNatClampNeg = N.1 27 a.toNatClampNeg) (hw : 1 ≤ (M.1 41 a.toNatClampNeg).toInt ∧ (M.1 41 a.toNatClampNeg).toInt ≤ 16) : ∃ t : Int32, q_Layout_fits M a v = some (M, t) ∧ q_ChipMapModel_isFit N a v = some (N, t) := by
  have k : vp_in a 26 := vI (by omega)
  unfold q_Layout_fits q_ChipMapModel_isFit
  rw [ix_e k, ix_e k, ← ew]
  have f := fit_i (a := v) hw
  by_cases cf : v >>> (M.1 41 a.toNatClampNeg &&& 31) = 0
  · obtain ⟨f1, f2⟩ := f.mp cf
    rw [if_pos cf, if_neg f1, if_neg f2]
    exact ⟨1, rfl, rfl⟩
  · rw [if_neg cf]
    by_cases f1 : v < 0
    · rw [if_pos f1]
      exact ⟨0, rfl, rfl⟩
    · rw [if_neg f1]
      by_cases f2 : (1 : Int32) <<< (M.1 41 a.toNatClampNeg &&& 31) ≤ v
      · rw [if_pos f2]
        exact ⟨0, rfl, rfl⟩
      · exact absurd (f.mpr ⟨f1, f2⟩) cf
theorem poke_eq {G : Gx} {K : Int} {M N : Mm} (hI : IX G K M) (h : RS M N) {a v : Int32} {M' N' : Mm} {r1 r2 : Int32} (q1 : q_ChipMap_poke M a v = some (M', r1)) (q2 : q_ChipMapModel_poke N a v = some (N', r2)) : r1 = r2 := by
  unfold q_ChipMap_poke at q1
  unfold q_ChipMapModel_poke at q2
  rw [lq_s] at q2
  obtain ⟨N1, eN⟩ : ∃ z, z = stI N 0 (upd (N.1 0) 0 0) := ⟨_, rfl⟩
  rw [← eN] at q2
  have h1 : RS M N1 := by
    rw [eN]
    exact h
  obtain ⟨rq, hl, hs⟩ := h1
  rcases has_eq hI rq hl a with ⟨x, y⟩ | ⟨x, y, a0, a1, ⟨ac, hc⟩, ew, hw⟩
  · rw [x, cal_s, if_pos rfl] at q1
    rw [y, cal_s, if_pos rfl] at q2
    obtain ⟨-, rfl⟩ := rs_e q1
    obtain ⟨-, rfl⟩ := rs_e q2
    rfl
  have k : vp_in a 26 := vI (by omega)
  obtain ⟨t, fx, fy⟩ := fits_eq (v := v) a0 a1 ew hw
  have p52 : ∀ {r : Int32}, q_ChipMap_poke_52 M a v = some (M', r) → r = 1 := by
    intro r p
    unfold q_ChipMap_poke_52 at p
    obtain ⟨M1, s, -, p⟩ := cal_o p
    exact (rs_e p).2.symm
  have p46 : ∀ {r : Int32}, q_ChipMapModel_poke_46 N1 a v = some (N', r) → r = if t = 0 then 0 else 1 := by
    intro r p
    unfold q_ChipMapModel_poke_46 at p
    rw [fy, cal_s] at p
    by_cases ct : t = 0
    · rw [if_pos ct] at p ⊢
      exact (rs_e p).2.symm
    · rw [if_neg ct] at p ⊢
      have p := ix_r p
      rw [lq_s] at p
      exact (rs_e p).2.symm
  have i1 := ac_k (k := 1) (x := 1) rfl ac hc 114 sB_1
  have i3 := ac_k (k := 3) (x := 3) rfl ac hc 99 sB_3
  have i4 := ac_k (k := 4) (x := 4) rfl ac hc 116 sB_4
  rw [x, cal_s, if_neg (by decide : ¬ (1 : Int32) = 0), fx, cal_s] at q1
  rw [y, cal_s, if_neg (by decide : ¬ (1 : Int32) = 0), ix_e k] at q2
  have m : r2 = if (M.1 39 a.toNatClampNeg = 1 ∨ M.1 39 a.toNatClampNeg = 3 ∨ M.1 39 a.toNatClampNeg = 4) then (if t = 0 then 0 else 1) else 0 := by
    by_cases c1 : M.1 39 a.toNatClampNeg = 1
    · rw [if_pos (i1.mp c1)] at q2
      rw [if_pos (Or.inl c1)]
      exact p46 q2
    rw [if_neg (fun z => c1 (i1.mpr z)), ix_e k] at q2
    by_cases c3 : M.1 39 a.toNatClampNeg = 3
    · rw [if_pos (i3.mp c3)] at q2
      rw [if_pos (Or.inr (Or.inl c3))]
      exact p46 q2
    rw [if_neg (fun z => c3 (i3.mpr z)), ix_e k] at q2
    by_cases c4 : M.1 39 a.toNatClampNeg = 4
    · rw [if_pos (i4.mp c4)] at q2
      rw [if_pos (Or.inr (Or.inr c4))]
      exact p46 q2
    rw [if_neg (fun z => c4 (i4.mpr z))] at q2
    rw [if_neg (fun z => by rcases z with z | z | z; exact c1 z; exact c3 z; exact c4 z)]
    exact (rs_e q2).2.symm
  rw [m]
  by_cases ct : t = 0
  · rw [if_pos ct] at q1
    rw [if_pos ct]
    obtain ⟨-, rfl⟩ := rs_e q1
    split <;> rfl
  rw [if_neg ct, ix_e k, lq_s] at q1
  rw [if_neg ct]
  by_cases c1 : M.1 39 a.toNatClampNeg = 1
  · rw [if_pos c1] at q1
    rw [if_pos (Or.inl c1)]
    exact p52 q1
  rw [if_neg c1] at q1
  by_cases c3 : M.1 39 a.toNatClampNeg = 3
  · rw [if_pos c3] at q1
    rw [if_pos (Or.inr (Or.inl c3))]
    exact p52 q1
  rw [if_neg c3] at q1
  by_cases c4 : M.1 39 a.toNatClampNeg = 4
  · rw [if_pos c4] at q1
    rw [if_pos (Or.inr (Or.inr c4))]
    exact p52 q1
  rw [if_neg c4] at q1
  rw [if_neg (fun z => by rcases z with z | z | z; exact c1 z; exact c3 z; exact c4 z)]
  exact (rs_e q1).2.symm
end
section
-- type() of both sides leaves the same letters
theorem ch_id {y : Int32} (h : y.toUInt32.toNat ≤ 255) : vp_nar .char ((y.toUInt32 % 65536).toInt32) = y := by
  have e : vp_nar .char ((y.toUInt32 % 65536).toInt32) = (y.toUInt32 % 65536).toUInt16.toUInt32.toInt32 := rfl
  have e3 : (y.toUInt32 % 65536).toUInt16.toUInt32 = y.toUInt32 := by
    apply UInt32.toNat_inj.mp
    simp
    omega
  rw [e, e3]
  rfl
theorem bX_255 (w : Int64) (i : Int32) : (bX w i).toUInt32.toNat ≤ 255 := by
  unfold bX
  have h1 : ∀ a : Int32, (a &&& 255).toUInt32 = a.toUInt32 &&& 255 := fun _ => rfl
  rw [h1, UInt32.toNat_and]
  exact Nat.and_le_right
theorem nI_tn {L : Nat} (h : L ≤ 480) : (nI L).toNatClampNeg = L := by
  have e : (nI L).toInt = (L : Int) := nI_toInt (by omega)
  have := tnc (i := nI L) (by omega)
  omega
theorem nI_m (k : Nat) : nI k + (-1) = nI k - 1 := (i_m1 (nI k)).symm ▸ rfl
theorem ty_loop (w : Int64) : ∀ (k L n1 n2 : Nat) (M N : Mm), k ≤ 8 → k < n1 → k < n2 → M.1 21 2 = nI L → N.1 0 2 = nI L → L + k ≤ 480 → (∀ j, j < L → M.1 22 j = N.1 1 j) → ∀ (M' N' : Mm) (r s : Int32), q_Reader_append_69 n1 M w (nI k - 1) = some (M', r) → q_ChipMapModel_type_80 n2 N w (nI k - 1) = some (N', s) → M'.1 21 2 = nI (L + k) ∧ ∀ j, j < L + k → M'.1 22 j = N'.1 1 j := by
  intro k
  induction k with
  | zero =>
    intro L n1 n2 M N h8 hn1 hn2 hM hN hL ht M' N' r s h1 h2
    obtain ⟨n1, rfl⟩ : ∃ m, n1 = m + 1 := ⟨n1 - 1, by omega⟩
    obtain ⟨n2, rfl⟩ : ∃ m, n2 = m + 1 := ⟨n2 - 1, by omega⟩
    rw [q_Reader_append_69, if_pos (by decide)] at h1
    rw [q_ChipMapModel_type_80, if_pos (by decide)] at h2
    obtain ⟨rfl, -⟩ := rs_e h1
    obtain ⟨rfl, -⟩ := rs_e h2
    exact ⟨hM, ht⟩
  | succ k ih =>
    intro L n1 n2 M N h8 hn1 hn2 hM hN hL ht M' N' r s h1 h2
    obtain ⟨n1, rfl⟩ : ∃ m, n1 = m + 1 := ⟨n1 - 1, by omega⟩
    obtain ⟨n2, rfl⟩ : ∃ m, n2 = m + 1 := ⟨n2 - 1, by omega⟩
    have hb : q_Reader_byteOf M w (nI k) = some (M, bX w (nI k)) := rfl
    have hv : vp_in (nI L) 480 := vp_in_nI (by omega) (by omega)
    rw [q_Reader_append_69, nI_pred, if_neg (nI_pos (by omega)), hb, cal_s, hM, ix_e hv, lq_s, lq_s, nI_m] at h1
    rw [q_ChipMapModel_type_80, nI_pred, if_neg (nI_pos (by omega)), hN, ix_e hv, lq_s, lq_s, nI_m] at h2
    have key := ih (L + 1) n1 n2 _ _ (by omega) (by omega) (by omega) ?_ ?_ (by omega) ?_ M' N' r s h1 h2
    · rw [show L + (k + 1) = L + 1 + k by omega]
      exact key
    · rw [stI_at]
      show upd _ 2 _ 2 = _
      rw [pk_us, stI_ne _ _ (by decide), hM, nI_1]
    · rw [stI_at]
      show upd _ 2 _ 2 = _
      rw [pk_us, stI_ne _ _ (by decide), hN, nI_1]
    · intro j hj
      rw [nI_tn (by omega)]
      show upd (M.1 22) L _ j = upd (N.1 1) L _ j
      by_cases hjL : j = L
      · rw [hjL, updS, updS, ch_id (bX_255 _ _), bXM w k (by omega)]
        rfl
      · rw [updN hjL, updN hjL]
        exact ht j (by omega)
theorem ty_28 (w : Int64) {N L : Nat} (hN : N ≤ 8) (hL : L + N ≤ 480) : ∀ (k i n1 n2 : Nat) (M Y : Mm), i + k = N → k < n1 → k < n2 → M.1 21 2 = nI L → Y.1 0 2 = nI L → (∀ j, j < L → M.1 22 j = Y.1 1 j) → ∀ (M' Y' : Mm) (r s : Int32), q_Reader_append_28 n1 M w (nI N) (nI i) = some (M', r) → q_ChipMapModel_type_33 n2 Y w (nI N) (nI i) = some (Y', s) → ∀ j : Nat, (j : Int) < (M'.1 21 2).toInt → M'.1 22 j = Y'.1 1 j := by
  intro k
  have eL : (nI L).toInt = (L : Int) := nI_toInt (by omega)
  induction k with
  | zero =>
    intro i n1 n2 M Y hi hn1 hn2 hM hY ht M' Y' r s h1 h2
    obtain rfl : i = N := by omega
    obtain ⟨n1, rfl⟩ : ∃ m, n1 = m + 1 := ⟨n1 - 1, by omega⟩
    obtain ⟨n2, rfl⟩ : ∃ m, n2 = m + 1 := ⟨n2 - 1, by omega⟩
    rw [q_Reader_append_28, if_pos (nI_le (Nat.le_refl i) (by omega)), lq_s] at h1
    rw [q_ChipMapModel_type_33, if_pos (nI_le (Nat.le_refl i) (by omega)), lq_s] at h2
    obtain ⟨g1, g2⟩ := ty_loop w i L 4000 4000 M Y hN (by omega) (by omega) hM hY hL ht M' Y' r s h1 h2
    have eK : (nI (L + i)).toInt = ((L + i : Nat) : Int) := nI_toInt (by omega)
    intro j hj
    rw [g1] at hj
    exact g2 j (by omega)
  | succ k ih =>
    intro i n1 n2 M Y hi hn1 hn2 hM hY ht M' Y' r s h1 h2
    obtain ⟨n1, rfl⟩ : ∃ m, n1 = m + 1 := ⟨n1 - 1, by omega⟩
    obtain ⟨n2, rfl⟩ : ∃ m, n2 = m + 1 := ⟨n2 - 1, by omega⟩
    have old : ∀ j : Nat, (j : Int) < (M.1 21 2).toInt → M.1 22 j = Y.1 1 j := by
      intro j hj
      rw [hM] at hj
      exact ht j (by omega)
    have hb : q_Reader_byteOf M w (nI i) = some (M, bX w (nI i)) := rfl
    rw [q_Reader_append_28, if_neg (nI_ge (by omega) (by omega)), hb, cal_s] at h1
    rw [q_ChipMapModel_type_33, if_neg (nI_ge (by omega) (by omega)), lq_s] at h2
    change (if bM w (nI i) < 33 then (some (Y, 0) : Rs) else (if bM w (nI i) ≤ 126 then q_ChipMapModel_type_33 n2 Y w (nI N) (nI i + 1) else some (Y, 0))) = some (Y', s) at h2
    rw [← bXM w i (by omega)] at h2
    by_cases c1 : bX w (nI i) < 33
    · rw [if_pos c1] at h1 h2
      obtain ⟨rfl, -⟩ := rs_e h1
      obtain ⟨rfl, -⟩ := rs_e h2
      exact old
    · rw [if_neg c1] at h1 h2
      by_cases c2 : bX w (nI i) ≤ 126
      · rw [if_pos c2, nI_1] at h1 h2
        exact ih (i + 1) n1 n2 M Y (by omega) (by omega) (by omega) hM hY ht M' Y' r s h1 h2
      · rw [if_neg c2] at h1 h2
        obtain ⟨rfl, -⟩ := rs_e h1
        obtain ⟨rfl, -⟩ := rs_e h2
        exact old
theorem ty_rel {M Y : Mm} {L : Nat} (hM : M.1 21 2 = nI L) (hY : Y.1 0 2 = nI L) (hL : L ≤ 480) (ht : ∀ j : Nat, (j : Int) < (M.1 21 2).toInt → M.1 22 j = Y.1 1 j) {w : Int64} {n : Int32} {M' Y' : Mm} {r s : Int32} (h0 : q_ChipMap_type M w n = some (M', r)) (h2 : q_ChipMapModel_type Y w n = some (Y', s)) : ∀ j : Nat, (j : Int) < (M'.1 21 2).toInt → M'.1 22 j = Y'.1 1 j := by
  have eL : (nI L).toInt = (L : Int) := nI_toInt (by omega)
  unfold q_ChipMap_type at h0
  obtain ⟨M1, r1, h1, h3⟩ := cal_o h0
  have h3 := bz_r h3
  obtain ⟨rfl, -⟩ := rs_e h3
  unfold q_Reader_append at h1
  unfold q_ChipMapModel_type at h2
  rw [lq_s] at h2
  obtain ⟨Y1, eY⟩ : ∃ z, z = stI Y 0 (upd (Y.1 0) 0 0) := ⟨_, rfl⟩
  rw [← eY] at h2
  have hY1 : Y1.1 0 2 = nI L := by
    rw [eY]
    exact hY
  have ht1 : ∀ j : Nat, (j : Int) < (M.1 21 2).toInt → M.1 22 j = Y1.1 1 j := by
    rw [eY]
    exact ht
  by_cases c1 : n < 1
  · rw [if_pos c1] at h1 h2
    obtain ⟨rfl, -⟩ := rs_e h1
    obtain ⟨rfl, -⟩ := rs_e h2
    exact ht1
  rw [if_neg c1] at h1 h2
  by_cases c8 : 8 < n
  · rw [if_pos c8] at h1 h2
    obtain ⟨rfl, -⟩ := rs_e h1
    obtain ⟨rfl, -⟩ := rs_e h2
    exact ht1
  rw [if_neg c8] at h1 h2
  obtain ⟨N, hN1, hN8, rfl⟩ := nI_18 c1 c8
  rw [hM, nI_add] at h1
  rw [hY1, nI_add] at h2
  by_cases cL : nI (L + N) ≤ 480
  · rw [if_pos cL] at h1 h2
    have hLN : L + N ≤ 480 := (nI_leI (b := 480) (by omega) (by decide)).mp cL
    have a := ty_28 w hN8 hLN N 0 4000 4000 M Y1 (by omega) (by omega) (by omega) hM hY1 (fun j hj => ht1 j (by rw [hM]; omega))
    rw [nI_0] at a
    exact a M1 Y' r1 s h1 h2
  · rw [if_neg cL] at h1 h2
    obtain ⟨rfl, -⟩ := rs_e h1
    obtain ⟨rfl, -⟩ := rs_e h2
    exact ht1
end
