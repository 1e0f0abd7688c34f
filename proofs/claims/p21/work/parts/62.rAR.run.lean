section
-- a fetch of both sides; run()
theorem PL.s57 {A B M N : Mm} (h : PL A B M N) (x : Int32) : PL A B M (stI N 0 (upd (N.1 0) 57 x)) := by
  obtain ⟨f1, f2, rp, hl, la, md, rf, e58, e47, g1, g2, g3, g4⟩ := h
  have np : ∀ p, p ≠ 0 → (stI N 0 (upd (N.1 0) 57 x)).1 p = N.1 p := fun p hp => stI_ne _ _ hp
  have ns : ∀ i, i ≠ 57 → (stI N 0 (upd (N.1 0) 57 x)).1 0 i = N.1 0 i := fun i hi => by rw [stI_at, updN hi]
  refine ⟨f1, f2, rp, hl.n (fun p h1 h2 => np p (by omega)), la.n (fun p h1 h2 => np p (by omega)) (fun i hi => ns i (by omega)), md.n (np 33 (by decide)) (np 36 (by decide)), ?_, ?_, ?_, fun p h1 h2 => ?_, fun j j1 j2 j3 j4 => ?_, fun f hf => ?_, fun k hk => ?_⟩
  · rw [ns 55 (by decide)]; exact rf
  · rw [ns 58 (by decide)]; exact e58
  · rw [ns 47 (by decide)]; exact e47
  · rw [np p h1]; exact g1 p h1 h2
  · rw [ns j j4]; exact g2 j j1 j2 j3 j4
  · rw [np 33 (by decide)]; exact g3 f hf
  · rw [np 36 (by decide)]; exact g4 k hk
theorem rd_rd {M N : Mm} (h : RD M N) (hlg : 0 ≤ (M.1 53 0).toInt) {t : Int32} (ht : 0 ≤ t.toInt ∧ t.toInt ≤ 15) {M3 N3 : Mm} {x y : Int32} (d1 : q_Device_read M t = some (M3, x)) (d2 : q_ChipMapModel_read N t = some (N3, y)) : RD M3 N3 ∧ (∀ p, p ≠ 0 → (p < 33 ∨ 40 ≤ p ∨ p = 36) → N3.1 p = N.1 p) ∧ (∀ j, j ≠ 47 → N3.1 0 j = N.1 0 j) ∧ N3.1 0 47 = N.1 0 47 + 1 ∧ kX M M3 := by
  have h0 := h
  obtain ⟨hl1, la1, md1, e47, e48, e58, jn, sp⟩ := h0
  obtain ⟨w1, w2⟩ := dr_i d1
  obtain ⟨N4, y', y1, y2, y3, y4, y5, y6, -⟩ := r4_l hl1 (by rw [← e47]; exact hlg) (r := t) ht 26 4000 N 0 0 (by decide) (by decide) (by decide) (fun _ _ _ _ => rfl) rfl (fun _ _ _ => rfl) (fun _ _ => rfl)
  unfold q_ChipMapModel_read at d2
  rw [y1] at d2
  obtain ⟨rfl, -⟩ := rs_e d2
  have ed : dz N = 1 := if_pos e58
  rw [ed] at y4
  have kx : kX M M3 := fun p hp => w1 p (by omega)
  have ky : kY N N4 := ⟨fun p h0 hp => y2 p h0 (by omega), fun j h0 hj => y3 j (by omega)⟩
  refine ⟨h.to kx ky (w1 51 (by omega)) (w1 52 (by omega)) (by rw [w1 50 (by omega)]) (by rw [w2, y4, e47]) (fun p h1 h2 => w1 p (by omega)) (fun f hp hk => y6 f hp hk) ?_ ?_ ?_ ?_ ?_ (fun p h1 h2 => ?_), y2, y3, y4, kx⟩
  · exact y2 36 (by decide) (by omega)
  · exact y3 48 (by decide)
  · exact y3 58 (by decide)
  · exact y3 52 (by decide)
  · exact y3 59 (by decide)
  · exact y2 p (by omega) (by omega)
theorem RD.c {M N M' N' : Mm} (h : RD M N) (x : ∀ p, p ≠ 58 → M'.1 p = M.1 p) (y : ∀ p, p ≠ 35 → N'.1 p = N.1 p) : RD M' N' := by
  have s0 : N'.1 0 = N.1 0 := y 0 (by decide)
  refine h.to (fun p hp => x p (by omega)) ⟨fun p h0 hp => y p (by omega), fun j _ _ => by rw [s0]⟩ (x 51 (by decide)) (x 52 (by decide)) (by rw [x 50 (by decide)]) ?_ (fun p h1 h2 => x p (by omega)) (fun f _ _ => by rw [y 33 (by decide)]) (y 36 (by decide)) (by rw [s0]) (by rw [s0]) (by rw [s0]) (by rw [s0]) (fun p h1 h2 => y p (by omega))
  rw [x 53 (by decide), s0]
  exact h.2.2.2.1
theorem bo_i {M M' : Mm} {f w x : Int32} (q : q_Layout_bitsOf M f w = some (M', x)) : M' = M := by
  unfold q_Layout_bitsOf at q
  exact (rs_e (ix_r (ix_r q))).1.symm
/-- a fetch: reached and read, or refused -/
theorem fet_rd {G : Gx} {K : Int} {A N : Mm} (hI : IX G K A) (hK : K + 16 ≤ 2000000000) (h : RD A N) {f : Int32} (f0 : 0 ≤ f.toInt) (hp : pf A f.toNatClampNeg) {M3 B N5 N' : Mm} {r4 b5 s5 y : Int32} (q1 : q_ChipMap_reachForFetch A f = some (M3, r4)) (u1 : q_ChipMapModel_begin N = some (B, b5)) (u2 : q_ChipMapModel_doFetch B f = some (N5, s5)) (u3 : q_ChipMapModel_end N5 = some (N', y)) : (r4 = 0 ∧ y = -2 ∧ RD M3 N') ∨ (r4 = 1 ∧ y ≠ -2 ∧ ∀ (M5 : Mm) (r6 : Int32), q_ChipMap_readOut M3 f = some (M5, r6) → RD M5 N') := by
  have hb := beg_e u1
  have px := PX.of hI (by omega) h hb
  have t := tnc f0
  have hp1 := hp.1
  have k26 : vp_in f 26 := vI (by omega)
  unfold q_ChipMap_reachForFetch at q1
  obtain ⟨M1, s1, p1, q1⟩ := cal_o q1
  obtain ⟨M2, s2, p2, q1⟩ := cal_o q1
  obtain ⟨M4, x, p3, q1⟩ := cal_o q1
  obtain ⟨g1, g2, g3, g4, g5⟩ := pb_e p1
  have pl0 := pl_0 h.1 h.2.1 h.2.2.1 hb px.1.1.2 g1 g2 g3 g4 g5
  unfold q_Plan_addFetch at p2
  have p2 := ix_r p2
  rw [g1 39 (by omega)] at p2
  unfold q_ChipMapModel_doFetch at u2
  have u2 := ix_r u2
  rw [lq_s] at u2
  have pl1 := pl0.s57 (B.1 33 f.toNatClampNeg)
  generalize hB1 : stI B 0 (upd (B.1 0) 57 (B.1 33 f.toNatClampNeg)) = B1 at u2 pl1
  have u2 := ix_r u2
  have hl1 := pl1.2.2.2.1
  have lp := lf_p hl1 hp
  obtain ⟨i0, -, -, i3⟩ := ac_0 lp.2.2.2.1.1 lp.2.2.2.1.2
  have r01 : r4 = if x = -2 then 0 else 1 := by
    by_cases c : x = -2
    · rw [if_pos c] at q1 ⊢
      exact (rs_e q1).2.symm
    · rw [if_neg c] at q1 ⊢
      exact (rs_e q1).2.symm
  have eM : M4 = M3 := by
    by_cases c : x = -2
    · rw [if_pos c] at q1
      exact (rs_e q1).1
    · rw [if_neg c] at q1
      exact (rs_e q1).1
  subst eM
  by_cases cw : A.1 39 f.toNatClampNeg = 0
  · rw [if_pos cw] at p2
    rw [if_pos (i0.mp cw)] at u2
    obtain ⟨rfl, -⟩ := rs_e p2
    obtain ⟨rfl, -⟩ := rs_e u2
    obtain ⟨e, r, kx⟩ := pl_end h px.1 hb pl1 p3 u3
    have x2 : x ≠ -2 := by
      rcases dw_e pl1 px.1 p3 with ⟨c, -, -⟩ | ⟨-, c, -⟩
      · exact absurd g3 c
      · rw [c, g2]; decide
    refine Or.inr ⟨by rw [r01, if_neg x2], by rw [← e]; exact x2, fun M5 r6 z => ?_⟩
    unfold q_ChipMap_readOut at z
    have z := ix_r z
    rw [lq_s, kx 39 (by decide), if_pos cw] at z
    obtain ⟨M6, s6, z1, z⟩ := cal_o z
    obtain ⟨rfl, -⟩ := rs_e z
    unfold q_Device_valueOf at z1
    have z1 := ix_r z1
    rw [lq_s] at z1
    have z1 := ix_r (ix_r z1)
    obtain ⟨M7, s7, z2, z1⟩ := cal_o z1
    obtain ⟨rfl, -⟩ := rs_e z1
    rw [bo_i z2]
    exact r
  rw [if_neg cw] at p2
  have p2 := ix_r p2
  obtain ⟨M6, s6, p4, p2⟩ := cal_o p2
  obtain ⟨rfl, -⟩ := rs_e p2
  rw [if_neg (fun z => cw (i0.mpr z))] at u2
  have u2 := ix_r u2
  rw [← lp.2.1] at u2
  obtain ⟨N2, s7, u4, u2⟩ := cal_o u2
  rw [g1 38 (by omega)] at p4
  obtain ⟨pl2, -⟩ := reach_rel pl1 px ⟨lp.2.2.1, hI.hr _⟩ (by rw [g2]; decide) p4 u4
  have rf := pl2.2.2.2.2.2.2.1
  have f1 := pl2.1
  have f2 := pl2.2.1
  by_cases c55 : N2.1 0 55 = 0
  rotate_left
  · rw [if_neg c55] at u2
    obtain ⟨rfl, -⟩ := rs_e u2
    have c5 : M6.1 60 5 ≠ 0 := by
      rcases rf with ⟨-, z⟩ | ⟨z, -⟩
      · exact absurd z c55
      · exact z
    rcases dw_e pl2 px.1 p3 with ⟨-, x2, rfl⟩ | ⟨c, -⟩
    · obtain ⟨y0, r⟩ := pl_ref h px.1.1.2 hb pl2 c55 u3
      exact Or.inl ⟨by rw [r01, if_pos x2], y0, r⟩
    · exact absurd c c5
  rw [if_pos c55] at u2
  have c5 : M6.1 60 5 = 0 := by
    rcases rf with ⟨z, -⟩ | ⟨-, z⟩
    · exact z
    · exact absurd c55 z
  rcases dw_e pl2 px.1 p3 with ⟨c, -⟩ | ⟨-, ex, hM⟩
  · exact absurd c5 c
  have x2 : x ≠ -2 := by
    intro z
    rw [← ex, z] at f2
    exact absurd f2.1 (by decide)
  obtain ⟨r, kx⟩ := pl_done h hb pl2 hM
  have u2 := ix_r u2
  rw [lq_s] at u2
  have r3 := r.s0 (j := 57) (N2.1 33 f.toNatClampNeg) (by decide)
  obtain ⟨-, -, -, hl2, -, -, -, -, g47, -, gg, -, -⟩ := pl2
  have lp2 := lf_p hl2 hp
  generalize hN3 : stI N2 0 (upd (N2.1 0) 57 (N2.1 33 f.toNatClampNeg)) = N3 at u2 r3
  have np : ∀ p, p ≠ 0 → N3.1 p = N2.1 p := fun p hq => by rw [← hN3]; exact stI_ne _ _ hq
  have ns : ∀ i, i ≠ 57 → N3.1 0 i = N2.1 0 i := fun i hi => by rw [← hN3, stI_at, updN hi]
  have u2 := ix_r u2
  rw [np 25 (by decide), ← lp2.2.1] at u2
  obtain ⟨N4, s8, u5, u2⟩ := cal_o u2
  have hlgA := hI.log
  have hm53 := hM.2.2.2
  have hlg : 0 ≤ (M4.1 53 0).toInt := by
    rw [hm53, iadd rfl rfl (by omega) (by omega)]
    omega
  have fin : ∀ (M5 : Mm) (r6 : Int32), q_ChipMap_readOut M4 f = some (M5, r6) → RD M5 N5 := by
    intro M5 r6 z
    unfold q_ChipMap_readOut at z
    have z := ix_r z
    rw [lq_s, kx 39 (by decide), if_neg cw] at z
    have z := ix_r z
    rw [lq_s, kx 38 (by decide)] at z
    obtain ⟨M7, s9, z1, z⟩ := cal_o z
    obtain ⟨rr, a1, a2, a3, kx7⟩ := rd_rd r3 hlg ⟨lp.2.2.1, hI.hh _⟩ z1 u5
    have mm : ∀ p, p ≠ 58 → M5.1 p = M7.1 p := by
      by_cases c3 : A.1 39 f.toNatClampNeg = 3
      · rw [if_pos c3] at z
        obtain ⟨M8, s10, z2, z⟩ := cal_o z
        obtain ⟨rfl, -⟩ := rs_e z
        unfold q_Device_takeKept at z2
        have z2 := ix_r z2
        rw [lq_s] at z2
        have z2 := ix_r z2
        obtain ⟨M9, s11, z3, z2⟩ := cal_o z2
        have z2 := ix_r (ix_r (ix_r z2))
        rw [lq_s] at z2
        obtain ⟨rfl, -⟩ := rs_e z2
        rw [bo_i z3]
        exact fun p hq => stI_ne _ _ hq
      · rw [if_neg c3] at z
        obtain ⟨M8, s10, z2, z⟩ := cal_o z
        obtain ⟨rfl, -⟩ := rs_e z
        rw [bo_i z2]
        exact fun _ _ => rfl
    have u2' := ix_r u2
    by_cases c9 : N4.1 24 f.toNatClampNeg = 99
    · rw [if_pos c9] at u2'
      have u2' := ix_r u2'
      rw [lq_s] at u2'
      have u2' := ix_r u2'
      rw [lq_s] at u2'
      obtain ⟨rfl, -⟩ := rs_e u2'
      exact (rr.s0 (j := 57) (N4.1 35 f.toNatClampNeg) (by decide)).c mm (fun p hq => stI_ne _ _ hq)
    · rw [if_neg c9] at u2'
      obtain ⟨rfl, -⟩ := rs_e u2'
      exact rr.c mm (fun _ _ => rfl)
  have sl : N5.1 0 55 = 0 ∧ N5.1 0 71 = N3.1 0 71 ∧ N5.1 0 47 = N3.1 0 47 + 1 := by
    obtain ⟨N9, y', y1, y2, y3, y4, y5, y6, -⟩ := r4_l r3.1 (by rw [← r3.2.2.2.1]; exact hlg) (r := A.1 38 f.toNatClampNeg) ⟨lp.2.2.1, hI.hh _⟩ 26 4000 N3 0 0 (by decide) (by decide) (by decide) (fun _ _ _ _ => rfl) rfl (fun _ _ _ => rfl) (fun _ _ => rfl)
    unfold q_ChipMapModel_read at u5
    rw [y1] at u5
    obtain ⟨rfl, -⟩ := rs_e u5
    have ed : dz N3 = 1 := if_pos r3.2.2.2.2.2.1
    rw [ed] at y4
    have u2' := ix_r u2
    have ss : N5.1 0 55 = N9.1 0 55 ∧ N5.1 0 71 = N9.1 0 71 ∧ N5.1 0 47 = N9.1 0 47 := by
      by_cases c9 : N9.1 24 f.toNatClampNeg = 99
      · rw [if_pos c9] at u2'
        have u2' := ix_r u2'
        rw [lq_s] at u2'
        have u2' := ix_r u2'
        rw [lq_s] at u2'
        obtain ⟨rfl, -⟩ := rs_e u2'
        exact ⟨rfl, rfl, rfl⟩
      · rw [if_neg c9] at u2'
        obtain ⟨rfl, -⟩ := rs_e u2'
        exact ⟨rfl, rfl, rfl⟩
    rw [ss.1, ss.2.1, ss.2.2, y3 55 (by decide), y3 71 (by decide), y4, ns 55 (by decide)]
    exact ⟨c55, rfl, rfl⟩
  obtain ⟨rfl, ey⟩ := end_0 sl.1 u3
  refine Or.inr ⟨by rw [r01, if_neg x2], ?_, fin⟩
  have edB : dz B = 1 := if_pos (by rw [hb.2.1 58 (by decide) (by decide)]; exact h.2.2.2.2.2.1)
  rw [ey, sl.2.1, sl.2.2, ns 71 (by decide), ns 47 (by decide), g47, gg 71 (by decide) (by decide) (by decide) (by decide), hb.2.2.2.1, hb.2.1 47 (by decide) (by decide), edB, Int32.one_mul]
  intro z
  have e1 : (M6.1 60 2 + 1).toInt = (M6.1 60 2).toInt + 1 := iadd rfl (rfl : (1 : Int32).toInt = 1) (by omega) (by omega)
  rw [Int32.add_assoc, Int32.add_comm, Int32.add_sub_cancel] at z
  rw [z] at e1
  have e2 : (-2 : Int32).toInt = -2 := rfl
  omega
theorem pf_fet {M : Mm} {a : Int32} (h : q_Layout_canFetch M a = some (M, 1)) : 0 ≤ a.toInt ∧ pf M a.toNatClampNeg := by
  have z26 : (26 : Int32).toInt = 26 := rfl
  have z0 : (0 : Int32).toInt = 0 := rfl
  unfold q_Layout_canFetch q_Layout_has at h
  by_cases c0 : a < 0
  · rw [if_pos c0, cal_s, if_pos rfl] at h
    exact absurd (rs_e h).2 (by decide)
  rw [if_neg c0] at h
  by_cases c26 : 26 ≤ a
  · rw [if_pos c26, cal_s, if_pos rfl] at h
    exact absurd (rs_e h).2 (by decide)
  rw [if_neg c26] at h
  have a0 : 0 ≤ a.toInt := by
    by_cases c : 0 ≤ a.toInt
    · exact c
    · exact absurd (Int32.lt_iff_toInt_lt.mpr (by omega)) c0
  have a1 : a.toInt < 26 := by
    by_cases c : 26 ≤ a.toInt
    · exact absurd (Int32.le_iff_toInt_le.mpr (by omega)) c26
    · omega
  have t := tnc a0
  have k : vp_in a 26 := vI (by omega)
  rw [ix_e k] at h
  by_cases c1 : M.1 38 a.toNatClampNeg = -1
  · rw [if_pos c1, cal_s, if_pos rfl] at h
    exact absurd (rs_e h).2 (by decide)
  exact ⟨a0, by omega, c1⟩
/-- fetch(): whether it answers or throws -/
theorem fetch_rd {G : Gx} {K : Int} {M N : Mm} (hI : IX G K M) (hK : K + 16 ≤ 2000000000) (rq : RQ M N) (h : RD M N) {a : Int32} {M' N' : Mm} {r1 r2 : Int32} (q1 : q_ChipMap_fetch M a = some (M', r1) ∨ qt_ChipMap_fetch M a = some (M', r1)) (q2 : q_ChipMapModel_fetch N a = some (N', r2)) : RD M' N' := by
  have z0 : (0 : Int32).toInt = 0 := rfl
  unfold q_ChipMap_fetch qt_ChipMap_fetch q_ChipMap_fetch_37 qt_ChipMap_fetch_37 at q1
  unfold q_ChipMapModel_fetch q_ChipMapModel_raise at q2
  obtain ⟨t, x, y, ht⟩ := fet_eq hI rq h.1 a
  rw [x, cal_s, cal_s] at q1
  rw [y, cal_s] at q2
  rcases ht with rfl | rfl
  · rw [if_pos rfl, if_pos rfl] at q1
    rw [if_pos rfl, lq_s, cal_s] at q2
    rcases q1 with q1 | q1
    · cases q1
    · obtain ⟨rfl, -⟩ := rs_e q1
      obtain ⟨rfl, -⟩ := rs_e q2
      exact h.s0 1 (by decide)
  rw [if_neg (by decide : ¬ (1 : Int32) = 0), if_neg (by decide : ¬ (1 : Int32) = 0)] at q1
  rw [if_neg (by decide : ¬ (1 : Int32) = 0)] at q2
  have jn := h.2.2.2.2.2.2.1.1
  rw [← jn] at q2
  by_cases cj : 0 < M.1 65 0
  · have cj' : ¬ M.1 65 0 ≤ 0 := fun z => by
      have g1 := Int32.lt_iff_toInt_lt.mp cj
      have g2 := Int32.le_iff_toInt_le.mp z
      omega
    rw [if_pos cj, if_pos cj] at q1
    rw [if_neg cj', lq_s, cal_s] at q2
    rcases q1 with q1 | q1
    · cases q1
    · obtain ⟨rfl, -⟩ := rs_e q1
      obtain ⟨rfl, -⟩ := rs_e q2
      exact h.s0 2 (by decide)
  have cj' : M.1 65 0 ≤ 0 := by
    apply Int32.le_iff_toInt_le.mpr
    have g : ¬ (0 : Int32).toInt < (M.1 65 0).toInt := fun z => cj (Int32.lt_iff_toInt_lt.mpr z)
    omega
  rw [if_neg cj, if_neg cj] at q1
  rw [if_pos cj'] at q2
  obtain ⟨B, b1, u1, q2⟩ := cal_o q2
  obtain ⟨N5, b2', u2, q2⟩ := cal_o q2
  obtain ⟨N7, y7, u3, q2⟩ := cal_o q2
  obtain ⟨a0, hp⟩ := pf_fet x
  have key : ∀ {M3 : Mm} {r4 : Int32}, q_ChipMap_reachForFetch M a = some (M3, r4) → ((r4 = 0 ∧ RD M3 N') ∨ (r4 = 1 ∧ ∀ (M5 : Mm) (r6 : Int32), q_ChipMap_readOut M3 a = some (M5, r6) → RD M5 N')) := by
    intro M3 r4 p1
    have e7 : RD M3 N7 → RD M3 N' := fun r => by
      unfold q_ChipMapModel_fetch_51 at q2
      by_cases c : y7 = -2
      · rw [if_pos c, lq_s] at q2
        split at q2
        · obtain ⟨rfl, -⟩ := rs_e q2
          exact r.s0 2 (by decide)
        · obtain ⟨rfl, -⟩ := rs_e q2
          exact r.s0 2 (by decide)
      · rw [if_neg c, lq_s] at q2
        split at q2
        · obtain ⟨rfl, -⟩ := rs_e q2
          exact r.s0 0 (by decide)
        · obtain ⟨rfl, -⟩ := rs_e q2
          exact r.s0 0 (by decide)
    have e8 : ∀ M5 : Mm, RD M5 N7 → RD M5 N' := fun M5 r => by
      unfold q_ChipMapModel_fetch_51 at q2
      by_cases c : y7 = -2
      · rw [if_pos c, lq_s] at q2
        split at q2
        · obtain ⟨rfl, -⟩ := rs_e q2
          exact r.s0 2 (by decide)
        · obtain ⟨rfl, -⟩ := rs_e q2
          exact r.s0 2 (by decide)
      · rw [if_neg c, lq_s] at q2
        split at q2
        · obtain ⟨rfl, -⟩ := rs_e q2
          exact r.s0 0 (by decide)
        · obtain ⟨rfl, -⟩ := rs_e q2
          exact r.s0 0 (by decide)
    rcases fet_rd hI hK h a0 hp p1 u1 u2 u3 with ⟨z1, -, z3⟩ | ⟨z1, -, z3⟩
    · exact Or.inl ⟨z1, e7 z3⟩
    · exact Or.inr ⟨z1, fun M5 r6 z => e8 M5 (z3 M5 r6 z)⟩
  rcases q1 with q1 | q1
  · obtain ⟨M3, r4, p1, q1⟩ := cal_o q1
    rcases key p1 with ⟨rfl, -⟩ | ⟨rfl, k⟩
    · rw [if_pos rfl] at q1
      cases q1
    · rw [if_neg (by decide : ¬ (1 : Int32) = 0)] at q1
      obtain ⟨M5, r6, p2, q1⟩ := cal_o q1
      obtain ⟨rfl, -⟩ := rs_e q1
      exact k _ _ p2
  · obtain ⟨M3, r4, p1, q1⟩ := cal_o q1
    rcases key p1 with ⟨rfl, k⟩ | ⟨rfl, -⟩
    · rw [if_pos rfl] at q1
      obtain ⟨rfl, -⟩ := rs_e q1
      exact k
    · rw [if_neg (by decide : ¬ (1 : Int32) = 0)] at q1
      obtain ⟨M5, r6, p2, q1⟩ := cal_o q1
      cases q1
end
section
-- run()
theorem bit_u {x i : Int32} (hi : 0 ≤ i.toInt ∧ i.toInt < 32) : ((((x : Int32).toUInt32 >>> ((i : Int32).toUInt32 &&& Int32.toUInt32 31)).toInt32) &&& 1 = 1) ↔ tb x i.toNatClampNeg = true := by
  have et : i.toNatClampNeg = i.toInt.toNat := rfl
  have hs : ((i : Int32).toUInt32 &&& Int32.toUInt32 31).toBitVec % 32#32 = BitVec.ofNat 32 i.toInt.toNat := by
    have key : ∀ k : Fin 32, ((Int32.ofNat k.val).toUInt32 &&& Int32.toUInt32 31).toBitVec % 32#32 = BitVec.ofNat 32 k.val := by decide
    have z := key ⟨i.toInt.toNat, by omega⟩
    rw [show (⟨i.toInt.toNat, by omega⟩ : Fin 32).val = i.toInt.toNat from rfl, ← of_i (v := i) hi.1] at z
    exact z
  have h1 : tb ((((x : Int32).toUInt32 >>> ((i : Int32).toUInt32 &&& Int32.toUInt32 31)).toInt32)) 0 = tb x i.toNatClampNeg := by
    show (x.toBitVec >>> (((i : Int32).toUInt32 &&& Int32.toUInt32 31).toBitVec % 32#32)).getLsbD 0 = x.toBitVec.getLsbD i.toNatClampNeg
    rw [hs, BitVec.ushiftRight_eq', BitVec.getLsbD_ushiftRight, BitVec.toNat_ofNat, Nat.mod_eq_of_lt (by omega), et, Nat.add_zero]
  have h0 : tb ((((x : Int32).toUInt32 >>> ((i : Int32).toUInt32 &&& Int32.toUInt32 31)).toInt32) &&& 1) 0 = tb x i.toNatClampNeg := by
    rw [tb_and, one_b, h1]
    cases tb x i.toNatClampNeg <;> rfl
  constructor
  · intro h
    rw [← h0, h, one_b]
    rfl
  · intro h
    apply tb_ext
    intro b _
    by_cases c : b = 0
    · rw [c, h0, h, one_b]
      rfl
    · rw [tb_and, one_b, decide_eq_false c, Bool.and_false]
theorem gb_e : ∀ k : Fin 301, (Int32.ofNat k.val &&& 31) = Int32.ofNat k.val - Int32.ofNat k.val / 32 * 32 ∧ 0 ≤ (Int32.ofNat k.val &&& 31).toInt ∧ (Int32.ofNat k.val &&& 31).toInt < 32 := by decide +kernel
theorem go_b {c g : Int32} (hg : 0 ≤ g.toInt ∧ g.toInt ≤ 300) : ((((c : Int32).toUInt32 >>> (((g &&& 31) : Int32).toUInt32 &&& Int32.toUInt32 31)).toInt32) &&& 1 = 1) ↔ ((c >>> ((g - g / 32 * 32) &&& 31)) &&& 1 = 1) := by
  have e : g = Int32.ofNat g.toInt.toNat := of_i hg.1
  obtain ⟨k1, k2⟩ := gb_e ⟨g.toInt.toNat, by omega⟩
  rw [show (⟨g.toInt.toNat, by omega⟩ : Fin 301).val = g.toInt.toNat from rfl, ← e] at k1 k2
  rw [bit_u k2, ← k1, bit_1 k2]
theorem HasF.pf {G : Gx} {K : Int} {M : Mm} (hI : IX G K M) {f : Int32} (h : HasF G.hm f) : 0 ≤ f.toInt ∧ pf M f.toNatClampNeg := by
  have t := tnc h.1
  refine ⟨h.1, by have := h.2.1; omega, fun z => ?_⟩
  have z2 := h.2.2
  rw [← hI.hmE, z] at z2
  exact absurd z2 (by decide)
/-- one step of a script that is a put or a fetch -/
theorem ds_rd {G : Gx} {K : Int} {M N : Mm} (hI : IX G K M) (hK : K + 17 ≤ 2000000000) (h : RD M N) {k : Int32} (hk : 0 ≤ k.toInt ∧ k.toInt < (M.1 69 0).toInt) (f0 : 0 ≤ (M.1 71 k.toNatClampNeg).toInt) (hp : pf M (M.1 71 k.toNatClampNeg).toNatClampNeg) {M1 B : Mm} {s1 b1 : Int32} (p1 : q_ChipMap_doStep M k = some (M1, s1)) (u1 : q_ChipMapModel_begin N = some (B, b1)) {N4 N6 : Mm} {r5 y : Int32} (u2 : (M.1 70 k.toNatClampNeg ≠ 1 ∧ q_ChipMapModel_doPut B (B.1 43 k.toNatClampNeg) (B.1 44 k.toNatClampNeg) = some (N4, r5)) ∨ (M.1 70 k.toNatClampNeg = 1 ∧ q_ChipMapModel_doFetch B (B.1 43 k.toNatClampNeg) = some (N4, r5))) (u3 : q_ChipMapModel_end N4 = some (N6, y)) : ((s1 = 0 ∧ y = -2) ∨ (s1 = 1 ∧ y ≠ -2)) ∧ RD M1 N6 := by
  have tk := tnc hk.1
  have sp := h.2.2.2.2.2.2.2
  obtain ⟨s70, s71, s72⟩ := sp.2 k.toNatClampNeg (by omega)
  have hb := beg_e u1
  rw [hb.1 43 (by decide) (by omega), hb.1 44 (by decide) (by omega), ← s71, ← s72] at u2
  unfold q_ChipMap_doStep at p1
  have p1 := ix_r p1
  rw [lq_s] at p1
  have p1 := ix_r p1
  rcases u2 with ⟨c1, u2⟩ | ⟨c1, u2⟩
  · rw [if_neg c1] at p1
    obtain ⟨M2, a2, p2, p1⟩ := cal_o p1
    have p1 := ix_r p1
    obtain ⟨M4, a4, p4, p1⟩ := cal_o p1
    obtain ⟨M6, a6, p6, p1⟩ := cal_o p1
    obtain ⟨g1, g2, g3, g4, g5⟩ := pb_e p2
    rw [g1 72 (by omega)] at p4
    have px := PX.of hI (by omega) h hb
    have pl := pl_0 h.1 h.2.1 h.2.2.1 hb px.1.1.2 g1 g2 g3 g4 g5
    have pl2 := put_pl pl px f0 hp (hI.hr _) (by rw [g2]; decide) p4 u2
    obtain ⟨e, r, -⟩ := pl_end h px.1 hb pl2 p6 u3
    by_cases c : a6 = -2
    · rw [if_pos c] at p1
      obtain ⟨rfl, rfl⟩ := rs_e p1
      exact ⟨Or.inl ⟨rfl, by rw [← e]; exact c⟩, r⟩
    · rw [if_neg c] at p1
      obtain ⟨rfl, rfl⟩ := rs_e p1
      exact ⟨Or.inr ⟨rfl, by rw [← e]; exact c⟩, r⟩
  · rw [if_pos c1] at p1
    obtain ⟨M2, a2, p2, p1⟩ := cal_o p1
    rcases fet_rd hI (by omega) h f0 hp p2 u1 u2 u3 with ⟨rfl, z2, z3⟩ | ⟨rfl, z2, z3⟩
    · rw [if_pos rfl] at p1
      obtain ⟨rfl, rfl⟩ := rs_e p1
      exact ⟨Or.inl ⟨rfl, z2⟩, z3⟩
    · rw [if_neg (by decide : ¬ (1 : Int32) = 0)] at p1
      obtain ⟨M4, a4, p4, p1⟩ := cal_o p1
      obtain ⟨rfl, rfl⟩ := rs_e p1
      exact ⟨Or.inr ⟨rfl, z2⟩, z3 _ _ p4⟩
theorem run_l {G : Gx} {K : Int} (hK : K + 5100 ≤ 2000000000) : ∀ (n1 n2 : Nat) (M N : Mm) (c k g d : Int32), IX G (K + 17 * d.toInt) M → RD M N → (0 ≤ d.toInt ∧ d.toInt ≤ 300) → (0 ≤ k.toInt ∧ k.toInt ≤ 40) → (0 ≤ g.toInt ∧ g.toInt ≤ d.toInt) → ∀ (M' N' : Mm) (r1 r2 : Int32), q_ChipMap_run_26 n1 M c k g d = some (M', r1) → q_ChipMapModel_run_28 n2 N c k g d = some (N', r2) → r1 = r2 ∧ RD M' N' := by
  have e300 : (300 : Int32).toInt = 300 := rfl
  intro n1
  induction n1 with
  | zero =>
    intro n2 M N c k g d _ _ _ _ _ M' N' r1 r2 q1
    rw [q_ChipMap_run_26] at q1
    cases q1
  | succ n1 ih =>
    intro n2 M N c k g d hI h hd hk hg M' N' r1 r2 q1 q2
    obtain ⟨n2, rfl⟩ : ∃ m, n2 = m + 1 := by
      cases n2 with
      | zero => rw [q_ChipMapModel_run_28] at q2; cases q2
      | succ m => exact ⟨m, rfl⟩
    have sp := h.2.2.2.2.2.2.2
    have sc := hI.sc
    rw [q_ChipMap_run_26] at q1
    rw [q_ChipMapModel_run_28, ← sp.1] at q2
    by_cases c300 : 300 ≤ d
    · rw [if_pos c300] at q1 q2
      by_cases ck : k < M.1 69 0
      · rw [if_pos ck] at q1 q2
        obtain ⟨rfl, rfl⟩ := rs_e q1
        obtain ⟨rfl, rfl⟩ := rs_e q2
        exact ⟨rfl, h⟩
      · rw [if_neg ck] at q1 q2
        obtain ⟨rfl, rfl⟩ := rs_e q1
        obtain ⟨rfl, rfl⟩ := rs_e q2
        exact ⟨rfl, h⟩
    rw [if_neg c300] at q1 q2
    have d3 : d.toInt < 300 := by
      by_cases z : 300 ≤ d.toInt
      · exact absurd (Int32.le_iff_toInt_le.mpr (by omega)) c300
      · omega
    have ed : (d + 1).toInt = d.toInt + 1 := iadd rfl (rfl : (1 : Int32).toInt = 1) (by omega) (by omega)
    have eg : (g + 1).toInt = g.toInt + 1 := iadd rfl (rfl : (1 : Int32).toInt = 1) (by omega) (by omega)
    have ek : (k + 1).toInt = k.toInt + 1 := iadd rfl (rfl : (1 : Int32).toInt = 1) (by omega) (by omega)
    by_cases ck : M.1 69 0 ≤ k
    · have ck' : ¬ k < M.1 69 0 := fun z => by
        have g1 := Int32.le_iff_toInt_le.mp ck
        have g2 := Int32.lt_iff_toInt_lt.mp z
        omega
      rw [if_pos ck] at q1
      rw [if_neg ck'] at q2
      obtain ⟨rfl, rfl⟩ := rs_e q1
      obtain ⟨rfl, rfl⟩ := rs_e q2
      exact ⟨rfl, h⟩
    have kl : k.toInt < (M.1 69 0).toInt := by
      by_cases z : (M.1 69 0).toInt ≤ k.toInt
      · exact absurd (Int32.le_iff_toInt_le.mpr z) ck
      · omega
    rw [if_neg ck] at q1
    rw [if_pos (Int32.lt_iff_toInt_lt.mpr kl)] at q2
    have tk := tnc hk.1
    obtain ⟨s70, s71, s72⟩ := sp.2 k.toNatClampNeg (by omega)
    have st := hI.stE k.toNatClampNeg (by omega)
    unfold stp at st
    rw [← hI.skE, ← hI.sfE, ← hI.svE] at st
    have q1 := ix_r q1
    have q2 := ix_r q2
    rw [lq_s, ← s70] at q2
    by_cases c3 : M.1 70 k.toNatClampNeg = 3
    · rw [if_pos c3] at q1 q2
      obtain ⟨rfl, rfl⟩ := rs_e q1
      obtain ⟨rfl, rfl⟩ := rs_e q2
      exact ⟨rfl, h⟩
    rw [if_neg c3] at q1 q2
    have q1 := ix_r q1
    have n3 : (M.1 70 k.toNatClampNeg).toInt ≠ 3 := fun z => c3 (Int32.toInt_inj.mp z)
    by_cases c2 : M.1 70 k.toNatClampNeg = 2
    · rw [if_pos c2] at q1 q2
      have n2' : (M.1 70 k.toNatClampNeg).toInt = 2 := by rw [c2]; rfl
      have hv : 0 ≤ (M.1 72 k.toNatClampNeg).toInt ∧ (M.1 72 k.toNatClampNeg).toInt ≤ 40 := by
        rcases st with z | z | z
        · omega
        · exact z.2
        · omega
      unfold q_ChipMap_run_90 q_ChipMap_run_115 q_ChipMap_run_137 at q1
      unfold q_ChipMapModel_run_92 q_ChipMapModel_run_153 at q2
      by_cases cb : (((c : Int32).toUInt32 >>> (((g &&& 31) : Int32).toUInt32 &&& Int32.toUInt32 31)).toInt32) &&& 1 = 1
      · rw [if_pos cb, if_neg (by decide : ¬ (1 : Int32) = 0)] at q1
        rw [if_pos ((go_b (by omega)).mp cb)] at q2
        have q1 := ix_r q1
        have q2 := ix_r q2
        rw [← s72] at q2
        exact ih n2 M N c _ (g + 1) (d + 1) (hI.mono (by omega)) h (by omega) hv (by omega) M' N' r1 r2 q1 q2
      · rw [if_neg cb, if_pos (rfl : (0 : Int32) = 0)] at q1
        rw [if_neg (fun z => cb ((go_b (by omega)).mpr z))] at q2
        exact ih n2 M N c _ (g + 1) (d + 1) (hI.mono (by omega)) h (by omega) (by omega) (by omega) M' N' r1 r2 q1 q2
    rw [if_neg c2] at q1 q2
    have n2' : (M.1 70 k.toNatClampNeg).toInt ≠ 2 := fun z => c2 (Int32.toInt_inj.mp z)
    have hf : ((M.1 70 k.toNatClampNeg).toInt = 0 ∨ (M.1 70 k.toNatClampNeg).toInt = 1) ∧ HasF G.hm (M.1 71 k.toNatClampNeg) := by
      rcases st with z | z | z
      · exact absurd z n3
      · exact absurd z.1 n2'
      · exact z
    obtain ⟨f0, hp⟩ := hf.2.pf hI
    obtain ⟨M1, s1, p1, q1⟩ := cal_o q1
    obtain ⟨B, b1, u1, q2⟩ := cal_o q2
    obtain ⟨M1', s1', w1, w2, -⟩ := w_ChipMap_doStep hI (by omega) k ⟨hk.1, kl⟩ (by rw [← hI.skE]; exact ⟨n3, n2'⟩)
    rw [p1] at w1
    obtain ⟨rfl, rfl⟩ := rs_e w1
    have key : ∀ (N4 : Mm) (r5 : Int32), ((M.1 70 k.toNatClampNeg ≠ 1 ∧ q_ChipMapModel_doPut B (B.1 43 k.toNatClampNeg) (B.1 44 k.toNatClampNeg) = some (N4, r5)) ∨ (M.1 70 k.toNatClampNeg = 1 ∧ q_ChipMapModel_doFetch B (B.1 43 k.toNatClampNeg) = some (N4, r5))) → q_ChipMapModel_run_137 (q_ChipMapModel_run_28 n2) N4 c k g d = some (N', r2) → r1 = r2 ∧ RD M' N' := by
      intro N4 r5 u2 z
      unfold q_ChipMapModel_run_137 q_ChipMapModel_run_153 at z
      obtain ⟨N6, y, u3, z⟩ := cal_o z
      obtain ⟨e, r⟩ := ds_rd hI (by omega) h ⟨hk.1, kl⟩ f0 hp p1 u1 u2 u3
      unfold q_ChipMap_run_137 at q1
      rcases e with ⟨e1, e2⟩ | ⟨e1, e2⟩
      · rw [if_pos e1] at q1
        rw [if_pos e2] at z
        obtain ⟨rfl, rfl⟩ := rs_e q1
        obtain ⟨rfl, rfl⟩ := rs_e z
        exact ⟨rfl, r⟩
      · rw [if_neg (by rw [e1]; decide)] at q1
        rw [if_neg e2] at z
        exact ih n2 M1 N6 c (k + 1) g (d + 1) (w2.mono (by omega)) r (by omega) (by omega) (by omega) M' N' r1 r2 q1 z
    by_cases c0 : M.1 70 k.toNatClampNeg = 0
    · rw [if_pos c0] at q2
      have q2 := ix_r (ix_r q2)
      obtain ⟨N4, r5, u2, q2⟩ := cal_o q2
      exact key N4 r5 (Or.inl ⟨by rw [c0]; decide, u2⟩) q2
    · rw [if_neg c0] at q2
      have q2 := ix_r q2
      obtain ⟨N4, r5, u2, q2⟩ := cal_o q2
      refine key N4 r5 (Or.inr ⟨?_, u2⟩) q2
      apply Int32.toInt_inj.mp
      have n0 : (M.1 70 k.toNatClampNeg).toInt ≠ 0 := fun z => c0 (Int32.toInt_inj.mp z)
      have e1 : (1 : Int32).toInt = 1 := rfl
      have := hf.1
      omega
theorem run_rd {G : Gx} {K : Int} {M N : Mm} (hI : IX G K M) (hK : K + 5100 ≤ 2000000000) (rq : RQ M N) (h : RD M N) {a : Int32} {M' N' : Mm} {r1 r2 : Int32} (q1 : q_ChipMap_run M a = some (M', r1)) (q2 : q_ChipMapModel_run N a = some (N', r2)) : r1 = r2 ∧ RD M' N' := by
  have z0 : (0 : Int32).toInt = 0 := rfl
  unfold q_ChipMap_run q_ChipMap_hasMap at q1
  unfold q_ChipMapModel_run at q2
  rw [lq_s] at q2
  have h1 := h.n1
  have rq1 := rq.n1
  generalize stI N 0 (upd (N.1 0) 0 0) = N1 at q2 h1 rq1
  rcases rq1.2.2.2 with ⟨g1, g2⟩ | ⟨g1, g2⟩
  · have c : M.1 24 0 ≤ 0 := Int32.le_iff_toInt_le.mpr (by omega)
    rw [if_pos c, cal_s, if_pos rfl] at q1
    rw [if_pos g2] at q2
    obtain ⟨rfl, rfl⟩ := rs_e q1
    obtain ⟨rfl, rfl⟩ := rs_e q2
    exact ⟨rfl, h1⟩
  have c : ¬ M.1 24 0 ≤ 0 := fun c => by
    have := Int32.le_iff_toInt_le.mp c
    omega
  rw [if_neg c, cal_s, if_neg (by decide : ¬ (1 : Int32) = 0)] at q1
  rw [if_neg (by rw [g2]; decide)] at q2
  have jn := h1.2.2.2.2.2.2.1.1
  rw [← jn] at q2
  by_cases cj : M.1 65 0 ≤ 0
  · rw [if_pos cj] at q1 q2
    exact run_l hK 4000 4000 M N1 a 0 0 0 (by rw [z0]; exact hI.mono (by omega)) h1 (by decide) (by decide) (by decide) M' N' r1 r2 q1 q2
  · rw [if_neg cj] at q1 q2
    obtain ⟨rfl, rfl⟩ := rs_e q1
    obtain ⟨rfl, rfl⟩ := rs_e q2
    exact ⟨rfl, h1⟩
end
section
-- flush(): what is told of a register, and whether it is needed
def lst (jf : Nat → Int32) (f : Int32) : Nat → Int32
  | 0 => -1
  | n + 1 => if jf n = f then Int32.ofNat n else lst jf f n
def tdx (A : Mm) (jf jv : Nat → Int32) (r : Int32) : Nat → Int32 × Int32
  | 0 => (0, 0)
  | n + 1 => if A.1 38 (jf n).toNatClampNeg = r then ((tdx A jf jv r n).1 ||| A.1 42 (jf n).toNatClampNeg, (if A.1 39 (jf n).toNatClampNeg = 0 ∨ A.1 39 (jf n).toNatClampNeg = 2 then (tdx A jf jv r n).2 &&& (A.1 42 (jf n).toNatClampNeg ^^^ (-1)) else (tdx A jf jv r n).2) ||| (jv n <<< (A.1 40 (jf n).toNatClampNeg &&& 31))) else tdx A jf jv r n
/-- the puts that wait are of fields, and fit -/
def JF (M : Mm) : Prop := ∀ j : Nat, (j : Int) < (M.1 65 0).toInt → 0 ≤ (M.1 67 j).toInt ∧ pf M (M.1 67 j).toNatClampNeg ∧ (M.1 68 j >>> (M.1 41 (M.1 67 j).toNatClampNeg &&& 31) = 0)
theorem JF.kp {M M' : Mm} (h : JF M) (k : kX M M') (e65 : M'.1 65 = M.1 65) (e67 : M'.1 67 = M.1 67) (e68 : M'.1 68 = M.1 68) : JF M' := by
  unfold JF pf
  rw [e65, e67, e68, k 38 (by decide), k 41 (by decide)]
  exact h
theorem JF.z {M : Mm} (h : M.1 65 0 = 0) : JF M := fun j hj => by
  have z0 : (0 : Int32).toInt = 0 := rfl
  rw [h] at hj
  omega
theorem lst_cg {a b : Nat → Int32} {f : Int32} : ∀ n : Nat, (∀ k, k < n → a k = b k) → lst a f n = lst b f n := by
  intro n
  induction n with
  | zero => intro _; rfl
  | succ n ih =>
    intro h
    rw [lst, lst, h n (by omega), ih (fun k hk => h k (by omega))]
theorem lst_s {a : Nat → Int32} {f : Int32} : ∀ n : Nat, n ≤ 8 → lst a f n = -1 ∨ (0 ≤ (lst a f n).toInt ∧ (lst a f n).toInt < (n : Int) ∧ a (lst a f n).toNatClampNeg = f) := by
  intro n
  induction n with
  | zero => intro _; exact Or.inl rfl
  | succ n ih =>
    intro hn
    rw [lst]
    by_cases c : a n = f
    · rw [if_pos c]
      have e : (Int32.ofNat n).toInt = (n : Int) := Int32.toInt_ofNat_of_lt (by omega)
      have t := tnc (i := Int32.ofNat n) (by omega)
      refine Or.inr ⟨by omega, by omega, ?_⟩
      rw [show (Int32.ofNat n).toNatClampNeg = n by omega]
      exact c
    · rw [if_neg c]
      rcases ih (by omega) with z | ⟨z1, z2, z3⟩
      · exact Or.inl z
      · exact Or.inr ⟨z1, by omega, z3⟩
theorem lst_m {a : Nat → Int32} {f : Int32} : ∀ n : Nat, n ≤ 8 → lst a f n = -1 → ∀ k, k < n → a k ≠ f := by
  intro n
  induction n with
  | zero => intro _ _ k hk; exact nlz hk
  | succ n ih =>
    intro hn h k hk
    rw [lst] at h
    by_cases c : a n = f
    · rw [if_pos c] at h
      have e : (Int32.ofNat n).toInt = (n : Int) := Int32.toInt_ofNat_of_lt (by omega)
      rw [h] at e
      have e2 : (-1 : Int32).toInt = -1 := rfl
      omega
    · rw [if_neg c] at h
      by_cases ck : k = n
      · rw [ck]; exact c
      · exact ih (by omega) h k (by omega)
section TDX
variable {A N : Mm} {jf jv : Nat → Int32} {r : Int32}
theorem td_1 : ∀ n : Nat, ∀ b, tb (tdx A jf jv r n).1 b = true ↔ ∃ k, k < n ∧ A.1 38 (jf k).toNatClampNeg = r ∧ tb (A.1 42 (jf k).toNatClampNeg) b = true := by
  intro n
  induction n with
  | zero =>
    intro b
    show tb 0 b = true ↔ _
    rw [tb_0]
    exact ⟨fun z => absurd z (by decide), fun ⟨k, hk, _⟩ => nlz hk⟩
  | succ n ih =>
    intro b
    rw [tdx]
    by_cases c : A.1 38 (jf n).toNatClampNeg = r
    · rw [if_pos c, tb_or, Bool.or_eq_true, ih b]
      constructor
      · intro z
        rcases z with ⟨k, k1, k2⟩ | z
        · exact ⟨k, by omega, k2⟩
        · exact ⟨n, by omega, c, z⟩
      · intro ⟨k, k1, k2, k3⟩
        by_cases ck : k = n
        · rw [ck] at k3
          exact Or.inr k3
        · exact Or.inl ⟨k, by omega, k2, k3⟩
    · rw [if_neg c, ih b]
      constructor
      · intro ⟨k, k1, k2⟩
        exact ⟨k, by omega, k2⟩
      · intro ⟨k, k1, k2, k3⟩
        by_cases ck : k = n
        · rw [ck] at k2
          exact absurd k2 c
        · exact ⟨k, by omega, k2, k3⟩
/-- the bits of a value at its place lie in the field -/
theorem pl_m (hl : LF A N) (la : LA A N) {f : Nat} (hp : pf A f) {v : Int32} (hv : v >>> (A.1 41 f &&& 31) = 0) {b : Nat} (h : tb (v <<< (A.1 40 f &&& 31)) b = true) : tb (A.1 42 f) b = true := by
  obtain ⟨l1, l2, -, -⟩ := la.1 f hp
  have w1 := (lf_p hl hp).2.2.2.2.2.2
  rw [l2 b, decide_eq_true_eq]
  exact tb_pl l1.1 w1 l1.2 hv b h
theorem td_2 (hl : LF A N) (la : LA A N) {c : Nat} (hj : ∀ k, k < c → 0 ≤ (jf k).toInt ∧ pf A (jf k).toNatClampNeg ∧ (jv k >>> (A.1 41 (jf k).toNatClampNeg &&& 31) = 0)) : ∀ n : Nat, n ≤ c → ∀ b, tb (tdx A jf jv r n).2 b = true → tb (tdx A jf jv r n).1 b = true := by
  intro n
  induction n with
  | zero =>
    intro _ b h
    have h : tb 0 b = true := h
    rw [tb_0] at h
    cases h
  | succ n ih =>
    intro hn b h
    rw [tdx] at h ⊢
    obtain ⟨j0, jp, jt⟩ := hj n (by omega)
    by_cases c : A.1 38 (jf n).toNatClampNeg = r
    · rw [if_pos c] at h ⊢
      rw [tb_or, Bool.or_eq_true] at h
      rw [tb_or, Bool.or_eq_true]
      rcases h with h | h
      · refine Or.inl (ih (by omega) b ?_)
        by_cases d : A.1 39 (jf n).toNatClampNeg = 0 ∨ A.1 39 (jf n).toNatClampNeg = 2
        · rw [if_pos d, tb_and, Bool.and_eq_true] at h
          exact h.1
        · rw [if_neg d] at h
          exact h
      · exact Or.inr (pl_m hl la jp jt h)
    · rw [if_neg c] at h ⊢
      exact ih (by omega) b h
theorem td_3 (hl : LF A N) (la : LA A N) {c : Nat} (c8 : c ≤ 8) (hj : ∀ k, k < c → 0 ≤ (jf k).toInt ∧ pf A (jf k).toNatClampNeg ∧ (jv k >>> (A.1 41 (jf k).toNatClampNeg &&& 31) = 0)) {g : Nat} (hp : pf A g) (hk : knA (A.1 39 g)) (hg : A.1 38 g = r) : ∀ n : Nat, n ≤ c → lst jf (Int32.ofNat g) n ≠ -1 → ∀ b, tb (A.1 42 g) b = true → tb (tdx A jf jv r n).2 b = tb (jv (lst jf (Int32.ofNat g) n).toNatClampNeg <<< (A.1 40 g &&& 31)) b := by
  have eg : (Int32.ofNat g).toInt = (g : Int) := Int32.toInt_ofNat_of_lt (by have := hp.1; omega)
  have tg := tnc (i := Int32.ofNat g) (by omega)
  intro n
  induction n with
  | zero => intro _ h; exact absurd rfl h
  | succ n ih =>
    intro hn h b hb
    rw [lst] at h ⊢
    rw [tdx]
    obtain ⟨j0, jp, jt⟩ := hj n (by omega)
    have tj := tnc j0
    by_cases e : jf n = Int32.ofNat g
    · have en : (jf n).toNatClampNeg = g := by rw [e]; omega
      have e2 : (Int32.ofNat n).toInt = (n : Int) := Int32.toInt_ofNat_of_lt (by omega)
      have t2 := tnc (i := Int32.ofNat n) (by omega)
      rw [if_pos e, en, if_pos hg, show (Int32.ofNat n).toNatClampNeg = n by omega]
      have kk : A.1 39 g = 0 ∨ A.1 39 g = 2 := hk
      rw [if_pos kk, tb_or, tb_and, tb_not, hb]
      cases tb (jv n <<< (A.1 40 g &&& 31)) b <;> simp
    · rw [if_neg e] at h ⊢
      have ng : (jf n).toNatClampNeg ≠ g := fun z => e (Int32.toInt_inj.mp (by omega))
      by_cases c' : A.1 38 (jf n).toNatClampNeg = r
      · rw [if_pos c']
        have m0 : tb (A.1 42 (jf n).toNatClampNeg) b = false := by
          cases z : tb (A.1 42 (jf n).toNatClampNeg) b with
          | false => rfl
          | true => exact absurd ⟨z, hb⟩ (la.2.1 _ _ jp hp ng (by rw [c', hg]) b)
        have v0 : tb (jv n <<< (A.1 40 (jf n).toNatClampNeg &&& 31)) b = false := by
          cases z : tb (jv n <<< (A.1 40 (jf n).toNatClampNeg &&& 31)) b with
          | false => rfl
          | true =>
            have z2 := pl_m hl la jp jt z
            rw [m0] at z2
            cases z2
        have b32 : b < 32 := by
          by_cases z : b < 32
          · exact z
          · exfalso
            have l2 := (la.1 g hp).2.1 b
            have l1 := (la.1 g hp).1
            rw [hb] at l2
            have := of_decide_eq_true l2.symm
            omega
        rw [tb_or, v0, Bool.or_false, ← ih (by omega) h b hb]
        by_cases d : A.1 39 (jf n).toNatClampNeg = 0 ∨ A.1 39 (jf n).toNatClampNeg = 2
        · rw [if_pos d, tb_and, tb_not, m0, decide_eq_true b32]
          cases tb (tdx A jf jv r n).2 b <;> rfl
        · rw [if_neg d]
      · rw [if_neg c']
        exact ih (by omega) h b hb
/-- the reference needs a write of the register for the field g -/
def ndf (A N : Mm) (jf jv : Nat → Int32) (c : Nat) (r : Int32) (g : Nat) : Prop := lst jf (Int32.ofNat g) c ≠ -1 ∧ A.1 38 g = r ∧ (¬ knA (A.1 39 g) ∨ N.1 33 g ≠ jv (lst jf (Int32.ofNat g) c).toNatClampNeg)
theorem nd_eq (hl : LF A N) (la : LA A N) {wd : Nat → Int32} (md : MV A wd N) {c : Nat} (c8 : c ≤ 8) (hj : ∀ k, k < c → 0 ≤ (jf k).toInt ∧ pf A (jf k).toNatClampNeg ∧ (jv k >>> (A.1 41 (jf k).toNatClampNeg &&& 31) = 0)) (hr : 0 ≤ r.toInt ∧ r.toInt ≤ 15) : (((tdx A jf jv r c).1 &&& (A.1 29 r.toNatClampNeg ^^^ (-1)) = 0) ∧ (wd r.toNatClampNeg &&& (tdx A jf jv r c).1 = (tdx A jf jv r c).2)) ↔ ¬ ∃ g, g < 26 ∧ ndf A N jf jv c r g := by
  have t := tnc hr.1
  have last : ∀ k, k < c → lst jf (Int32.ofNat (jf k).toNatClampNeg) c ≠ -1 := fun k hk z => by
    have j0 := (hj k hk).1
    refine lst_m c c8 z k hk ?_
    exact of_i j0
  have pg : ∀ g : Nat, g < 26 → lst jf (Int32.ofNat g) c ≠ -1 → pf A g ∧ (jv (lst jf (Int32.ofNat g) c).toNatClampNeg >>> (A.1 41 g &&& 31) = 0) := by
    intro g hg z
    rcases lst_s (a := jf) (f := Int32.ofNat g) c c8 with y | ⟨y1, y2, y3⟩
    · exact absurd y z
    · have ty := tnc y1
      obtain ⟨k0, k1, k2⟩ := hj _ (show (lst jf (Int32.ofNat g) c).toNatClampNeg < c by omega)
      have eg : (Int32.ofNat g).toInt = (g : Int) := Int32.toInt_ofNat_of_lt (by omega)
      have tg := tnc (i := Int32.ofNat g) (by omega)
      rw [y3, show (Int32.ofNat g).toNatClampNeg = g by omega] at k1 k2
      exact ⟨k1, k2⟩
  constructor
  · intro ⟨h1, h2⟩ ⟨g, g26, n1, n2, n3⟩
    obtain ⟨gp, gt⟩ := pg g g26 n1
    obtain ⟨l1, l2, -, -⟩ := la.1 g gp
    have w1 := (lf_p hl gp).2.2.2.2.2.2
    have told : ∀ b, tb (A.1 42 g) b = true → tb (tdx A jf jv r c).1 b = true := by
      intro b hb
      rcases lst_s (a := jf) (f := Int32.ofNat g) c c8 with y | ⟨y1, y2, y3⟩
      · exact absurd y n1
      · have ty := tnc y1
        have eg : (Int32.ofNat g).toInt = (g : Int) := Int32.toInt_ofNat_of_lt (by omega)
        have tg := tnc (i := Int32.ofNat g) (by omega)
        refine (td_1 c b).mpr ⟨(lst jf (Int32.ofNat g) c).toNatClampNeg, by omega, ?_, ?_⟩
        · rw [y3, show (Int32.ofNat g).toNatClampNeg = g by omega]; exact n2
        · rw [y3, show (Int32.ofNat g).toNatClampNeg = g by omega]; exact hb
    by_cases hk : knA (A.1 39 g)
    · rcases n3 with z | z
      · exact z hk
      apply z
      have hx : ∀ b, tb (A.1 42 g) b = true → tb (wd (A.1 38 g).toNatClampNeg) b = tb (jv (lst jf (Int32.ofNat g) c).toNatClampNeg <<< (A.1 40 g &&& 31)) b := by
        intro b hb
        have z3 := td_3 hl la c8 hj gp hk n2 c (Nat.le_refl c) n1 b hb
        rw [← z3, ← h2, tb_and, told b hb, Bool.and_true, n2]
      have e1 := kv_e l1.1 w1 l1.2 l2 gt hx
      obtain ⟨m1, m2⟩ := md.1 g gp hk
      have e2 := kv_e l1.1 w1 l1.2 l2 m1 m2
      rw [← e2, e1]
    · have lo : tb (A.1 42 g) (A.1 40 g).toInt.toNat = true := by
        rw [l2, decide_eq_true_eq]
        omega
      have hb := (and_0.mp h1) (A.1 40 g).toInt.toNat
      apply hb
      refine ⟨told _ lo, ?_⟩
      rw [tb_not, decide_eq_true (show (A.1 40 g).toInt.toNat < 32 by omega), Bool.true_and]
      cases z : tb (A.1 29 r.toNatClampNeg) (A.1 40 g).toInt.toNat with
      | false => rfl
      | true =>
        exfalso
        obtain ⟨f, f1, f2, f3, f4⟩ := (la.2.2.1 _ _).mp z
        have e : A.1 38 g = A.1 38 f := by rw [n2]; exact tn_inj hr.1 (lf_p hl f1).2.2.1 f2.symm
        by_cases cf : g = f
        · rw [cf] at hk
          exact hk f3
        · exact la.2.1 g f gp f1 cf e _ ⟨lo, f4⟩
  · intro h
    have all : ∀ k, k < c → A.1 38 (jf k).toNatClampNeg = r → knA (A.1 39 (jf k).toNatClampNeg) ∧ N.1 33 (jf k).toNatClampNeg = jv (lst jf (Int32.ofNat (jf k).toNatClampNeg) c).toNatClampNeg := by
      intro k hk hr'
      obtain ⟨k0, k1, k2⟩ := hj k hk
      refine ⟨Classical.byContradiction (fun z => h ⟨_, k1.1, last k hk, hr', Or.inl z⟩), Classical.byContradiction (fun z => h ⟨_, k1.1, last k hk, hr', Or.inr z⟩)⟩
    constructor
    · apply and_0.mpr
      intro b ⟨z1, z2⟩
      obtain ⟨k, k1, k2, k3⟩ := (td_1 c b).mp z1
      have jp := (hj k k1).2.1
      have y : tb (A.1 29 r.toNatClampNeg) b = true := (la.2.2.1 _ b).mpr ⟨_, jp, by rw [k2], (all k k1 k2).1, k3⟩
      rw [tb_not, y] at z2
      cases z : decide (b < 32) <;> rw [z] at z2 <;> cases z2
    · apply tb_ext
      intro b _
      rw [tb_and]
      cases hb : tb (tdx A jf jv r c).1 b with
      | false =>
        rw [Bool.and_false]
        cases hx : tb (tdx A jf jv r c).2 b with
        | false => rfl
        | true =>
          have z := td_2 hl la hj c (Nat.le_refl c) b hx
          rw [hb] at z
          cases z
      | true =>
        rw [Bool.and_true]
        obtain ⟨k, k1, k2, k3⟩ := (td_1 c b).mp hb
        obtain ⟨j0, jp, jt⟩ := hj k k1
        obtain ⟨a1, a2⟩ := all k k1 k2
        rw [td_3 hl la c8 hj jp a1 k2 c (Nat.le_refl c) (last k k1) b k3, ← a2]
        have m2 := (md.1 _ jp a1).2 b k3
        rw [k2] at m2
        exact m2
end TDX
end
section
-- flush(): the loops of both sides
theorem tdx_cg {A M : Mm} {jf jv jf' jv' : Nat → Int32} {r : Int32} (h : ∀ p, 38 ≤ p → p ≤ 42 → M.1 p = A.1 p) : ∀ n : Nat, (∀ k, k < n → jf' k = jf k ∧ jv' k = jv k) → tdx M jf' jv' r n = tdx A jf jv r n := by
  intro n
  induction n with
  | zero => intro _; rfl
  | succ n ih =>
    intro e
    obtain ⟨e1, e2⟩ := e n (by omega)
    rw [tdx, tdx, ih (fun k hk => e k (by omega)), e1, e2, h 38 (by decide) (by decide), h 39 (by decide) (by decide), h 40 (by decide) (by decide), h 42 (by decide) (by decide)]
theorem wk_k {S t x mk vl : Int32} : (((S &&& (t ^^^ (-1))) ||| x) &&& (mk ^^^ (-1))) ||| vl = (S &&& ((t ||| mk) ^^^ (-1))) ||| ((x &&& (mk ^^^ (-1))) ||| vl) := by
  apply tb_ext
  intro b hb
  rw [tb_or, tb_and, tb_or, tb_and, tb_not, tb_not, tb_or, tb_and, tb_not, tb_or, tb_or, tb_and, tb_not, decide_eq_true hb]
  cases tb S b <;> cases tb t b <;> cases tb x b <;> cases tb mk b <;> cases tb vl b <;> rfl
theorem shl_or {p v k : Int32} (hk : 0 ≤ k.toInt ∧ k.toInt < 32) : (p ||| v) <<< (k &&& 31) = (p <<< (k &&& 31)) ||| (v <<< (k &&& 31)) := by
  apply tb_ext
  intro b hb
  rw [tb_or, tb_shl hk, tb_shl hk, tb_shl hk, tb_or]
  cases decide (b < 32) <;> cases decide (b < k.toInt.toNat) <;> cases tb p (b - k.toInt.toNat) <;> cases tb v (b - k.toInt.toNat) <;> rfl
theorem wk_u {S t x mk p vl : Int32} (hS : ∀ b, tb mk b = true → tb S b = false) (hp : ∀ b, tb p b = (tb ((S &&& (t ^^^ (-1))) ||| x) b && tb mk b)) : (((S &&& (t ^^^ (-1))) ||| x) &&& (mk ^^^ (-1))) ||| (p ||| vl) = (S &&& ((t ||| mk) ^^^ (-1))) ||| (x ||| vl) := by
  apply tb_ext
  intro b hb
  have s := hS b
  simp only [tb_or, tb_and, tb_not, hp, decide_eq_true hb, Bool.true_and]
  cases hm : tb mk b with
  | true =>
    rw [s hm]
    cases tb t b <;> cases tb x b <;> cases tb vl b <;> rfl
  | false => cases tb S b <;> cases tb t b <;> cases tb x b <;> cases tb vl b <;> rfl
def arE (M : Mm) (r t x : Int32) : Rs := if (t &&& ((M.1 29 r.toNatClampNeg) ^^^ (-1))) = 0 then (q_Plan_addRegister_131 M r t x 1) else (q_Plan_addRegister_131 M r t x 0)
theorem ar8 {M : Mm} (hc : 0 ≤ (M.1 65 0).toInt ∧ (M.1 65 0).toInt ≤ 8) (hj : ∀ k : Nat, (k : Int) < (M.1 65 0).toInt → 0 ≤ (M.1 67 k).toInt ∧ (M.1 67 k).toInt ≤ 25) {r : Int32} : ∀ (j n' : Nat) (i : Int32), (M.1 65 0).toInt - i.toInt = (j : Int) → 0 ≤ i.toInt → ∀ (M' : Mm) (x : Int32), q_Plan_addRegister_8 n' M r (tdx M (M.1 67) (M.1 68) r i.toNatClampNeg).1 (tdx M (M.1 67) (M.1 68) r i.toNatClampNeg).2 i = some (M', x) → arE M r (tdx M (M.1 67) (M.1 68) r (M.1 65 0).toNatClampNeg).1 (tdx M (M.1 67) (M.1 68) r (M.1 65 0).toNatClampNeg).2 = some (M', x) := by
  have tc := tnc hc.1
  intro j
  induction j with
  | zero =>
    intro n' i hj' i0 M' x q
    obtain ⟨n', rfl⟩ : ∃ m, n' = m + 1 := by
      cases n' with
      | zero => rw [q_Plan_addRegister_8] at q; cases q
      | succ m => exact ⟨m, rfl⟩
    have ei : i = M.1 65 0 := Int32.toInt_inj.mp (by omega)
    rw [q_Plan_addRegister_8, if_pos (Int32.le_iff_toInt_le.mpr (by omega)), ei] at q
    exact ix_r q
  | succ j ih =>
    intro n' i hj' i0 M' x q
    obtain ⟨n', rfl⟩ : ∃ m, n' = m + 1 := by
      cases n' with
      | zero => rw [q_Plan_addRegister_8] at q; cases q
      | succ m => exact ⟨m, rfl⟩
    have tn := tnc i0
    have ez : (i + 1).toInt = i.toInt + 1 := iadd rfl (rfl : (1 : Int32).toInt = 1) (by omega) (by omega)
    have es : (i + 1).toNatClampNeg = i.toNatClampNeg + 1 := tnS (by omega)
    have c : ¬ M.1 65 0 ≤ i := fun z => by have := Int32.le_iff_toInt_le.mp z; omega
    have hf := hj i.toNatClampNeg (by omega)
    rw [q_Plan_addRegister_8, if_neg c] at q
    have q := ix_r q
    rw [lq_s] at q
    have q := ix_r q
    unfold q_Plan_addRegister_76 q_Plan_addRegister_104 at q
    refine ih n' (i + 1) (by omega) (by omega) M' x ?_
    rw [es, tdx]
    by_cases cr : M.1 38 (M.1 67 i.toNatClampNeg).toNatClampNeg = r
    · rw [if_pos cr] at q
      rw [if_pos cr]
      have q := ix_r q
      rw [lq_s] at q
      obtain ⟨t, k1, k2⟩ := kn_e (M := M) (M.1 67 i.toNatClampNeg) hf
      rw [k1, cal_s] at q
      rcases k2 with ⟨rfl, nk⟩ | ⟨rfl, kk⟩
      · rw [if_pos rfl, lq_s] at q
        have q := ix_r (ix_r q)
        rw [lq_s] at q
        rw [if_neg (show ¬ (M.1 39 (M.1 67 i.toNatClampNeg).toNatClampNeg = 0 ∨ M.1 39 (M.1 67 i.toNatClampNeg).toNatClampNeg = 2) from nk)]
        exact q
      · rw [if_neg (by decide : ¬ (1 : Int32) = 0), lq_s, lq_s] at q
        have q := ix_r (ix_r q)
        rw [lq_s] at q
        rw [if_pos (show (M.1 39 (M.1 67 i.toNatClampNeg).toNatClampNeg = 0 ∨ M.1 39 (M.1 67 i.toNatClampNeg).toNatClampNeg = 2) from kk)]
        exact q
    · rw [if_neg cr] at q
      rw [if_neg cr]
      exact q
def frE (kf4 : Mm → Int32 → Int32 → Int32 → Rs) (N : Mm) (r nd f la : Int32) : Rs := if la = (-1) then (q_ChipMapModel_flushRegister_101 kf4 N r nd f) else (ix f 26 <| if (N.1 25 f.toNatClampNeg) = r then (if nd = 0 then (cal (q_ChipMapModel_isStored N f) fun M1 r2 => if r2 = 0 then (q_ChipMapModel_flushRegister_95 kf4 M1 r f) else (ix f 78 <| ix la 8 <| if (M1.1 33 f.toNatClampNeg) = (M1.1 41 la.toNatClampNeg) then (q_ChipMapModel_flushRegister_100 kf4 M1 r f 0) else (q_ChipMapModel_flushRegister_95 kf4 M1 r f))) else (q_ChipMapModel_flushRegister_95 kf4 N r f)) else (q_ChipMapModel_flushRegister_101 kf4 N r nd f))
theorem fr16 {N : Mm} (hc : 0 ≤ (N.1 0 52).toInt ∧ (N.1 0 52).toInt ≤ 8) {kf4 : Mm → Int32 → Int32 → Int32 → Rs} {r nd f : Int32} : ∀ (j n' : Nat) (la k : Int32), (N.1 0 52).toInt - k.toInt = (j : Int) → 0 ≤ k.toInt → la = lst (N.1 40) f k.toNatClampNeg → ∀ (N' : Mm) (x : Int32), q_ChipMapModel_flushRegister_16 kf4 n' N r nd f la k = some (N', x) → frE kf4 N r nd f (lst (N.1 40) f (N.1 0 52).toNatClampNeg) = some (N', x) := by
  have tc := tnc hc.1
  intro j
  induction j with
  | zero =>
    intro n' la k hj k0 hla N' x q
    obtain ⟨n', rfl⟩ : ∃ m, n' = m + 1 := by
      cases n' with
      | zero => rw [q_ChipMapModel_flushRegister_16] at q; cases q
      | succ m => exact ⟨m, rfl⟩
    have ei : k = N.1 0 52 := Int32.toInt_inj.mp (by omega)
    rw [q_ChipMapModel_flushRegister_16, if_pos (Int32.le_iff_toInt_le.mpr (by omega)), hla, ei] at q
    exact q
  | succ j ih =>
    intro n' la k hj k0 hla N' x q
    obtain ⟨n', rfl⟩ : ∃ m, n' = m + 1 := by
      cases n' with
      | zero => rw [q_ChipMapModel_flushRegister_16] at q; cases q
      | succ m => exact ⟨m, rfl⟩
    have tn := tnc k0
    have ez : (k + 1).toInt = k.toInt + 1 := iadd rfl (rfl : (1 : Int32).toInt = 1) (by omega) (by omega)
    have es : (k + 1).toNatClampNeg = k.toNatClampNeg + 1 := tnS (by omega)
    have c : ¬ N.1 0 52 ≤ k := fun z => by have := Int32.le_iff_toInt_le.mp z; omega
    rw [q_ChipMapModel_flushRegister_16, if_neg c] at q
    have q := ix_r q
    unfold q_ChipMapModel_flushRegister_43 at q
    by_cases e : N.1 40 k.toNatClampNeg = f
    · rw [if_pos e] at q
      refine ih n' k (k + 1) (by omega) (by omega) ?_ N' x q
      rw [es, lst, if_pos e]
      exact of_i k0
    · rw [if_neg e] at q
      refine ih n' la (k + 1) (by omega) (by omega) ?_ N' x q
      rw [es, lst, if_neg e]
      exact hla
def ndE (N : Mm) (r : Int32) : Rs := cal (q_ChipMapModel_reach N r) fun M1 _ => cal (q_ChipMapModel_still M1 r) fun M3 r4 => q_ChipMapModel_flushRegister_126 4000 M3 r r4 0
theorem fr4 {A N : Mm} (hl : LF A N) (hc : 0 ≤ (N.1 0 52).toInt ∧ (N.1 0 52).toInt ≤ 8) (hjp : ∀ k, k < (N.1 0 52).toNatClampNeg → 0 ≤ (N.1 40 k).toInt ∧ pf A (N.1 40 k).toNatClampNeg) {r : Int32} : ∀ (j n' : Nat) (nd f : Int32), 26 - f.toInt = (j : Int) → 0 ≤ f.toInt → ((nd = 0 ∧ ¬ ∃ g, g < f.toNatClampNeg ∧ ndf A N (N.1 40) (N.1 41) (N.1 0 52).toNatClampNeg r g) ∨ (nd = 1 ∧ ∃ g, g < f.toNatClampNeg ∧ ndf A N (N.1 40) (N.1 41) (N.1 0 52).toNatClampNeg r g)) → ∀ (N' : Mm) (x : Int32), q_ChipMapModel_flushRegister_4 n' N r nd f = some (N', x) → ((¬ ∃ g, g < 26 ∧ ndf A N (N.1 40) (N.1 41) (N.1 0 52).toNatClampNeg r g) ∧ N' = N) ∨ ((∃ g, g < 26 ∧ ndf A N (N.1 40) (N.1 41) (N.1 0 52).toNatClampNeg r g) ∧ ndE N r = some (N', x)) := by
  have tc := tnc hc.1
  have e26 : (26 : Int32).toInt = 26 := rfl
  have z0 : (0 : Int32).toInt = 0 := rfl
  intro j
  induction j with
  | zero =>
    intro n' nd f hj f0 hn N' x q
    obtain ⟨n', rfl⟩ : ∃ m, n' = m + 1 := by
      cases n' with
      | zero => rw [q_ChipMapModel_flushRegister_4] at q; cases q
      | succ m => exact ⟨m, rfl⟩
    have tn := tnc f0
    have c : (26 : Int32) ≤ f := Int32.le_iff_toInt_le.mpr (by omega)
    rw [q_ChipMapModel_flushRegister_4, if_pos c] at q
    rw [show f.toNatClampNeg = 26 by omega] at hn
    rcases hn with ⟨n0, h⟩ | ⟨n1, h⟩
    · rw [if_pos n0] at q
      exact Or.inl ⟨h, (rs_e q).1.symm⟩
    · rw [if_neg (by rw [n1]; decide)] at q
      exact Or.inr ⟨h, q⟩
  | succ j ih =>
    intro n' nd f hj f0 hn N' x q
    obtain ⟨n', rfl⟩ : ∃ m, n' = m + 1 := by
      cases n' with
      | zero => rw [q_ChipMapModel_flushRegister_4] at q; cases q
      | succ m => exact ⟨m, rfl⟩
    have tn := tnc f0
    have ez : (f + 1).toInt = f.toInt + 1 := iadd rfl (rfl : (1 : Int32).toInt = 1) (by omega) (by omega)
    have es : (f + 1).toNatClampNeg = f.toNatClampNeg + 1 := tnS (by omega)
    have c : ¬ (26 : Int32) ≤ f := fun z => by have := Int32.le_iff_toInt_le.mp z; omega
    have ef : f = Int32.ofNat f.toNatClampNeg := of_i f0
    rw [q_ChipMapModel_flushRegister_4, if_neg c, lq_s] at q
    have q := fr16 hc (N.1 0 52).toInt.toNat 4000 (-1) 0 (by omega) (by decide) rfl N' x q
    unfold frE q_ChipMapModel_flushRegister_101 q_ChipMapModel_flushRegister_95 q_ChipMapModel_flushRegister_100 at q
    have no : ¬ ndf A N (N.1 40) (N.1 41) (N.1 0 52).toNatClampNeg r f.toNatClampNeg → q_ChipMapModel_flushRegister_4 n' N r nd (f + 1) = some (N', x) → ((¬ ∃ g, g < 26 ∧ ndf A N (N.1 40) (N.1 41) (N.1 0 52).toNatClampNeg r g) ∧ N' = N) ∨ ((∃ g, g < 26 ∧ ndf A N (N.1 40) (N.1 41) (N.1 0 52).toNatClampNeg r g) ∧ ndE N r = some (N', x)) := by
      intro h q
      refine ih n' nd (f + 1) (by omega) (by omega) ?_ N' x q
      rw [es]
      rcases hn with ⟨n0, h0⟩ | ⟨n1, g, g1, g2⟩
      · refine Or.inl ⟨n0, fun ⟨g, g1, g2⟩ => ?_⟩
        by_cases cg : g = f.toNatClampNeg
        · rw [cg] at g2
          exact h g2
        · exact h0 ⟨g, by omega, g2⟩
      · exact Or.inr ⟨n1, g, by omega, g2⟩
    have yes : ndf A N (N.1 40) (N.1 41) (N.1 0 52).toNatClampNeg r f.toNatClampNeg → q_ChipMapModel_flushRegister_4 n' N r 1 (f + 1) = some (N', x) → ((¬ ∃ g, g < 26 ∧ ndf A N (N.1 40) (N.1 41) (N.1 0 52).toNatClampNeg r g) ∧ N' = N) ∨ ((∃ g, g < 26 ∧ ndf A N (N.1 40) (N.1 41) (N.1 0 52).toNatClampNeg r g) ∧ ndE N r = some (N', x)) := by
      intro h q
      refine ih n' 1 (f + 1) (by omega) (by omega) ?_ N' x q
      rw [es]
      exact Or.inr ⟨rfl, _, by omega, h⟩
    by_cases z : lst (N.1 40) f (N.1 0 52).toNatClampNeg = -1
    · rw [if_pos z] at q
      refine no (fun h => h.1 ?_) q
      rw [← ef]
      exact z
    rw [if_neg z] at q
    have hp : pf A f.toNatClampNeg := by
      rcases lst_s (a := N.1 40) (f := f) (N.1 0 52).toNatClampNeg (by omega) with y | ⟨y1, y2, y3⟩
      · exact absurd y z
      · have ty := tnc y1
        have w := (hjp _ (show (lst (N.1 40) f (N.1 0 52).toNatClampNeg).toNatClampNeg < _ by omega)).2
        rw [y3] at w
        exact w
    have lp := lf_p hl hp
    have q := ix_r q
    rw [← lp.2.1] at q
    by_cases cr : A.1 38 f.toNatClampNeg = r
    · rw [if_pos cr] at q
      have zz : lst (N.1 40) (Int32.ofNat f.toNatClampNeg) (N.1 0 52).toNatClampNeg ≠ -1 := by rw [← ef]; exact z
      by_cases n0 : nd = 0
      · rw [if_pos n0] at q
        obtain ⟨t, k1, k2⟩ := sto_m hl f0 hp
        rw [k1, cal_s] at q
        rcases k2 with ⟨rfl, nk⟩ | ⟨rfl, kk⟩
        · rw [if_pos rfl] at q
          exact yes ⟨zz, cr, Or.inl nk⟩ q
        · rw [if_neg (by decide : ¬ (1 : Int32) = 0)] at q
          have q := ix_r (ix_r q)
          by_cases cv : N.1 33 f.toNatClampNeg = N.1 41 (lst (N.1 40) f (N.1 0 52).toNatClampNeg).toNatClampNeg
          · rw [if_pos cv] at q
            rw [← n0] at q
            refine no (fun h => ?_) q
            rcases h.2.2 with w | w
            · exact w kk
            · rw [← ef] at w
              exact w cv
          · rw [if_neg cv] at q
            refine yes ⟨zz, cr, Or.inr ?_⟩ q
            rw [← ef]
            exact cv
      · rw [if_neg n0] at q
        rcases hn with ⟨n1, -⟩ | ⟨n1, g, g1, g2⟩
        · exact absurd n1 n0
        · refine ih n' 1 (f + 1) (by omega) (by omega) ?_ N' x q
          rw [es]
          exact Or.inr ⟨rfl, g, by omega, g2⟩
    · rw [if_neg cr] at q
      exact no (fun h => cr h.2.1) q
theorem fr126 {A N : Mm} (hl : LF A N) (la : LA A N) (hc : 0 ≤ (N.1 0 52).toInt ∧ (N.1 0 52).toInt ≤ 8) (hjp : ∀ k, k < (N.1 0 52).toNatClampNeg → 0 ≤ (N.1 40 k).toInt ∧ pf A (N.1 40 k).toNatClampNeg) {r S : Int32} (hr : 0 ≤ r.toInt) (hS : ∀ b, tb S b = true → tb (A.1 29 r.toNatClampNeg) b = true) : ∀ (j n' : Nat) (w k : Int32), (N.1 0 52).toInt - k.toInt = (j : Int) → 0 ≤ k.toInt → w = (S &&& ((tdx A (N.1 40) (N.1 41) r k.toNatClampNeg).1 ^^^ (-1))) ||| (tdx A (N.1 40) (N.1 41) r k.toNatClampNeg).2 → ∀ (N' : Mm) (x : Int32), q_ChipMapModel_flushRegister_126 n' N r w k = some (N', x) → ∃ y, q_ChipMapModel_operate N r ((S &&& ((tdx A (N.1 40) (N.1 41) r (N.1 0 52).toNatClampNeg).1 ^^^ (-1))) ||| (tdx A (N.1 40) (N.1 41) r (N.1 0 52).toNatClampNeg).2) = some (N', y) := by
  have tc := tnc hc.1
  intro j
  induction j with
  | zero =>
    intro n' w k hj k0 hw N' x q
    obtain ⟨n', rfl⟩ : ∃ m, n' = m + 1 := by
      cases n' with
      | zero => rw [q_ChipMapModel_flushRegister_126] at q; cases q
      | succ m => exact ⟨m, rfl⟩
    have ei : k = N.1 0 52 := Int32.toInt_inj.mp (by omega)
    rw [q_ChipMapModel_flushRegister_126, if_pos (Int32.le_iff_toInt_le.mpr (by omega)), hw, ei] at q
    obtain ⟨N1, y, p, q⟩ := cal_o q
    obtain ⟨rfl, -⟩ := rs_e q
    exact ⟨y, p⟩
  | succ j ih =>
    intro n' w k hj k0 hw N' x q
    obtain ⟨n', rfl⟩ : ∃ m, n' = m + 1 := by
      cases n' with
      | zero => rw [q_ChipMapModel_flushRegister_126] at q; cases q
      | succ m => exact ⟨m, rfl⟩
    have tn := tnc k0
    have ez : (k + 1).toInt = k.toInt + 1 := iadd rfl (rfl : (1 : Int32).toInt = 1) (by omega) (by omega)
    have es : (k + 1).toNatClampNeg = k.toNatClampNeg + 1 := tnS (by omega)
    have c : ¬ N.1 0 52 ≤ k := fun z => by have := Int32.le_iff_toInt_le.mp z; omega
    obtain ⟨f0, hp⟩ := hjp k.toNatClampNeg (by omega)
    have lp := lf_p hl hp
    obtain ⟨l1, l2, -, -⟩ := la.1 _ hp
    rw [q_ChipMapModel_flushRegister_126, if_neg c] at q
    have q := ix_r q
    rw [lq_s] at q
    have q := ix_r q
    rw [← lp.2.1] at q
    unfold q_ChipMapModel_flushRegister_196 q_ChipMapModel_flushRegister_200 at q
    by_cases cr : A.1 38 (N.1 40 k.toNatClampNeg).toNatClampNeg = r
    · rw [if_pos cr] at q
      obtain ⟨t, k1, k2⟩ := sto_m hl f0 hp
      rw [k1, cal_s] at q
      rcases k2 with ⟨rfl, nk⟩ | ⟨rfl, kk⟩
      · rw [if_pos rfl, part_m hl la f0 hp, cal_s] at q
        have q := ix_r q
        rw [wi_e hl la f0 hp, cal_s] at q
        refine ih n' _ (k + 1) (by omega) (by omega) ?_ N' x q
        rw [es, tdx, if_pos cr, if_neg (show ¬ (A.1 39 (N.1 40 k.toNatClampNeg).toNatClampNeg = 0 ∨ A.1 39 (N.1 40 k.toNatClampNeg).toNatClampNeg = 2) from nk), shl_or (by omega), hw]
        refine wk_u (fun b hb => ?_) (fun b => part_tb l1.1 lp.2.2.2.2.2.2 l1.2 l2 b)
        cases z : tb S b with
        | false => rfl
        | true =>
          exfalso
          obtain ⟨g, g1, g2, g3, g4⟩ := (la.2.2.1 _ b).mp (hS b z)
          have e : A.1 38 (N.1 40 k.toNatClampNeg).toNatClampNeg = A.1 38 g := by rw [cr]; exact tn_inj hr (lf_p hl g1).2.2.1 g2.symm
          by_cases cg : (N.1 40 k.toNatClampNeg).toNatClampNeg = g
          · rw [cg] at nk
            exact nk g3
          · exact la.2.1 _ g hp g1 cg e b ⟨hb, g4⟩
      · rw [if_neg (by decide : ¬ (1 : Int32) = 0)] at q
        have q := ix_r q
        rw [wi_e hl la f0 hp, cal_s] at q
        refine ih n' _ (k + 1) (by omega) (by omega) ?_ N' x q
        rw [es, tdx, if_pos cr, if_pos (show (A.1 39 (N.1 40 k.toNatClampNeg).toNatClampNeg = 0 ∨ A.1 39 (N.1 40 k.toNatClampNeg).toNatClampNeg = 2) from kk), hw]
        exact wk_k
    · rw [if_neg cr] at q
      refine ih n' _ (k + 1) (by omega) (by omega) ?_ N' x q
      rw [es, tdx, if_neg cr]
      exact hw
end
section
-- flush() of both sides
theorem st0_e {S : Int32} : S = (S &&& ((0 : Int32) ^^^ (-1))) ||| 0 := by
  apply tb_ext
  intro b hb
  rw [tb_or, tb_and, tb_not, tb_0, decide_eq_true hb]
  cases tb S b <;> rfl
theorem freg {A B M N : Mm} (h : PL A B M N) (hx : PX A B) (hj : JF A) (jc : 0 ≤ (A.1 65 0).toInt ∧ (A.1 65 0).toInt ≤ 8) (jn : jnR A N) {r : Int32} (hr : 0 ≤ r.toInt ∧ r.toInt < (A.1 24 0).toInt) (c14 : (M.1 60 2).toInt < 15) {M' N' : Mm} {x y : Int32} (q1 : q_Plan_addRegister M r = some (M', x)) (q2 : q_ChipMapModel_flushRegister N r = some (N', y)) : PL A B M' N' ∧ (M'.1 60 2).toInt ≤ (M.1 60 2).toInt + 2 := by
  have h0 := h
  obtain ⟨f1, f2, rp, hl, la, md, rf, e58, e47, g1, g2, g3, g4⟩ := h0
  have tc := tnc jc.1
  have tr := tnc hr.1
  have e0 : (0 : Int32).toNatClampNeg = 0 := rfl
  have z0 : (0 : Int32).toInt = 0 := rfl
  have e65 := f1 65 (by omega)
  have e67 := f1 67 (by omega)
  have e68 := f1 68 (by omega)
  have h15 : r.toInt ≤ 15 := by have := hx.2.2.1; omega
  have hcM : 0 ≤ (M.1 65 0).toInt ∧ (M.1 65 0).toInt ≤ 8 := by rw [e65]; exact jc
  unfold q_Plan_addRegister at q1
  have q1 := ar8 (M := M) hcM (fun k hk => by
    rw [e65] at hk
    rw [e67]
    obtain ⟨w1, w2, -⟩ := hj k hk
    have t := tnc w1
    exact ⟨w1, by have := w2.1; omega⟩) (r := r) (M.1 65 0).toInt.toNat 4000 0 (by omega) (by decide) M' x (by rw [e0]; exact q1)
  have et : tdx M (M.1 67) (M.1 68) r (M.1 65 0).toNatClampNeg = tdx A (A.1 67) (A.1 68) r (A.1 65 0).toNatClampNeg := by
    rw [e65, e67, e68]
    exact tdx_cg (fun p h1 h2 => f1 p (by omega)) _ (fun _ _ => ⟨rfl, rfl⟩)
  rw [et] at q1
  have eC : (N.1 0 52).toNatClampNeg = (A.1 65 0).toNatClampNeg := by rw [← jn.1]
  have hcN : 0 ≤ (N.1 0 52).toInt ∧ (N.1 0 52).toInt ≤ 8 := by rw [← jn.1]; exact jc
  have jcA : ∀ k, k < (A.1 65 0).toNatClampNeg → N.1 40 k = A.1 67 k ∧ N.1 41 k = A.1 68 k := fun k hk => by
    have z := jn.2 k (by omega)
    exact ⟨z.1.symm, z.2.symm⟩
  have hjp : ∀ k, k < (N.1 0 52).toNatClampNeg → 0 ≤ (N.1 40 k).toInt ∧ pf A (N.1 40 k).toNatClampNeg := fun k hk => by
    rw [eC] at hk
    have w := hj k (by omega)
    rw [(jcA k hk).1]
    exact ⟨w.1, w.2.1⟩
  have et2 : tdx A (N.1 40) (N.1 41) r (N.1 0 52).toNatClampNeg = tdx A (A.1 67) (A.1 68) r (A.1 65 0).toNatClampNeg := by
    rw [eC]
    exact tdx_cg (fun _ _ _ => rfl) _ jcA
  unfold q_ChipMapModel_flushRegister at q2
  have q2 := fr4 hl hcN hjp (r := r) 26 4000 0 0 (by decide) (by decide) (Or.inl ⟨rfl, fun ⟨g, g1, _⟩ => nlz (by rw [e0] at g1; exact g1)⟩) N' y q2
  have eNd : ∀ g, ndf A N (N.1 40) (N.1 41) (N.1 0 52).toNatClampNeg r g ↔ ndf A N (A.1 67) (A.1 68) (A.1 65 0).toNatClampNeg r g := by
    intro g
    have el : lst (N.1 40) (Int32.ofNat g) (A.1 65 0).toNatClampNeg = lst (A.1 67) (Int32.ofNat g) (A.1 65 0).toNatClampNeg := lst_cg _ (fun k hk => (jcA k hk).1)
    unfold ndf
    rw [eC, el]
    have ev : lst (A.1 67) (Int32.ofNat g) (A.1 65 0).toNatClampNeg ≠ -1 → N.1 41 (lst (A.1 67) (Int32.ofNat g) (A.1 65 0).toNatClampNeg).toNatClampNeg = A.1 68 (lst (A.1 67) (Int32.ofNat g) (A.1 65 0).toNatClampNeg).toNatClampNeg := by
      intro z
      rcases lst_s (a := A.1 67) (f := Int32.ofNat g) (A.1 65 0).toNatClampNeg (by omega) with w | ⟨w1, w2, -⟩
      · exact absurd w z
      · have tw := tnc w1
        exact (jcA _ (by omega)).2
    constructor
    · intro ⟨a, b, c⟩
      rw [ev a] at c
      exact ⟨a, b, c⟩
    · intro ⟨a, b, c⟩
      rw [← ev a] at c
      exact ⟨a, b, c⟩
  have nd := nd_eq (r := r) hl la md.1 (c := (A.1 65 0).toNatClampNeg) (jf := A.1 67) (jv := A.1 68) (by omega) (fun k hk => hj k (by omega)) ⟨hr.1, h15⟩
  rcases q2 with ⟨n1, n2⟩ | ⟨n1, n2⟩
  · obtain ⟨c1, c2⟩ := nd.mpr (fun ⟨g, a, b⟩ => n1 ⟨g, a, (eNd g).mpr b⟩)
    unfold arE q_Plan_addRegister_131 at q1
    rw [f1 29 (by omega), if_pos c1, if_neg (by decide : ¬ (1 : Int32) = 0)] at q1
    have q1 := ix_r q1
    rw [if_pos c2] at q1
    obtain ⟨rfl, -⟩ := rs_e q1
    rw [n2]
    exact ⟨h, by omega⟩
  · have go : q_Plan_addRegister_155 M r (tdx A (A.1 67) (A.1 68) r (A.1 65 0).toNatClampNeg).1 (tdx A (A.1 67) (A.1 68) r (A.1 65 0).toNatClampNeg).2 = some (M', x) := by
      obtain ⟨g, a, b⟩ := n1
      have nn := fun z => (nd.mp z) ⟨g, a, (eNd g).mp b⟩
      unfold arE q_Plan_addRegister_131 at q1
      rw [f1 29 (by omega)] at q1
      by_cases c1 : (tdx A (A.1 67) (A.1 68) r (A.1 65 0).toNatClampNeg).1 &&& (A.1 29 r.toNatClampNeg ^^^ (-1)) = 0
      · rw [if_pos c1, if_neg (by decide : ¬ (1 : Int32) = 0)] at q1
        have q1 := ix_r q1
        rw [if_neg (fun c2 => nn ⟨c1, c2⟩)] at q1
        exact q1
      · rw [if_neg c1, if_pos (rfl : (0 : Int32) = 0)] at q1
        exact q1
    unfold q_Plan_addRegister_155 at go
    obtain ⟨M1, s1, p1, go⟩ := cal_o go
    obtain ⟨M3, s3, p3, go⟩ := cal_o go
    obtain ⟨rfl, -⟩ := rs_e go
    unfold ndE at n2
    obtain ⟨N1, t1, u1, n2⟩ := cal_o n2
    obtain ⟨h1, hc⟩ := reach_rel h hx hr (by omega) p1 u1
    have hc' := up1 hc (by omega)
    have h1' := h1
    obtain ⟨f1', f2', -, hl', la', md', -, -, -, g1', g2', -, -⟩ := h1'
    rw [st_e hl' la' md'.1 ⟨hr.1, h15⟩, cal_s] at n2
    have a40 : N1.1 40 = N.1 40 := by rw [g1' 40 (by decide) (by omega), g1 40 (by decide) (by omega)]
    have a41 : N1.1 41 = N.1 41 := by rw [g1' 41 (by decide) (by omega), g1 41 (by decide) (by omega)]
    have a52 : N1.1 0 52 = N.1 0 52 := by rw [g2' 52 (by decide) (by decide) (by decide) (by decide), g2 52 (by decide) (by decide) (by decide) (by decide)]
    obtain ⟨y', u2⟩ := fr126 hl' la' (by rw [a52]; exact hcN) (by rw [a52, a40]; exact hjp) hr.1 (S := M1.1 62 r.toNatClampNeg) (fun b hb => md'.1.2 _ (by omega) b hb) (N1.1 0 52).toInt.toNat 4000 (M1.1 62 r.toNatClampNeg) 0 (by rw [a52]; omega) (by decide) (by rw [e0]; exact st0_e) N' y n2
    rw [a40, a41, a52, et2] at u2
    obtain ⟨r1, r2⟩ := told_rel h1 hx.1 ⟨hr.1, h15⟩ (by omega) (h1.n47 hx) p3 u2
    have hc2 := up1 r2 (by omega)
    exact ⟨r1, by omega⟩
theorem if18 {M : Mm} {v2 v3 : Int32} (h8 : 0 ≤ v2.toInt ∧ v2.toInt ≤ 8) : ∀ (j n' : Nat) (k : Int32), v2.toInt - k.toInt = (j : Int) → 0 ≤ k.toInt → ∀ (M' : Mm) (t : Int32), q_Plan_isFirstOfRegister_18 n' M v2 v3 k = some (M', t) → M' = M ∧ ((t = 1 ∧ ∀ q, k.toNatClampNeg ≤ q → q < v2.toNatClampNeg → M.1 38 (M.1 67 q).toNatClampNeg ≠ v3) ∨ (t = 0 ∧ ∃ q, q < v2.toNatClampNeg ∧ M.1 38 (M.1 67 q).toNatClampNeg = v3)) := by
  have t2 := tnc h8.1
  intro j
  induction j with
  | zero =>
    intro n' k hj k0 M' t q
    obtain ⟨n', rfl⟩ : ∃ m, n' = m + 1 := by
      cases n' with
      | zero => rw [q_Plan_isFirstOfRegister_18] at q; cases q
      | succ m => exact ⟨m, rfl⟩
    have tn := tnc k0
    rw [q_Plan_isFirstOfRegister_18, if_pos (Int32.le_iff_toInt_le.mpr (by omega))] at q
    obtain ⟨rfl, rfl⟩ := rs_e q
    exact ⟨rfl, Or.inl ⟨rfl, fun q h1 h2 => by omega⟩⟩
  | succ j ih =>
    intro n' k hj k0 M' t q
    obtain ⟨n', rfl⟩ : ∃ m, n' = m + 1 := by
      cases n' with
      | zero => rw [q_Plan_isFirstOfRegister_18] at q; cases q
      | succ m => exact ⟨m, rfl⟩
    have tn := tnc k0
    have ez : (k + 1).toInt = k.toInt + 1 := iadd rfl (rfl : (1 : Int32).toInt = 1) (by omega) (by omega)
    have es : (k + 1).toNatClampNeg = k.toNatClampNeg + 1 := tnS (by omega)
    have c : ¬ v2 ≤ k := fun z => by have := Int32.le_iff_toInt_le.mp z; omega
    rw [q_Plan_isFirstOfRegister_18, if_neg c] at q
    have q := ix_r (ix_r q)
    by_cases e : M.1 38 (M.1 67 k.toNatClampNeg).toNatClampNeg = v3
    · rw [if_pos e] at q
      obtain ⟨rfl, rfl⟩ := rs_e q
      exact ⟨rfl, Or.inr ⟨rfl, _, by omega, e⟩⟩
    · rw [if_neg e] at q
      obtain ⟨a, b⟩ := ih n' (k + 1) (by omega) (by omega) M' t q
      refine ⟨a, ?_⟩
      rw [es] at b
      rcases b with ⟨b1, b2'⟩ | b
      · refine Or.inl ⟨b1, fun q h1 h2 => ?_⟩
        by_cases cq : q = k.toNatClampNeg
        · rw [cq]; exact e
        · exact b2' q (by omega) h2
      · exact Or.inr b
theorem fl23 {N : Mm} {kf11 : Mm → Int32 → Rs} {i : Int32} (hi : 0 ≤ i.toInt ∧ i.toInt ≤ 8) : ∀ (j n' : Nat) (bf k : Int32), i.toInt - k.toInt = (j : Int) → 0 ≤ k.toInt → ((bf = 0 ∧ ∀ q, q < k.toNatClampNeg → N.1 25 (N.1 40 q).toNatClampNeg ≠ N.1 25 (N.1 40 i.toNatClampNeg).toNatClampNeg) ∨ (bf = 1 ∧ ∃ q, q < k.toNatClampNeg ∧ N.1 25 (N.1 40 q).toNatClampNeg = N.1 25 (N.1 40 i.toNatClampNeg).toNatClampNeg)) → ∀ (N' : Mm) (y : Int32), q_ChipMapModel_flush_23 kf11 n' N i bf k = some (N', y) → ((∀ q, q < i.toNatClampNeg → N.1 25 (N.1 40 q).toNatClampNeg ≠ N.1 25 (N.1 40 i.toNatClampNeg).toNatClampNeg) ∧ (cal (q_ChipMapModel_flushRegister N (N.1 25 (N.1 40 i.toNatClampNeg).toNatClampNeg)) fun M1 _ => kf11 M1 (i + 1)) = some (N', y)) ∨ ((∃ q, q < i.toNatClampNeg ∧ N.1 25 (N.1 40 q).toNatClampNeg = N.1 25 (N.1 40 i.toNatClampNeg).toNatClampNeg) ∧ kf11 N (i + 1) = some (N', y)) := by
  have ti := tnc hi.1
  intro j
  induction j with
  | zero =>
    intro n' bf k hj k0 hb N' y q
    obtain ⟨n', rfl⟩ : ∃ m, n' = m + 1 := by
      cases n' with
      | zero => rw [q_ChipMapModel_flush_23] at q; cases q
      | succ m => exact ⟨m, rfl⟩
    have tn := tnc k0
    rw [q_ChipMapModel_flush_23, if_pos (Int32.le_iff_toInt_le.mpr (by omega))] at q
    rw [show k.toNatClampNeg = i.toNatClampNeg by omega] at hb
    unfold q_ChipMapModel_flush_88 at q
    rcases hb with ⟨b0, h⟩ | ⟨b1, h⟩
    · rw [if_pos b0] at q
      exact Or.inl ⟨h, ix_r (ix_r q)⟩
    · rw [if_neg (by rw [b1]; decide)] at q
      exact Or.inr ⟨h, q⟩
  | succ j ih =>
    intro n' bf k hj k0 hb N' y q
    obtain ⟨n', rfl⟩ : ∃ m, n' = m + 1 := by
      cases n' with
      | zero => rw [q_ChipMapModel_flush_23] at q; cases q
      | succ m => exact ⟨m, rfl⟩
    have tn := tnc k0
    have ez : (k + 1).toInt = k.toInt + 1 := iadd rfl (rfl : (1 : Int32).toInt = 1) (by omega) (by omega)
    have es : (k + 1).toNatClampNeg = k.toNatClampNeg + 1 := tnS (by omega)
    have c : ¬ i ≤ k := fun z => by have := Int32.le_iff_toInt_le.mp z; omega
    rw [q_ChipMapModel_flush_23, if_neg c] at q
    unfold q_ChipMapModel_flush_57 q_ChipMapModel_flush_62 at q
    rcases hb with ⟨b0, h⟩ | ⟨b1, g, g1, g2⟩
    · rw [if_pos b0] at q
      have q := ix_r (ix_r (ix_r (ix_r q)))
      by_cases e : N.1 25 (N.1 40 k.toNatClampNeg).toNatClampNeg = N.1 25 (N.1 40 i.toNatClampNeg).toNatClampNeg
      · rw [if_pos e] at q
        refine ih n' 1 (k + 1) (by omega) (by omega) (Or.inr ⟨rfl, k.toNatClampNeg, by omega, e⟩) N' y q
      · rw [if_neg e] at q
        refine ih n' 0 (k + 1) (by omega) (by omega) (Or.inl ⟨rfl, fun q hq => ?_⟩) N' y q
        by_cases cq : q = k.toNatClampNeg
        · rw [cq]; exact e
        · exact h q (by omega)
    · rw [if_neg (by rw [b1]; decide)] at q
      exact ih n' 1 (k + 1) (by omega) (by omega) (Or.inr ⟨rfl, g, by omega, g2⟩) N' y q
def flE (N : Mm) : Rs := cal (q_ChipMapModel_end N) fun M1 r2 => if r2 = (-2) then (some (M1, r2)) else (lt' (stI M1 0 (upd (M1.1 0) 52 0)) fun M3 => some (M3, r2))
theorem fj_l {A B : Mm} (hx : PX A B) (hj : JF A) (jc : 0 ≤ (A.1 65 0).toInt ∧ (A.1 65 0).toInt ≤ 8) (jnB : jnR A B) (hr : ∀ f, (A.1 38 f).toInt < (A.1 24 0).toInt) : ∀ (j n1 n2 : Nat) (M N : Mm) (i : Int32), (A.1 65 0).toInt - i.toInt = (j : Int) → 0 ≤ i.toInt → PL A B M N → (M.1 60 2).toInt ≤ 2 * i.toInt → ∀ (M' : Mm) (x : Int32) (N' : Mm) (y : Int32), q_Plan_addJoined_2 n1 M i = some (M', x) → q_ChipMapModel_flush_11 n2 N i = some (N', y) → ∃ N1 : Mm, PL A B M' N1 ∧ flE N1 = some (N', y) := by
  have tc := tnc jc.1
  have z0 : (0 : Int32).toInt = 0 := rfl
  have e0 : (0 : Int32).toNatClampNeg = 0 := rfl
  intro j
  induction j with
  | zero =>
    intro n1 n2 M N i hj' i0 pl h2 M' x N' y q1 q2
    obtain ⟨n1, rfl⟩ : ∃ m, n1 = m + 1 := by
      cases n1 with
      | zero => rw [q_Plan_addJoined_2] at q1; cases q1
      | succ m => exact ⟨m, rfl⟩
    obtain ⟨n2, rfl⟩ : ∃ m, n2 = m + 1 := by
      cases n2 with
      | zero => rw [q_ChipMapModel_flush_11] at q2; cases q2
      | succ m => exact ⟨m, rfl⟩
    have f1 := pl.1
    have g2 := pl.2.2.2.2.2.2.2.2.2.2.1
    rw [q_Plan_addJoined_2, f1 65 (by omega), if_pos (Int32.le_iff_toInt_le.mpr (by omega))] at q1
    rw [q_ChipMapModel_flush_11, g2 52 (by decide) (by decide) (by decide) (by decide), ← jnB.1, if_pos (Int32.le_iff_toInt_le.mpr (by omega))] at q2
    obtain ⟨rfl, -⟩ := rs_e q1
    exact ⟨N, pl, q2⟩
  | succ j ih =>
    intro n1 n2 M N i hj' i0 pl h2 M' x N' y q1 q2
    obtain ⟨n1, rfl⟩ : ∃ m, n1 = m + 1 := by
      cases n1 with
      | zero => rw [q_Plan_addJoined_2] at q1; cases q1
      | succ m => exact ⟨m, rfl⟩
    obtain ⟨n2, rfl⟩ : ∃ m, n2 = m + 1 := by
      cases n2 with
      | zero => rw [q_ChipMapModel_flush_11] at q2; cases q2
      | succ m => exact ⟨m, rfl⟩
    have pl0 := pl
    obtain ⟨f1, f2, rp, hl, la, md, rf, e58, e47, g1, g2, g3, g4⟩ := pl0
    have ti := tnc i0
    have ez : (i + 1).toInt = i.toInt + 1 := iadd rfl (rfl : (1 : Int32).toInt = 1) (by omega) (by omega)
    have c : ¬ A.1 65 0 ≤ i := fun z => by have := Int32.le_iff_toInt_le.mp z; omega
    have jn : jnR A N := jnB.cg rfl rfl rfl (g2 52 (by decide) (by decide) (by decide) (by decide)) (g1 40 (by decide) (by omega)) (g1 41 (by decide) (by omega))
    have home : ∀ k, k < (A.1 65 0).toNatClampNeg → N.1 25 (N.1 40 k).toNatClampNeg = A.1 38 (A.1 67 k).toNatClampNeg := fun k hk => by
      have w := hj k (by omega)
      rw [← (jn.2 k (by omega)).1, ← (lf_p hl w.2.1).2.1]
    obtain ⟨w0, wp, -⟩ := hj i.toNatClampNeg (by omega)
    have lp := lf_p hl wp
    rw [q_Plan_addJoined_2, f1 65 (by omega), if_neg c] at q1
    rw [q_ChipMapModel_flush_11, g2 52 (by decide) (by decide) (by decide) (by decide), ← jnB.1, if_neg c] at q2
    obtain ⟨M1, t, p1, q1⟩ := cal_o q1
    unfold q_Plan_isFirstOfRegister at p1
    have p1 := ix_r (ix_r p1)
    rw [lq_s] at p1
    obtain ⟨rfl, ht⟩ := if18 (v2 := i) (by omega) i.toInt.toNat 4000 0 (by omega) (by decide) M1 t p1
    have q2 := fl23 (i := i) (by omega) i.toInt.toNat 4000 0 0 (by omega) (by decide) (Or.inl ⟨rfl, fun q hq => nlz (by rw [e0] at hq; exact hq)⟩) N' y q2
    rw [f1 38 (by omega), f1 67 (by omega)] at ht
    unfold q_Plan_addJoined_38 at q1
    rw [home _ (by omega)] at q2
    rcases ht with ⟨rfl, h⟩ | ⟨rfl, g, g5, g6⟩
    · rw [if_neg (by decide : ¬ (1 : Int32) = 0)] at q1
      have q1 := ix_r (ix_r q1)
      rw [f1 38 (by omega), f1 67 (by omega)] at q1
      obtain ⟨M3, s3, p3, q1⟩ := cal_o q1
      rcases q2 with ⟨-, q2⟩ | ⟨⟨g, g5, g6⟩, -⟩
      · obtain ⟨N3, t3, u3, q2⟩ := cal_o q2
        obtain ⟨r1, r2⟩ := freg pl hx hj jc jn ⟨lp.2.2.1, hr _⟩ (by omega) p3 u3
        exact ih n1 n2 M3 N3 (i + 1) (by omega) (by omega) r1 (by omega) M' x N' y q1 q2
      · rw [home g (by omega)] at g6
        exact absurd g6 (h g (Nat.zero_le _) g5)
    · rw [if_pos rfl] at q1
      rcases q2 with ⟨h, -⟩ | ⟨-, q2⟩
      · exact absurd (by rw [home g (by omega)]; exact g6) (h g g5)
      · exact ih n1 n2 M1 N (i + 1) (by omega) (by omega) pl (by omega) M' x N' y q1 q2
theorem dw_k {A B M N M' : Mm} {x : Int32} (pl : PL A B M N) (hu : ruI A) (q : q_ChipMap_doWrites M = some (M', x)) : ∀ p, 65 ≤ p → M'.1 p = A.1 p := by
  intro p hp
  rcases dw_e pl hu q with ⟨-, -, rfl⟩ | ⟨-, -, h, -⟩
  · exact pl.1 p (by omega)
  · rw [h p (by omega)]
    exact pl.1 p (by omega)
theorem flush_rd {G : Gx} {K : Int} {M N : Mm} (hI : IX G K M) (hK : K ≤ 2000000000) (h : RD M N) (hj : JF M) {M' N' : Mm} {r1 r2 : Int32} (q1 : q_ChipMap_flush M = some (M', r1)) (q2 : q_ChipMapModel_flush N = some (N', r2)) : r1 = r2 ∧ RD M' N' ∧ JF M' := by
  have jc := hI.jc
  have z0 : (0 : Int32).toInt = 0 := rfl
  unfold q_ChipMap_flush at q1
  unfold q_ChipMapModel_flush at q2
  rw [lq_s] at q2
  have h1 := h.n1
  generalize stI N 0 (upd (N.1 0) 0 0) = N1 at q2 h1
  obtain ⟨M3, s3, p3, q1⟩ := cal_o q1
  obtain ⟨M5, s5, p5, q1⟩ := cal_o q1
  obtain ⟨M7, s7, p7, q1⟩ := cal_o q1
  obtain ⟨B, t3, u3, q2⟩ := cal_o q2
  have hb := beg_e u3
  obtain ⟨g1, g2, g3, g4, g5⟩ := pb_e p3
  have px := PX.of hI hK h1 hb
  have pl := pl_0 h1.1 h1.2.1 h1.2.2.1 hb px.1.1.2 g1 g2 g3 g4 g5
  have jn := h1.2.2.2.2.2.2.1
  have jnB : jnR M B := jn.cg rfl rfl rfl (hb.2.1 52 (by decide) (by decide)) (hb.1 40 (by decide) (by omega)) (hb.1 41 (by decide) (by omega))
  unfold q_Plan_addJoined at p5
  obtain ⟨N5, pl2, q2⟩ := fj_l px hj jc jnB (fun f => hI.hr f) (M.1 65 0).toInt.toNat 4000 4000 M3 B 0 (by omega) (by decide) pl (by rw [g2]; decide) M5 s5 N' r2 p5 q2
  unfold flE at q2
  obtain ⟨N7, t7, u7, q2⟩ := cal_o q2
  obtain ⟨e, r, kx⟩ := pl_end h1 px.1 hb pl2 p7 u7
  have kk := dw_k pl2 px.1 p7
  rw [← e] at q2
  by_cases c : s7 = -2
  · rw [if_pos c] at q1 q2
    obtain ⟨rfl, rfl⟩ := rs_e q1
    obtain ⟨rfl, rfl⟩ := rs_e q2
    exact ⟨rfl, r, hj.kp kx (kk 65 (by omega)) (kk 67 (by omega)) (kk 68 (by omega))⟩
  · rw [if_neg c, lq_s] at q1 q2
    obtain ⟨rfl, rfl⟩ := rs_e q1
    obtain ⟨rfl, rfl⟩ := rs_e q2
    refine ⟨rfl, ?_, JF.z rfl⟩
    have sp := r.2.2.2.2.2.2.2
    refine r.j (fun p hp => stI_ne _ _ (by omega)) ⟨fun p h0 hp => stI_ne _ _ h0, fun j h0 hj => by rw [stI_at, updN (by omega)]⟩ (fun p h1 h2 => stI_ne _ _ (by omega)) rfl rfl rfl rfl rfl ⟨rfl, fun j hj => ?_⟩ (sp.cg rfl rfl rfl rfl rfl rfl rfl rfl)
    have z : (j : Int) < (0 : Int32).toInt := hj
    omega
end
