theorem w2.ltL {α : Type} {x : α} {k : α → Rs} {y : Rs} {Q : Mm → Int32 → Mm → Int32 → Prop} (g : ∀ z, z = x → w2 (k z) y Q) : w2 (lt' x k) y Q := g x rfl
theorem w2.ltR {α : Type} {x : α} {k : α → Rs} {y : Rs} {Q : Mm → Int32 → Mm → Int32 → Prop} (g : ∀ z, z = x → w2 y (k z) Q) : w2 y (lt' x k) Q := g x rfl
theorem upd_upd {f : Nat → Int32} {k : Nat} {v w : Int32} : upd (upd f k w) k v = upd f k v := by
  funext i
  by_cases c : i = k
  · rw [c, updS, updS]
  · rw [updN c, updN c, updN c]
theorem fld_val {M N : Mm} {x : Int32} (h : rdR M N) (hi : 0 ≤ x.toInt ∧ x.toInt < 128) : w2 (cal (q_Reader_next M) fun M18 r19 => if r19 = 61 then (cal (q_Reader_numberBehindSign M18) fun M20 r21 => q_Reader_readField_187 M20 x r21 x) else (q_Reader_readField_187 M18 x 0 x)) (ix x 140 <| lt' (stI N 11 (upd (N.1 11) (x : Int32).toNatClampNeg 0)) fun M25 => cal (q_ChipMapModel_here M25) fun M26 r27 => if r27 = 61 then (lt' (stI M26 0 (upd (M26.1 0) 3 ((M26.1 0 3) + 1))) fun M28 => cal (q_ChipMapModel_takeHex M28 1 4) fun M29 r30 => if r30 = 0 then (some (M29, 0)) else (ix x 140 <| lt' (stI M29 11 (upd (M29.1 11) (x : Int32).toNatClampNeg (M29.1 0 70))) fun M31 => q_ChipMapModel_readField_181 M31)) else (q_ChipMapModel_readField_181 M26)) (fun M' r N' s => fl0 M' r N' s ∨ (r = 1 ∧ s = 1 ∧ rdR M' N' ∧ ∃ v : Int32, 0 ≤ v.toInt ∧ M'.1 13 = upd (M.1 13) x.toNatClampNeg v ∧ M'.1 1 = upd (M.1 1) 6 (x + 1) ∧ (∀ p, p ≠ 13 → p ≠ 1 → p ≠ 21 → M'.1 p = M.1 p) ∧ N'.1 11 = upd (N.1 11) x.toNatClampNeg v ∧ N'.1 0 12 = N.1 0 12 + 1 ∧ N'.1 0 6 = N.1 0 6 ∧ N'.1 0 20 = N.1 0 20 ∧ (∀ p, p ≠ 0 → p ≠ 11 → N'.1 p = N.1 p))) := by
  have hy : vp_in x 140 := vI (by omega)
  rw [ix_e hy]
  refine w2.ltR (fun N25 eN => ?_)
  have h1 : rdR M N25 := by subst eN; exact h
  rw [nx_e h1, hr_e h1, cal_s, cal_s, ← hr_eq h1]
  by_cases c : hrX M = 61
  · rw [if_pos c, if_pos c]
    refine w2.ltR (fun N28 eN28 => ?_)
    have hz : (hrX M).toInt ≠ 0 := by rw [c]; decide
    have h2 : rdR (avX M) N28 := by subst eN28; exact rd_av h1 hz
    obtain ⟨M20, N29, r, b, q1, q2, t, g⟩ := num16 h2 1 4 (by decide)
    have eb : q_Reader_numberBehindSign M = some (M20, r) := by
      unfold q_Reader_numberBehindSign
      rw [tk_x h1, if_pos c, cal_s, if_neg (by decide), q1]
      rfl
    rw [eb, q2, cal_s, cal_s]
    rcases g with ⟨g1, g2, g3, gn⟩ | ⟨g1, g2, g3⟩
    · rw [g1, if_neg (by decide), ix_e hy]
      refine w2.ltR (fun N31 eN31 => ?_)
      have h3 : rdR M20 N31 := by subst eN31; exact t.1.n gn
      refine (fld_tail h3 hi g3).mono (fun M' r' N' s hq => ?_)
      rcases hq with hq | ⟨a1, a2, a3, a4, a5, a6, a7, a8, a9, a10⟩
      · exact Or.inl hq
      · refine Or.inr ⟨a1, a2, a3, r, g3, ?_, ?_, fun p p1 p2 p3 => ?_, ?_, ?_, ?_, ?_, fun p p1 p2 => ?_⟩
        · rw [a4, t.2.1 13 (by decide)]
          rfl
        · rw [a5, t.2.1 1 (by decide)]
          rfl
        · rw [a6 p p1 p2 p3, t.2.1 p p3]
          exact stI_ne _ _ p3
        · rw [a10 11 (by decide), eN31]
          show upd (N29.1 11) _ (N29.1 0 70) = _
          rw [← g2, t.2.2.o 11 (by decide), eN28, eN]
          exact upd_upd
        · rw [a7, eN31]
          show N29.1 0 12 + 1 = _
          rw [t.2.2.s12, eN28, eN]
          rfl
        · rw [a8, eN31]
          show N29.1 0 6 = _
          rw [t.2.2.s6, eN28, eN]
          rfl
        · rw [a9, eN31]
          show N29.1 0 20 = _
          rw [t.2.2.s20, eN28, eN]
          rfl
        · rw [a10 p p1, eN31, stI_ne _ _ p2, t.2.2.o p p1, eN28, stI_ne _ _ p1, eN, stI_ne _ _ p2]
    · rw [g1, g2, if_pos rfl]
      obtain ⟨M', q3, q4⟩ := fld_m (M := M20) hi
      rw [q3]
      exact w2.s (Or.inl ⟨rfl, rfl, q4 _ t.1, g3⟩)
  · rw [if_neg c, if_neg c]
    refine (fld_tail h1 hi (by decide)).mono (fun M' r' N' s hq => ?_)
    rcases hq with hq | ⟨a1, a2, a3, a4, a5, a6, a7, a8, a9, a10⟩
    · exact Or.inl hq
    · refine Or.inr ⟨a1, a2, a3, 0, by decide, a4, a5, a6, ?_, ?_, ?_, ?_, fun p p1 p2 => ?_⟩
      · rw [a10 11 (by decide), eN]
        rfl
      · rw [a7, eN]
        rfl
      · rw [a8, eN]
        rfl
      · rw [a9, eN]
        rfl
      · rw [a10 p p1, eN]
        exact stI_ne _ _ p2
def flQ (M N : Mm) (M' : Mm) (r : Int32) (N' : Mm) (s : Int32) : Prop := fl0 M' r N' s ∨ (r = 1 ∧ s = 1 ∧ rdR M' N' ∧ M'.1 1 = upd (M.1 1) 6 (M.1 1 6 + 1) ∧ (∀ p, p < 7 ∨ 13 < p → p ≠ 1 → p ≠ 21 → M'.1 p = M.1 p) ∧ N'.1 0 12 = M.1 1 6 + 1 ∧ N'.1 0 6 = N.1 0 6 ∧ N'.1 0 20 = N.1 0 20 ∧ (∀ p, p < 7 ∨ 13 < p → p ≠ 0 → N'.1 p = N.1 p) ∧ (fR (M.1 1 6).toNatClampNeg M N → fR ((M.1 1 6).toNatClampNeg + 1) M' N') ∧ M'.1 9 = upd (M.1 9) (M.1 1 6).toNatClampNeg (N.1 0 6))
theorem fld_rel {M N : Mm} {a1 : Int32} (h : rdR M N) (h6 : N.1 0 6 = a1) (hn : N.1 0 12 = M.1 1 6) (h0 : 0 ≤ (M.1 1 6).toInt ∧ (M.1 1 6).toInt < 128) : w2 (q_Reader_readField M a1) (q_ChipMapModel_readField N) (flQ M N) := by
  have hx : vp_in (M.1 1 6) 128 := vI h0
  have hy : vp_in (M.1 1 6) 140 := vI (by omega)
  unfold q_Reader_readField q_ChipMapModel_readField
  rw [hn]
  refine w2.ltL (fun x ex => ?_)
  refine w2.ltR (fun y ey => ?_)
  obtain rfl : y = x := ey.trans ex.symm
  rw [← ex] at hx hy h0
  rw [ix_e hx]
  refine w2.ltL (fun M2 eM2 => ?_)
  rw [ix_e hx]
  refine w2.ltL (fun M3 eM3 => ?_)
  rw [ix_e hy]
  refine w2.ltR (fun N2 eN2 => ?_)
  have h3 : rdR M3 N2 := by subst eM3 eM2 eN2; exact h
  rw [hr_e h3, cal_s, ix_e hy]
  refine w2.ltR (fun N5 eN5 => ?_)
  rw [ix_e hy]
  refine w2.ltR (fun N6 eN6 => ?_)
  have hN6 : rdR M3 N6 := by subst eN6 eN5; exact h3
  rw [nm_x hN6, nm_y hN6]
  by_cases c1 : nmv (hrX M3) = -1
  · rw [if_pos c1, if_pos c1, cal_s, cal_s, ix_e hx]
    refine w2.ltL (fun M6 eM6 => ?_)
    have e7 : M6.1 7 y.toNatClampNeg = -1 := by subst eM6; exact updS
    rw [ix_e hx, if_pos e7, if_pos rfl]
    exact w2.s (Or.inl ⟨rfl, rfl, by subst eM6; exact rd_wr hN6, wr_f⟩)
  rw [if_neg c1, if_neg c1, cal_s, cal_s, ix_e hx]
  have rn := (nmv_r (hrX M3)).resolve_left c1
  have h7 : rdR (avX M3) (avY N6) := rd_av hN6 rn.2.2
  refine w2.ltL (fun M6 eM6 => ?_)
  have e7 : M6.1 7 y.toNatClampNeg = nmv (hrX M3) := by subst eM6; exact updS
  rw [ix_e hx, e7, if_neg c1, if_neg (by decide : ¬ (1 : Int32) = 0)]
  have h8 : rdR M6 (avY N6) := by subst eM6; exact h7
  rw [hr_e h8, cal_s, ix_e hy]
  refine w2.ltR (fun N11 eN11 => ?_)
  have h9 : rdR M6 N11 := by subst eN11; exact h8
  rw [ac_one h9, hr_e h9, cal_s, acc_y, cal_s, ← hr_eq h9]
  by_cases c2 : ac (hrX M6) = -1
  · rw [if_pos c2, if_pos c2, cal_s, ix_e hx]
    refine w2.ltL (fun M9 eM9 => ?_)
    have e10 : M9.1 10 y.toNatClampNeg = -1 := by subst eM9; exact updS
    rw [ix_e hx, if_pos e10, if_pos rfl, wg_e, cal_s, bz_e0]
    exact w2.s (Or.inl ⟨rfl, rfl, by subst eM9; exact rd_wr h9, wr_f⟩)
  rw [if_neg c2, if_neg c2, cal_s, if_neg (by decide : ¬ (1 : Int32) = 0), ix_e hx]
  have ra := (ac_r (hrX M6)).resolve_left c2
  refine w2.ltL (fun M9 eM9 => ?_)
  refine w2.ltR (fun N16 eN16 => ?_)
  have e10 : M9.1 10 y.toNatClampNeg = ac (hrX M6) := by subst eM9; exact updS
  have h16 : rdR M9 N16 := by subst eM9 eN16; exact rd_av h9 ra.2.2
  rw [ix_e hx, e10, if_neg c2]
  obtain ⟨M10, N17, r11, b1, q1, q2, t1, g1⟩ := num10 h16
  rw [q1, q2, cal_s, cal_s, ix_e hx]
  refine w2.ltL (fun M12 eM12 => ?_)
  have e11 : M12.1 11 y.toNatClampNeg = r11 := by subst eM12; exact updS
  rw [ix_e hx, e11]
  rcases g1 with ⟨g1, g2, g3, gn1⟩ | ⟨g1, g2, g3⟩
  rotate_left
  · rw [g1, g2, if_pos rfl, if_pos rfl]
    exact w2.s (Or.inl ⟨rfl, rfl, by subst eM12; exact t1.1, g3⟩)
  rw [g1, if_neg (fun z => by rw [z] at g3; revert g3; decide), if_neg (by decide : ¬ (1 : Int32) = 0), ix_e hy]
  refine w2.ltR (fun N19 eN19 => ?_)
  have h19 : rdR M12 N19 := by subst eM12 eN19; exact t1.1.n gn1
  obtain ⟨M13, N20, r14, q3, q4, t2, g4⟩ := take_rel h19 58 (by decide)
  rw [q3, q4, cal_s, cal_s]
  rcases tk0 t2.1 g4 with ⟨g, h20⟩ | ⟨g, g5⟩
  rotate_left
  · rw [g5, if_pos rfl, if_pos rfl]
    exact w2.s (Or.inl g)
  rw [g, if_neg (by decide), if_neg (by decide)]
  obtain ⟨M15, N22, r16, b2, q5, q6, t3, g6⟩ := num10 h20
  rw [q5, q6, cal_s, cal_s, ix_e hx]
  refine w2.ltL (fun M17 eM17 => ?_)
  have e12 : M17.1 12 y.toNatClampNeg = r16 := by subst eM17; exact updS
  rw [ix_e hx, e12]
  rcases g6 with ⟨g6, g7, g8, gn2⟩ | ⟨g6, g7, g8⟩
  rotate_left
  · rw [g6, g7, if_pos rfl, if_pos rfl]
    exact w2.s (Or.inl ⟨rfl, rfl, by subst eM17; exact t3.1, g8⟩)
  rw [g6, if_neg (fun z => by rw [z] at g8; revert g8; decide), if_neg (by decide : ¬ (1 : Int32) = 0), ix_e hy]
  refine w2.ltR (fun N24 eN24 => ?_)
  have h24 : rdR M17 N24 := by subst eM17 eN24; exact t3.1.n gn2
  refine (fld_val h24 h0).mono (fun M' r N' s hq => ?_)
  rcases hq with hq | ⟨a1', a2, a3, v, hv, f13, f1, fo, n11, n12, n6, n20, no⟩
  · exact Or.inl hq
  have hq3 := hr_eq h3
  have hq8 := hr_eq h8
  subst eM17 eM12 eM9 eM6 eM3 eM2 eN24 eN19 eN16 eN11 eN6 eN5 eN2
  have k7 : M'.1 7 = upd (M.1 7) y.toNatClampNeg _ := (fo 7 (by decide) (by decide) (by decide)).trans ((t3.2.1 7 (by decide)).trans ((t2.2.1 7 (by decide)).trans (t1.2.1 7 (by decide))))
  have k8 : M'.1 8 = upd (M.1 8) y.toNatClampNeg (M.1 21 3) := (fo 8 (by decide) (by decide) (by decide)).trans ((t3.2.1 8 (by decide)).trans ((t2.2.1 8 (by decide)).trans (t1.2.1 8 (by decide))))
  have k9 : M'.1 9 = upd (M.1 9) y.toNatClampNeg a1 := (fo 9 (by decide) (by decide) (by decide)).trans ((t3.2.1 9 (by decide)).trans ((t2.2.1 9 (by decide)).trans (t1.2.1 9 (by decide))))
  have k10 : M'.1 10 = upd (M.1 10) y.toNatClampNeg _ := (fo 10 (by decide) (by decide) (by decide)).trans ((t3.2.1 10 (by decide)).trans ((t2.2.1 10 (by decide)).trans (t1.2.1 10 (by decide))))
  have k11 : M'.1 11 = upd (M.1 11) y.toNatClampNeg r11 := (fo 11 (by decide) (by decide) (by decide)).trans ((t3.2.1 11 (by decide)).trans ((t2.2.1 11 (by decide)).trans (congrArg (fun f => upd f y.toNatClampNeg r11) (t1.2.1 11 (by decide)))))
  have k12 : M'.1 12 = upd (M.1 12) y.toNatClampNeg r16 := (fo 12 (by decide) (by decide) (by decide)).trans (congrArg (fun f => upd f y.toNatClampNeg r16) ((t3.2.1 12 (by decide)).trans ((t2.2.1 12 (by decide)).trans (t1.2.1 12 (by decide)))))
  have k13 : M'.1 13 = upd (M.1 13) y.toNatClampNeg v := f13.trans (congrArg (fun f => upd f y.toNatClampNeg v) ((t3.2.1 13 (by decide)).trans ((t2.2.1 13 (by decide)).trans (t1.2.1 13 (by decide)))))
  have k1 : M'.1 1 = upd (M.1 1) 6 (y + 1) := f1.trans (congrArg (fun f => upd f 6 (y + 1)) ((t3.2.1 1 (by decide)).trans ((t2.2.1 1 (by decide)).trans (t1.2.1 1 (by decide)))))
  have j7 : N'.1 7 = upd (N.1 7) y.toNatClampNeg _ := (no 7 (by decide) (by decide)).trans ((t3.2.2.o 7 (by decide)).trans ((t2.2.2.o 7 (by decide)).trans (t1.2.2.o 7 (by decide))))
  have j13 : N'.1 13 = upd (N.1 13) y.toNatClampNeg (N.1 0 3) := (no 13 (by decide) (by decide)).trans ((t3.2.2.o 13 (by decide)).trans ((t2.2.2.o 13 (by decide)).trans (t1.2.2.o 13 (by decide))))
  have j12 : N'.1 12 = upd (N.1 12) y.toNatClampNeg (N.1 0 6) := (no 12 (by decide) (by decide)).trans ((t3.2.2.o 12 (by decide)).trans ((t2.2.2.o 12 (by decide)).trans (t1.2.2.o 12 (by decide))))
  have j8 : N'.1 8 = upd (N.1 8) y.toNatClampNeg _ := (no 8 (by decide) (by decide)).trans ((t3.2.2.o 8 (by decide)).trans ((t2.2.2.o 8 (by decide)).trans (t1.2.2.o 8 (by decide))))
  have j9 : N'.1 9 = upd (N.1 9) y.toNatClampNeg (N17.1 0 70) := (no 9 (by decide) (by decide)).trans ((t3.2.2.o 9 (by decide)).trans ((t2.2.2.o 9 (by decide)).trans (congrArg (fun f => upd f y.toNatClampNeg (N17.1 0 70)) (t1.2.2.o 9 (by decide)))))
  have j10 : N'.1 10 = upd (N.1 10) y.toNatClampNeg (N22.1 0 70) := (no 10 (by decide) (by decide)).trans (congrArg (fun f => upd f y.toNatClampNeg (N22.1 0 70)) ((t3.2.2.o 10 (by decide)).trans ((t2.2.2.o 10 (by decide)).trans (t1.2.2.o 10 (by decide)))))
  have j11 : N'.1 11 = upd (N.1 11) y.toNatClampNeg v := n11.trans (congrArg (fun f => upd f y.toNatClampNeg v) ((t3.2.2.o 11 (by decide)).trans ((t2.2.2.o 11 (by decide)).trans (t1.2.2.o 11 (by decide)))))
  have ht := fun z : Int32 => Int32.toInt_le z
  refine Or.inr ⟨a1', a2, a3, ?_, fun p p1 p2 p3 => ?_, ?_, ?_, ?_, fun p p1 p2 => ?_, fun hf => ?_, ?_⟩
  · rw [← ex]
    exact k1
  · have b7 : p ≠ 7 := by omega
    have b8 : p ≠ 8 := by omega
    have b9 : p ≠ 9 := by omega
    have b10 : p ≠ 10 := by omega
    have b11 : p ≠ 11 := by omega
    have b12 : p ≠ 12 := by omega
    have b13 : p ≠ 13 := by omega
    rw [fo p b13 p2 p3, stI_ne _ _ b12, t3.2.1 p p3, t2.2.1 p p3, stI_ne _ _ b11, t1.2.1 p p3, stI_ne _ _ b10]
    show (stI _ 21 _).1 p = _
    rw [stI_ne _ _ p3, stI_ne _ _ b7]
    show (stI _ 21 _).1 p = _
    rw [stI_ne _ _ p3, stI_ne _ _ b8, stI_ne _ _ b9]
  · rw [n12]
    show N22.1 0 12 + 1 = _
    rw [t3.2.2.s12, t2.2.2.s12]
    show N17.1 0 12 + 1 = _
    rw [t1.2.2.s12]
    show N.1 0 12 + 1 = _
    rw [hn]
  · rw [n6]
    show N22.1 0 6 = _
    rw [t3.2.2.s6, t2.2.2.s6]
    show N17.1 0 6 = _
    rw [t1.2.2.s6]
    rfl
  · rw [n20]
    show N22.1 0 20 = _
    rw [t3.2.2.s20, t2.2.2.s20]
    show N17.1 0 20 = _
    rw [t1.2.2.s20]
    rfl
  · have b7 : p ≠ 7 := by omega
    have b8 : p ≠ 8 := by omega
    have b9 : p ≠ 9 := by omega
    have b10 : p ≠ 10 := by omega
    have b11 : p ≠ 11 := by omega
    have b12 : p ≠ 12 := by omega
    have b13 : p ≠ 13 := by omega
    rw [no p p2 b11, stI_ne _ _ b10, t3.2.2.o p p2, t2.2.2.o p p2, stI_ne _ _ b9, t1.2.2.o p p2, stI_ne _ _ p2, stI_ne _ _ b8]
    show (stI _ 0 _).1 p = _
    rw [stI_ne _ _ p2, stI_ne _ _ b12, stI_ne _ _ b7, stI_ne _ _ b13]
  · rw [← ex] at hf ⊢
    obtain ⟨r1, r2, r3, r4, r5, r6, r7, r8, r9, r10, r11', r12⟩ := hf
    unfold fR
    rw [k7, k8, k9, k10, k11, k12, k13, j7, j8, j9, j10, j11, j12, j13, ← hq8, ← hq3, ← h.1, h6, ← g2, ← g7]
    refine ⟨?_, r2.up, r3.up, r4.up ⟨ra.1, ra.2.1⟩, r5.up, r6.up, r7.up, r8.up rn.1, r9.up ⟨h.2.2.2.1.1, ht _⟩, r10.up ⟨g3, ht _⟩, r11'.up ⟨g8, ht _⟩, r12.up ⟨hv, ht _⟩⟩
    rw [rn.2.1]
    exact r1.up
  · rw [h6, ← ex]
    exact k9
