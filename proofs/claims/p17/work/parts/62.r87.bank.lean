def bkR (n : Nat) (M N : Mm) : Prop := ∀ i : Nat, i < n → M.1 4 i = N.1 3 i ∧ (-1 ≤ (M.1 4 i).toInt ∧ (M.1 4 i).toInt ≤ 25) ∧ (M.1 4 i ≠ -1 → M.1 5 i = N.1 6 i ∧ M.1 6 i = N.1 4 i ∧ 0 ≤ (M.1 5 i).toInt ∧ 0 ≤ (M.1 6 i).toInt)
def bkP (k : Nat) (M N M' N' : Mm) : Prop := rdR M' N' ∧ (∀ p, p ≠ 4 → p ≠ 5 → p ≠ 6 → p ≠ 21 → M'.1 p = M.1 p) ∧ (∀ p, p ≠ 0 → p ≠ 3 → p ≠ 4 → p ≠ 6 → N'.1 p = N.1 p) ∧ N'.1 0 6 = N.1 0 6 ∧ N'.1 0 12 = N.1 0 12 ∧ N'.1 0 20 = N.1 0 20 ∧ (bkR k M N → bkR (k + 1) M' N')
theorem bank_rel {M N : Mm} {x : Int32} {K : Mm → Rs} {Q : Mm → Int32 → Mm → Int32 → Prop} (h : rdR M N) (hi : 0 ≤ x.toInt ∧ x.toInt < 16) (hQ : ∀ M' N', fl0 M' 0 N' 0 → Q M' 0 N' 0) (hK : ∀ M' N', bkP x.toNatClampNeg M N M' N' → w2 (K M') (q_ChipMapModel_readRegister_147 N') Q) : w2 (cal (q_Reader_readBank M x) fun M7 r8 => if r8 = 0 then (some (M7, 0)) else (K M7)) (ix x 17 <| lt' (stI N 3 (upd (N.1 3) (x : Int32).toNatClampNeg (-1))) fun M8 => cal (q_ChipMapModel_here M8) fun M9 r10 => if r10 = 63 then (lt' (stI M9 0 (upd (M9.1 0) 3 ((M9.1 0 3) + 1))) fun M11 => ix x 17 <| lt' (stI M11 6 (upd (M11.1 6) (x : Int32).toNatClampNeg (M11.1 0 3))) fun M12 => cal (q_ChipMapModel_here M12) fun M13 r14 => ix x 17 <| lt' (stI M13 3 (upd (M13.1 3) (x : Int32).toNatClampNeg (r14 - 65))) fun M15 => cal (q_ChipMapModel_takeName M15) fun M16 r17 => if r17 = 0 then (some (M16, 0)) else (cal (q_ChipMapModel_take M16 61) fun M18 r19 => if r19 = 0 then (some (M18, 0)) else (cal (q_ChipMapModel_takeHex M18 1 1) fun M20 r21 => if r21 = 0 then (some (M20, 0)) else (ix x 17 <| lt' (stI M20 4 (upd (M20.1 4) (x : Int32).toNatClampNeg (M20.1 0 70))) fun M22 => q_ChipMapModel_readRegister_147 M22)))) else (q_ChipMapModel_readRegister_147 M9)) Q := by
  have hx : vp_in x 16 := vI hi
  have hy : vp_in x 17 := vI (by omega)
  unfold q_Reader_readBank
  rw [ix_e hx, ix_e hy, lq_s]
  obtain ⟨M1, eM1⟩ : ∃ z, z = stI M 4 (upd (M.1 4) x.toNatClampNeg (-1)) := ⟨_, rfl⟩
  rw [← eM1]
  refine w2.ltR (fun N8 eN8 => ?_)
  have h1 : rdR M1 N8 := by subst eM1 eN8; exact h
  rw [nx_e h1, hr_e h1, cal_s, cal_s, ← hr_eq h1]
  by_cases c : hrX M1 = 63
  rotate_left
  · rw [if_neg c, if_neg c, cal_s, if_neg (by decide)]
    refine hK _ _ ?_
    subst eM1 eN8
    refine ⟨h1, fun p p1 _ _ _ => stI_ne _ _ p1, fun p _ p1 _ _ => stI_ne _ _ p1, rfl, rfl, rfl, fun hb i hi => ?_⟩
    show upd (M.1 4) x.toNatClampNeg (-1) i = upd (N.1 3) x.toNatClampNeg (-1) i ∧ (-1 ≤ (upd (M.1 4) x.toNatClampNeg (-1) i).toInt ∧ (upd (M.1 4) x.toNatClampNeg (-1) i).toInt ≤ 25) ∧ (upd (M.1 4) x.toNatClampNeg (-1) i ≠ -1 → M.1 5 i = N.1 6 i ∧ M.1 6 i = N.1 4 i ∧ 0 ≤ (M.1 5 i).toInt ∧ 0 ≤ (M.1 6 i).toInt)
    by_cases d : i = x.toNatClampNeg
    · rw [d, updS, updS]
      exact ⟨rfl, by decide, fun z => absurd rfl z⟩
    · rw [updN d, updN d]
      exact hb i (by omega)
  rw [if_pos c, if_pos c]
  have hz : (hrX M1).toInt ≠ 0 := by rw [c]; decide
  rw [lq_s, ix_e hx, lq_s]
  refine w2.ltR (fun N11 eN11 => ?_)
  rw [ix_e hy]
  refine w2.ltR (fun N12 eN12 => ?_)
  obtain ⟨M5, eM5⟩ : ∃ z, z = stI (stI M1 21 (upd (M1.1 21) 3 (M1.1 21 3 + 1))) 5 (upd ((stI M1 21 (upd (M1.1 21) 3 (M1.1 21 3 + 1))).1 5) x.toNatClampNeg ((stI M1 21 (upd (M1.1 21) 3 (M1.1 21 3 + 1))).1 21 3)) := ⟨_, rfl⟩
  rw [← eM5]
  have h5 : rdR M5 N12 := by subst eM5 eN12 eN11; exact rd_av h1 hz
  rw [hr_e h5, cal_s, ix_e hy]
  refine w2.ltR (fun N15 eN15 => ?_)
  have h15 : rdR M5 N15 := by subst eN15; exact h5
  rw [nm_x h15, nm_y h15]
  by_cases c1 : nmv (hrX M5) = -1
  · rw [if_pos c1, if_pos c1, cal_s, cal_s, ix_e hx, lq_s, ix_e hx, if_pos st_up, cal_s, if_pos rfl, if_pos rfl]
    exact w2.s (hQ _ _ ⟨rfl, rfl, rd_wr h15, wr_f⟩)
  have rn := (nmv_r (hrX M5)).resolve_left c1
  rw [if_neg c1, if_neg c1, cal_s, cal_s, ix_e hx, lq_s, ix_e hx, if_neg (by decide : ¬ (1 : Int32) = 0)]
  obtain ⟨M8, eM8⟩ : ∃ z, z = stI (avX M5) 4 (upd ((avX M5).1 4) x.toNatClampNeg (nmv (hrX M5))) := ⟨_, rfl⟩
  rw [← eM8]
  have e8 : M8.1 4 x.toNatClampNeg = nmv (hrX M5) := by rw [eM8]; exact st_up
  rw [e8, if_neg c1]
  have h8 : rdR M8 (avY N15) := by subst eM8; exact rd_av h15 rn.2.2
  obtain ⟨M9, N18, r10, q1, q2, t1, g1⟩ := take_rel h8 61 (by decide)
  rw [q1, q2, cal_s, cal_s]
  rcases tk0 t1.1 g1 with ⟨g, h9⟩ | ⟨g, g5⟩
  rotate_left
  · rw [g5, if_pos rfl, if_pos rfl, cal_s, if_pos rfl]
    exact w2.s (hQ _ _ g)
  rw [g, if_neg (by decide), if_neg (by decide)]
  obtain ⟨M11, N20, r12, b2, q5, q6, t2, g6⟩ := num16 h9 1 1 (by decide)
  rw [q5, q6, cal_s, cal_s, ix_e hx, lq_s, ix_e hx]
  obtain ⟨M13, eM13⟩ : ∃ z, z = stI M11 6 (upd (M11.1 6) x.toNatClampNeg r12) := ⟨_, rfl⟩
  rw [← eM13]
  have e13 : M13.1 6 x.toNatClampNeg = r12 := by rw [eM13]; exact st_up
  rw [e13]
  rcases g6 with ⟨g6, g7, g8, gn⟩ | ⟨g6, g7, g8⟩
  rotate_left
  · rw [g6, g7, if_pos rfl, if_pos rfl, cal_s, if_pos rfl]
    exact w2.s (hQ _ _ ⟨rfl, rfl, by subst eM13; exact t2.1, g8⟩)
  rw [g6, if_neg (fun z => by rw [z] at g8; revert g8; decide), if_neg (by decide : ¬ (1 : Int32) = 0), cal_s, if_neg (by decide), ix_e hy]
  refine w2.ltR (fun N22 eN22 => ?_)
  refine hK _ _ ?_
  have hq5 := hr_eq h5
  have h1a := h1.1
  have h1n := h1.2.2.2.1
  have hlt := hr_lt h1 hz
  subst eM13 eM8 eM5 eM1 eN22 eN15 eN12 eN11 eN8
  have k4 : (stI M11 6 (upd (M11.1 6) x.toNatClampNeg r12)).1 4 = upd (upd (M.1 4) x.toNatClampNeg (-1)) x.toNatClampNeg _ := (t2.2.1 4 (by decide)).trans (t1.2.1 4 (by decide))
  have k5 : (stI M11 6 (upd (M11.1 6) x.toNatClampNeg r12)).1 5 = upd (M.1 5) x.toNatClampNeg (M.1 21 3 + 1) := (t2.2.1 5 (by decide)).trans (t1.2.1 5 (by decide))
  have k6 : (stI M11 6 (upd (M11.1 6) x.toNatClampNeg r12)).1 6 = upd (M.1 6) x.toNatClampNeg r12 := congrArg (fun f => upd f x.toNatClampNeg r12) ((t2.2.1 6 (by decide)).trans (t1.2.1 6 (by decide)))
  have j3 : (stI N20 4 (upd (N20.1 4) x.toNatClampNeg (N20.1 0 70))).1 3 = upd (upd (N.1 3) x.toNatClampNeg (-1)) x.toNatClampNeg _ := (t2.2.2.o 3 (by decide)).trans (t1.2.2.o 3 (by decide))
  have j6 : (stI N20 4 (upd (N20.1 4) x.toNatClampNeg (N20.1 0 70))).1 6 = upd (N.1 6) x.toNatClampNeg (N.1 0 3 + 1) := (t2.2.2.o 6 (by decide)).trans (t1.2.2.o 6 (by decide))
  have j4 : (stI N20 4 (upd (N20.1 4) x.toNatClampNeg (N20.1 0 70))).1 4 = upd (N.1 4) x.toNatClampNeg (N20.1 0 70) := congrArg (fun f => upd f x.toNatClampNeg (N20.1 0 70)) ((t2.2.2.o 4 (by decide)).trans (t1.2.2.o 4 (by decide)))
  refine ⟨t2.1.n gn, fun p p1 p2 p3 p4 => ?_, fun p p1 p2 p3 p4 => ?_, ?_, ?_, ?_, fun hb i hi => ?_⟩
  · rw [stI_ne _ _ p3, t2.2.1 p p4, t1.2.1 p p4, stI_ne _ _ p1]
    show (stI _ 21 _).1 p = _
    rw [stI_ne _ _ p4, stI_ne _ _ p2, stI_ne _ _ p4, stI_ne _ _ p1]
  · rw [stI_ne _ _ p3, t2.2.2.o p p1, t1.2.2.o p p1]
    show (stI _ 0 _).1 p = _
    rw [stI_ne _ _ p1, stI_ne _ _ p2, stI_ne _ _ p4, stI_ne _ _ p1, stI_ne _ _ p2]
  · exact t2.2.2.s6.trans t1.2.2.s6
  · exact t2.2.2.s12.trans t1.2.2.s12
  · exact t2.2.2.s20.trans t1.2.2.s20
  · rw [k4, k5, k6, j3, j4, j6, upd_upd, upd_upd]
    by_cases d : i = x.toNatClampNeg
    · rw [d, updS, updS, updS, updS, updS, updS]
      refine ⟨?_, ?_, fun _ => ⟨?_, g7, ?_, g8⟩⟩
      · rw [rn.2.1, hq5]
      · have := rn.1
        omega
      · have h1b : M.1 21 3 = N.1 0 3 := h.1
        rw [h1b]
      · have h0 := h.2.2.2.1
        have e : (M.1 21 3 + 1).toInt = (M.1 21 3).toInt + 1 := iadd rfl (rfl : (1 : Int32).toInt = 1) (by omega) (by omega)
        omega
    · rw [updN d, updN d, updN d, updN d, updN d, updN d]
      exact hb i (by omega)
