def sgR (n : Nat) (f g : Nat → Int32) : Prop := ∀ i : Nat, i < n → ((0 ≤ (f i).toInt ∧ (f i).toInt < 3) ∧ sB 1 (f i).toNatClampNeg = g i)
theorem sgR.up {n : Nat} {f g : Nat → Int32} {v w : Int32} (h : sgR n f g) (hv : (0 ≤ v.toInt ∧ v.toInt < 3) ∧ sB 1 v.toNatClampNeg = w) : sgR (n + 1) (upd f n v) (upd g n w) := by
  intro i hi
  by_cases c : i = n
  · rw [c, updS, updS]
    exact hv
  · rw [updN c, updN c]
    exact h i (by omega)
def ruR (n : Nat) (M N : Mm) : Prop := sgR n (M.1 15) (N.1 14) ∧ eqTo n (M.1 16) (N.1 15) ∧ eqTo n (M.1 17) (N.1 16) ∧ eqTo n (M.1 18) (N.1 17) ∧ eqTo n (M.1 19) (N.1 18) ∧ eqTo n (M.1 20) (N.1 19) ∧ rgTo n 0 25 (M.1 16) ∧ rgTo n 0 25 (M.1 17) ∧ rgTo n 0 2147483647 (M.1 18) ∧ rgTo n 0 2147483647 (M.1 19) ∧ rgTo n 0 2147483647 (M.1 20)
theorem sgn_y {M N : Mm} (h : rdR M N) (x : Int32) : (cal (q_ChipMapModel_here N) fun M11 r12 => if r12 = 60 then (q_ChipMapModel_readRule_100 M11 x) else (cal (q_ChipMapModel_here M11) fun M13 r14 => if r14 = 38 then (q_ChipMapModel_readRule_100 M13 x) else (cal (q_ChipMapModel_here M13) fun M15 r16 => if r16 = 33 then (q_ChipMapModel_readRule_100 M15 x) else (cal (q_ChipMapModel_wrong M15 1 (M15.1 0 3)) fun M17 r18 => bz r18 (some (M17, r18)))))) = if sg (hrX M) = -1 then some (wrY N 1 (N.1 0 3), 0) else q_ChipMapModel_readRule_100 N x := by
  rw [hr_e h, cal_s, ← hr_eq h]
  unfold sg
  by_cases c0 : hrX M = 60
  · rw [if_pos c0, if_pos c0, if_neg (by decide)]
  rw [if_neg c0, if_neg c0, hr_e h, cal_s, ← hr_eq h]
  by_cases c1 : hrX M = 38
  · rw [if_pos c1, if_pos c1, if_neg (by decide)]
  rw [if_neg c1, if_neg c1, hr_e h, cal_s, ← hr_eq h]
  by_cases c2 : hrX M = 33
  · rw [if_pos c2, if_pos c2, if_neg (by decide)]
  rw [if_neg c2, if_neg c2, if_pos rfl, wg_e, cal_s, bz_e0]
theorem rul_tail {M N : Mm} {x v : Int32} (h : rdR M N) (hi : 0 ≤ x.toInt ∧ x.toInt < 12) (hv : 0 ≤ v.toInt) : w2 (q_Reader_readRule_119 M x v x) (q_ChipMapModel_readRule_190 N) (fun M' r N' s => fl0 M' r N' s ∨ (r = 1 ∧ s = 1 ∧ rdR M' N' ∧ M'.1 18 = upd (M.1 18) x.toNatClampNeg v ∧ (∀ p, p ≠ 18 → p ≠ 21 → M'.1 p = M.1 p) ∧ N'.1 0 20 = N.1 0 20 + 1 ∧ N'.1 0 6 = N.1 0 6 ∧ N'.1 0 12 = N.1 0 12 ∧ (∀ p, p ≠ 0 → N'.1 p = N.1 p))) := by
  have hx : vp_in x 12 := vI hi
  have em : (-1 : Int32).toInt = -1 := by decide
  unfold q_Reader_readRule_119 q_ChipMapModel_readRule_190
  rw [ix_e hx, lq_s, ix_e hx, st_up, if_neg (fun z => by rw [z] at hv; omega), lq_s]
  have h2 : rdR (stI M 18 (upd (M.1 18) x.toNatClampNeg v)) (stI N 0 (upd (N.1 0) 20 (N.1 0 20 + 1))) := h
  obtain ⟨M', N', r, q1, q2, ht, hr⟩ := take_rel h2 59 (by decide)
  rw [q1, q2, cal_s, cal_s]
  rcases tk0 ht.1 hr with ⟨g, g1⟩ | ⟨g, g1⟩
  · rw [g, if_neg (by decide), bz_e1]
    refine w2.s (Or.inr ⟨rfl, rfl, g1, ht.2.1 18 (by decide), fun p p1 p2 => ?_, ht.2.2.s20, ht.2.2.s6, ht.2.2.s12, fun p p1 => ?_⟩)
    · exact (ht.2.1 p p2).trans (stI_ne _ _ p1)
    · exact (ht.2.2.o p p1).trans (stI_ne _ _ p1)
  · rw [g1, if_pos rfl, bz_e0]
    exact w2.s (Or.inl g)
theorem rul_m {M : Mm} {x : Int32} (hi : 0 ≤ x.toInt ∧ x.toInt < 12) : ∃ M' : Mm, q_Reader_readRule_119 M x (-1) x = some (M', 0) ∧ ∀ N : Mm, rd0 M N → rd0 M' N := by
  have hx : vp_in x 12 := vI hi
  unfold q_Reader_readRule_119
  rw [ix_e hx, lq_s, ix_e hx, if_pos st_up]
  exact ⟨_, rfl, fun N h => h⟩
theorem rul_val {M N : Mm} {x : Int32} (h : rdR M N) (hi : 0 ≤ x.toInt ∧ x.toInt < 12) (hs : M.1 15 x.toNatClampNeg = 1 ↔ N.1 14 x.toNatClampNeg = 38) : w2 (if (M.1 15 (x : Int32).toNatClampNeg) = 1 then (cal (q_Reader_numberBehindSign M) fun M12 r13 => q_Reader_readRule_119 M12 x r13 x) else (q_Reader_readRule_119 M x 0 x)) (ix x 13 <| lt' (stI N 17 (upd (N.1 17) (x : Int32).toNatClampNeg 0)) fun M8 => ix x 13 <| if (M8.1 14 (x : Int32).toNatClampNeg) = 38 then (cal (q_ChipMapModel_take M8 61) fun M9 r10 => if r10 = 0 then (some (M9, 0)) else (cal (q_ChipMapModel_takeHex M9 1 4) fun M11 r12 => if r12 = 0 then (some (M11, 0)) else (ix x 13 <| lt' (stI M11 17 (upd (M11.1 17) (x : Int32).toNatClampNeg (M11.1 0 70))) fun M13 => q_ChipMapModel_readRule_190 M13))) else (q_ChipMapModel_readRule_190 M8)) (fun M' r N' s => fl0 M' r N' s ∨ (r = 1 ∧ s = 1 ∧ rdR M' N' ∧ ∃ v : Int32, 0 ≤ v.toInt ∧ M'.1 18 = upd (M.1 18) x.toNatClampNeg v ∧ (∀ p, p ≠ 18 → p ≠ 21 → M'.1 p = M.1 p) ∧ N'.1 17 = upd (N.1 17) x.toNatClampNeg v ∧ N'.1 0 20 = N.1 0 20 + 1 ∧ N'.1 0 6 = N.1 0 6 ∧ N'.1 0 12 = N.1 0 12 ∧ (∀ p, p ≠ 0 → p ≠ 17 → N'.1 p = N.1 p))) := by
  have hy : vp_in x 13 := vI (by omega)
  rw [ix_e hy]
  refine w2.ltR (fun N8 eN => ?_)
  have h1 : rdR M N8 := by subst eN; exact h
  have e14 : N8.1 14 = N.1 14 := by subst eN; rfl
  rw [ix_e hy, e14]
  by_cases c : M.1 15 x.toNatClampNeg = 1
  · rw [if_pos c, if_pos (hs.mp c)]
    unfold q_Reader_numberBehindSign
    obtain ⟨M9, N9, r9, q3, q4, t3, g3⟩ := take_rel h1 61 (by decide)
    rw [q3, q4, cal_s, cal_s]
    rcases tk0 t3.1 g3 with ⟨g, h9⟩ | ⟨g, g5⟩
    rotate_left
    · rw [g5, if_pos rfl, if_pos rfl, cal_s]
      obtain ⟨M', q5, q6⟩ := rul_m (M := M9) hi
      rw [q5]
      exact w2.s (Or.inl ⟨rfl, rfl, q6 _ g.2.2.1, g.2.2.2⟩)
    rw [g, if_neg (by decide), if_neg (by decide)]
    obtain ⟨M11, N11, r, b, q1, q2, t, g4⟩ := num16 h9 1 4 (by decide)
    rw [q1, q2, cal_s, cal_s, cal_s]
    rcases g4 with ⟨g1, g2, g3, gn⟩ | ⟨g1, g2, g3⟩
    · rw [g1, if_neg (by decide), ix_e hy]
      refine w2.ltR (fun N13 eN13 => ?_)
      have h3 : rdR M11 N13 := by subst eN13; exact t.1.n gn
      refine (rul_tail h3 hi g3).mono (fun M' r' N' s hq => ?_)
      rcases hq with hq | ⟨a1, a2, a3, a4, a6, a7, a8, a9, a10⟩
      · exact Or.inl hq
      · refine Or.inr ⟨a1, a2, a3, r, g3, ?_, fun p p1 p3 => ?_, ?_, ?_, ?_, ?_, fun p p1 p2 => ?_⟩
        · rw [a4, t.2.1 18 (by decide), t3.2.1 18 (by decide)]
        · rw [a6 p p1 p3, t.2.1 p p3, t3.2.1 p p3]
        · rw [a10 17 (by decide), eN13]
          show upd (N11.1 17) _ (N11.1 0 70) = _
          rw [← g2, t.2.2.o 17 (by decide), t3.2.2.o 17 (by decide), eN]
          exact upd_upd
        · rw [a7, eN13]
          show N11.1 0 20 + 1 = _
          rw [t.2.2.s20, t3.2.2.s20, eN]
          rfl
        · rw [a8, eN13]
          show N11.1 0 6 = _
          rw [t.2.2.s6, t3.2.2.s6, eN]
          rfl
        · rw [a9, eN13]
          show N11.1 0 12 = _
          rw [t.2.2.s12, t3.2.2.s12, eN]
          rfl
        · rw [a10 p p1, eN13, stI_ne _ _ p2, t.2.2.o p p1, t3.2.2.o p p1, eN, stI_ne _ _ p2]
    · rw [g1, g2, if_pos rfl]
      obtain ⟨M', q5, q6⟩ := rul_m (M := M11) hi
      rw [q5]
      exact w2.s (Or.inl ⟨rfl, rfl, q6 _ t.1, g3⟩)
  · rw [if_neg c, if_neg (fun z => c (hs.mpr z))]
    refine (rul_tail h1 hi (by decide)).mono (fun M' r' N' s hq => ?_)
    rcases hq with hq | ⟨a1, a2, a3, a4, a6, a7, a8, a9, a10⟩
    · exact Or.inl hq
    · refine Or.inr ⟨a1, a2, a3, 0, by decide, a4, a6, ?_, ?_, ?_, ?_, fun p p1 p2 => ?_⟩
      · rw [a10 17 (by decide), eN]
        rfl
      · rw [a7, eN]
        rfl
      · rw [a8, eN]
        rfl
      · rw [a9, eN]
        rfl
      · rw [a10 p p1, eN]
        exact stI_ne _ _ p2
def ruQ (M N : Mm) (M' : Mm) (r : Int32) (N' : Mm) (s : Int32) : Prop := fl0 M' r N' s ∨ (r = 1 ∧ s = 1 ∧ rdR M' N' ∧ N'.1 0 20 = N.1 0 20 + 1 ∧ N'.1 0 6 = N.1 0 6 ∧ N'.1 0 12 = N.1 0 12 ∧ (∀ p, p < 15 ∨ 21 < p → M'.1 p = M.1 p) ∧ (∀ p, p < 14 ∨ 19 < p → p ≠ 0 → N'.1 p = N.1 p) ∧ (ruR (N.1 0 20).toNatClampNeg M N → ruR ((N.1 0 20).toNatClampNeg + 1) M' N'))
theorem rul_rel {M N : Mm} {x : Int32} (h : rdR M N) (h20 : N.1 0 20 = x) (h0 : 0 ≤ x.toInt ∧ x.toInt < 12) : w2 (q_Reader_readRule M x) (q_ChipMapModel_readRule N) (ruQ M N) := by
  have hx : vp_in x 12 := vI h0
  have hy : vp_in x 13 := vI (by omega)
  have z12 : (12 : Int32).toInt = 12 := rfl
  unfold q_Reader_readRule q_ChipMapModel_readRule
  rw [h20, ix_e hx]
  refine w2.ltL (fun M1 eM1 => ?_)
  rw [lq_s, if_neg (fun z => by rw [z] at h0; omega), ix_e hy]
  refine w2.ltR (fun N2 eN2 => ?_)
  have h2 : rdR M1 N2 := by subst eM1 eN2; exact h
  rw [hr_e h2, cal_s, ix_e hy]
  refine w2.ltR (fun N5 eN5 => ?_)
  have h5 : rdR M1 N5 := by subst eN5; exact h2
  rw [nm_x h5, nm_y h5]
  by_cases c1 : nmv (hrX M1) = -1
  · rw [if_pos c1, if_pos c1, cal_s, cal_s, ix_e hx, lq_s, ix_e hx, if_pos st_up, if_pos rfl]
    exact w2.s (Or.inl ⟨rfl, rfl, rd_wr h5, wr_f⟩)
  have rn := (nmv_r (hrX M1)).resolve_left c1
  rw [if_neg c1, if_neg c1, cal_s, cal_s, ix_e hx]
  refine w2.ltL (fun M4 eM4 => ?_)
  have e4 : M4.1 16 x.toNatClampNeg = nmv (hrX M1) := by rw [eM4]; exact st_up
  rw [ix_e hx, e4, if_neg c1, if_neg (by decide : ¬ (1 : Int32) = 0)]
  have h4 : rdR M4 (avY N5) := by subst eM4; exact rd_av h5 rn.2.2
  rw [hr_e h4, cal_s, ix_e hy]
  refine w2.ltR (fun N10 eN10 => ?_)
  have h10 : rdR M4 N10 := by subst eN10; exact h4
  rw [sgn_y h10 x, sg_one h10]
  by_cases c2 : sg (hrX M4) = -1
  · rw [if_pos c2, if_pos c2, cal_s, ix_e hx, lq_s, ix_e hx, if_pos st_up]
    exact w2.s (Or.inl ⟨rfl, rfl, rd_wr h10, wr_f⟩)
  have rs := (sg_r (hrX M4)).resolve_left c2
  unfold q_ChipMapModel_readRule_100
  rw [if_neg c2, if_neg c2, cal_s, ix_e hx]
  refine w2.ltL (fun M7 eM7 => ?_)
  have e7 : M7.1 15 x.toNatClampNeg = sg (hrX M4) := by rw [eM7]; exact st_up
  rw [ix_e hx, e7, if_neg c2, ix_e hx]
  refine w2.ltL (fun M8 eM8 => ?_)
  refine w2.ltR (fun N11 eN11 => ?_)
  rw [ix_e hy]
  refine w2.ltR (fun N12 eN12 => ?_)
  have h12 : rdR M8 N12 := by subst eM8 eM7 eN12 eN11; exact rd_av h10 rs.2.2
  rw [hr_e h12, cal_s, ix_e hy]
  refine w2.ltR (fun N15 eN15 => ?_)
  have h15 : rdR M8 N15 := by subst eN15; exact h12
  rw [nm_x h15, nm_y h15]
  by_cases c3 : nmv (hrX M8) = -1
  · rw [if_pos c3, if_pos c3, cal_s, cal_s, ix_e hx, lq_s, ix_e hx, if_pos st_up, if_pos rfl]
    exact w2.s (Or.inl ⟨rfl, rfl, rd_wr h15, wr_f⟩)
  have rm := (nmv_r (hrX M8)).resolve_left c3
  rw [if_neg c3, if_neg c3, cal_s, cal_s, ix_e hx]
  refine w2.ltL (fun M11 eM11 => ?_)
  have e11 : M11.1 17 x.toNatClampNeg = nmv (hrX M8) := by rw [eM11]; exact st_up
  rw [ix_e hx, e11, if_neg c3, if_neg (by decide : ¬ (1 : Int32) = 0), ix_e hx]
  have h11 : rdR M11 (avY N15) := by subst eM11; exact rd_av h15 rm.2.2
  have hq2 := hr_eq h2
  have hq4 := hr_eq h4
  have hq12 := hr_eq h12
  have k15 : M11.1 15 = upd (M.1 15) x.toNatClampNeg (sg (hrX M4)) := by subst eM11 eM8 eM7 eM4 eM1; rfl
  have j14 : (avY N15).1 14 = upd (N.1 14) x.toNatClampNeg (hrX M4) := by rw [hq4]; subst eN15 eN12 eN11 eN10 eN5 eN2; rfl
  have hs : M11.1 15 x.toNatClampNeg = 1 ↔ (avY N15).1 14 x.toNatClampNeg = 38 := by
    rw [k15, j14, updS, updS]
    constructor
    · intro z
      have w := rs.2.1
      rw [z] at w
      rw [← w]
      decide
    · intro z
      rw [z]
      decide
  refine (rul_val h11 h0 hs).mono (fun M' r N' s hq => ?_)
  rcases hq with hq | ⟨a1, a2, a3, v, hv, f18, fo, n17, n20, n6, n12, no⟩
  · exact Or.inl hq
  have k16 : M'.1 16 = upd (M.1 16) x.toNatClampNeg (nmv (hrX M1)) := (fo 16 (by decide) (by decide)).trans (by subst eM11 eM8 eM7 eM4 eM1; rfl)
  have k17 : M'.1 17 = upd (M.1 17) x.toNatClampNeg (nmv (hrX M8)) := (fo 17 (by decide) (by decide)).trans (by subst eM11 eM8 eM7 eM4 eM1; rfl)
  have k18 : M'.1 18 = upd (M.1 18) x.toNatClampNeg v := f18.trans (by subst eM11 eM8 eM7 eM4 eM1; rfl)
  have k19 : M'.1 19 = upd (M.1 19) x.toNatClampNeg (M.1 21 3) := (fo 19 (by decide) (by decide)).trans (by subst eM11 eM8 eM7 eM4 eM1; rfl)
  have k20 : M'.1 20 = upd (M.1 20) x.toNatClampNeg (M8.1 21 3) := (fo 20 (by decide) (by decide)).trans (by subst eM11 eM8 eM7 eM4 eM1; rfl)
  have j15 : N'.1 15 = upd (N.1 15) x.toNatClampNeg (hrX M1 - 65) := (no 15 (by decide) (by decide)).trans (by rw [hq2]; subst eN15 eN12 eN11 eN10 eN5 eN2; rfl)
  have j16 : N'.1 16 = upd (N.1 16) x.toNatClampNeg (hrX M8 - 65) := (no 16 (by decide) (by decide)).trans (by rw [hq12]; subst eN15 eN12 eN11 eN10 eN5 eN2; rfl)
  have j17 : N'.1 17 = upd (N.1 17) x.toNatClampNeg v := n17.trans (by subst eN15 eN12 eN11 eN10 eN5 eN2; rfl)
  have j18 : N'.1 18 = upd (N.1 18) x.toNatClampNeg (N.1 0 3) := (no 18 (by decide) (by decide)).trans (by subst eN15 eN12 eN11 eN10 eN5 eN2; rfl)
  have j19 : N'.1 19 = upd (N.1 19) x.toNatClampNeg (N12.1 0 3) := (no 19 (by decide) (by decide)).trans (by subst eN15 eN12 eN11 eN10 eN5 eN2; rfl)
  have ht := fun z : Int32 => Int32.toInt_le z
  refine Or.inr ⟨a1, a2, a3, ?_, ?_, ?_, fun p p1 => ?_, fun p p1 p2 => ?_, fun hf => ?_⟩
  · rw [n20]
    subst eN15 eN12 eN11 eN10 eN5 eN2
    rfl
  · rw [n6]
    subst eN15 eN12 eN11 eN10 eN5 eN2
    rfl
  · rw [n12]
    subst eN15 eN12 eN11 eN10 eN5 eN2
    rfl
  · have b15 : p ≠ 15 := by omega
    have b16 : p ≠ 16 := by omega
    have b17 : p ≠ 17 := by omega
    have b18 : p ≠ 18 := by omega
    have b19 : p ≠ 19 := by omega
    have b20 : p ≠ 20 := by omega
    have b21 : p ≠ 21 := by omega
    rw [fo p b18 b21, eM11, stI_ne _ _ b17]
    show (stI _ 21 _).1 p = _
    rw [stI_ne _ _ b21, eM8, stI_ne _ _ b20, eM7, stI_ne _ _ b15]
    show (stI _ 21 _).1 p = _
    rw [stI_ne _ _ b21, eM4, stI_ne _ _ b16]
    show (stI _ 21 _).1 p = _
    rw [stI_ne _ _ b21, eM1, stI_ne _ _ b19]
  · have b14 : p ≠ 14 := by omega
    have b15 : p ≠ 15 := by omega
    have b16 : p ≠ 16 := by omega
    have b17 : p ≠ 17 := by omega
    have b18 : p ≠ 18 := by omega
    have b19 : p ≠ 19 := by omega
    rw [no p p2 b17]
    show (stI _ 0 _).1 p = _
    rw [stI_ne _ _ p2, eN15, stI_ne _ _ b16, eN12, stI_ne _ _ b19, eN11, stI_ne _ _ p2, eN10, stI_ne _ _ b14]
    show (stI _ 0 _).1 p = _
    rw [stI_ne _ _ p2, eN5, stI_ne _ _ b15, eN2, stI_ne _ _ b18]
  · rw [h20] at hf ⊢
    obtain ⟨r1, r2, r3, r4, r5, r6, r7, r8, r9, r10, r11⟩ := hf
    have k15' : M'.1 15 = upd (M.1 15) x.toNatClampNeg (sg (hrX M4)) := (fo 15 (by decide) (by decide)).trans k15
    have j14' : N'.1 14 = upd (N.1 14) x.toNatClampNeg (hrX M4) := (no 14 (by decide) (by decide)).trans j14
    have a3' := h12.1
    have a3r := h12.2.2.2.1.1
    unfold ruR
    rw [k15', k16, k17, k18, k19, k20, j14', j15, j16, j17, j18, j19, ← h.1, ← a3', ← rn.2.1, ← rm.2.1]
    exact ⟨r1.up ⟨rs.1, rs.2.1⟩, r2.up, r3.up, r4.up, r5.up, r6.up, r7.up rn.1, r8.up rm.1, r9.up ⟨hv, ht _⟩, r10.up ⟨h.2.2.2.1.1, ht _⟩, r11.up ⟨a3r, ht _⟩⟩
