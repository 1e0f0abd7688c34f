def gR (n : Nat) (M N : Mm) : Prop := eqTo n (M.1 2) (N.1 5) ∧ eqTo n (M.1 3) (N.1 2) ∧ rgTo n 0 2147483647 (M.1 2) ∧ rgTo n 0 2147483647 (M.1 3) ∧ bkR n M N
theorem bkR.cg {n : Nat} {M N M' N' : Mm} (h : bkR n M N) (a4 : M'.1 4 = M.1 4) (a5 : M'.1 5 = M.1 5) (a6 : M'.1 6 = M.1 6) (b3 : N'.1 3 = N.1 3) (b4 : N'.1 4 = N.1 4) (b6 : N'.1 6 = N.1 6) : bkR n M' N' := by
  unfold bkR
  rw [a4, a5, a6, b3, b4, b6]
  exact h
def rgQ (M N : Mm) (M' : Mm) (r : Int32) (N' : Mm) (s : Int32) : Prop := fl0 M' r N' s ∨ (r = 1 ∧ s = 1 ∧ rdR M' N' ∧ N'.1 0 12 = M'.1 1 6 ∧ ((M.1 1 6).toInt ≤ (M'.1 1 6).toInt ∧ (M'.1 1 6).toInt ≤ (M.1 1 6).toInt + 8) ∧ N'.1 0 6 = N.1 0 6 + 1 ∧ N'.1 0 20 = N.1 0 20 ∧ (∀ p, p = 0 ∨ 13 < p → p ≠ 21 → M'.1 p = M.1 p) ∧ (∀ p, p = 1 ∨ 13 < p → N'.1 p = N.1 p) ∧ (fR (M.1 1 6).toNatClampNeg M N → fR (M'.1 1 6).toNatClampNeg M' N') ∧ (hR (M.1 1 6).toNatClampNeg (N.1 0 6) M → hR (M'.1 1 6).toNatClampNeg (N.1 0 6) M') ∧ (gR (N.1 0 6).toNatClampNeg M N → gR ((N.1 0 6).toNatClampNeg + 1) M' N'))
theorem reg_rel {M N : Mm} {a1 : Int32} (h : rdR M N) (h6 : N.1 0 6 = a1) (ha : 0 ≤ a1.toInt ∧ a1.toInt < 16) (hn : N.1 0 12 = M.1 1 6) (h0 : 0 ≤ (M.1 1 6).toInt ∧ (M.1 1 6).toInt ≤ 120) : w2 (q_Reader_readRegister M a1) (q_ChipMapModel_readRegister N) (rgQ M N) := by
  have hx : vp_in a1 16 := vI ha
  have hy : vp_in a1 17 := vI (by omega)
  have z16 : (16 : Int32).toInt = 16 := rfl
  unfold q_Reader_readRegister q_ChipMapModel_readRegister
  rw [ix_e hx, h6]
  refine w2.ltL (fun M1 eM1 => ?_)
  rw [lq_s, ix_e hy]
  refine w2.ltR (fun N2 eN2 => ?_)
  rw [if_neg (fun z => by rw [z] at ha; omega)]
  have h1 : rdR M1 N2 := by subst eM1 eN2; exact h
  obtain ⟨M2, N3, r3, q1, q2, t1, g1⟩ := take_rel h1 64 (by decide)
  rw [q1, q2, cal_s, cal_s]
  rcases tk0 t1.1 g1 with ⟨g, h2⟩ | ⟨g, g5⟩
  rotate_left
  · rw [g5, if_pos rfl, if_pos rfl]
    exact w2.s (Or.inl g)
  rw [g, if_neg (by decide), if_neg (by decide)]
  obtain ⟨M4, N5, r5, b2, q5, q6, t2, g6⟩ := num16 h2 2 2 (by decide)
  rw [q5, q6, cal_s, cal_s, ix_e hx]
  refine w2.ltL (fun M6 eM6 => ?_)
  have e6 : M6.1 3 a1.toNatClampNeg = r5 := by rw [eM6]; exact st_up
  rw [ix_e hx, e6]
  rcases g6 with ⟨g6, g7, g8, gn⟩ | ⟨g6, g7, g8⟩
  rotate_left
  · rw [g6, g7, if_pos rfl, if_pos rfl]
    exact w2.s (Or.inl ⟨rfl, rfl, by subst eM6; exact t2.1, g8⟩)
  rw [g6, if_neg (fun z => by rw [z] at g8; revert g8; decide), if_neg (by decide : ¬ (1 : Int32) = 0), ix_e hy]
  refine w2.ltR (fun N7 eN7 => ?_)
  have h7 : rdR M6 N7 := by subst eM6 eN7; exact t2.1.n gn
  refine bank_rel h7 ha (fun M' N' hf => Or.inl hf) (fun M8 N8 hb => ?_)
  obtain ⟨b1, b2, b3, b4, b5, b6, b7⟩ := hb
  unfold q_ChipMapModel_readRegister_147
  obtain ⟨M9, N9, r9, q3, q4, t3, g3⟩ := take_rel b1 123 (by decide)
  rw [q3, q4, cal_s, cal_s]
  rcases tk0 t3.1 g3 with ⟨g, h9⟩ | ⟨g, g5⟩
  rotate_left
  · rw [g5, if_pos rfl, if_pos rfl]
    exact w2.s (Or.inl g)
  rw [g, if_neg (by decide), if_neg (by decide), lq_s]
  have fx : ∀ p, p ≠ 2 → p ≠ 3 → p ≠ 4 → p ≠ 5 → p ≠ 6 → p ≠ 21 → M9.1 p = M.1 p := by
    intro p p2 p3 p4 p5 p6 p21
    rw [t3.2.1 p p21, b2 p p4 p5 p6 p21, eM6, stI_ne _ _ p3, t2.2.1 p p21, t1.2.1 p p21, eM1, stI_ne _ _ p2]
  have fy : ∀ p, p ≠ 0 → p ≠ 2 → p ≠ 3 → p ≠ 4 → p ≠ 5 → p ≠ 6 → N9.1 p = N.1 p := by
    intro p p0 p2 p3 p4 p5 p6
    rw [t3.2.2.o p p0, b3 p p0 p3 p4 p6, eN7, stI_ne _ _ p2, t2.2.2.o p p0, t1.2.2.o p p0, eN2, stI_ne _ _ p5]
  have s6 : N9.1 0 6 = N.1 0 6 := by
    rw [t3.2.2.s6, b4, eN7]
    show N5.1 0 6 = _
    rw [t2.2.2.s6, t1.2.2.s6, eN2]
    rfl
  have s12 : N9.1 0 12 = N.1 0 12 := by
    rw [t3.2.2.s12, b5, eN7]
    show N5.1 0 12 = _
    rw [t2.2.2.s12, t1.2.2.s12, eN2]
    rfl
  have s20 : N9.1 0 20 = N.1 0 20 := by
    rw [t3.2.2.s20, b6, eN7]
    show N5.1 0 20 = _
    rw [t2.2.2.s20, t1.2.2.s20, eN2]
    rfl
  have e1 : M9.1 1 = M.1 1 := fx 1 (by decide) (by decide) (by decide) (by decide) (by decide) (by decide)
  have e75 : q_Reader_readRegister_75 4000 M9 a1 0 = q_Reader_readRegister_97 (q_Reader_readRegister_75 3999) M9 a1 0 := by
    show q_Reader_readRegister_75 (3999 + 1) M9 a1 0 = _
    rw [q_Reader_readRegister_75, if_neg (by decide), if_pos (by decide)]
  rw [e75]
  have z0 : (0 : Int32).toInt = 0 := rfl
  have hbf : N9.1 0 12 = M9.1 1 6 := by rw [s12, e1]; exact hn
  have hbi : (N9.1 0 12).toInt = (M.1 1 6).toInt := by rw [s12, hn]
  have hmi : (M9.1 1 6).toInt = (M.1 1 6).toInt := by rw [e1]
  refine (fl_loop (bf := N9.1 0 12) (by omega) ha.1 8 3999 4000 M9 N9 0 (by decide) (by decide) (by decide) (by decide) (by decide) h9 (s6.trans h6) hbf (by omega)).mono (fun M' r N' s hq => ?_)
  rcases hq with hq | ⟨f1, f2, f3, f4, f5, f6, f7, f8, f9, f10, f11⟩
  · exact Or.inl hq
  rw [s6] at f6 f11
  rw [e1] at f10 f11
  have h9r : ∀ p, 7 ≤ p → p ≤ 13 → M9.1 p = M.1 p := fun p p1 p2 => fx p (by omega) (by omega) (by omega) (by omega) (by omega) (by omega)
  have h9n : ∀ p, 7 ≤ p → p ≤ 13 → N9.1 p = N.1 p := fun p p1 p2 => fy p (by omega) (by omega) (by omega) (by omega) (by omega) (by omega)
  refine Or.inr ⟨f1, f2, f3, f4, by omega, f6, f7.trans s20, fun p p1 p2 => ?_, fun p p1 => ?_, fun hf => f10 (hf.cg h9r h9n), fun hf => f11 (hf.cg (h9r 9 (by decide) (by decide))), fun hg => ?_⟩
  · rw [f8 p (by omega) (by omega) p2, fx p (by omega) (by omega) (by omega) (by omega) (by omega) p2]
  · rw [f9 p (by omega) (by omega), fy p (by omega) (by omega) (by omega) (by omega) (by omega) (by omega)]
  · have m2 : M'.1 2 = upd (M.1 2) a1.toNatClampNeg (M.1 21 3) := by
      rw [f8 2 (by decide) (by decide) (by decide), t3.2.1 2 (by decide), b2 2 (by decide) (by decide) (by decide) (by decide), eM6]
      refine Eq.trans (stI_ne _ _ (by decide)) ?_
      rw [t2.2.1 2 (by decide), t1.2.1 2 (by decide), eM1]
      rfl
    have m3 : M'.1 3 = upd (M.1 3) a1.toNatClampNeg r5 := by
      rw [f8 3 (by decide) (by decide) (by decide), t3.2.1 3 (by decide), b2 3 (by decide) (by decide) (by decide) (by decide), eM6]
      show upd (M4.1 3) a1.toNatClampNeg r5 = _
      rw [t2.2.1 3 (by decide), t1.2.1 3 (by decide), eM1]
      rfl
    have n5 : N'.1 5 = upd (N.1 5) a1.toNatClampNeg (N.1 0 3) := by
      rw [f9 5 (by decide) (by decide), t3.2.2.o 5 (by decide), b3 5 (by decide) (by decide) (by decide) (by decide), eN7]
      refine Eq.trans (stI_ne _ _ (by decide)) ?_
      rw [t2.2.2.o 5 (by decide), t1.2.2.o 5 (by decide), eN2]
      rfl
    have n2 : N'.1 2 = upd (N.1 2) a1.toNatClampNeg (N5.1 0 70) := by
      rw [f9 2 (by decide) (by decide), t3.2.2.o 2 (by decide), b3 2 (by decide) (by decide) (by decide) (by decide), eN7]
      show upd (N5.1 2) a1.toNatClampNeg (N5.1 0 70) = _
      rw [t2.2.2.o 2 (by decide), t1.2.2.o 2 (by decide), eN2]
      rfl
    rw [h6] at hg ⊢
    obtain ⟨w1, w2', w3, w4, w5⟩ := hg
    have c6 : ∀ p, p ≠ 2 → p ≠ 3 → p ≠ 21 → M6.1 p = M.1 p := by
      intro p p2 p3 p21
      rw [eM6, stI_ne _ _ p3, t2.2.1 p p21, t1.2.1 p p21, eM1, stI_ne _ _ p2]
    have c7 : ∀ p, p ≠ 0 → p ≠ 2 → p ≠ 5 → N7.1 p = N.1 p := by
      intro p p0 p2 p5
      rw [eN7, stI_ne _ _ p2, t2.2.2.o p p0, t1.2.2.o p p0, eN2, stI_ne _ _ p5]
    have w6 := b7 (w5.cg (c6 4 (by decide) (by decide) (by decide)) (c6 5 (by decide) (by decide) (by decide)) (c6 6 (by decide) (by decide) (by decide)) (c7 3 (by decide) (by decide) (by decide)) (c7 4 (by decide) (by decide) (by decide)) (c7 6 (by decide) (by decide) (by decide)))
    have cx : ∀ p, p < 7 → p ≠ 1 → p ≠ 21 → M'.1 p = M8.1 p := fun p p1 p2 p3 => (f8 p (Or.inl p1) p2 p3).trans (t3.2.1 p p3)
    have cy : ∀ p, p < 7 → p ≠ 0 → N'.1 p = N8.1 p := fun p p1 p2 => (f9 p (Or.inl p1) p2).trans (t3.2.2.o p p2)
    have w7 := w6.cg (cx 4 (by decide) (by decide) (by decide)) (cx 5 (by decide) (by decide) (by decide)) (cx 6 (by decide) (by decide) (by decide)) (cy 3 (by decide) (by decide)) (cy 4 (by decide) (by decide)) (cy 6 (by decide) (by decide))
    have ht := fun z : Int32 => Int32.toInt_le z
    unfold gR
    rw [m2, m3, n5, n2, ← h.1, ← g7]
    exact ⟨w1.up, w2'.up, w3.up ⟨h.2.2.2.1.1, ht _⟩, w4.up ⟨g8, ht _⟩, w7⟩
