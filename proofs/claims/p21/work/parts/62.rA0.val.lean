section
-- what a draft is that the judge of fields lets through: names apart, bits apart, values that fit
def rowV (M : Mm) (j : Nat) : Prop := gdR M j ∧ (M.1 13 j >>> ((M.1 11 j - M.1 12 j + 1) &&& 31) = 0) ∧ (∀ q, q < j → M.1 7 q ≠ M.1 7 j) ∧ ∀ q, q < j → ¬ cf M q j
theorem fs_lt {n : Nat} {f : Nat → Int32} {r : Int32} {i : Int32} (i0 : 0 ≤ i.toInt) (hi : i.toNatClampNeg < n) (h : fs n f (f i.toNatClampNeg) r) (c : ¬ r < i) : ∀ q, q < i.toNatClampNeg → f q ≠ f i.toNatClampNeg := by
  intro q hq
  rcases h with ⟨-, h⟩ | ⟨⟨r0, -⟩, -, h⟩
  · exact h q (by omega)
  · have t1 := tnc r0
    have t2 := tnc i0
    have c' : ¬ r.toInt < i.toInt := fun z => c (Int32.lt_iff_toInt_lt.mpr z)
    exact h q (by omega)
theorem bf_all {M N : Mm} (h : dR M N) : ∀ (j n' : Nat) (i v : Int32) (M' : Mm), (M.1 1 6).toInt - i.toInt = (j : Int) → 0 ≤ i.toInt → (∀ q, q < i.toNatClampNeg → gdR M q) → (0 < i.toInt → tkC M i.toNatClampNeg (M.1 9 (i - 1).toNatClampNeg) v) → q_Judge_badField_4 n' M v i = some (M', -1) → ∀ w : Nat, i.toNatClampNeg ≤ w → w < (M.1 1 6).toNatClampNeg → rowV M w := by
  intro j
  induction j with
  | zero =>
    intro n' i v M' hj i0 hg hv q w w1 w2
    have t1 := tnc i0
    have t2 := tnc h.2.2.2.1.1
    omega
  | succ j ih =>
    intro n' i v M' hj i0 hg hv q w w1 w2
    obtain ⟨n', rfl⟩ : ∃ m, n' = m + 1 := by
      cases n' with
      | zero => rw [q_Judge_badField_4] at q; cases q
      | succ m => exact ⟨m, rfl⟩
    have h0 := h
    obtain ⟨h1, h2, h3, h4, h5, h6, h7, h8, h9, h10⟩ := h0
    have ez : (i + 1).toInt = i.toInt + 1 := iadd rfl (rfl : (1 : Int32).toInt = 1) (by omega) (by omega)
    have es : (i + 1).toNatClampNeg = i.toNatClampNeg + 1 := tnS (by omega)
    have o1 : (1 : Int32).toInt = 1 := rfl
    have e11a : (i + 1 - 1).toInt = i.toInt + 1 - 1 := isub ez o1 (by omega) (by omega)
    have e11 : i + 1 - 1 = i := Int32.toInt_inj.mp (by omega)
    have z0 : (0 : Int32).toInt = 0 := rfl
    have z16 : (16 : Int32).toInt = 16 := rfl
    have t1 := tnc i0
    have t2 := tnc h4.1
    have hin : i.toNatClampNeg < (M.1 1 6).toNatClampNeg := by omega
    have hx : vp_in i 128 := vI (by omega)
    have c : ¬ M.1 1 6 ≤ i := fun z => by have := Int32.le_iff_toInt_le.mp z; omega
    have r8 := h7.2.2.2.2.2.2.2.2.1 _ hin
    have r12 := h7.2.2.2.2.2.2.2.2.2.2.1 _ hin
    obtain ⟨r, q1, qf⟩ := row_s (M := M) h4 (M.1 7 i.toNatClampNeg)
    have row : ∀ u : Int32, tkC M i.toNatClampNeg (M.1 9 i.toNatClampNeg) u → q_Judge_badField_44 (q_Judge_badField_4 n') M u i = some (M', -1) → rowV M w := by
      intro u hu p
      unfold q_Judge_badField_44 at p
      have e117 : ∀ {P : Prop}, q_Judge_badField_117 M i = some (M', -1) → P := by
        intro P z
        exact (bf_117 z r8.1).elim
      rw [ix_e hx, lq_s, ix_e hx, lq_s, ix_e hx, q1, cal_s] at p
      by_cases cr : r < i
      · rw [if_pos cr] at p
        exact e117 p
      rw [if_neg cr] at p
      by_cases c16 : 16 ≤ M.1 11 i.toNatClampNeg
      · rw [if_pos c16] at p
        exact e117 p
      have c16' : ¬ 16 ≤ (M.1 11 i.toNatClampNeg).toInt := fun z => c16 (Int32.le_iff_toInt_le.mpr (by omega))
      rw [if_neg c16] at p
      by_cases cl : M.1 11 i.toNatClampNeg < M.1 12 i.toNatClampNeg
      · rw [if_pos cl] at p
        exact e117 p
      have cl' : ¬ (M.1 11 i.toNatClampNeg).toInt < (M.1 12 i.toNatClampNeg).toInt := fun z => cl (Int32.lt_iff_toInt_lt.mpr z)
      have hgi : gdR M i.toNatClampNeg := ⟨r12.1, by omega, by omega⟩
      rw [if_neg cl, ix_e hx] at p
      have hfit : q_Draft_fits M i (M.1 13 i.toNatClampNeg) = if (M.1 13 i.toNatClampNeg >>> ((M.1 11 i.toNatClampNeg - M.1 12 i.toNatClampNeg + 1) &&& 31)) = 0 then some (M, 1) else some (M, 0) := by
        unfold q_Draft_fits
        rw [ix_e hx, ix_e hx]
      rw [hfit] at p
      by_cases ct : M.1 13 i.toNatClampNeg >>> ((M.1 11 i.toNatClampNeg - M.1 12 i.toNatClampNeg + 1) &&& 31) = 0
      · rw [if_pos ct, cal_s, if_neg (by decide), lq_s] at p
        have hov := ov hu hg hgi
        unfold mkm at hov
        split at p
        · rename_i cz
          rw [lq_s] at p
          have hno := hov.mp cz
          have hrow : rowV M i.toNatClampNeg := ⟨hgi, ct, fs_lt i0 hin qf cr, hno⟩
          by_cases cw : w = i.toNatClampNeg
          · rw [cw]
            exact hrow
          · refine ih n' (i + 1) _ M' (by omega) (by omega) (fun q hq2 => ?_) (fun _ => ?_) p w (by omega) w2
            · by_cases d : q = i.toNatClampNeg
              · rw [d]; exact hgi
              · exact hg q (by omega)
            · rw [e11, es]
              exact ov_n hu hgi
        · rw [ix_e hx] at p
          obtain ⟨-, e⟩ := rs_e p
          have r80 := r8.1
          rw [e] at r80
          exact absurd r80 (by decide)
      · rw [if_neg ct, cal_s, if_pos rfl] at p
        exact e117 p
    have nil : (∀ q, q < i.toNatClampNeg → M.1 9 q ≠ M.1 9 i.toNatClampNeg) → tkC M i.toNatClampNeg (M.1 9 i.toNatClampNeg) 0 := by
      intro hq b
      rw [tb_0]
      constructor
      · intro z
        exact absurd z (by decide)
      · intro z
        obtain ⟨q, z1, z2, _⟩ := z
        exact absurd z2 (hq q z1)
    rw [q_Judge_badField_4, if_neg c] at q
    by_cases ci : i = 0
    · rw [if_pos ci] at q
      unfold q_Judge_badField_42 at q
      refine row 0 (nil (fun q hq => ?_)) q
      rw [ci] at hq
      exact nlz hq
    have ci' : i.toInt ≠ 0 := fun z => ci (Int32.toInt_inj.mp z)
    have ed : (i - 1).toInt = i.toInt - 1 := isub rfl (rfl : (1 : Int32).toInt = 1) (by omega) (by omega)
    have t5 := tnc (i := i - 1) (by omega)
    rw [if_neg ci, ix_e hx, ix_e (vI (by omega))] at q
    by_cases ch : M.1 9 i.toNatClampNeg = M.1 9 (i - 1).toNatClampNeg
    · rw [if_pos ch] at q
      refine row v ?_ q
      rw [ch]
      exact hv (by omega)
    · rw [if_neg ch] at q
      unfold q_Judge_badField_42 at q
      refine row 0 (nil (fun q hq z => ?_)) q
      have a1 := h9.2 q (i - 1).toNatClampNeg (by omega) (by omega)
      have a2 := h9.2 (i - 1).toNatClampNeg i.toNatClampNeg (by omega) (by omega)
      have a3 := congrArg Int32.toInt z
      exact ch (Int32.toInt_inj.mp (by omega))
def VD (M : Mm) : Prop := ∀ w : Nat, w < (M.1 1 6).toNatClampNeg → rowV M w
theorem VD.of {M N : Mm} (h : dR M N) {M' : Mm} (q : q_Judge_badField M = some (M', -1)) : VD M := by
  have h4 := h.2.2.2.1
  have z0 : (0 : Int32).toInt = 0 := rfl
  unfold q_Judge_badField at q
  intro w hw
  exact bf_all h (M.1 1 6).toInt.toNat 4000 0 0 M' (by omega) (by decide) (fun q hq => nlz hq) (fun z => absurd z (by decide)) q w (Nat.zero_le _) hw
end
section
-- the class's layout, row by row of the draft
def knA (a : Int32) : Prop := a = 0 ∨ a = 2
theorem kn_e {M : Mm} (x : Int32) (p0 : 0 ≤ x.toInt ∧ x.toInt ≤ 25) : ∃ t : Int32, q_Layout_isKnown M x = some (M, t) ∧ ((t = 0 ∧ ¬ knA (M.1 39 x.toNatClampNeg)) ∨ (t = 1 ∧ knA (M.1 39 x.toNatClampNeg))) := by
  unfold q_Layout_isKnown knA
  have k : vp_in x 26 := vI (by omega)
  rw [ix_e k]
  by_cases c0 : M.1 39 x.toNatClampNeg = 0
  · rw [if_pos c0]
    exact ⟨1, rfl, Or.inr ⟨rfl, Or.inl c0⟩⟩
  rw [if_neg c0, ix_e k]
  by_cases c2 : M.1 39 x.toNatClampNeg = 2
  · rw [if_pos c2]
    exact ⟨1, rfl, Or.inr ⟨rfl, Or.inr c2⟩⟩
  · rw [if_neg c2]
    exact ⟨0, rfl, Or.inl ⟨rfl, fun z => by rcases z with z | z; exact c0 z; exact c2 z⟩⟩
def addQ (M M' : Mm) (a : Nat) : Prop := M'.1 38 = upd (M.1 38) (M.1 7 a).toNatClampNeg (M.1 9 a) ∧ M'.1 39 = upd (M.1 39) (M.1 7 a).toNatClampNeg (M.1 10 a) ∧ M'.1 40 = upd (M.1 40) (M.1 7 a).toNatClampNeg (M.1 12 a) ∧ M'.1 42 = upd (M.1 42) (M.1 7 a).toNatClampNeg (mkm (M.1 12 a) (M.1 11 a)) ∧ M'.1 28 = upd (M.1 28) (M.1 9 a).toNatClampNeg (M.1 28 (M.1 9 a).toNatClampNeg ||| (M.1 13 a <<< (M.1 12 a &&& 31))) ∧ ((¬ knA (M.1 10 a) ∧ M'.1 29 = M.1 29) ∨ (knA (M.1 10 a) ∧ M'.1 29 = upd (M.1 29) (M.1 9 a).toNatClampNeg (M.1 29 (M.1 9 a).toNatClampNeg ||| mkm (M.1 12 a) (M.1 11 a))))
theorem add_y {M : Mm} (a2 : Int32) (h2 : 0 ≤ a2.toInt ∧ a2.toInt ≤ 127) (hn : 0 ≤ (M.1 7 a2.toNatClampNeg).toInt ∧ (M.1 7 a2.toNatClampNeg).toInt ≤ 25) (hh : 0 ≤ (M.1 9 a2.toNatClampNeg).toInt ∧ (M.1 9 a2.toNatClampNeg).toInt ≤ 15) (ha : 0 ≤ (M.1 10 a2.toNatClampNeg).toInt ∧ (M.1 10 a2.toNatClampNeg).toInt ≤ 6) : wpR (q_Layout_addField M a2) (fun M' _ => frL M M' ∧ addQ M M' a2.toNatClampNeg) := by
  unfold q_Layout_addField
  have k2 : vp_in a2 128 := vI (by omega)
  have k7 : vp_in (M.1 7 a2.toNatClampNeg) 26 := vI (by omega)
  have k9 : vp_in (M.1 9 a2.toNatClampNeg) 16 := vI (by omega)
  refine wpR_ix k2 (wpR_lt (wpR_ix k2 (wpR_lt (wpR_ix k7 (wpR_ltv (fun M3 e3 => ?_))))))
  have f3 : frL M M3 := (frL.rf M).st e3 (by omega)
  refine wpR_ix k2 (wpR_ix k7 (wpR_ltv (fun M4 e4 => ?_)))
  have f4 : frL M M4 := f3.st e4 (by omega)
  refine wpR_ix k2 (wpR_ix k7 (wpR_ltv (fun M5 e5 => ?_)))
  have f5 : frL M M5 := f4.st e5 (by omega)
  refine wpR_ix k2 (wpR_ix k2 (wpR_ix k7 (wpR_ltv (fun M6 e6 => ?_))))
  have f6 : frL M M6 := f5.st e6 (by omega)
  have g38 : M6.1 38 = upd (M.1 38) (M.1 7 a2.toNatClampNeg).toNatClampNeg (M.1 9 a2.toNatClampNeg) := by rw [st_o e6 (by decide), st_o e5 (by decide), st_o e4 (by decide), e3, stI_at]
  have g39 : M6.1 39 = upd (M.1 39) (M.1 7 a2.toNatClampNeg).toNatClampNeg (M.1 10 a2.toNatClampNeg) := by rw [st_o e6 (by decide), st_o e5 (by decide), e4, stI_at, st_o e3 (by decide), f3 10 (by omega)]
  have g40 : M6.1 40 = upd (M.1 40) (M.1 7 a2.toNatClampNeg).toNatClampNeg (M.1 12 a2.toNatClampNeg) := by rw [st_o e6 (by decide), e5, stI_at, st_o e4 (by decide), st_o e3 (by decide), f4 12 (by omega)]
  have g41 : M6.1 41 = upd (M.1 41) (M.1 7 a2.toNatClampNeg).toNatClampNeg (M.1 11 a2.toNatClampNeg - M.1 12 a2.toNatClampNeg + 1) := by rw [e6, stI_at, st_o e5 (by decide), st_o e4 (by decide), st_o e3 (by decide), f5 11 (by omega), f5 12 (by omega)]
  refine wpR_ix k7 (wpR_ix k7 (wpR_ix k7 (wpR_ltv (fun M7 e7 => ?_))))
  have f7 : frL M M7 := f6.st e7 (by omega)
  have g42 : M7.1 42 = upd (M.1 42) (M.1 7 a2.toNatClampNeg).toNatClampNeg (mkm (M.1 12 a2.toNatClampNeg) (M.1 11 a2.toNatClampNeg)) := by
    rw [e7, stI_at, g41, g40, updS, updS, st_o e6 (by decide), st_o e5 (by decide), st_o e4 (by decide), st_o e3 (by decide)]
    rfl
  have b7 : ∀ j, 38 ≤ j → j ≤ 41 → M7.1 j = M6.1 j := fun j h1 h2 => st_o e7 (by omega)
  have c28 : M7.1 28 = M.1 28 := by rw [st_o e7 (by decide), st_o e6 (by decide), st_o e5 (by decide), st_o e4 (by decide), st_o e3 (by decide)]
  have c29 : M7.1 29 = M.1 29 := by rw [st_o e7 (by decide), st_o e6 (by decide), st_o e5 (by decide), st_o e4 (by decide), st_o e3 (by decide)]
  refine wpR_ix k9 (wpR_ix k2 (wpR_ix k7 (wpR_ix k9 (wpR_ltv (fun M8 e8 => ?_)))))
  have f8 : frL M M8 := f7.st e8 (by omega)
  have g28 : M8.1 28 = upd (M.1 28) (M.1 9 a2.toNatClampNeg).toNatClampNeg (M.1 28 (M.1 9 a2.toNatClampNeg).toNatClampNeg ||| (M.1 13 a2.toNatClampNeg <<< (M.1 12 a2.toNatClampNeg &&& 31))) := by
    rw [e8, stI_at, c28, f7 13 (by omega), b7 40 (by decide) (by decide), g40, updS]
  have b8 : ∀ j, 38 ≤ j → j ≤ 42 → M8.1 j = M7.1 j := fun j h1 h2 => st_o e8 (by omega)
  have a8 : M8.1 39 (M.1 7 a2.toNatClampNeg).toNatClampNeg = M.1 10 a2.toNatClampNeg := by rw [b8 39 (by decide) (by decide), b7 39 (by decide) (by decide), g39, updS]
  have ka : vp_in (M8.1 39 (M.1 7 a2.toNatClampNeg).toNatClampNeg) 7 := by rw [a8]; exact vI (by omega)
  have kt : (M8.1 39 (M.1 7 a2.toNatClampNeg).toNatClampNeg).toNatClampNeg < 7 := by
    rw [a8]
    have := tnc (i := M.1 10 a2.toNatClampNeg) ha.1
    omega
  refine wpR_ix k7 (wpR_ix ka (wpR_ix k9 (wpR_ix k7 (wpR_ix k9 (wpR_ltv (fun M9 e9 => ?_))))))
  have f9 : frL M M9 := f8.st e9 (by omega)
  have b9 : ∀ j, (38 ≤ j ∧ j ≤ 42) ∨ j = 28 ∨ j = 29 → M9.1 j = M8.1 j := fun j h1 => st_o e9 (by omega)
  have d38 : M9.1 38 = upd (M.1 38) (M.1 7 a2.toNatClampNeg).toNatClampNeg (M.1 9 a2.toNatClampNeg) := by rw [b9 38 (by omega), b8 38 (by decide) (by decide), b7 38 (by decide) (by decide)]; exact g38
  have d39 : M9.1 39 = upd (M.1 39) (M.1 7 a2.toNatClampNeg).toNatClampNeg (M.1 10 a2.toNatClampNeg) := by rw [b9 39 (by omega), b8 39 (by decide) (by decide), b7 39 (by decide) (by decide)]; exact g39
  have d40 : M9.1 40 = upd (M.1 40) (M.1 7 a2.toNatClampNeg).toNatClampNeg (M.1 12 a2.toNatClampNeg) := by rw [b9 40 (by omega), b8 40 (by decide) (by decide), b7 40 (by decide) (by decide)]; exact g40
  have d42 : M9.1 42 = upd (M.1 42) (M.1 7 a2.toNatClampNeg).toNatClampNeg (mkm (M.1 12 a2.toNatClampNeg) (M.1 11 a2.toNatClampNeg)) := by rw [b9 42 (by omega), b8 42 (by decide) (by decide)]; exact g42
  have d28 : M9.1 28 = upd (M.1 28) (M.1 9 a2.toNatClampNeg).toNatClampNeg (M.1 28 (M.1 9 a2.toNatClampNeg).toNatClampNeg ||| (M.1 13 a2.toNatClampNeg <<< (M.1 12 a2.toNatClampNeg &&& 31))) := by rw [b9 28 (by omega)]; exact g28
  have d29 : M9.1 29 = M.1 29 := by rw [b9 29 (by omega), st_o e8 (by decide)]; exact c29
  obtain ⟨t, qk, hk⟩ := kn_e (M := M9) (M.1 7 a2.toNatClampNeg) (by omega)
  have e39 : M9.1 39 (M.1 7 a2.toNatClampNeg).toNatClampNeg = M.1 10 a2.toNatClampNeg := by rw [d39, updS]
  rw [e39] at hk
  rw [qk]
  refine wpR_cal (wpR_some ?_)
  rcases hk with ⟨rfl, hk⟩ | ⟨rfl, hk⟩
  · rw [if_pos rfl]
    exact wpR_some ⟨f9, d38, d39, d40, d42, d28, Or.inl ⟨hk, d29⟩⟩
  · rw [if_neg (by decide)]
    refine wpR_ix k9 (wpR_ix k7 (wpR_ix k9 (wpR_ltv (fun M12 e12 => wpR_some ⟨f9.st e12 (by omega), ?_, ?_, ?_, ?_, ?_, Or.inr ⟨hk, ?_⟩⟩))))
    · rw [st_o e12 (by decide)]; exact d38
    · rw [st_o e12 (by decide)]; exact d39
    · rw [st_o e12 (by decide)]; exact d40
    · rw [st_o e12 (by decide)]; exact d42
    · rw [st_o e12 (by decide)]; exact d28
    · rw [e12, stI_at, d29, d42, updS]
/-- what the layout holds of the draft's first v rows -/
def CL (A M : Mm) (v : Nat) : Prop := (∀ w, w < v → M.1 38 (A.1 7 w).toNatClampNeg = A.1 9 w ∧ M.1 39 (A.1 7 w).toNatClampNeg = A.1 10 w ∧ M.1 40 (A.1 7 w).toNatClampNeg = A.1 12 w ∧ M.1 42 (A.1 7 w).toNatClampNeg = mkm (A.1 12 w) (A.1 11 w)) ∧ (∀ f, M.1 38 f ≠ -1 → ∃ w, w < v ∧ (A.1 7 w).toNatClampNeg = f) ∧ (∀ r b, tb (M.1 29 r) b = true ↔ ∃ w, w < v ∧ (A.1 9 w).toNatClampNeg = r ∧ knA (A.1 10 w) ∧ tb (mkm (A.1 12 w) (A.1 11 w)) b = true) ∧ (∀ r b, tb (M.1 28 r) b = true ↔ ∃ w, w < v ∧ (A.1 9 w).toNatClampNeg = r ∧ tb (A.1 13 w <<< (A.1 12 w &&& 31)) b = true)
theorem or_up {f g : Nat → Int32} {v x : Nat} {y : Int32} {P : Nat → Nat → Nat → Prop} (h : ∀ r b, tb (f r) b = true ↔ ∃ w, w < v ∧ P w r b) (e : g = upd f x (f x ||| y)) (hy : ∀ r b, P v r b ↔ (r = x ∧ tb y b = true)) : ∀ r b, tb (g r) b = true ↔ ∃ w, w < v + 1 ∧ P w r b := by
  intro r b
  rw [e]
  constructor
  · intro z
    by_cases c : r = x
    · subst c
      rw [updS, tb_or, Bool.or_eq_true] at z
      rcases z with z | z
      · obtain ⟨w, w1, w2⟩ := (h r b).mp z
        exact ⟨w, by omega, w2⟩
      · exact ⟨v, by omega, (hy r b).mpr ⟨rfl, z⟩⟩
    · rw [updN c] at z
      obtain ⟨w, w1, w2⟩ := (h r b).mp z
      exact ⟨w, by omega, w2⟩
  · intro ⟨w, w1, w2⟩
    by_cases cw : w = v
    · subst cw
      obtain ⟨rfl, z⟩ := (hy r b).mp w2
      rw [updS, tb_or, z, Bool.or_true]
    · have z := (h r b).mpr ⟨w, by omega, w2⟩
      by_cases c : r = x
      · subst c
        rw [updS, tb_or, z, Bool.true_or]
      · rw [updN c]
        exact z
theorem CL.up {A M M' : Mm} {v : Nat} (h : CL A M v) (hv : ∀ q, q < v → (A.1 7 q).toNatClampNeg ≠ (A.1 7 v).toNatClampNeg) (e7 : M.1 7 = A.1 7) (e9 : M.1 9 = A.1 9) (e10 : M.1 10 = A.1 10) (e11 : M.1 11 = A.1 11) (e12 : M.1 12 = A.1 12) (e13 : M.1 13 = A.1 13) (a : addQ M M' v) : CL A M' (v + 1) := by
  unfold addQ at a
  rw [e7, e9, e10, e11, e12, e13] at a
  obtain ⟨a1, a2, a3, a4, a5, a6⟩ := a
  obtain ⟨h1, h2, h3, h4⟩ := h
  refine ⟨fun w hw => ?_, fun f hf => ?_, ?_, ?_⟩
  · rw [a1, a2, a3, a4]
    by_cases c : w = v
    · subst c
      rw [updS, updS, updS, updS]
      exact ⟨rfl, rfl, rfl, rfl⟩
    · have n := hv w (by omega)
      rw [updN n, updN n, updN n, updN n]
      exact h1 w (by omega)
  · rw [a1] at hf
    by_cases c : f = (A.1 7 v).toNatClampNeg
    · exact ⟨v, by omega, c.symm⟩
    · rw [updN c] at hf
      obtain ⟨w, w1, w2⟩ := h2 f hf
      exact ⟨w, by omega, w2⟩
  · rcases a6 with ⟨k, e⟩ | ⟨k, e⟩
    · rw [e]
      intro r b
      rw [h3 r b]
      constructor
      · intro ⟨w, w1, w2⟩
        exact ⟨w, by omega, w2⟩
      · intro ⟨w, w1, w2⟩
        by_cases c : w = v
        · subst c
          exact absurd w2.2.1 k
        · exact ⟨w, by omega, w2⟩
    · refine or_up h3 e (fun r b => ?_)
      constructor
      · intro ⟨z1, z2, z3⟩
        exact ⟨z1.symm, z3⟩
      · intro ⟨z1, z2⟩
        exact ⟨z1.symm, k, z2⟩
  · refine or_up h4 a5 (fun r b => ?_)
    constructor
    · intro ⟨z1, z2⟩
      exact ⟨z1.symm, z2⟩
    · intro ⟨z1, z2⟩
      exact ⟨z1.symm, z2⟩
theorem tn_inj {a b : Int32} (ha : 0 ≤ a.toInt) (hb : 0 ≤ b.toInt) (h : a.toNatClampNeg = b.toNatClampNeg) : a = b := by
  apply Int32.toInt_inj.mp
  have t1 := tnc ha
  have t2 := tnc hb
  omega
theorem fol_117 {A : Mm} (hA : Dr A) (hV : VD A) : ∀ (k n1 : Nat) (M : Mm) (v : Int32), 0 ≤ v.toInt → v.toInt + (k : Int) = (A.1 1 6).toInt → frL A M → CL A M v.toNatClampNeg → ∀ (M' : Mm) (r : Int32), q_Layout_follow_117 n1 M v = some (M', r) → CL A M' (A.1 1 6).toNatClampNeg ∧ frL A M' := by
  have rows := hA.rows
  have tr := tnc rows.1
  intro k
  induction k with
  | zero =>
    intro n1 M v hv hk hf h M' r q1
    obtain ⟨n1, rfl⟩ : ∃ m, n1 = m + 1 := by
      cases n1 with
      | zero => rw [q_Layout_follow_117] at q1; cases q1
      | succ m => exact ⟨m, rfl⟩
    have c1 : M.1 1 6 ≤ v := Int32.le_iff_toInt_le.mpr (by rw [hf 1 (by omega)]; omega)
    rw [q_Layout_follow_117, if_pos c1] at q1
    obtain ⟨rfl, -⟩ := rs_e q1
    have t := tnc hv
    have e : (A.1 1 6).toNatClampNeg = v.toNatClampNeg := by omega
    rw [e]
    exact ⟨h, hf⟩
  | succ k ih =>
    intro n1 M v hv hk hf h M' r q1
    obtain ⟨n1, rfl⟩ : ∃ m, n1 = m + 1 := by
      cases n1 with
      | zero => rw [q_Layout_follow_117] at q1; cases q1
      | succ m => exact ⟨m, rfl⟩
    have c1 : ¬ M.1 1 6 ≤ v := fun c => by
      have := Int32.le_iff_toInt_le.mp c
      rw [hf 1 (by omega)] at this
      omega
    have t := tnc hv
    have ez : (v + 1).toInt = v.toInt + 1 := iadd rfl (rfl : (1 : Int32).toInt = 1) (by omega) (by omega)
    have es : (v + 1).toNatClampNeg = v.toNatClampNeg + 1 := tnS (by omega)
    have m1 := hA.nm v.toNatClampNeg (by omega)
    have m2 := hA.ac v.toNatClampNeg (by omega)
    have m3 := hA.ho v.toNatClampNeg (by omega)
    have m4 := hA.regs
    have x7 : M.1 7 = A.1 7 := hf 7 (by omega)
    have x9 : M.1 9 = A.1 9 := hf 9 (by omega)
    have x10 : M.1 10 = A.1 10 := hf 10 (by omega)
    rw [q_Layout_follow_117, if_neg c1] at q1
    obtain ⟨M1, r1, p1, q1⟩ := cal_o q1
    obtain ⟨M1', r1', p1', f1, aq⟩ := add_y (M := M) v (by omega) (by rw [x7]; exact m1) (by rw [x9]; omega) (by rw [x10]; exact m2)
    rw [p1] at p1'
    obtain ⟨rfl, -⟩ := rs_e p1'
    refine ih n1 M1 (v + 1) (by omega) (by omega) (hf.tr f1) ?_ M' r q1
    rw [es]
    refine h.up (fun q hq z => ?_) x7 x9 x10 (hf 11 (by omega)) (hf 12 (by omega)) (hf 13 (by omega)) aq
    exact (hV v.toNatClampNeg (by omega)).2.2.1 q hq (tn_inj (hA.nm q (by omega)).1 m1.1 z)
end
section
-- the class's layout behind follow(), the reference's behind compile()
theorem f82_y : ∀ (n1 : Nat) (M : Mm) (v : Int32), 0 ≤ v.toInt → ∀ (M' : Mm) (r : Int32), q_Layout_follow_82 n1 M v = some (M', r) → ∃ M1 : Mm, (∀ p, p < 31 ∨ 43 ≤ p → M1.1 p = M.1 p) ∧ M1.1 38 = (fun _ => -1) ∧ q_Layout_follow_117 4000 M1 0 = some (M', r) := by
  intro n1
  induction n1 with
  | zero =>
    intro M v hv M' r q1
    rw [q_Layout_follow_82] at q1
    cases q1
  | succ n1 ih =>
    intro M v hv M' r q1
    rw [q_Layout_follow_82] at q1
    by_cases c : (7 : Int32) ≤ v
    · rw [if_pos c, lq_s] at q1
      exact ⟨_, fun p hp => stI_ne _ _ (by omega), stI_at _ _ _, q1⟩
    · rw [if_neg c] at q1
      have q1 := ix_r q1
      rw [lq_s] at q1
      have t := tnc hv
      have e7 : (7 : Int32).toInt = 7 := rfl
      have c' : v.toInt < 7 := by
        by_cases z : 7 ≤ v.toInt
        · exact absurd (Int32.le_iff_toInt_le.mpr (by omega)) c
        · omega
      have ez : (v + 1).toInt = v.toInt + 1 := iadd rfl (rfl : (1 : Int32).toInt = 1) (by omega) (by omega)
      obtain ⟨M1, g1, g2, g3⟩ := ih _ (v + 1) (by omega) M' r q1
      exact ⟨M1, fun p hp => by rw [g1 p hp, stI_ne _ _ (by omega)], g2, g3⟩
theorem rul_y (M : Mm) : ∃ M' : Mm, q_Rules_copy M = some (M', 0) ∧ (∀ p, p < 43 ∨ 48 ≤ p → M'.1 p = M.1 p) ∧ M'.1 43 0 = M.1 14 0 ∧ (∀ j, j < 12 → M'.1 44 j = M.1 15 j ∧ M'.1 45 j = M.1 16 j ∧ M'.1 46 j = M.1 17 j ∧ M'.1 47 j = M.1 18 j) := by
  unfold q_Rules_copy
  have cpo : cp_ok 0 0 12 12 12 := by unfold cp_ok; decide
  have cpe : ∀ k : Rs, cpk 0 0 12 12 12 k = k := fun k => by
    unfold cpk
    unfold cp_ok at cpo
    rw [if_pos cpo]
  rw [lq_s]
  obtain ⟨M1, e1⟩ : ∃ z, z = stI M 43 (upd (M.1 43) 0 (M.1 14 0)) := ⟨_, rfl⟩
  rw [← e1, cpe, lq_s]
  obtain ⟨M2, e2⟩ : ∃ z, z = stI M1 44 (va_cpy (M1.1 15) (M1.1 44) (0 : Int32).toNatClampNeg (0 : Int32).toNatClampNeg (12 : Int32).toNatClampNeg) := ⟨_, rfl⟩
  rw [← e2, cpe, lq_s]
  obtain ⟨M3, e3⟩ : ∃ z, z = stI M2 45 (va_cpy (M2.1 16) (M2.1 45) (0 : Int32).toNatClampNeg (0 : Int32).toNatClampNeg (12 : Int32).toNatClampNeg) := ⟨_, rfl⟩
  rw [← e3, cpe, lq_s]
  obtain ⟨M4, e4⟩ : ∃ z, z = stI M3 46 (va_cpy (M3.1 17) (M3.1 46) (0 : Int32).toNatClampNeg (0 : Int32).toNatClampNeg (12 : Int32).toNatClampNeg) := ⟨_, rfl⟩
  rw [← e4, cpe, lq_s]
  obtain ⟨M5, e5⟩ : ∃ z, z = stI M4 47 (va_cpy (M4.1 18) (M4.1 47) (0 : Int32).toNatClampNeg (0 : Int32).toNatClampNeg (12 : Int32).toNatClampNeg) := ⟨_, rfl⟩
  rw [← e5]
  refine ⟨M5, rfl, fun p hp => ?_, ?_, fun j hj => ⟨?_, ?_, ?_, ?_⟩⟩
  · rw [st_o e5 (by omega), st_o e4 (by omega), st_o e3 (by omega), st_o e2 (by omega), st_o e1 (by omega)]
  · rw [st_o e5 (by omega), st_o e4 (by omega), st_o e3 (by omega), st_o e2 (by omega), e1, stI_at, updS]
  · rw [st_o e5 (by omega), st_o e4 (by omega), st_o e3 (by omega), e2, stI_at, cpy0 hj, st_o e1 (by omega)]
  · rw [st_o e5 (by omega), st_o e4 (by omega), e3, stI_at, cpy0 hj, st_o e2 (by omega), st_o e1 (by omega)]
  · rw [st_o e5 (by omega), e4, stI_at, cpy0 hj, st_o e3 (by omega), st_o e2 (by omega), st_o e1 (by omega)]
  · rw [e5, stI_at, cpy0 hj, st_o e4 (by omega), st_o e3 (by omega), st_o e2 (by omega), st_o e1 (by omega)]
/-- the class's layout of the draft A -/
def LX (A M : Mm) : Prop := CL A M (A.1 1 6).toNatClampNeg ∧ M.1 24 0 = A.1 1 0 ∧ (∀ j, j < 16 → M.1 25 j = A.1 3 j ∧ M.1 26 j = A.1 4 j ∧ M.1 27 j = A.1 6 j) ∧ M.1 43 0 = A.1 14 0 ∧ (∀ j, j < 12 → M.1 44 j = A.1 15 j ∧ M.1 45 j = A.1 16 j ∧ M.1 46 j = A.1 17 j ∧ M.1 47 j = A.1 18 j)
theorem fol_y {A : Mm} (hA : Dr A) (hV : VD A) {M' : Mm} {r : Int32} (q1 : q_Layout_follow A = some (M', r)) : LX A M' := by
  unfold q_Layout_follow at q1
  rw [lq_s] at q1
  obtain ⟨M1, eM1⟩ : ∃ z, z = stI A 24 (upd (A.1 24) 0 (A.1 1 0)) := ⟨_, rfl⟩
  rw [← eM1] at q1
  have cpo : cp_ok 0 0 16 16 16 := by unfold cp_ok; decide
  have cpe : ∀ k : Rs, cpk 0 0 16 16 16 k = k := fun k => by
    unfold cpk
    unfold cp_ok at cpo
    rw [if_pos cpo]
  rw [cpe, lq_s] at q1
  obtain ⟨M2, eM2⟩ : ∃ z, z = stI M1 25 (va_cpy (M1.1 3) (M1.1 25) (0 : Int32).toNatClampNeg (0 : Int32).toNatClampNeg (16 : Int32).toNatClampNeg) := ⟨_, rfl⟩
  rw [← eM2, cpe, lq_s] at q1
  obtain ⟨M3, eM3⟩ : ∃ z, z = stI M2 26 (va_cpy (M2.1 4) (M2.1 26) (0 : Int32).toNatClampNeg (0 : Int32).toNatClampNeg (16 : Int32).toNatClampNeg) := ⟨_, rfl⟩
  rw [← eM3, cpe, lq_s] at q1
  obtain ⟨M4, eM4⟩ : ∃ z, z = stI M3 27 (va_cpy (M3.1 6) (M3.1 27) (0 : Int32).toNatClampNeg (0 : Int32).toNatClampNeg (16 : Int32).toNatClampNeg) := ⟨_, rfl⟩
  rw [← eM4] at q1
  obtain ⟨M5, p5, f5, g5, u5⟩ := rul_y M4
  rw [p5, cal_s, lq_s, lq_s] at q1
  have o4 : ∀ p, p < 24 ∨ 28 ≤ p → M4.1 p = A.1 p := fun p hp => by rw [st_o eM4 (by omega), st_o eM3 (by omega), st_o eM2 (by omega), st_o eM1 (by omega)]
  obtain ⟨M7, e7⟩ : ∃ z, z = stI M5 28 (fun _ => 0) := ⟨_, rfl⟩
  rw [← e7] at q1
  obtain ⟨M8, e8⟩ : ∃ z, z = stI M7 29 (fun _ => 0) := ⟨_, rfl⟩
  rw [← e8] at q1
  have o8 : ∀ p, p < 24 ∨ 48 ≤ p → M8.1 p = A.1 p := fun p hp => by rw [st_o e8 (by omega), st_o e7 (by omega), f5 p (by omega), o4 p (by omega)]
  obtain ⟨M9, g1, g2, g3⟩ := f82_y 4000 M8 0 (by decide) M' r q1
  have o9 : ∀ p, p < 24 → M9.1 p = A.1 p := fun p hp => by rw [g1 p (by omega)]; exact o8 p (by omega)
  have n28 : M9.1 28 = fun _ => 0 := by rw [g1 28 (by omega), st_o e8 (by decide), e7, stI_at]
  have n29 : M9.1 29 = fun _ => 0 := by rw [g1 29 (by omega), e8, stI_at]
  have d9 : Dr M9 := by
    have x1 := o9 1 (by omega)
    have x7 := o9 7 (by omega)
    have x9 := o9 9 (by omega)
    have x10 := o9 10 (by omega)
    refine ⟨?_, ?_, ?_, ?_, ?_⟩
    · rw [x1]; exact hA.rows
    · rw [x1]; exact hA.regs
    · rw [x1, x7]; exact hA.nm
    · rw [x1, x10]; exact hA.ac
    · rw [x1, x9]; exact hA.ho
  have v9 : VD M9 := by
    unfold VD rowV gdR cf
    rw [o9 1 (by omega), o9 7 (by omega), o9 9 (by omega), o9 11 (by omega), o9 12 (by omega), o9 13 (by omega)]
    exact hV
  have z0 : (0 : Int32).toInt = 0 := rfl
  have c0 : CL M9 M9 (0 : Int32).toNatClampNeg := by
    have e0 : (0 : Int32).toNatClampNeg = 0 := rfl
    rw [e0]
    refine ⟨fun w hw => nlz hw, fun f hf => ?_, fun r b => ?_, fun r b => ?_⟩
    · rw [g2] at hf
      exact absurd rfl hf
    · rw [n29, tb_0]
      exact ⟨fun z => absurd z (by decide), fun ⟨w, w1, _⟩ => nlz w1⟩
    · rw [n28, tb_0]
      exact ⟨fun z => absurd z (by decide), fun ⟨w, w1, _⟩ => nlz w1⟩
  have rows := d9.rows
  obtain ⟨cl, fl⟩ := fol_117 d9 v9 (M9.1 1 6).toInt.toNat 4000 M9 0 (by decide) (by omega) (frL.rf M9) c0 M' r g3
  have hi : ∀ p, 24 ≤ p ∧ p < 28 ∨ 43 ≤ p ∧ p < 48 → M'.1 p = M5.1 p := fun p hp => by rw [fl p (by omega), g1 p (by omega), st_o e8 (by omega), st_o e7 (by omega)]
  refine ⟨?_, ?_, fun j hj => ⟨?_, ?_, ?_⟩, ?_, fun j hj => ?_⟩
  · unfold CL at cl ⊢
    rw [o9 1 (by omega), o9 7 (by omega), o9 9 (by omega), o9 10 (by omega), o9 11 (by omega), o9 12 (by omega), o9 13 (by omega)] at cl
    exact cl
  · rw [hi 24 (by omega), f5 24 (by omega), st_o eM4 (by omega), st_o eM3 (by omega), st_o eM2 (by omega), eM1, stI_at, updS]
  · rw [hi 25 (by omega), f5 25 (by omega), st_o eM4 (by omega), st_o eM3 (by omega), eM2, stI_at, cpy0 hj, st_o eM1 (by omega)]
  · rw [hi 26 (by omega), f5 26 (by omega), st_o eM4 (by omega), eM3, stI_at, cpy0 hj, st_o eM2 (by omega), st_o eM1 (by omega)]
  · rw [hi 27 (by omega), f5 27 (by omega), eM4, stI_at, cpy0 hj, st_o eM3 (by omega), st_o eM2 (by omega), st_o eM1 (by omega)]
  · rw [hi 43 (by omega), g5, o4 14 (by omega)]
  · have u := u5 j hj
    rw [o4 15 (by omega), o4 16 (by omega), o4 17 (by omega), o4 18 (by omega)] at u
    rw [hi 44 (by omega), hi 45 (by omega), hi 46 (by omega), hi 47 (by omega)]
    exact u
end
section
-- the reference's layout behind compile()
def cR (N : Mm) (n : Nat) : Prop := ∀ j, j < n → N.1 20 j = N.1 2 j ∧ N.1 21 j = N.1 3 j ∧ N.1 22 j = N.1 4 j
theorem c50_y : ∀ (k n2 : Nat) (N : Mm) (v : Int32), 0 ≤ v.toInt → v.toInt + (k : Int) = (N.1 0 28).toInt → (N.1 0 28).toInt ≤ 16 → cR N v.toNatClampNeg → ∀ (N' : Mm) (s : Int32), q_ChipMapModel_compile_50 n2 N v = some (N', s) → ∃ N1 : Mm, kW N N1 ∧ cR N1 (N.1 0 28).toNatClampNeg ∧ q_ChipMapModel_compile_102 4000 N1 0 = some (N', s) := by
  intro k
  induction k with
  | zero =>
    intro n2 N v hv hk h16 h N' s q2
    obtain ⟨n2, rfl⟩ : ∃ m, n2 = m + 1 := by
      cases n2 with
      | zero => rw [q_ChipMapModel_compile_50] at q2; cases q2
      | succ m => exact ⟨m, rfl⟩
    have t := tnc hv
    have c : N.1 0 28 ≤ v := Int32.le_iff_toInt_le.mpr (by omega)
    rw [q_ChipMapModel_compile_50, if_pos c] at q2
    have e : (N.1 0 28).toNatClampNeg = v.toNatClampNeg := by
      have t2 := tnc (i := N.1 0 28) (by omega)
      omega
    rw [e]
    exact ⟨N, kW.rf N, h, q2⟩
  | succ k ih =>
    intro n2 N v hv hk h16 h N' s q2
    obtain ⟨n2, rfl⟩ : ∃ m, n2 = m + 1 := by
      cases n2 with
      | zero => rw [q_ChipMapModel_compile_50] at q2; cases q2
      | succ m => exact ⟨m, rfl⟩
    have t := tnc hv
    have ez : (v + 1).toInt = v.toInt + 1 := iadd rfl (rfl : (1 : Int32).toInt = 1) (by omega) (by omega)
    have es : (v + 1).toNatClampNeg = v.toNatClampNeg + 1 := tnS (by omega)
    have c : ¬ N.1 0 28 ≤ v := fun c => by
      have := Int32.le_iff_toInt_le.mp c
      omega
    rw [q_ChipMapModel_compile_50, if_neg c] at q2
    have q2 := ix_r (ix_r q2)
    rw [lq_s] at q2
    have q2 := ix_r (ix_r q2)
    rw [lq_s] at q2
    have q2 := ix_r (ix_r q2)
    rw [lq_s] at q2
    obtain ⟨N3, e3⟩ : ∃ z, z = stI (stI (stI N 20 (upd (N.1 20) v.toNatClampNeg (N.1 2 v.toNatClampNeg))) 21 (upd ((stI N 20 (upd (N.1 20) v.toNatClampNeg (N.1 2 v.toNatClampNeg))).1 21) v.toNatClampNeg ((stI N 20 (upd (N.1 20) v.toNatClampNeg (N.1 2 v.toNatClampNeg))).1 3 v.toNatClampNeg))) 22 (upd ((stI (stI N 20 (upd (N.1 20) v.toNatClampNeg (N.1 2 v.toNatClampNeg))) 21 (upd ((stI N 20 (upd (N.1 20) v.toNatClampNeg (N.1 2 v.toNatClampNeg))).1 21) v.toNatClampNeg ((stI N 20 (upd (N.1 20) v.toNatClampNeg (N.1 2 v.toNatClampNeg))).1 3 v.toNatClampNeg))).1 22) v.toNatClampNeg ((stI (stI N 20 (upd (N.1 20) v.toNatClampNeg (N.1 2 v.toNatClampNeg))) 21 (upd ((stI N 20 (upd (N.1 20) v.toNatClampNeg (N.1 2 v.toNatClampNeg))).1 21) v.toNatClampNeg ((stI N 20 (upd (N.1 20) v.toNatClampNeg (N.1 2 v.toNatClampNeg))).1 3 v.toNatClampNeg))).1 4 v.toNatClampNeg)) := ⟨_, rfl⟩
    rw [← e3] at q2
    have x20 : N3.1 20 = upd (N.1 20) v.toNatClampNeg (N.1 2 v.toNatClampNeg) := by rw [e3]; rfl
    have x21 : N3.1 21 = upd (N.1 21) v.toNatClampNeg (N.1 3 v.toNatClampNeg) := by rw [e3]; rfl
    have x22 : N3.1 22 = upd (N.1 22) v.toNatClampNeg (N.1 4 v.toNatClampNeg) := by rw [e3]; rfl
    have xo : ∀ p, p ≠ 20 → p ≠ 21 → p ≠ 22 → N3.1 p = N.1 p := fun p h1 h2 h3 => by rw [e3, stI_ne _ _ h3, stI_ne _ _ h2, stI_ne _ _ h1]
    have x0 : N3.1 0 = N.1 0 := xo 0 (by decide) (by decide) (by decide)
    have h3 : cR N3 (v + 1).toNatClampNeg := by
      unfold cR
      rw [es, x20, x21, x22, xo 2 (by decide) (by decide) (by decide), xo 3 (by decide) (by decide) (by decide), xo 4 (by decide) (by decide) (by decide)]
      intro j hj
      by_cases cj : j = v.toNatClampNeg
      · rw [cj, updS, updS, updS]
        exact ⟨rfl, rfl, rfl⟩
      · rw [updN cj, updN cj, updN cj]
        exact h j (by omega)
    obtain ⟨N1, g1, g2, g3⟩ := ih n2 N3 (v + 1) (by omega) (by rw [x0]; omega) (by rw [x0]; exact h16) h3 N' s q2
    rw [x0] at g2
    refine ⟨N1, ⟨fun p h0 hp => ?_, fun j hj => ?_⟩, g2, g3⟩
    · rw [g1.1 p h0 hp, xo p (by omega) (by omega) (by omega)]
    · rw [g1.2 j hj, x0]
/-- what the reference's layout holds of the first v rows of the draft -/
def CM (B N : Mm) (v : Nat) : Prop := (∀ w, w < v → N.1 23 (B.1 7 w).toNatClampNeg = 1 ∧ N.1 24 (B.1 7 w).toNatClampNeg = B.1 8 w ∧ N.1 25 (B.1 7 w).toNatClampNeg = B.1 12 w ∧ N.1 26 (B.1 7 w).toNatClampNeg = B.1 10 w ∧ N.1 27 (B.1 7 w).toNatClampNeg = B.1 9 w - B.1 10 w + 1 ∧ N.1 28 (B.1 7 w).toNatClampNeg = B.1 11 w) ∧ (∀ f, f < 26 → N.1 23 f ≠ 0 → ∃ w, w < v ∧ (B.1 7 w).toNatClampNeg = f)
def frM (A M : Mm) : Prop := ∀ p, (1 ≤ p ∧ p < 23) ∨ 29 ≤ p → M.1 p = A.1 p
theorem CM.up {B N N' : Mm} {v : Nat} (h : CM B N v) (hv : ∀ q, q < v → (B.1 7 q).toNatClampNeg ≠ (B.1 7 v).toNatClampNeg) (e23 : N'.1 23 = upd (N.1 23) (B.1 7 v).toNatClampNeg 1) (e24 : N'.1 24 = upd (N.1 24) (B.1 7 v).toNatClampNeg (B.1 8 v)) (e25 : N'.1 25 = upd (N.1 25) (B.1 7 v).toNatClampNeg (B.1 12 v)) (e26 : N'.1 26 = upd (N.1 26) (B.1 7 v).toNatClampNeg (B.1 10 v)) (e27 : N'.1 27 = upd (N.1 27) (B.1 7 v).toNatClampNeg (B.1 9 v - B.1 10 v + 1)) (e28 : N'.1 28 = upd (N.1 28) (B.1 7 v).toNatClampNeg (B.1 11 v)) : CM B N' (v + 1) := by
  refine ⟨fun w hw => ?_, fun f hf hz => ?_⟩
  · rw [e23, e24, e25, e26, e27, e28]
    by_cases c : w = v
    · subst c
      rw [updS, updS, updS, updS, updS, updS]
      exact ⟨rfl, rfl, rfl, rfl, rfl, rfl⟩
    · have n := hv w (by omega)
      rw [updN n, updN n, updN n, updN n, updN n, updN n]
      exact h.1 w (by omega)
  · rw [e23] at hz
    by_cases c : f = (B.1 7 v).toNatClampNeg
    · exact ⟨v, by omega, c.symm⟩
    · rw [updN c] at hz
      obtain ⟨w, w1, w2⟩ := h.2 f hf hz
      exact ⟨w, by omega, w2⟩
theorem c123_y {B : Mm} (hb : 0 ≤ (B.1 0 12).toInt ∧ (B.1 0 12).toInt ≤ 128) (hd : ∀ j, j < (B.1 0 12).toNatClampNeg → ∀ q, q < j → (B.1 7 q).toNatClampNeg ≠ (B.1 7 j).toNatClampNeg) : ∀ (k n2 : Nat) (N : Mm) (v : Int32), 0 ≤ v.toInt → v.toInt + (k : Int) = (B.1 0 12).toInt → frM B N → N.1 0 = B.1 0 → CM B N v.toNatClampNeg → ∀ (N' : Mm) (s : Int32), q_ChipMapModel_compile_123 n2 N v = some (N', s) → ∃ N1 : Mm, frM B N1 ∧ N1.1 0 = B.1 0 ∧ CM B N1 (B.1 0 12).toNatClampNeg ∧ q_ChipMapModel_compile_230 4000 (stI N1 0 (upd (N1.1 0) 38 (N1.1 0 20))) 0 = some (N', s) := by
  have tb2 := tnc hb.1
  intro k
  induction k with
  | zero =>
    intro n2 N v hv hk hf h0 h N' s q2
    obtain ⟨n2, rfl⟩ : ∃ m, n2 = m + 1 := by
      cases n2 with
      | zero => rw [q_ChipMapModel_compile_123] at q2; cases q2
      | succ m => exact ⟨m, rfl⟩
    have t := tnc hv
    have c2 : N.1 0 12 ≤ v := Int32.le_iff_toInt_le.mpr (by rw [h0]; omega)
    rw [q_ChipMapModel_compile_123, if_pos c2, lq_s] at q2
    have e : (B.1 0 12).toNatClampNeg = v.toNatClampNeg := by omega
    rw [e]
    exact ⟨N, hf, h0, h, q2⟩
  | succ k ih =>
    intro n2 N v hv hk hf h0 h N' s q2
    obtain ⟨n2, rfl⟩ : ∃ m, n2 = m + 1 := by
      cases n2 with
      | zero => rw [q_ChipMapModel_compile_123] at q2; cases q2
      | succ m => exact ⟨m, rfl⟩
    have c2 : ¬ N.1 0 12 ≤ v := fun c => by
      have := Int32.le_iff_toInt_le.mp c
      rw [h0] at this
      omega
    have t := tnc hv
    have ez : (v + 1).toInt = v.toInt + 1 := iadd rfl (rfl : (1 : Int32).toInt = 1) (by omega) (by omega)
    have es : (v + 1).toNatClampNeg = v.toNatClampNeg + 1 := tnS (by omega)
    rw [q_ChipMapModel_compile_123, if_neg c2] at q2
    have q2 := ix_r q2
    rw [lq_s] at q2
    have q2 := ix_r q2
    rw [lq_s] at q2
    have q2 := ix_r (ix_r q2)
    rw [lq_s] at q2
    have q2 := ix_r (ix_r q2)
    rw [lq_s] at q2
    have q2 := ix_r (ix_r q2)
    rw [lq_s] at q2
    have q2 := ix_r (ix_r (ix_r q2))
    rw [lq_s] at q2
    have q2 := ix_r (ix_r q2)
    rw [lq_s] at q2
    have y7 : N.1 7 = B.1 7 := hf 7 (by omega)
    have y8 : N.1 8 = B.1 8 := hf 8 (by omega)
    have y9 : N.1 9 = B.1 9 := hf 9 (by omega)
    have y10 : N.1 10 = B.1 10 := hf 10 (by omega)
    have y11 : N.1 11 = B.1 11 := hf 11 (by omega)
    have y12 : N.1 12 = B.1 12 := hf 12 (by omega)
    refine ih n2 _ (v + 1) (by omega) (by omega) ?_ ?_ ?_ N' s q2
    · intro p hp
      rw [stI_ne _ _ (by omega), stI_ne _ _ (by omega), stI_ne _ _ (by omega), stI_ne _ _ (by omega), stI_ne _ _ (by omega), stI_ne _ _ (by omega)]
      exact hf p hp
    · rw [stI_ne _ _ (by omega), stI_ne _ _ (by omega), stI_ne _ _ (by omega), stI_ne _ _ (by omega), stI_ne _ _ (by omega), stI_ne _ _ (by omega)]
      exact h0
    · rw [es]
      refine h.up (hd v.toNatClampNeg (by omega)) ?_ ?_ ?_ ?_ ?_ ?_
      · rw [← y7]; rfl
      · rw [← y7, ← y8]; rfl
      · rw [← y7, ← y12]; rfl
      · rw [← y7, ← y10]; rfl
      · rw [← y7, ← y9, ← y10]; rfl
      · rw [← y7, ← y11]; rfl
def cU (B N : Mm) (n : Nat) : Prop := ∀ j, j < n → N.1 29 j = B.1 14 j ∧ N.1 30 j = B.1 15 j ∧ N.1 31 j = B.1 16 j ∧ N.1 32 j = B.1 17 j
def frU (A M : Mm) : Prop := (∀ p, 1 ≤ p → p < 29 → M.1 p = A.1 p) ∧ (∀ j, j ≤ 38 → M.1 0 j = A.1 0 j)
theorem c230_y {B : Mm} (hb : 0 ≤ (B.1 0 38).toInt ∧ (B.1 0 38).toInt ≤ 12) : ∀ (k n2 : Nat) (N : Mm) (v : Int32), 0 ≤ v.toInt → v.toInt + (k : Int) = (B.1 0 38).toInt → frU B N → cU B N v.toNatClampNeg → ∀ (N' : Mm) (s : Int32), q_ChipMapModel_compile_230 n2 N v = some (N', s) → ∃ N1 N2 : Mm, ∃ t : Int32, frU B N1 ∧ cU B N1 (B.1 0 38).toNatClampNeg ∧ N2 = stI (stI (stI N1 0 (upd (N1.1 0) 59 0)) 0 (upd ((stI N1 0 (upd (N1.1 0) 59 0)).1 0) 67 0)) 0 (upd ((stI (stI N1 0 (upd (N1.1 0) 59 0)) 0 (upd ((stI N1 0 (upd (N1.1 0) 59 0)).1 0) 67 0)).1 0) 68 0) ∧ q_ChipMapModel_resetAll N2 = some (N', t) := by
  have tb2 := tnc hb.1
  intro k
  induction k with
  | zero =>
    intro n2 N v hv hk hf h N' s q2
    obtain ⟨n2, rfl⟩ : ∃ m, n2 = m + 1 := by
      cases n2 with
      | zero => rw [q_ChipMapModel_compile_230] at q2; cases q2
      | succ m => exact ⟨m, rfl⟩
    have t := tnc hv
    have c2 : N.1 0 38 ≤ v := Int32.le_iff_toInt_le.mpr (by rw [hf.2 38 (by omega)]; omega)
    rw [q_ChipMapModel_compile_230, if_pos c2, lq_s, lq_s, lq_s] at q2
    obtain ⟨M4, r5, p, q2⟩ := cal_o q2
    obtain ⟨rfl, -⟩ := rs_e q2
    have e : (B.1 0 38).toNatClampNeg = v.toNatClampNeg := by omega
    rw [e]
    exact ⟨N, _, r5, hf, h, rfl, p⟩
  | succ k ih =>
    intro n2 N v hv hk hf h N' s q2
    obtain ⟨n2, rfl⟩ : ∃ m, n2 = m + 1 := by
      cases n2 with
      | zero => rw [q_ChipMapModel_compile_230] at q2; cases q2
      | succ m => exact ⟨m, rfl⟩
    have c2 : ¬ N.1 0 38 ≤ v := fun c => by
      have := Int32.le_iff_toInt_le.mp c
      rw [hf.2 38 (by omega)] at this
      omega
    have t := tnc hv
    have ez : (v + 1).toInt = v.toInt + 1 := iadd rfl (rfl : (1 : Int32).toInt = 1) (by omega) (by omega)
    have es : (v + 1).toNatClampNeg = v.toNatClampNeg + 1 := tnS (by omega)
    rw [q_ChipMapModel_compile_230, if_neg c2] at q2
    have q2 := ix_r (ix_r q2)
    rw [lq_s] at q2
    have q2 := ix_r (ix_r q2)
    rw [lq_s] at q2
    have q2 := ix_r (ix_r q2)
    rw [lq_s] at q2
    have q2 := ix_r (ix_r q2)
    rw [lq_s] at q2
    have y14 : N.1 14 = B.1 14 := hf.1 14 (by omega) (by omega)
    have y15 : N.1 15 = B.1 15 := hf.1 15 (by omega) (by omega)
    have y16 : N.1 16 = B.1 16 := hf.1 16 (by omega) (by omega)
    have y17 : N.1 17 = B.1 17 := hf.1 17 (by omega) (by omega)
    refine ih n2 _ (v + 1) (by omega) (by omega) ⟨fun p h1 h2 => ?_, fun j hj => ?_⟩ ?_ N' s q2
    · rw [stI_ne _ _ (by omega), stI_ne _ _ (by omega), stI_ne _ _ (by omega), stI_ne _ _ (by omega)]
      exact hf.1 p h1 h2
    · rw [stI_ne _ _ (by omega), stI_ne _ _ (by omega), stI_ne _ _ (by omega), stI_ne _ _ (by omega)]
      exact hf.2 j hj
    · rw [es]
      intro j hj
      by_cases cj : j = v.toNatClampNeg
      · subst cj
        refine ⟨?_, ?_, ?_, ?_⟩
        · show upd (N.1 29) _ (N.1 14 _) _ = _
          rw [updS, y14]
        · show upd (N.1 30) _ (N.1 15 _) _ = _
          rw [updS, y15]
        · show upd (N.1 31) _ (N.1 16 _) _ = _
          rw [updS, y16]
        · show upd (N.1 32) _ (N.1 17 _) _ = _
          rw [updS, y17]
      · have g := h j (by omega)
        refine ⟨?_, ?_, ?_, ?_⟩
        · show upd (N.1 29) _ (N.1 14 _) _ = _
          rw [updN cj]; exact g.1
        · show upd (N.1 30) _ (N.1 15 _) _ = _
          rw [updN cj]; exact g.2.1
        · show upd (N.1 31) _ (N.1 16 _) _ = _
          rw [updN cj]; exact g.2.2.1
        · show upd (N.1 32) _ (N.1 17 _) _ = _
          rw [updN cj]; exact g.2.2.2
end
section
-- what the judges of banks and rules let through
theorem fs_row {n : Nat} {f : Nat → Int32} {c r : Int32} (h : fs n f c r) (hr : r ≠ -1) : ∃ w : Nat, w < n ∧ f w = c ∧ r.toNatClampNeg = w ∧ 0 ≤ r.toInt := by
  rcases h with ⟨e, -⟩ | ⟨⟨r0, r1⟩, e, -⟩
  · exact absurd e hr
  · exact ⟨r.toNatClampNeg, r1, e, rfl, r0⟩
theorem cb_x {M : Mm} {r d t : Int32} {M' : Mm} (h : q_Judge_canBeBank M r d = some (M', t)) (ht : t ≠ 0) : r ≠ -1 ∧ M.1 10 r.toNatClampNeg = 0 := by
  unfold q_Judge_canBeBank at h
  by_cases c : r = -1
  · rw [if_pos c] at h
    exact absurd (rs_e h).2.symm ht
  rw [if_neg c] at h
  have h := ix_r h
  by_cases c0 : M.1 10 r.toNatClampNeg = 0
  · exact ⟨c, c0⟩
  · rw [if_neg c0] at h
    exact absurd (rs_e h).2.symm ht
theorem cb_M {M : Mm} {r d t : Int32} {M' : Mm} (h : q_Judge_canBeBank M r d = some (M', t)) : M' = M := by
  unfold q_Judge_canBeBank at h
  by_cases c : r = -1
  · rw [if_pos c] at h
    exact (rs_e h).1.symm
  rw [if_neg c] at h
  have h := ix_r h
  by_cases c0 : M.1 10 r.toNatClampNeg = 0
  · rw [if_pos c0] at h
    have h := ix_r (ix_r h)
    split at h
    · obtain ⟨M1, r2, p, h⟩ := cal_o h
      have e : M1 = M := by
        unfold q_Draft_fits at p
        have p := ix_r (ix_r p)
        split at p
        · exact (rs_e p).1.symm
        · exact (rs_e p).1.symm
      rw [e] at h
      split at h
      · exact (rs_e h).1.symm
      · exact (rs_e h).1.symm
    · exact (rs_e h).1.symm
  · rw [if_neg c0] at h
    exact (rs_e h).1.symm
def bkV (M : Mm) (r : Nat) : Prop := M.1 4 r = -1 ∨ ∃ w : Nat, w < (M.1 1 6).toNatClampNeg ∧ M.1 7 w = M.1 4 r ∧ M.1 10 w = 0
theorem bb_all {M N : Mm} (h : dR M N) : ∀ (k n' : Nat) (i : Int32) (M' : Mm), (M.1 1 0).toInt - i.toInt = (k : Int) → 0 ≤ i.toInt → q_Judge_badBank_2 n' M i = some (M', -1) → ∀ r : Nat, i.toNatClampNeg ≤ r → r < (M.1 1 0).toNatClampNeg → bkV M r := by
  intro k
  induction k with
  | zero =>
    intro n' i M' hj i0 q r r1 r2
    have t1 := tnc i0
    have t2 := tnc (i := M.1 1 0) (by have := h.2.1; omega)
    omega
  | succ k ih =>
    intro n' i M' hj i0 q r r1 r2
    obtain ⟨n', rfl⟩ : ∃ m, n' = m + 1 := by
      cases n' with
      | zero => rw [q_Judge_badBank_2] at q; cases q
      | succ m => exact ⟨m, rfl⟩
    have hr := h.2.1
    have h4 := h.2.2.2.1
    have ez : (i + 1).toInt = i.toInt + 1 := iadd rfl (rfl : (1 : Int32).toInt = 1) (by omega) (by omega)
    have es : (i + 1).toNatClampNeg = i.toNatClampNeg + 1 := tnS (by omega)
    have t1 := tnc i0
    have t2 := tnc (i := M.1 1 0) (by omega)
    have c : ¬ M.1 1 0 ≤ i := fun z => by have := Int32.le_iff_toInt_le.mp z; omega
    have bk := h.2.2.2.2.2.2.2.1.2.2.2.2 i.toNatClampNeg (by omega)
    rw [q_Judge_badBank_2, if_neg c] at q
    have q := ix_r q
    have go : q_Judge_badBank_2 n' M (i + 1) = some (M', -1) → bkV M i.toNatClampNeg → bkV M r := by
      intro q b
      by_cases cr : r = i.toNatClampNeg
      · rw [cr]
        exact b
      · exact ih n' (i + 1) M' (by omega) (by omega) q r (by omega) r2
    by_cases cb : M.1 4 i.toNatClampNeg = -1
    · rw [if_pos cb] at q
      exact go q (Or.inl cb)
    · rw [if_neg cb] at q
      have q := ix_r q
      obtain ⟨ro, q1, qf⟩ := row_s (M := M) h4 (M.1 4 i.toNatClampNeg)
      rw [q1, cal_s] at q
      have q := ix_r q
      obtain ⟨M3, r4, p, q5⟩ := cal_o q
      obtain rfl := cb_M p
      by_cases c4 : r4 = 0
      · rw [if_pos c4] at q5
        have q6 := ix_r q5
        obtain ⟨-, e⟩ := rs_e q6
        have z := (bk.2.2 cb).2.2.1
        rw [e] at z
        exact absurd z (by decide)
      · rw [if_neg c4] at q5
        obtain ⟨x1, x2⟩ := cb_x p c4
        obtain ⟨w, w1, w2, w3, -⟩ := fs_row qf x1
        rw [w3] at x2
        exact go q5 (Or.inr ⟨w, w1, w2, x2⟩)
theorem wr_x {M : Mm} {r t : Int32} {M' : Mm} (h : q_Judge_isWritable M r = some (M', t)) : M' = M ∧ (t ≠ 0 → r ≠ -1 ∧ M.1 10 r.toNatClampNeg ≠ 1 ∧ M.1 10 r.toNatClampNeg ≠ 3) := by
  unfold q_Judge_isWritable at h
  by_cases c : r = -1
  · rw [if_pos c] at h
    obtain ⟨e1, e2⟩ := rs_e h
    exact ⟨e1.symm, fun z => absurd e2.symm z⟩
  rw [if_neg c] at h
  have h := ix_r h
  by_cases c1 : M.1 10 r.toNatClampNeg = 1
  · rw [if_pos c1] at h
    obtain ⟨e1, e2⟩ := rs_e h
    exact ⟨e1.symm, fun z => absurd e2.symm z⟩
  rw [if_neg c1] at h
  have h := ix_r h
  by_cases c3 : M.1 10 r.toNatClampNeg = 3
  · rw [if_pos c3] at h
    obtain ⟨e1, e2⟩ := rs_e h
    exact ⟨e1.symm, fun z => absurd e2.symm z⟩
  rw [if_neg c3] at h
  exact ⟨(rs_e h).1.symm, fun _ => ⟨c, c1, c3⟩⟩
theorem kn_x {M : Mm} {r t : Int32} {M' : Mm} (h : q_Judge_isKnown M r = some (M', t)) : M' = M ∧ (t ≠ 0 → r ≠ -1 ∧ knA (M.1 10 r.toNatClampNeg)) := by
  unfold q_Judge_isKnown at h
  by_cases c : r = -1
  · rw [if_pos c] at h
    obtain ⟨e1, e2⟩ := rs_e h
    exact ⟨e1.symm, fun z => absurd e2.symm z⟩
  rw [if_neg c] at h
  have h := ix_r h
  by_cases c1 : M.1 10 r.toNatClampNeg = 0
  · rw [if_pos c1] at h
    exact ⟨(rs_e h).1.symm, fun _ => ⟨c, Or.inl c1⟩⟩
  rw [if_neg c1] at h
  have h := ix_r h
  by_cases c3 : M.1 10 r.toNatClampNeg = 2
  · rw [if_pos c3] at h
    exact ⟨(rs_e h).1.symm, fun _ => ⟨c, Or.inr c3⟩⟩
  rw [if_neg c3] at h
  obtain ⟨e1, e2⟩ := rs_e h
  exact ⟨e1.symm, fun z => absurd e2.symm z⟩
def ruV (M : Mm) (k : Nat) : Prop := (∃ w : Nat, w < (M.1 1 6).toNatClampNeg ∧ M.1 7 w = M.1 16 k ∧ M.1 10 w ≠ 1 ∧ M.1 10 w ≠ 3) ∧ ∃ w : Nat, w < (M.1 1 6).toNatClampNeg ∧ M.1 7 w = M.1 17 k ∧ (M.1 15 k = 1 → knA (M.1 10 w)) ∧ (M.1 15 k ≠ 1 → M.1 10 w ≠ 1 ∧ M.1 10 w ≠ 3)
theorem br_all {M N : Mm} (h : dR M N) : ∀ (k n' : Nat) (i : Int32) (M' : Mm), (M.1 14 0).toInt - i.toInt = (k : Int) → 0 ≤ i.toInt → q_Judge_badRule_10 n' M i = some (M', -1) → ∀ r : Nat, i.toNatClampNeg ≤ r → r < (M.1 14 0).toNatClampNeg → ruV M r := by
  intro k
  induction k with
  | zero =>
    intro n' i M' hj i0 q r r1 r2
    have t1 := tnc i0
    have t2 := tnc (i := M.1 14 0) (by have := h.2.2.2.2.2.1; omega)
    omega
  | succ k ih =>
    intro n' i M' hj i0 q r r1 r2
    obtain ⟨n', rfl⟩ : ∃ m, n' = m + 1 := by
      cases n' with
      | zero => rw [q_Judge_badRule_10] at q; cases q
      | succ m => exact ⟨m, rfl⟩
    have hr := h.2.2.2.2.2.1
    have h4 := h.2.2.2.1
    have ez : (i + 1).toInt = i.toInt + 1 := iadd rfl (rfl : (1 : Int32).toInt = 1) (by omega) (by omega)
    have es : (i + 1).toNatClampNeg = i.toNatClampNeg + 1 := tnS (by omega)
    have t1 := tnc i0
    have t2 := tnc (i := M.1 14 0) (by omega)
    have c : ¬ M.1 14 0 ≤ i := fun z => by have := Int32.le_iff_toInt_le.mp z; omega
    have ru := h.2.2.2.2.2.2.2.2.2
    have p19 := (ru.2.2.2.2.2.2.2.2.2.1 i.toNatClampNeg (by omega)).1
    have p20 := (ru.2.2.2.2.2.2.2.2.2.2 i.toNatClampNeg (by omega)).1
    rw [q_Judge_badRule_10, if_neg c] at q
    have q := ix_r q
    obtain ⟨ra, qa, fa⟩ := row_s (M := M) h4 (M.1 16 i.toNatClampNeg)
    rw [qa, cal_s] at q
    obtain ⟨M3, r4, p, q5⟩ := cal_o q
    obtain ⟨rfl, xa⟩ := wr_x p
    by_cases c4 : r4 = 0
    · rw [if_pos c4] at q5
      have q6 := ix_r q5
      obtain ⟨-, e⟩ := rs_e q6
      rw [e] at p19
      exact absurd p19 (by decide)
    rw [if_neg c4] at q5
    obtain ⟨x1, x2⟩ := xa c4
    obtain ⟨wa, wa1, wa2, wa3, -⟩ := fs_row fa x1
    rw [wa3] at x2
    have q6 := ix_r q5
    obtain ⟨rb, qb, fb⟩ := row_s (M := M3) h4 (M3.1 17 i.toNatClampNeg)
    rw [qb, cal_s] at q6
    have q7 := ix_r q6
    have go : q_Judge_badRule_10 n' M3 (i + 1) = some (M', -1) → ruV M3 i.toNatClampNeg → ruV M3 r := by
      intro q b
      by_cases cr : r = i.toNatClampNeg
      · rw [cr]
        exact b
      · exact ih n' (i + 1) M' (by omega) (by omega) q r (by omega) r2
    have e107 : ∀ {t : Int32}, q_Judge_badRule_107 (q_Judge_badRule_10 n') M3 i t = some (M', -1) → t ≠ 0 ∧ q_Judge_badRule_10 n' M3 (i + 1) = some (M', -1) := by
      intro t z
      unfold q_Judge_badRule_107 at z
      by_cases ct : t = 0
      · rw [if_pos ct] at z
        have z := ix_r z
        obtain ⟨-, e⟩ := rs_e z
        rw [e] at p20
        exact absurd p20 (by decide)
      · rw [if_neg ct] at z
        exact ⟨ct, z⟩
    by_cases ck : M3.1 15 i.toNatClampNeg = 1
    · rw [if_pos ck] at q7
      obtain ⟨M7, r8, p8, q8⟩ := cal_o q7
      obtain ⟨rfl, xb⟩ := kn_x p8
      by_cases c8 : r8 = 0
      · rw [if_pos c8] at q8
        unfold q_Judge_badRule_98 at q8
        exact absurd rfl (e107 q8).1
      rw [if_neg c8] at q8
      obtain ⟨y1, y2⟩ := xb c8
      obtain ⟨wb, wb1, wb2, wb3, -⟩ := fs_row fb y1
      rw [wb3] at y2
      have b : ruV M7 i.toNatClampNeg := ⟨⟨wa, wa1, wa2, x2⟩, wb, wb1, wb2, fun _ => y2, fun z => absurd ck z⟩
      have q9 := ix_r q8
      obtain ⟨M9, r10, p10, q10⟩ := cal_o q9
      have e9 : M9 = M7 := by
        unfold q_Draft_fits at p10
        have p10 := ix_r (ix_r p10)
        split at p10
        · exact (rs_e p10).1.symm
        · exact (rs_e p10).1.symm
      rw [e9] at q10
      split at q10
      · unfold q_Judge_badRule_98 at q10
        exact absurd rfl (e107 q10).1
      · exact go (e107 q10).2 b
    · rw [if_neg ck] at q7
      obtain ⟨M7, r8, p8, q8⟩ := cal_o q7
      obtain ⟨rfl, xb⟩ := wr_x p8
      obtain ⟨n8', q9⟩ := e107 q8
      obtain ⟨y1, y2⟩ := xb n8'
      obtain ⟨wb, wb1, wb2, wb3, -⟩ := fs_row fb y1
      rw [wb3] at y2
      exact go q9 ⟨⟨wa, wa1, wa2, x2⟩, wb, wb1, wb2, fun z => absurd z ck, fun _ => y2⟩
end
section
-- both layouts, field by field
def LYr (B N : Mm) : Prop := CM B N (B.1 0 12).toNatClampNeg ∧ N.1 0 28 = B.1 0 28 ∧ (∀ j, j < (B.1 0 28).toNatClampNeg → N.1 20 j = B.1 2 j ∧ N.1 21 j = B.1 3 j ∧ N.1 22 j = B.1 4 j) ∧ N.1 0 38 = B.1 0 20 ∧ (∀ j, j < (B.1 0 20).toNatClampNeg → N.1 29 j = B.1 14 j ∧ N.1 30 j = B.1 15 j ∧ N.1 31 j = B.1 16 j ∧ N.1 32 j = B.1 17 j)
theorem LYr.ky {B N N' : Mm} (h : LYr B N) (k : kY N N') : LYr B N' := by
  unfold LYr CM
  rw [k.1 20 (by decide) (by decide), k.1 21 (by decide) (by decide), k.1 22 (by decide) (by decide), k.1 23 (by decide) (by decide), k.1 24 (by decide) (by decide), k.1 25 (by decide) (by decide), k.1 26 (by decide) (by decide), k.1 27 (by decide) (by decide), k.1 28 (by decide) (by decide), k.1 29 (by decide) (by decide), k.1 30 (by decide) (by decide), k.1 31 (by decide) (by decide), k.1 32 (by decide) (by decide), k.2 28 (by decide) (by decide), k.2 38 (by decide) (by decide)]
  exact h
theorem mod_y {B : Mm} (h28 : 0 ≤ (B.1 0 28).toInt ∧ (B.1 0 28).toInt ≤ 16) (h12 : 0 ≤ (B.1 0 12).toInt ∧ (B.1 0 12).toInt ≤ 128) (h20 : 0 ≤ (B.1 0 20).toInt ∧ (B.1 0 20).toInt ≤ 12) (hd : ∀ j, j < (B.1 0 12).toNatClampNeg → ∀ q, q < j → (B.1 7 q).toNatClampNeg ≠ (B.1 7 j).toNatClampNeg) {N' : Mm} {s : Int32} (q : q_ChipMapModel_compile_50 4000 B 0 = some (N', s)) : LYr B N' ∧ ∃ (N2 : Mm) (t : Int32), LYr B N2 ∧ q_ChipMapModel_resetAll N2 = some (N', t) := by
  have z0 : (0 : Int32).toInt = 0 := rfl
  have e0 : (0 : Int32).toNatClampNeg = 0 := rfl
  obtain ⟨N1, w1, c1, q⟩ := c50_y (B.1 0 28).toInt.toNat 4000 B 0 (by decide) (by omega) h28.2 (fun j hj => nlz (by rw [e0] at hj; exact hj)) N' s q
  obtain ⟨N2, z1, z2, q⟩ := c102_rel 26 4000 N1 0 (by decide) (by decide) (fun f hf => absurd hf (by omega)) N' s q
  have s2 : ∀ j, j < 38 → N2.1 0 j = B.1 0 j := fun j hj => by rw [z2 0 (by decide), w1.2 j hj]
  have p2 : ∀ p, 1 ≤ p → p < 20 → N2.1 p = B.1 p := fun p h1 h2 => by rw [z2 p (by omega), w1.1 p h1 h2]
  have cm0 : CM N2 N2 (0 : Int32).toNatClampNeg := ⟨fun w hw => nlz (by rw [e0] at hw; exact hw), fun f hf hz => absurd (z1 f hf) hz⟩
  obtain ⟨N3, f3, g3, cm3, q⟩ := c123_y (B := N2) (by rw [s2 12 (by omega)]; exact h12) (by rw [s2 12 (by omega), p2 7 (by omega) (by omega)]; exact hd) (N2.1 0 12).toInt.toNat 4000 N2 0 (by decide) (by rw [s2 12 (by omega)]; omega) (fun _ _ => rfl) rfl cm0 N' s q
  obtain ⟨B3, e3⟩ : ∃ z, z = stI N3 0 (upd (N3.1 0) 38 (N3.1 0 20)) := ⟨_, rfl⟩
  rw [← e3] at q
  have b38 : B3.1 0 38 = B.1 0 20 := by
    rw [e3, stI_at, updS, g3, s2 20 (by omega)]
  have bs : ∀ j, j < 38 → B3.1 0 j = B.1 0 j := fun j hj => by
    rw [e3, stI_at, updN (by omega), g3]
    exact s2 j hj
  have bp : ∀ p, p ≠ 0 → B3.1 p = N3.1 p := fun p hp => by rw [e3, stI_ne _ _ hp]
  obtain ⟨N4, N5, t, f4, u4, e5, q⟩ := c230_y (B := B3) (by rw [b38]; exact h20) (B3.1 0 38).toInt.toNat 4000 B3 0 (by decide) (by rw [b38]; omega) ⟨fun _ _ _ => rfl, fun _ _ => rfl⟩ (fun j hj => nlz (by rw [e0] at hj; exact hj)) N' s q
  have n5p : ∀ p, p ≠ 0 → N5.1 p = N4.1 p := fun p hp => by rw [e5, stI_ne _ _ hp, stI_ne _ _ hp, stI_ne _ _ hp]
  have n5s : ∀ j, j ≤ 38 → N5.1 0 j = N4.1 0 j := fun j hj => by
    rw [e5, stI_at, updN (by omega), stI_at, updN (by omega), stI_at, updN (by omega)]
  have lo : ∀ p, 1 ≤ p → p < 29 → N5.1 p = N3.1 p := fun p h1 h2 => by rw [n5p p (by omega), f4.1 p h1 h2, bp p (by omega)]
  have ly : LYr B N5 := by
    refine ⟨?_, ?_, fun j hj => ?_, ?_, fun j hj => ?_⟩
    · unfold CM at cm3 ⊢
      rw [s2 12 (by omega), p2 7 (by omega) (by omega), p2 8 (by omega) (by omega), p2 9 (by omega) (by omega), p2 10 (by omega) (by omega), p2 11 (by omega) (by omega), p2 12 (by omega) (by omega)] at cm3
      rw [lo 23 (by omega) (by omega), lo 24 (by omega) (by omega), lo 25 (by omega) (by omega), lo 26 (by omega) (by omega), lo 27 (by omega) (by omega), lo 28 (by omega) (by omega)]
      exact cm3
    · rw [n5s 28 (by omega), f4.2 28 (by omega), bs 28 (by omega)]
    · have g := c1 j hj
      rw [lo 20 (by omega) (by omega), lo 21 (by omega) (by omega), lo 22 (by omega) (by omega), f3 20 (by omega), f3 21 (by omega), f3 22 (by omega), z2 20 (by decide), z2 21 (by decide), z2 22 (by decide)]
      rw [w1.1 2 (by omega) (by omega), w1.1 3 (by omega) (by omega), w1.1 4 (by omega) (by omega)] at g
      exact g
    · rw [n5s 38 (by omega), f4.2 38 (by omega), b38]
    · have g := u4 j (by rw [b38]; exact hj)
      rw [n5p 29 (by omega), n5p 30 (by omega), n5p 31 (by omega), n5p 32 (by omega)]
      have k : ∀ p, 14 ≤ p → p ≤ 17 → B3.1 p = B.1 p := fun p h1 h2 => by rw [bp p (by omega), f3 p (by omega), p2 p (by omega) (by omega)]
      rw [k 14 (by omega) (by omega), k 15 (by omega) (by omega), k 16 (by omega) (by omega), k 17 (by omega) (by omega)] at g
      exact g
  exact ⟨ly.ky (ky_ChipMapModel_resetAll N5 (kY.rf N5) N' t q), N5, t, ly, q⟩
/-- there is such a field -/
def pf (M : Mm) (f : Nat) : Prop := f < 26 ∧ M.1 38 f ≠ -1
def LAf (M N : Mm) : Prop := ∀ f, pf M f → (0 ≤ (M.1 40 f).toInt ∧ (M.1 40 f).toInt + (M.1 41 f).toInt ≤ 16) ∧ (∀ b : Nat, tb (M.1 42 f) b = decide ((M.1 40 f).toInt ≤ (b : Int) ∧ (b : Int) < (M.1 40 f).toInt + (M.1 41 f).toInt)) ∧ (N.1 28 f >>> (M.1 41 f &&& 31) = 0) ∧ (∀ b : Nat, tb (M.1 42 f) b = true → tb (M.1 28 (M.1 38 f).toNatClampNeg) b = tb (N.1 28 f <<< (M.1 40 f &&& 31)) b) ∧ (M.1 38 f).toInt ≤ 15
def LAd (M : Mm) : Prop := ∀ f g, pf M f → pf M g → f ≠ g → M.1 38 f = M.1 38 g → ∀ b, ¬ (tb (M.1 42 f) b = true ∧ tb (M.1 42 g) b = true)
def LAk (M : Mm) : Prop := ∀ r b, tb (M.1 29 r) b = true ↔ ∃ f, pf M f ∧ (M.1 38 f).toNatClampNeg = r ∧ knA (M.1 39 f) ∧ tb (M.1 42 f) b = true
def LAg (M N : Mm) : Prop := M.1 24 0 = N.1 0 28 ∧ ∀ j : Nat, (j : Int) < (M.1 24 0).toInt → M.1 25 j = N.1 20 j ∧ M.1 26 j = N.1 21 j ∧ (M.1 26 j ≠ -1 → M.1 27 j = N.1 22 j ∧ pf M (M.1 26 j).toNatClampNeg ∧ 0 ≤ (M.1 26 j).toInt ∧ M.1 39 (M.1 26 j).toNatClampNeg = 0)
def LAu (M N : Mm) : Prop := M.1 43 0 = N.1 0 38 ∧ ∀ k : Nat, (k : Int) < (M.1 43 0).toInt → ((0 ≤ (M.1 44 k).toInt ∧ (M.1 44 k).toInt < 3) ∧ sB 1 (M.1 44 k).toNatClampNeg = N.1 29 k) ∧ M.1 45 k = N.1 30 k ∧ M.1 46 k = N.1 31 k ∧ M.1 47 k = N.1 32 k ∧ (pf M (M.1 45 k).toNatClampNeg ∧ 0 ≤ (M.1 45 k).toInt ∧ M.1 39 (M.1 45 k).toNatClampNeg ≠ 1 ∧ M.1 39 (M.1 45 k).toNatClampNeg ≠ 3) ∧ (pf M (M.1 46 k).toNatClampNeg ∧ 0 ≤ (M.1 46 k).toInt ∧ (M.1 44 k = 1 → knA (M.1 39 (M.1 46 k).toNatClampNeg)) ∧ (M.1 44 k ≠ 1 → M.1 39 (M.1 46 k).toNatClampNeg ≠ 1 ∧ M.1 39 (M.1 46 k).toNatClampNeg ≠ 3))
def LA (M N : Mm) : Prop := LAf M N ∧ LAd M ∧ LAk M ∧ LAg M N ∧ LAu M N
end
section
-- bits
theorem smod_k {k : Int32} (hk : 0 ≤ k.toInt ∧ k.toInt < 32) : (k &&& 31).toBitVec.smod 32#32 = BitVec.ofNat 32 k.toInt.toNat := by
  have e := (by decide : ∀ k : Fin 32, (Int32.ofNat k.val &&& 31).toBitVec.smod 32#32 = BitVec.ofNat 32 k.val) ⟨k.toInt.toNat, by omega⟩
  have e3 : Int32.ofNat k.toInt.toNat = k := (of_i hk.1).symm
  rw [show (⟨k.toInt.toNat, by omega⟩ : Fin 32).val = k.toInt.toNat from rfl, e3] at e
  exact e
theorem tn_k {k : Int32} (hk : 0 ≤ k.toInt ∧ k.toInt < 32) : (BitVec.ofNat 32 k.toInt.toNat).toNat = k.toInt.toNat := by
  rw [BitVec.toNat_ofNat]
  exact Nat.mod_eq_of_lt (by omega)
theorem tb_shl {v k : Int32} (hk : 0 ≤ k.toInt ∧ k.toInt < 32) (b : Nat) : tb (v <<< (k &&& 31)) b = (decide (b < 32) && !decide (b < k.toInt.toNat) && tb v (b - k.toInt.toNat)) := by
  show (v.toBitVec <<< ((k &&& 31).toBitVec.smod 32#32)).getLsbD b = _
  rw [smod_k hk, BitVec.getLsbD_shiftLeft', tn_k hk]
  rfl
theorem tb_shr {v k : Int32} (hk : 0 ≤ k.toInt ∧ k.toInt < 32) (b : Nat) : tb (v >>> (k &&& 31)) b = (!decide (32 ≤ b) && if k.toInt.toNat + b < 32 then tb v (k.toInt.toNat + b) else tb v 31) := by
  show (BitVec.sshiftRight' v.toBitVec ((k &&& 31).toBitVec.smod 32#32)).getLsbD b = _
  rw [smod_k hk, BitVec.getLsbD_sshiftRight', tn_k hk, BitVec.msb_eq_getLsbD_last]
  rfl
theorem tb_xor {x y : Int32} {b : Nat} : tb (x ^^^ y) b = (tb x b ^^ tb y b) := by
  unfold tb
  rw [Int32.toBitVec_xor, BitVec.getLsbD_xor]
theorem tb_m1 {b : Nat} : tb (-1) b = decide (b < 32) := by
  unfold tb
  show (BitVec.allOnes 32).getLsbD b = _
  exact BitVec.getLsbD_allOnes
theorem tb_not {x : Int32} {b : Nat} : tb (x ^^^ (-1)) b = (decide (b < 32) && !tb x b) := by
  rw [tb_xor, tb_m1]
  by_cases c : b < 32
  · rw [decide_eq_true c]
    cases tb x b <;> rfl
  · rw [decide_eq_false c, tb_32 (by omega)]
    rfl
theorem lm_fin : ∀ k : Fin 17, (((1 : Int32) <<< (Int32.ofNat k.val &&& 31)) - 1).toBitVec = BitVec.ofNat 32 (2 ^ k.val - 1) := by decide
theorem tb_lm {w : Int32} (hw : 0 ≤ w.toInt ∧ w.toInt ≤ 16) (b : Nat) : tb (((1 : Int32) <<< (w &&& 31)) - 1) b = decide (b < w.toInt.toNat) := by
  have e := lm_fin ⟨w.toInt.toNat, by omega⟩
  have e3 : Int32.ofNat w.toInt.toNat = w := (of_i hw.1).symm
  rw [show (⟨w.toInt.toNat, by omega⟩ : Fin 17).val = w.toInt.toNat from rfl, e3] at e
  unfold tb
  rw [e, BitVec.getLsbD_ofNat, Nat.testBit_two_pow_sub_one]
  by_cases c : b < w.toInt.toNat
  · rw [decide_eq_true c, decide_eq_true (show b < 32 by omega)]
    rfl
  · rw [decide_eq_false c]
    cases decide (b < 32) <;> rfl
theorem fit_tb {v w : Int32} (hw : 0 ≤ w.toInt ∧ w.toInt ≤ 16) : v >>> (w &&& 31) = 0 ↔ ∀ b, w.toInt.toNat ≤ b → tb v b = false := by
  have hk : 0 ≤ w.toInt ∧ w.toInt < 32 := by omega
  constructor
  · intro h b hb
    by_cases c : b < 32
    · have e := tb_shr (v := v) hk (b - w.toInt.toNat)
      rw [h, tb_0, if_pos (by omega), show w.toInt.toNat + (b - w.toInt.toNat) = b by omega, decide_eq_false (by omega)] at e
      cases hv : tb v b with
      | false => rfl
      | true => rw [hv] at e; cases e
    · exact tb_32 (by omega)
  · intro h
    apply tb_ext
    intro b hb
    rw [tb_shr hk, tb_0]
    by_cases c : w.toInt.toNat + b < 32
    · rw [if_pos c, h _ (by omega)]
      cases decide (32 ≤ b) <;> rfl
    · rw [if_neg c, h 31 (by omega)]
      cases decide (32 ≤ b) <;> rfl
/-- the bits of a value that fits, moved to its place -/
theorem tb_pl {v lo w : Int32} (hl : 0 ≤ lo.toInt) (hw : 1 ≤ w.toInt) (hs : lo.toInt + w.toInt ≤ 16) (hv : v >>> (w &&& 31) = 0) (b : Nat) : tb (v <<< (lo &&& 31)) b = true → lo.toInt ≤ (b : Int) ∧ (b : Int) < lo.toInt + w.toInt := by
  rw [tb_shl (by omega)]
  intro h
  have hf := (fit_tb (v := v) (w := w) (by omega)).mp hv
  by_cases c1 : b < lo.toInt.toNat
  · rw [decide_eq_true c1] at h
    simp at h
  · by_cases c2 : (b : Int) < lo.toInt + w.toInt
    · omega
    · rw [hf (b - lo.toInt.toNat) (by omega)] at h
      simp at h
/-- the field's value out of a word -/
theorem kv_e {x mk v lo w : Int32} (hl : 0 ≤ lo.toInt) (hw : 1 ≤ w.toInt) (hs : lo.toInt + w.toInt ≤ 16) (hm : ∀ b : Nat, tb mk b = decide (lo.toInt ≤ (b : Int) ∧ (b : Int) < lo.toInt + w.toInt)) (hv : v >>> (w &&& 31) = 0) (hx : ∀ b : Nat, tb mk b = true → tb x b = tb (v <<< (lo &&& 31)) b) : (x &&& mk) >>> (lo &&& 31) = v := by
  have hf := (fit_tb (v := v) (w := w) (by omega)).mp hv
  apply tb_ext
  intro b hb
  rw [tb_shr (by omega), decide_eq_false (show ¬ 32 ≤ b by omega)]
  by_cases c : lo.toInt.toNat + b < 32
  · rw [if_pos c, tb_and]
    by_cases d : (b : Int) < w.toInt
    · have m : tb mk (lo.toInt.toNat + b) = true := by
        rw [hm, decide_eq_true_eq]
        omega
      rw [hx _ m, m, tb_shl (by omega), decide_eq_true (show lo.toInt.toNat + b < 32 by omega), decide_eq_false (show ¬ lo.toInt.toNat + b < lo.toInt.toNat by omega), show lo.toInt.toNat + b - lo.toInt.toNat = b by omega]
      cases tb v b <;> rfl
    · have m : tb mk (lo.toInt.toNat + b) = false := by
        rw [hm, decide_eq_false_iff_not]
        omega
      rw [m, hf b (by omega)]
      cases tb x (lo.toInt.toNat + b) <;> rfl
  · have m : tb mk 31 = false := by
      rw [hm, decide_eq_false_iff_not]
      omega
    rw [if_neg c, tb_and, m, hf b (by omega)]
    cases tb x 31 <;> rfl
/-- the reference's part of a word is the class's -/
theorem part_e {x mk lo w : Int32} (hl : 0 ≤ lo.toInt) (hw : 1 ≤ w.toInt) (hs : lo.toInt + w.toInt ≤ 16) (hm : ∀ b : Nat, tb mk b = decide (lo.toInt ≤ (b : Int) ∧ (b : Int) < lo.toInt + w.toInt)) : (x >>> (lo &&& 31)) &&& (((1 : Int32) <<< (w &&& 31)) - 1) = (x &&& mk) >>> (lo &&& 31) := by
  apply tb_ext
  intro b hb
  rw [tb_and, tb_lm (by omega), tb_shr (by omega), tb_shr (by omega), decide_eq_false (show ¬ 32 ≤ b by omega)]
  by_cases c : lo.toInt.toNat + b < 32
  · rw [if_pos c, if_pos c, tb_and, hm]
    by_cases d : (b : Int) < w.toInt
    · rw [decide_eq_true (show b < w.toInt.toNat by omega), decide_eq_true (show lo.toInt ≤ ((lo.toInt.toNat + b : Nat) : Int) ∧ ((lo.toInt.toNat + b : Nat) : Int) < lo.toInt + w.toInt by omega)]
      cases tb x (lo.toInt.toNat + b) <;> rfl
    · rw [decide_eq_false (show ¬ b < w.toInt.toNat by omega), decide_eq_false (show ¬ (lo.toInt ≤ ((lo.toInt.toNat + b : Nat) : Int) ∧ ((lo.toInt.toNat + b : Nat) : Int) < lo.toInt + w.toInt) by omega)]
      cases tb x (lo.toInt.toNat + b) <;> rfl
  · rw [if_neg c, if_neg c, tb_and, hm, decide_eq_false (show ¬ b < w.toInt.toNat by omega), decide_eq_false (show ¬ (lo.toInt ≤ ((31 : Nat) : Int) ∧ ((31 : Nat) : Int) < lo.toInt + w.toInt) by omega)]
    cases tb x 31 <;> rfl
theorem part_fit {x mk lo w : Int32} (hl : 0 ≤ lo.toInt) (hw : 1 ≤ w.toInt) (hs : lo.toInt + w.toInt ≤ 16) (hm : ∀ b : Nat, tb mk b = decide (lo.toInt ≤ (b : Int) ∧ (b : Int) < lo.toInt + w.toInt)) : ((x &&& mk) >>> (lo &&& 31)) >>> (w &&& 31) = 0 := by
  rw [← part_e hl hw hs hm]
  apply (fit_tb (by omega)).mpr
  intro b hb
  rw [tb_and, tb_lm (by omega), decide_eq_false (by omega)]
  cases tb (x >>> (lo &&& 31)) b <;> rfl
/-- and moved back it is the word's bits again -/
theorem part_tb {x mk lo w : Int32} (hl : 0 ≤ lo.toInt) (hw : 1 ≤ w.toInt) (hs : lo.toInt + w.toInt ≤ 16) (hm : ∀ b : Nat, tb mk b = decide (lo.toInt ≤ (b : Int) ∧ (b : Int) < lo.toInt + w.toInt)) (b : Nat) : tb (((x &&& mk) >>> (lo &&& 31)) <<< (lo &&& 31)) b = (tb x b && tb mk b) := by
  rw [tb_shl (by omega)]
  by_cases c0 : b < 32
  · rw [decide_eq_true c0]
    by_cases c1 : b < lo.toInt.toNat
    · rw [decide_eq_true c1, hm, decide_eq_false (show ¬ (lo.toInt ≤ (b : Int) ∧ (b : Int) < lo.toInt + w.toInt) by omega)]
      cases tb x b <;> rfl
    · rw [decide_eq_false c1, tb_shr (by omega), if_pos (by omega), show lo.toInt.toNat + (b - lo.toInt.toNat) = b by omega, tb_and, decide_eq_false (show ¬ 32 ≤ b - lo.toInt.toNat by omega)]
      rfl
  · rw [decide_eq_false c0, tb_32 (x := x) (by omega)]
    rfl
end
section
-- the relation of the two layouts behind a compile() that answers
theorem row_f {A B M N : Mm} (hA : Dr A) (hV : VD A) (hd : dR A B) (cl : CL A M (A.1 1 6).toNatClampNeg) (cm : CM (n8 B) N (A.1 1 6).toNatClampNeg) (lf : LF M N) (w : Nat) (hw : w < (A.1 1 6).toNatClampNeg) : pf M (A.1 7 w).toNatClampNeg ∧ M.1 38 (A.1 7 w).toNatClampNeg = A.1 9 w ∧ M.1 39 (A.1 7 w).toNatClampNeg = A.1 10 w ∧ M.1 40 (A.1 7 w).toNatClampNeg = A.1 12 w ∧ M.1 42 (A.1 7 w).toNatClampNeg = mkm (A.1 12 w) (A.1 11 w) ∧ M.1 41 (A.1 7 w).toNatClampNeg = A.1 11 w - A.1 12 w + 1 ∧ N.1 28 (A.1 7 w).toNatClampNeg = A.1 13 w ∧ (A.1 11 w - A.1 12 w + 1).toInt = (A.1 11 w).toInt - (A.1 12 w).toInt + 1 := by
  have tr := tnc hA.rows.1
  have m1 := hA.nm w (by omega)
  have m3 := hA.ho w (by omega)
  have t7 := tnc m1.1
  obtain ⟨c1, c2, c3, c4⟩ := cl.1 w hw
  have hg := (hV w hw).1
  have fr := hd.2.2.2.2.2.2.1
  have e7 := fr.1 w hw
  have e9 := fr.2.2.2.2.1 w hw
  have e10 := fr.2.2.2.2.2.1 w hw
  have e11 := fr.2.2.2.2.2.2.1 w hw
  obtain ⟨-, -, -, -, d27, d28⟩ := cm.1 w hw
  rw [n8_ne (by decide), n8_ne (by decide), n8_ne (by decide), ← e7, ← e9, ← e10] at d27
  rw [n8_ne (by decide), n8_ne (by decide), ← e7, ← e11] at d28
  have hp : pf M (A.1 7 w).toNatClampNeg := ⟨by omega, by
    rw [c1]
    intro z
    rw [z] at m3
    exact absurd m3.1 (by decide)⟩
  have w2 : (A.1 11 w - A.1 12 w).toInt = (A.1 11 w).toInt - (A.1 12 w).toInt := isub rfl rfl (by unfold gdR at hg; omega) (by unfold gdR at hg; omega)
  have w3 : (A.1 11 w - A.1 12 w + 1).toInt = (A.1 11 w).toInt - (A.1 12 w).toInt + 1 := iadd w2 (rfl : (1 : Int32).toInt = 1) (by unfold gdR at hg; omega) (by unfold gdR at hg; omega)
  refine ⟨hp, c1, c2, c3, c4, ?_, d28, w3⟩
  rcases lf _ hp.1 with ⟨z, -⟩ | ⟨-, -, -, -, -, -, z, -⟩
  · exact absurd z hp.2
  · rw [z, d27]
theorem la_of {A B M N : Mm} (hA : Dr A) (hV : VD A) (hd : dR A B) (hb : ∀ r, r < (A.1 1 0).toNatClampNeg → bkV A r) (hr : ∀ k, k < (A.1 14 0).toNatClampNeg → ruV A k) (lx : LX A M) (ly : LYr (n8 B) N) (lf : LF M N) : LA M N := by
  have e12 : (n8 B).1 0 12 = A.1 1 6 := hd.2.2.1
  have e28 : (n8 B).1 0 28 = A.1 1 0 := hd.1
  have e20 : (n8 B).1 0 20 = A.1 14 0 := hd.2.2.2.2.1
  obtain ⟨cl, x24, x25, x43, x44⟩ := lx
  obtain ⟨cm, y28, y20, y38, y29⟩ := ly
  rw [e12] at cm
  rw [e28] at y28 y20
  rw [e20] at y38 y29
  have rf := row_f hA hV hd cl cm lf
  have tr := tnc hA.rows.1
  have tg := tnc hA.regs.1
  have hrg := hA.regs
  have hrr := hd.2.2.2.2.2.1
  have tu := tnc hrr.1
  refine ⟨?_, ?_, ?_, ⟨?_, ?_⟩, ⟨?_, ?_⟩⟩
  · intro f hf
    obtain ⟨w, w1, rfl⟩ := cl.2.1 f hf.2
    obtain ⟨-, p38, p39, p40, p42, p41, p28, wd⟩ := rf w w1
    have hv := hV w w1
    have hg := hv.1
    unfold gdR at hg
    have hm : ∀ b : Nat, tb (mkm (A.1 12 w) (A.1 11 w)) b = decide ((A.1 12 w).toInt ≤ (b : Int) ∧ (b : Int) < (A.1 12 w).toInt + (A.1 11 w - A.1 12 w + 1).toInt) := fun b => by
      rw [tb_mk hg, decide_eq_decide]
      omega
    rw [p38, p40, p41, p42, p28]
    refine ⟨by omega, hm, hv.2.1, fun b hb => ?_, by have := hA.ho w (by omega); omega⟩
    have i1 := cl.2.2.2 (A.1 9 w).toNatClampNeg b
    cases hs : tb (A.1 13 w <<< (A.1 12 w &&& 31)) b with
    | true => exact i1.mpr ⟨w, w1, rfl, hs⟩
    | false =>
      cases hz : tb (M.1 28 (A.1 9 w).toNatClampNeg) b with
      | false => rfl
      | true =>
        exfalso
        obtain ⟨u, u1, u2, u3⟩ := i1.mp hz
        have hu := hV u u1
        have hgu := hu.1
        unfold gdR at hgu
        obtain ⟨-, -, -, -, -, -, -, wu⟩ := rf u u1
        have in1 := tb_pl hgu.1 (by omega) (by omega) hu.2.1 b u3
        rw [hm b, decide_eq_true_eq] at hb
        have e9 : A.1 9 u = A.1 9 w := tn_inj (hA.ho u (by omega)).1 (hA.ho w (by omega)).1 u2
        rcases Nat.lt_trichotomy u w with c | c | c
        · exact hv.2.2.2 u c ⟨e9, by omega, by omega⟩
        · rw [c, hs] at u3
          cases u3
        · exact hu.2.2.2 w c ⟨e9.symm, by omega, by omega⟩
  · intro f g hf hg hne he b hb
    obtain ⟨w, w1, rfl⟩ := cl.2.1 f hf.2
    obtain ⟨u, u1, rfl⟩ := cl.2.1 g hg.2
    obtain ⟨-, p38, -, -, p42, -, -, -⟩ := rf w w1
    obtain ⟨-, r38, -, -, r42, -, -, -⟩ := rf u u1
    rw [p38, r38] at he
    rw [p42, r42] at hb
    have hw := hV w w1
    have hu := hV u u1
    have g1 := hw.1
    have g2 := hu.1
    unfold gdR at g1 g2
    rw [tb_mk g1, tb_mk g2, decide_eq_true_eq, decide_eq_true_eq] at hb
    rcases Nat.lt_trichotomy u w with c | c | c
    · exact hw.2.2.2 u c ⟨he.symm, by omega, by omega⟩
    · rw [c] at hne
      exact hne rfl
    · exact hu.2.2.2 w c ⟨he, by omega, by omega⟩
  · intro r b
    rw [cl.2.2.1 r b]
    constructor
    · intro ⟨w, w1, w2, w3, w4⟩
      obtain ⟨p, p38, p39, -, p42, -, -, -⟩ := rf w w1
      exact ⟨_, p, by rw [p38]; exact w2, by rw [p39]; exact w3, by rw [p42]; exact w4⟩
    · intro ⟨f, hf, f1, f2, f3⟩
      obtain ⟨w, w1, rfl⟩ := cl.2.1 f hf.2
      obtain ⟨-, p38, p39, -, p42, -, -, -⟩ := rf w w1
      rw [p38] at f1
      rw [p39] at f2
      rw [p42] at f3
      exact ⟨w, w1, f1, f2, f3⟩
  · rw [x24, y28]
  · intro j hj
    rw [x24] at hj
    have hj16 : j < 16 := by omega
    have hjr : j < (A.1 1 0).toNatClampNeg := by omega
    obtain ⟨a25, a26, a27⟩ := x25 j hj16
    obtain ⟨b20, b21, b22⟩ := y20 j hjr
    rw [n8_ne (by decide)] at b20 b21 b22
    have gr := hd.2.2.2.2.2.2.2.1
    have g3 := gr.2.1 j hjr
    have bk := gr.2.2.2.2 j hjr
    refine ⟨by rw [a25, b20, g3], by rw [a26, b21, bk.1], fun hn => ?_⟩
    rw [a26] at hn ⊢
    rcases hb j hjr with z | ⟨w, w1, w2, w3⟩
    · exact absurd z hn
    · obtain ⟨p, p38, p39, -, -, -, -, -⟩ := rf w w1
      rw [← w2]
      refine ⟨by rw [a27, b22]; exact (bk.2.2 hn).2.1, p, (hA.nm w (by omega)).1, by rw [p39]; exact w3⟩
  · rw [x43, y38]
  · intro k hk
    rw [x43] at hk
    have hk12 : k < 12 := by omega
    have hkr : k < (A.1 14 0).toNatClampNeg := by omega
    obtain ⟨a44, a45, a46, a47⟩ := x44 k hk12
    obtain ⟨b29, b30, b31, b32⟩ := y29 k hkr
    rw [n8_ne (by decide)] at b29 b30 b31 b32
    have ru := hd.2.2.2.2.2.2.2.2.2
    have s1 := ru.1 k hkr
    have s2 := ru.2.1 k hkr
    have s3 := ru.2.2.1 k hkr
    have s4 := ru.2.2.2.1 k hkr
    obtain ⟨⟨wa, wa1, wa2, wa3⟩, wb, wb1, wb2, wb3, wb4⟩ := hr k hkr
    obtain ⟨pa, -, pa39, -, -, -, -, -⟩ := rf wa wa1
    obtain ⟨pb, -, pb39, -, -, -, -, -⟩ := rf wb wb1
    rw [a44, a45, a46, a47, b29, b30, b31, b32]
    refine ⟨s1, s2, s3, s4, ?_, ?_⟩
    · rw [← wa2, pa39]
      exact ⟨pa, (hA.nm wa (by omega)).1, wa3⟩
    · rw [← wb2, pb39]
      exact ⟨pb, (hA.nm wb (by omega)).1, wb3, wb4⟩
theorem LA.cg {M N M' N' : Mm} (h : LA M N) (hx : kX M M') (hy : kY N N') : LA M' N' := by
  unfold LA LAf LAd LAk LAg LAu pf
  rw [hx 24 (by decide), hx 25 (by decide), hx 26 (by decide), hx 27 (by decide), hx 28 (by decide), hx 29 (by decide), hx 38 (by decide), hx 39 (by decide), hx 40 (by decide), hx 41 (by decide), hx 42 (by decide), hx 43 (by decide), hx 44 (by decide), hx 45 (by decide), hx 46 (by decide), hx 47 (by decide), hy.1 20 (by decide) (by decide), hy.1 21 (by decide) (by decide), hy.1 22 (by decide) (by decide), hy.1 28 (by decide) (by decide), hy.1 29 (by decide) (by decide), hy.1 30 (by decide) (by decide), hy.1 31 (by decide) (by decide), hy.1 32 (by decide) (by decide), hy.2 28 (by decide) (by decide), hy.2 38 (by decide) (by decide)]
  exact h
end
