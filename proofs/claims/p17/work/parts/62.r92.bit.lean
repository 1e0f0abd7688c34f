def tb (x : Int32) (b : Nat) : Bool := x.toBitVec.getLsbD b
theorem tb_and {x y : Int32} {b : Nat} : tb (x &&& y) b = (tb x b && tb y b) := by
  unfold tb
  rw [Int32.toBitVec_and, BitVec.getLsbD_and]
theorem tb_or {x y : Int32} {b : Nat} : tb (x ||| y) b = (tb x b || tb y b) := by
  unfold tb
  rw [Int32.toBitVec_or, BitVec.getLsbD_or]
theorem tb_0 {b : Nat} : tb 0 b = false := by
  unfold tb
  show (0#32).getLsbD b = false
  exact BitVec.getLsbD_zero
theorem tb_ext {x y : Int32} (h : ∀ b, b < 32 → tb x b = tb y b) : x = y := by
  apply Int32.toBitVec_inj.mp
  exact BitVec.eq_of_getLsbD_eq (fun b hb => h b hb)
theorem tb_32 {x : Int32} {b : Nat} (h : 32 ≤ b) : tb x b = false := BitVec.getLsbD_of_ge _ _ h
theorem of_i {v : Int32} (h : 0 ≤ v.toInt) : v = Int32.ofNat v.toInt.toNat := by
  apply Int32.toInt_inj.mp
  have := v.toInt_lt
  rw [Int32.toInt_ofNat_of_lt (by omega)]
  omega
def mkm (lo hi : Int32) : Int32 := (((((1 : Int32) <<< (((hi - lo) + 1) &&& 31)) - 1) : Int32) <<< (lo &&& 31))
set_option maxRecDepth 20000 in
theorem mk_fin : ∀ lo hi : Fin 16, lo.val ≤ hi.val → (mkm (Int32.ofNat lo.val) (Int32.ofNat hi.val)).toBitVec = BitVec.ofNat 32 ((2 ^ (hi.val + 1 - lo.val) - 1) <<< lo.val) := by decide
theorem tb_mk {lo hi : Int32} {b : Nat} (h : 0 ≤ lo.toInt ∧ lo.toInt ≤ hi.toInt ∧ hi.toInt ≤ 15) : tb (mkm lo hi) b = decide (lo.toInt ≤ (b : Int) ∧ (b : Int) ≤ hi.toInt) := by
  have k := mk_fin ⟨lo.toInt.toNat, by omega⟩ ⟨hi.toInt.toNat, by omega⟩ (show lo.toInt.toNat ≤ hi.toInt.toNat by omega)
  have k2 : (mkm lo hi).toBitVec = BitVec.ofNat 32 ((2 ^ (hi.toInt.toNat + 1 - lo.toInt.toNat) - 1) <<< lo.toInt.toNat) := by
    rw [of_i h.1, of_i (Int.le_trans h.1 h.2.1), ← of_i h.1, ← of_i (Int.le_trans h.1 h.2.1)]
    rw [← of_i h.1, ← of_i (Int.le_trans h.1 h.2.1)] at k
    exact k
  unfold tb
  rw [k2, BitVec.getLsbD_ofNat, Nat.testBit_shiftLeft, Nat.testBit_two_pow_sub_one]
  by_cases c : lo.toInt ≤ (b : Int) ∧ (b : Int) ≤ hi.toInt
  · have a1 : b < 32 := by omega
    have a2 : b ≥ lo.toInt.toNat := by omega
    have a3 : b - lo.toInt.toNat < hi.toInt.toNat + 1 - lo.toInt.toNat := by omega
    rw [decide_eq_true a1, decide_eq_true a2, decide_eq_true a3, decide_eq_true c]
    rfl
  · have a4 : ¬ (b ≥ lo.toInt.toNat ∧ b - lo.toInt.toNat < hi.toInt.toNat + 1 - lo.toInt.toNat) := by omega
    by_cases a2 : b ≥ lo.toInt.toNat
    · have a3 : ¬ b - lo.toInt.toNat < hi.toInt.toNat + 1 - lo.toInt.toNat := fun z => a4 ⟨a2, z⟩
      rw [decide_eq_false a3, decide_eq_false c, Bool.and_false, Bool.and_false]
    · rw [decide_eq_false a2, decide_eq_false c, Bool.false_and, Bool.and_false]
theorem and_0 {x y : Int32} : x &&& y = 0 ↔ ∀ b, ¬ (tb x b = true ∧ tb y b = true) := by
  constructor
  · intro h b hb
    have e := congrArg (fun z => tb z b) h
    simp only [tb_and, tb_0, hb.1, hb.2] at e
    exact absurd e (by decide)
  · intro h
    refine tb_ext (fun b _ => ?_)
    rw [tb_and, tb_0]
    have := h b
    cases hx : tb x b <;> cases hy : tb y b <;> simp_all
def fs (n : Nat) (f : Nat → Int32) (c r : Int32) : Prop := (r = -1 ∧ ∀ j : Nat, j < n → f j ≠ c) ∨ ((0 ≤ r.toInt ∧ r.toNatClampNeg < n) ∧ f r.toNatClampNeg = c ∧ ∀ j : Nat, j < r.toNatClampNeg → f j ≠ c)
theorem fs_u {n : Nat} {f g : Nat → Int32} {c r s : Int32} (h : fs n f c r) (k : fs n g c s) (e : eqTo n f g) : r = s := by
  rcases h with ⟨h1, h2⟩ | ⟨h1, h2, h3⟩
  · rcases k with ⟨k1, k2⟩ | ⟨k1, k2, k3⟩
    · rw [h1, k1]
    · exact absurd ((e _ k1.2).trans k2) (h2 _ k1.2)
  · rcases k with ⟨k1, k2⟩ | ⟨k1, k2, k3⟩
    · exact absurd ((e _ h1.2).symm.trans h2) (k2 _ h1.2)
    · have t1 := tnc h1.1
      have t2 := tnc k1.1
      by_cases a : r.toNatClampNeg < s.toNatClampNeg
      · exact absurd ((e _ h1.2).symm.trans h2) (k3 _ a)
      by_cases b : s.toNatClampNeg < r.toNatClampNeg
      · exact absurd ((e _ k1.2).trans k2) (h3 _ b)
      exact Int32.toInt_inj.mp (by omega)
theorem row_l {M : Mm} {c : Int32} (hn : 0 ≤ (M.1 1 6).toInt ∧ (M.1 1 6).toInt ≤ 128) : ∀ (j n' : Nat) (i : Int32), (M.1 1 6).toInt - i.toInt = (j : Int) → 0 ≤ i.toInt → j < n' → (∀ q : Nat, q < i.toNatClampNeg → M.1 7 q ≠ c) → ∃ r, q_Draft_rowOf_2 n' M c i = some (M, r) ∧ fs (M.1 1 6).toNatClampNeg (M.1 7) c r := by
  intro j
  induction j with
  | zero =>
    intro n' i hj i0 hn' hq
    obtain ⟨n', rfl⟩ : ∃ q, n' = q + 1 := ⟨n' - 1, by omega⟩
    rw [q_Draft_rowOf_2, if_pos (Int32.le_iff_toInt_le.mpr (by omega))]
    have t1 := tnc i0
    have t2 := tnc hn.1
    exact ⟨-1, rfl, Or.inl ⟨rfl, fun q hq2 => hq q (by omega)⟩⟩
  | succ j ih =>
    intro n' i hj i0 hn' hq
    obtain ⟨n', rfl⟩ : ∃ q, n' = q + 1 := ⟨n' - 1, by omega⟩
    have t1 := tnc i0
    have t2 := tnc hn.1
    rw [q_Draft_rowOf_2, if_neg (fun z => by have := Int32.le_iff_toInt_le.mp z; omega), ix_e (vI (by omega))]
    by_cases e : M.1 7 i.toNatClampNeg = c
    · rw [if_pos e]
      exact ⟨i, rfl, Or.inr ⟨⟨i0, by omega⟩, e, hq⟩⟩
    · rw [if_neg e]
      have ez : (i + 1).toInt = i.toInt + 1 := iadd rfl (rfl : (1 : Int32).toInt = 1) (by omega) (by omega)
      have es : (i + 1).toNatClampNeg = i.toNatClampNeg + 1 := tnS (by omega)
      refine ih n' (i + 1) (by omega) (by omega) (by omega) (fun q hq2 => ?_)
      by_cases d : q = i.toNatClampNeg
      · rw [d]; exact e
      · exact hq q (by omega)
theorem row_s {M : Mm} (hn : 0 ≤ (M.1 1 6).toInt ∧ (M.1 1 6).toInt ≤ 128) (c : Int32) : ∃ r, q_Draft_rowOf M c = some (M, r) ∧ fs (M.1 1 6).toNatClampNeg (M.1 7) c r := by
  have z0 : (0 : Int32).toInt = 0 := rfl
  exact row_l hn (M.1 1 6).toInt.toNat 4000 0 (by omega) (by omega) (by omega) (fun q hq => nlz hq)
theorem nmd_l {N : Mm} {c n : Int32} (hn : 0 ≤ n.toInt ∧ n.toInt ≤ 128) : ∀ (j n' : Nat) (i : Int32), n.toInt - i.toInt = (j : Int) → 0 ≤ i.toInt → j < n' → (∀ q : Nat, q < i.toNatClampNeg → N.1 7 q ≠ c) → ∃ r, q_ChipMapModel_named_2 n' N c n i = some (N, r) ∧ fs n.toNatClampNeg (N.1 7) c r := by
  intro j
  induction j with
  | zero =>
    intro n' i hj i0 hn' hq
    obtain ⟨n', rfl⟩ : ∃ q, n' = q + 1 := ⟨n' - 1, by omega⟩
    rw [q_ChipMapModel_named_2, if_pos (Int32.le_iff_toInt_le.mpr (by omega))]
    have t1 := tnc i0
    have t2 := tnc hn.1
    exact ⟨-1, rfl, Or.inl ⟨rfl, fun q hq2 => hq q (by omega)⟩⟩
  | succ j ih =>
    intro n' i hj i0 hn' hq
    obtain ⟨n', rfl⟩ : ∃ q, n' = q + 1 := ⟨n' - 1, by omega⟩
    have t1 := tnc i0
    have t2 := tnc hn.1
    rw [q_ChipMapModel_named_2, if_neg (fun z => by have := Int32.le_iff_toInt_le.mp z; omega), ix_e (vI (by omega))]
    by_cases e : N.1 7 i.toNatClampNeg = c
    · rw [if_pos e]
      exact ⟨i, rfl, Or.inr ⟨⟨i0, by omega⟩, e, hq⟩⟩
    · rw [if_neg e]
      have ez : (i + 1).toInt = i.toInt + 1 := iadd rfl (rfl : (1 : Int32).toInt = 1) (by omega) (by omega)
      have es : (i + 1).toNatClampNeg = i.toNatClampNeg + 1 := tnS (by omega)
      refine ih n' (i + 1) (by omega) (by omega) (by omega) (fun q hq2 => ?_)
      by_cases d : q = i.toNatClampNeg
      · rw [d]; exact e
      · exact hq q (by omega)
theorem nmd_s {N : Mm} {n : Int32} (hn : 0 ≤ n.toInt ∧ n.toInt ≤ 128) (c : Int32) : ∃ r, q_ChipMapModel_named N c n = some (N, r) ∧ fs n.toNatClampNeg (N.1 7) c r := by
  have z0 : (0 : Int32).toInt = 0 := rfl
  exact nmd_l hn n.toInt.toNat 4000 0 (by omega) (by omega) (by omega) (fun q hq => nlz hq)
theorem nam_rel {M N : Mm} (h : dR M N) (c : Int32) : ∃ r, q_Draft_rowOf M c = some (M, r) ∧ q_ChipMapModel_named N c (N.1 0 12) = some (N, r) ∧ (r = -1 ∨ (0 ≤ r.toInt ∧ r.toNatClampNeg < (M.1 1 6).toNatClampNeg)) := by
  obtain ⟨h1, h2, h3, h4, h5, h6, h7, h8, h9, h10⟩ := h
  obtain ⟨r, e1, f1⟩ := row_s h4 c
  obtain ⟨s, e2, f2⟩ := nmd_s (N := N) (n := M.1 1 6) h4 c
  have e := fs_u f1 f2 h7.1
  rw [h3]
  refine ⟨r, e1, by rw [e]; exact e2, ?_⟩
  rcases f1 with f1 | f1
  · exact Or.inl f1.1
  · exact Or.inr f1.1
