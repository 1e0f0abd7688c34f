-- what a function leaves alone
def kp (P : Mm → Prop) (t : Rs) : Prop := ∀ (M : Mm) (r : Int32), t = some (M, r) → P M
theorem kp_some {P : Mm → Prop} {M : Mm} {r : Int32} (h : P M) : kp P (some (M, r)) := fun M' r' e => by
  obtain ⟨rfl, -⟩ := rs_e e
  exact h
theorem kp_none {P : Mm → Prop} : kp P none := fun M' r' e => by cases e
theorem kp_st {P : Mm → Prop} {x : Mm} {k : Mm → Rs} (hx : P x) (h : ∀ y, P y → kp P (k y)) : kp P (lt' x k) := h x hx
theorem kp_lv {α : Type} {P : Mm → Prop} {x : α} {k : α → Rs} (h : ∀ y, kp P (k y)) : kp P (lt' x k) := h x
theorem kp_ix {P : Mm → Prop} {i : Int32} {n : Nat} {k : Rs} (h : kp P k) : kp P (ix i n k) := fun M r e => h M r (ix_r e)
theorem kp_bz {P : Mm → Prop} {v : Int32} {k : Rs} (h : kp P k) : kp P (bz v k) := fun M r e => h M r (bz_r e)
theorem kp_cz {P : Mm → Prop} {v : Int32} {k : Rs} (h : kp P k) : kp P (cz v k) := fun M r e => by
  unfold cz at e
  split at e
  · exact h M r e
  · cases e
theorem kp_cpk {P : Mm → Prop} {sp dp n : Int32} {n0 n1 : Nat} {k : Rs} (h : kp P k) : kp P (cpk sp dp n n0 n1 k) := fun M r e => by
  unfold cpk at e
  split at e
  · exact h M r e
  · cases e
theorem kp_cal {P : Mm → Prop} {t : Rs} {k : Mm → Int32 → Rs} (h : kp P t) (h2 : ∀ M r, P M → kp P (k M r)) : kp P (cal t k) := fun M r e => by
  obtain ⟨M1, r1, e1, e2⟩ := cal_o e
  exact h2 M1 r1 (h M1 r1 e1) M r e2
theorem kp_if {P : Mm → Prop} {c : Prop} [Decidable c] {a b : Rs} (ha : kp P a) (hb : kp P b) : kp P (if c then a else b) := by
  by_cases hc : c
  · rw [if_pos hc]; exact ha
  · rw [if_neg hc]; exact hb
def kX (A M : Mm) : Prop := ∀ p, p < 50 → M.1 p = A.1 p
theorem kX.st {A M : Mm} {k : Nat} {f : Nat → Int32} (h : kX A M) (hk : 50 ≤ k) : kX A (stI M k f) := fun p hp => by rw [stI_ne M f (by omega)]; exact h p hp
theorem kX.sj {A M : Mm} {k : Nat} {f : Nat → Int64} (h : kX A M) : kX A (stJ M k f) := h
def kR (A M : Mm) : Prop := ∀ p, 24 ≤ p → M.1 p = A.1 p
theorem kR.st {A M : Mm} {k : Nat} {f : Nat → Int32} (h : kR A M) (hk : k < 24) : kR A (stI M k f) := fun p hp => by rw [stI_ne M f (by omega)]; exact h p hp
def kY (A M : Mm) : Prop := (∀ p, p ≠ 0 → p ≤ 32 → M.1 p = A.1 p) ∧ (∀ j, j ≠ 0 → j ≤ 38 → M.1 0 j = A.1 0 j)
theorem kY.st {A M : Mm} {k : Nat} {f : Nat → Int32} (h : kY A M) (hk : 33 ≤ k) : kY A (stI M k f) := ⟨fun p h0 hp => by rw [stI_ne M f (by omega)]; exact h.1 p h0 hp, fun j h0 hj => by rw [stI_ne M f (by omega)]; exact h.2 j h0 hj⟩
theorem kY.s0 {A M : Mm} {k : Nat} {x : Int32} (h : kY A M) (hk : k = 0 ∨ 39 ≤ k) : kY A (stI M 0 (upd (M.1 0) k x)) := ⟨fun p h0 hp => by rw [stI_ne M _ (by omega)]; exact h.1 p h0 hp, fun j h0 hj => by rw [stI_at, updN (by omega)]; exact h.2 j h0 hj⟩
theorem kY.sj {A M : Mm} {k : Nat} {f : Nat → Int64} (h : kY A M) : kY A (stJ M k f) := h
def kM (A M : Mm) : Prop := (∀ p, 20 ≤ p → M.1 p = A.1 p) ∧ (∀ j, 27 ≤ j → j < 70 → M.1 0 j = A.1 0 j)
theorem kM.st {A M : Mm} {k : Nat} {f : Nat → Int32} (h : kM A M) (hk : 1 ≤ k ∧ k < 20) : kM A (stI M k f) := ⟨fun p hp => by rw [stI_ne M f (by omega)]; exact h.1 p hp, fun j h0 hj => by rw [stI_ne M f (by omega)]; exact h.2 j h0 hj⟩
theorem kM.s0 {A M : Mm} {k : Nat} {x : Int32} (h : kM A M) (hk : k < 27 ∨ 70 ≤ k) : kM A (stI M 0 (upd (M.1 0) k x)) := ⟨fun p hp => by rw [stI_ne M _ (by omega)]; exact h.1 p hp, fun j h0 hj => by rw [stI_at, updN (by omega)]; exact h.2 j h0 hj⟩
def kW (A M : Mm) : Prop := (∀ p, 1 ≤ p → p < 20 → M.1 p = A.1 p) ∧ (∀ j, j < 38 → M.1 0 j = A.1 0 j)
theorem kW.st {A M : Mm} {k : Nat} {f : Nat → Int32} (h : kW A M) (hk : 20 ≤ k) : kW A (stI M k f) := ⟨fun p h0 hp => by rw [stI_ne M f (by omega)]; exact h.1 p h0 hp, fun j hj => by rw [stI_ne M f (by omega)]; exact h.2 j hj⟩
theorem kW.s0 {A M : Mm} {k : Nat} {x : Int32} (h : kW A M) (hk : 38 ≤ k) : kW A (stI M 0 (upd (M.1 0) k x)) := ⟨fun p h0 hp => by rw [stI_ne M _ (by omega)]; exact h.1 p h0 hp, fun j hj => by rw [stI_at, updN (by omega)]; exact h.2 j hj⟩
def kV (A M : Mm) : Prop := ∀ p, 20 ≤ p → p ≤ 28 → M.1 p = A.1 p
theorem kV.rf (A : Mm) : kV A A := fun _ _ _ => rfl
theorem kV.st {A M : Mm} {k : Nat} {f : Nat → Int32} (h : kV A M) (hk : k < 20 ∨ 29 ≤ k) : kV A (stI M k f) := fun p h0 hp => by rw [stI_ne M f (by omega)]; exact h p h0 hp
def kS (A M : Mm) : Prop := ∀ p, 69 ≤ p → p ≤ 72 → M.1 p = A.1 p
theorem kS.rf (A : Mm) : kS A A := fun _ _ _ => rfl
theorem kS.st {A M : Mm} {k : Nat} {f : Nat → Int32} (h : kS A M) (hk : k < 69 ∨ 73 ≤ k) : kS A (stI M k f) := fun p h0 hp => by rw [stI_ne M f (by omega)]; exact h p h0 hp
theorem kS.sj {A M : Mm} {k : Nat} {f : Nat → Int64} (h : kS A M) : kS A (stJ M k f) := h
def kT (A M : Mm) : Prop := (∀ p, 42 ≤ p → p ≤ 44 → M.1 p = A.1 p) ∧ M.1 0 59 = A.1 0 59
theorem kT.rf (A : Mm) : kT A A := ⟨fun _ _ _ => rfl, rfl⟩
theorem kT.st {A M : Mm} {k : Nat} {f : Nat → Int32} (h : kT A M) (hk : (1 ≤ k ∧ k < 42) ∨ 45 ≤ k) : kT A (stI M k f) := ⟨fun p h0 hp => by rw [stI_ne M f (by omega)]; exact h.1 p h0 hp, by rw [stI_ne M f (by omega)]; exact h.2⟩
theorem kT.s0 {A M : Mm} {k : Nat} {x : Int32} (h : kT A M) (hk : k ≠ 59) : kT A (stI M 0 (upd (M.1 0) k x)) := ⟨fun p h0 hp => by rw [stI_ne M _ (by omega)]; exact h.1 p h0 hp, by rw [stI_at, updN (by omega)]; exact h.2⟩
theorem kT.sj {A M : Mm} {k : Nat} {f : Nat → Int64} (h : kT A M) : kT A (stJ M k f) := h
def kP (A M : Mm) : Prop := ∀ p, p ≠ 57 → p ≠ 59 → M.1 p = A.1 p
theorem kP.rf (A : Mm) : kP A A := fun _ _ _ => rfl
theorem kP.st {A M : Mm} {k : Nat} {f : Nat → Int32} (h : kP A M) (hk : k = 57 ∨ k = 59) : kP A (stI M k f) := fun p h1 h2 => by rw [stI_ne M f (by omega)]; exact h p h1 h2
theorem kr_Draft_clear {A : Mm} (M : Mm) (h : kR A M) : kp (kR A) (q_Draft_clear M) := by
  unfold q_Draft_clear
  refine kp_st (kR.st h (by decide)) (fun m1 h2 => ?_)
  refine kp_st (kR.st h2 (by decide)) (fun m3 h4 => ?_)
  refine kp_st (kR.st h4 (by decide)) (fun m5 h6 => ?_)
  exact kp_some h6
theorem kr_Reader_next {A : Mm} (M : Mm) (h : kR A M) : kp (kR A) (q_Reader_next M) := by
  unfold q_Reader_next
  refine kp_if ?_ ?_
  · skip
    exact kp_some h
  · skip
    refine kp_ix ?_
    refine kp_cz ?_
    exact kp_some h
theorem kr_Reader_take {A : Mm} (M : Mm) (a1 : Int32) (h : kR A M) : kp (kR A) (q_Reader_take M a1) := by
  unfold q_Reader_take
  refine kp_cal (kr_Reader_next _ h) (fun m1 r2 h3 => ?_)
  refine kp_if ?_ ?_
  · skip
    refine kp_st (kR.st h3 (by decide)) (fun m4 h5 => ?_)
    exact kp_some h5
  · skip
    exact kp_some h3
theorem kr_Reader_digitOf_17 {A : Mm} (M : Mm) (v0 : Int32) (h : kR A M) : kp (kR A) (q_Reader_digitOf_17 M v0) := by
  unfold q_Reader_digitOf_17
  refine kp_if ?_ ?_
  · skip
    exact kp_some h
  · skip
    refine kp_if ?_ ?_
    · skip
      exact kp_some h
    · skip
      exact kp_some h
theorem kr_Reader_digitOf {A : Mm} (M : Mm) (a0 : Int32) (h : kR A M) : kp (kR A) (q_Reader_digitOf M a0) := by
  unfold q_Reader_digitOf
  refine kp_if ?_ ?_
  · skip
    exact kr_Reader_digitOf_17 _ _ h
  · skip
    refine kp_if ?_ ?_
    · skip
      exact kr_Reader_digitOf_17 _ _ h
    · skip
      exact kp_some h
theorem kr_Reader_number_67 {A : Mm} (M : Mm) (v2 : Int32) (v4 : Int32) (v5 : Int32) (h : kR A M) : kp (kR A) (q_Reader_number_67 M v2 v4 v5) := by
  unfold q_Reader_number_67
  refine kp_if ?_ ?_
  · skip
    exact kp_some h
  · skip
    exact kp_some h
theorem kr_Reader_number_9 {A : Mm} : ∀ (n' : Nat) (M : Mm) (v1 : Int32) (v2 : Int32) (v3 : Int32) (v4 : Int32) (v5 : Int32) (v6 : Int32), kR A M → kp (kR A) (q_Reader_number_9 n' M v1 v2 v3 v4 v5 v6) := by
  intro n'
  induction n' with
  | zero =>
    intro M v1 v2 v3 v4 v5 v6 h
    rw [q_Reader_number_9]
    exact kp_none
  | succ n' ih =>
    intro M v1 v2 v3 v4 v5 v6 h
    rw [q_Reader_number_9]
    refine kp_if ?_ ?_
    · skip
      exact kr_Reader_number_67 _ _ _ _ h
    · skip
      refine kp_cal (kr_Reader_next _ h) (fun m1 r2 h3 => ?_)
      refine kp_cal (kr_Reader_digitOf _ _ h3) (fun m4 r5 h6 => ?_)
      refine kp_if ?_ ?_
      · skip
        exact kr_Reader_number_67 _ _ _ _ h6
      · skip
        refine kp_if ?_ ?_
        · skip
          refine kp_lv (fun x7 => ?_)
          refine kp_st (kR.st h6 (by decide)) (fun m8 h9 => ?_)
          exact ih _ _ _ _ _ _ _ h9
        · skip
          exact kr_Reader_number_67 _ _ _ _ h6
theorem kr_Reader_number {A : Mm} (M : Mm) (a1 : Int32) (a2 : Int32) (a3 : Int32) (h : kR A M) : kp (kR A) (q_Reader_number M a1 a2 a3) := by
  unfold q_Reader_number
  exact kr_Reader_number_9 4000 _ _ _ _ _ _ _ h
theorem kr_Reader_name {A : Mm} (M : Mm) (h : kR A M) : kp (kR A) (q_Reader_name M) := by
  unfold q_Reader_name
  refine kp_cal (kr_Reader_next _ h) (fun m1 r2 h3 => ?_)
  refine kp_if ?_ ?_
  · skip
    exact kp_some h3
  · skip
    refine kp_if ?_ ?_
    · skip
      refine kp_st (kR.st h3 (by decide)) (fun m4 h5 => ?_)
      exact kp_some h5
    · skip
      exact kp_some h3
theorem kr_Reader_readBank {A : Mm} (M : Mm) (a1 : Int32) (h : kR A M) : kp (kR A) (q_Reader_readBank M a1) := by
  unfold q_Reader_readBank
  refine kp_ix ?_
  refine kp_st (kR.st h (by decide)) (fun m1 h2 => ?_)
  refine kp_cal (kr_Reader_next _ h2) (fun m3 r4 h5 => ?_)
  refine kp_if ?_ ?_
  · skip
    refine kp_st (kR.st h5 (by decide)) (fun m6 h7 => ?_)
    refine kp_ix ?_
    refine kp_st (kR.st h7 (by decide)) (fun m8 h9 => ?_)
    refine kp_cal (kr_Reader_name _ h9) (fun m10 r11 h12 => ?_)
    refine kp_ix ?_
    refine kp_st (kR.st h12 (by decide)) (fun m13 h14 => ?_)
    refine kp_ix ?_
    refine kp_if ?_ ?_
    · skip
      exact kp_some h14
    · skip
      refine kp_cal (kr_Reader_take _ _ h14) (fun m15 r16 h17 => ?_)
      refine kp_if ?_ ?_
      · skip
        exact kp_some h17
      · skip
        refine kp_cal (kr_Reader_number _ _ _ _ h17) (fun m18 r19 h20 => ?_)
        refine kp_ix ?_
        refine kp_st (kR.st h20 (by decide)) (fun m21 h22 => ?_)
        refine kp_ix ?_
        refine kp_if ?_ ?_
        · skip
          exact kp_some h22
        · skip
          exact kp_some h22
  · skip
    exact kp_some h5
theorem kr_String_isLatin1 {A : Mm} (M : Mm) (h : kR A M) : kp (kR A) (q_String_isLatin1 M) := by
  unfold q_String_isLatin1
  exact kp_some h
theorem kr_String_coder {A : Mm} (M : Mm) (h : kR A M) : kp (kR A) (q_String_coder M) := by
  unfold q_String_coder
  exact kp_some h
theorem kr_String_length {A : Mm} (M : Mm) (h : kR A M) : kp (kR A) (q_String_length M) := by
  unfold q_String_length
  refine kp_cal (kr_String_coder _ h) (fun m1 r2 h3 => ?_)
  exact kp_some h3
theorem kr_StringLatin1_canEncode {A : Mm} (M : Mm) (a0 : Int32) (h : kR A M) : kp (kR A) (q_StringLatin1_canEncode M a0) := by
  unfold q_StringLatin1_canEncode
  refine kp_if ?_ ?_
  · skip
    exact kp_some h
  · skip
    refine kp_if ?_ ?_
    · skip
      exact kp_some h
    · skip
      exact kp_some h
theorem kr_StringLatin1_indexOfChar_7 {A : Mm} : ∀ (n' : Nat) (M : Mm) (v3 : Int32) (v4 : Int32) (v5 : Int32), kR A M → kp (kR A) (q_StringLatin1_indexOfChar_7 n' M v3 v4 v5) := by
  intro n'
  induction n' with
  | zero =>
    intro M v3 v4 v5 h
    rw [q_StringLatin1_indexOfChar_7]
    exact kp_none
  | succ n' ih =>
    intro M v3 v4 v5 h
    rw [q_StringLatin1_indexOfChar_7]
    refine kp_if ?_ ?_
    · skip
      exact kp_some h
    · skip
      refine kp_ix ?_
      refine kp_if ?_ ?_
      · skip
        exact kp_some h
      · skip
        exact ih _ _ _ _ h
theorem kr_StringLatin1_indexOfChar {A : Mm} (M : Mm) (a1 : Int32) (a2 : Int32) (a3 : Int32) (h : kR A M) : kp (kR A) (q_StringLatin1_indexOfChar M a1 a2 a3) := by
  unfold q_StringLatin1_indexOfChar
  refine kp_lv (fun x1 => ?_)
  exact kr_StringLatin1_indexOfChar_7 4000 _ _ _ _ h
theorem kr_StringLatin1_indexOf {A : Mm} (M : Mm) (a1 : Int32) (a2 : Int32) (a3 : Int32) (h : kR A M) : kp (kR A) (q_StringLatin1_indexOf M a1 a2 a3) := by
  unfold q_StringLatin1_indexOf
  refine kp_cal (kr_StringLatin1_canEncode _ _ h) (fun m1 r2 h3 => ?_)
  refine kp_if ?_ ?_
  · skip
    exact kp_some h3
  · skip
    refine kp_lv (fun x4 => ?_)
    refine kp_lv (fun x5 => ?_)
    refine kp_if ?_ ?_
    · skip
      refine kp_cal (kr_StringLatin1_indexOfChar _ _ _ _ h3) (fun m6 r7 h8 => ?_)
      exact kp_some h8
    · skip
      exact kp_some h3
theorem kr_String_indexOf_1 {A : Mm} (M : Mm) (a1 : Int32) (a2 : Int32) (h : kR A M) : kp (kR A) (q_String_indexOf_1 M a1 a2) := by
  unfold q_String_indexOf_1
  refine kp_cal (kr_String_isLatin1 _ h) (fun m1 r2 h3 => ?_)
  refine kp_if ?_ ?_
  · skip
    refine kp_cal (kr_String_length _ h3) (fun m4 r5 h6 => ?_)
    exact kp_none
  · skip
    refine kp_cal (kr_String_length _ h3) (fun m7 r8 h9 => ?_)
    refine kp_cal (kr_StringLatin1_indexOf _ _ _ _ h9) (fun m10 r11 h12 => ?_)
    exact kp_some h12
theorem kr_String_indexOf {A : Mm} (M : Mm) (a1 : Int32) (h : kR A M) : kp (kR A) (q_String_indexOf M a1) := by
  unfold q_String_indexOf
  refine kp_cal (kr_String_indexOf_1 _ _ _ h) (fun m1 r2 h3 => ?_)
  exact kp_some h3
theorem kr_Reader_oneOf_23 {A : Mm} (M : Mm) (v2 : Int32) (h : kR A M) : kp (kR A) (q_Reader_oneOf_23 M v2) := by
  unfold q_Reader_oneOf_23
  refine kp_if ?_ ?_
  · skip
    exact kp_some h
  · skip
    exact kp_some h
theorem kr_Reader_oneOf {A : Mm} (M : Mm) (h : kR A M) : kp (kR A) (q_Reader_oneOf M) := by
  unfold q_Reader_oneOf
  refine kp_cal (kr_Reader_next _ h) (fun m1 r2 h3 => ?_)
  refine kp_cal (kr_String_indexOf _ _ h3) (fun m4 r5 h6 => ?_)
  refine kp_if ?_ ?_
  · skip
    exact kr_Reader_oneOf_23 _ _ h6
  · skip
    refine kp_st (kR.st h6 (by decide)) (fun m7 h8 => ?_)
    exact kr_Reader_oneOf_23 _ _ h8
theorem kr_Reader_numberBehindSign {A : Mm} (M : Mm) (h : kR A M) : kp (kR A) (q_Reader_numberBehindSign M) := by
  unfold q_Reader_numberBehindSign
  refine kp_cal (kr_Reader_take _ _ h) (fun m1 r2 h3 => ?_)
  refine kp_if ?_ ?_
  · skip
    exact kp_some h3
  · skip
    refine kp_cal (kr_Reader_number _ _ _ _ h3) (fun m4 r5 h6 => ?_)
    exact kp_some h6
theorem kr_Reader_readField_187 {A : Mm} (M : Mm) (v2 : Int32) (t0 : Int32) (t1 : Int32) (h : kR A M) : kp (kR A) (q_Reader_readField_187 M v2 t0 t1) := by
  unfold q_Reader_readField_187
  refine kp_ix ?_
  refine kp_st (kR.st h (by decide)) (fun m1 h2 => ?_)
  refine kp_st (kR.st h2 (by decide)) (fun m3 h4 => ?_)
  refine kp_ix ?_
  refine kp_if ?_ ?_
  · skip
    exact kp_some h4
  · skip
    refine kp_cal (kr_Reader_take _ _ h4) (fun m5 r6 h7 => ?_)
    refine kp_if ?_ ?_
    · skip
      exact kp_some h7
    · skip
      exact kp_some h7
theorem kr_Reader_readField {A : Mm} (M : Mm) (a1 : Int32) (h : kR A M) : kp (kR A) (q_Reader_readField M a1) := by
  unfold q_Reader_readField
  refine kp_lv (fun x1 => ?_)
  refine kp_ix ?_
  refine kp_st (kR.st h (by decide)) (fun m2 h3 => ?_)
  refine kp_ix ?_
  refine kp_st (kR.st h3 (by decide)) (fun m4 h5 => ?_)
  refine kp_cal (kr_Reader_name _ h5) (fun m6 r7 h8 => ?_)
  refine kp_ix ?_
  refine kp_st (kR.st h8 (by decide)) (fun m9 h10 => ?_)
  refine kp_ix ?_
  refine kp_if ?_ ?_
  · skip
    exact kp_some h10
  · skip
    refine kp_cal (kr_Reader_oneOf _ h10) (fun m11 r12 h13 => ?_)
    refine kp_ix ?_
    refine kp_st (kR.st h13 (by decide)) (fun m14 h15 => ?_)
    refine kp_ix ?_
    refine kp_if ?_ ?_
    · skip
      exact kp_some h15
    · skip
      refine kp_cal (kr_Reader_number _ _ _ _ h15) (fun m16 r17 h18 => ?_)
      refine kp_ix ?_
      refine kp_st (kR.st h18 (by decide)) (fun m19 h20 => ?_)
      refine kp_ix ?_
      refine kp_if ?_ ?_
      · skip
        exact kp_some h20
      · skip
        refine kp_cal (kr_Reader_take _ _ h20) (fun m21 r22 h23 => ?_)
        refine kp_if ?_ ?_
        · skip
          exact kp_some h23
        · skip
          refine kp_cal (kr_Reader_number _ _ _ _ h23) (fun m24 r25 h26 => ?_)
          refine kp_ix ?_
          refine kp_st (kR.st h26 (by decide)) (fun m27 h28 => ?_)
          refine kp_ix ?_
          refine kp_if ?_ ?_
          · skip
            exact kp_some h28
          · skip
            refine kp_cal (kr_Reader_next _ h28) (fun m29 r30 h31 => ?_)
            refine kp_if ?_ ?_
            · skip
              refine kp_cal (kr_Reader_numberBehindSign _ h31) (fun m32 r33 h34 => ?_)
              exact kr_Reader_readField_187 _ _ _ _ h34
            · skip
              exact kr_Reader_readField_187 _ _ _ _ h31
theorem kr_Reader_readRegister_113 {A : Mm} (M : Mm) (h : kR A M) : kp (kR A) (q_Reader_readRegister_113 M) := by
  unfold q_Reader_readRegister_113
  refine kp_cal (kr_Reader_take _ _ h) (fun m1 r2 h3 => ?_)
  refine kp_bz ?_
  exact kp_some h3
theorem kr_Reader_readRegister_97 {A : Mm} {kf75 : Mm → Int32 → Int32 → Rs} (hk75 : ∀ (M : Mm) (b1 : Int32) (b2 : Int32), kR A M → kp (kR A) (kf75 M b1 b2)) (M : Mm) (v1 : Int32) (v2 : Int32) (h : kR A M) : kp (kR A) (q_Reader_readRegister_97 kf75 M v1 v2) := by
  unfold q_Reader_readRegister_97
  refine kp_cal (kr_Reader_readField _ _ h) (fun m1 r2 h3 => ?_)
  refine kp_if ?_ ?_
  · skip
    exact kp_some h3
  · skip
    exact hk75 _ _ _ h3
theorem kr_Reader_readRegister_75 {A : Mm} : ∀ (n' : Nat) (M : Mm) (v1 : Int32) (v2 : Int32), kR A M → kp (kR A) (q_Reader_readRegister_75 n' M v1 v2) := by
  intro n'
  induction n' with
  | zero =>
    intro M v1 v2 h
    rw [q_Reader_readRegister_75]
    exact kp_none
  | succ n' ih =>
    intro M v1 v2 h
    rw [q_Reader_readRegister_75]
    refine kp_if ?_ ?_
    · skip
      exact kr_Reader_readRegister_113 _ h
    · skip
      refine kp_if ?_ ?_
      · skip
        exact kr_Reader_readRegister_97 ih _ _ _ h
      · skip
        refine kp_cal (kr_Reader_next _ h) (fun m1 r2 h3 => ?_)
        refine kp_if ?_ ?_
        · skip
          exact kr_Reader_readRegister_113 _ h3
        · skip
          exact kr_Reader_readRegister_97 ih _ _ _ h3
theorem kr_Reader_readRegister {A : Mm} (M : Mm) (a1 : Int32) (h : kR A M) : kp (kR A) (q_Reader_readRegister M a1) := by
  unfold q_Reader_readRegister
  refine kp_ix ?_
  refine kp_st (kR.st h (by decide)) (fun m1 h2 => ?_)
  refine kp_cal (kr_Reader_take _ _ h2) (fun m3 r4 h5 => ?_)
  refine kp_if ?_ ?_
  · skip
    exact kp_some h5
  · skip
    refine kp_cal (kr_Reader_number _ _ _ _ h5) (fun m6 r7 h8 => ?_)
    refine kp_ix ?_
    refine kp_st (kR.st h8 (by decide)) (fun m9 h10 => ?_)
    refine kp_ix ?_
    refine kp_if ?_ ?_
    · skip
      exact kp_some h10
    · skip
      refine kp_cal (kr_Reader_readBank _ _ h10) (fun m11 r12 h13 => ?_)
      refine kp_if ?_ ?_
      · skip
        exact kp_some h13
      · skip
        refine kp_cal (kr_Reader_take _ _ h13) (fun m14 r15 h16 => ?_)
        refine kp_if ?_ ?_
        · skip
          exact kp_some h16
        · skip
          exact kr_Reader_readRegister_75 4000 _ _ _ h16
theorem kr_Reader_readRegisters_24 {A : Mm} {kf2 : Mm → Int32 → Rs} (hk2 : ∀ (M : Mm) (b1 : Int32), kR A M → kp (kR A) (kf2 M b1)) (M : Mm) (v1 : Int32) (h : kR A M) : kp (kR A) (q_Reader_readRegisters_24 kf2 M v1) := by
  unfold q_Reader_readRegisters_24
  refine kp_cal (kr_Reader_readRegister _ _ h) (fun m1 r2 h3 => ?_)
  refine kp_if ?_ ?_
  · skip
    exact kp_some h3
  · skip
    refine kp_st (kR.st h3 (by decide)) (fun m4 h5 => ?_)
    exact hk2 _ _ h5
theorem kr_Reader_readRegisters_2 {A : Mm} : ∀ (n' : Nat) (M : Mm) (v1 : Int32), kR A M → kp (kR A) (q_Reader_readRegisters_2 n' M v1) := by
  intro n'
  induction n' with
  | zero =>
    intro M v1 h
    rw [q_Reader_readRegisters_2]
    exact kp_none
  | succ n' ih =>
    intro M v1 h
    rw [q_Reader_readRegisters_2]
    refine kp_if ?_ ?_
    · skip
      exact kp_some h
    · skip
      refine kp_if ?_ ?_
      · skip
        exact kr_Reader_readRegisters_24 ih _ _ h
      · skip
        refine kp_cal (kr_Reader_next _ h) (fun m1 r2 h3 => ?_)
        refine kp_if ?_ ?_
        · skip
          exact kr_Reader_readRegisters_24 ih _ _ h3
        · skip
          exact kp_some h3
theorem kr_Reader_readRegisters {A : Mm} (M : Mm) (h : kR A M) : kp (kR A) (q_Reader_readRegisters M) := by
  unfold q_Reader_readRegisters
  exact kr_Reader_readRegisters_2 4000 _ _ h
theorem kr_String_isLatin1_1 {A : Mm} (M : Mm) (h : kR A M) : kp (kR A) (q_String_isLatin1_1 M) := by
  unfold q_String_isLatin1_1
  exact kp_some h
theorem kr_String_coder_1 {A : Mm} (M : Mm) (h : kR A M) : kp (kR A) (q_String_coder_1 M) := by
  unfold q_String_coder_1
  exact kp_some h
theorem kr_String_length_1 {A : Mm} (M : Mm) (h : kR A M) : kp (kR A) (q_String_length_1 M) := by
  unfold q_String_length_1
  refine kp_cal (kr_String_coder_1 _ h) (fun m1 r2 h3 => ?_)
  exact kp_some h3
theorem kr_StringLatin1_indexOfChar_1_7 {A : Mm} : ∀ (n' : Nat) (M : Mm) (v3 : Int32) (v4 : Int32) (v5 : Int32), kR A M → kp (kR A) (q_StringLatin1_indexOfChar_1_7 n' M v3 v4 v5) := by
  intro n'
  induction n' with
  | zero =>
    intro M v3 v4 v5 h
    rw [q_StringLatin1_indexOfChar_1_7]
    exact kp_none
  | succ n' ih =>
    intro M v3 v4 v5 h
    rw [q_StringLatin1_indexOfChar_1_7]
    refine kp_if ?_ ?_
    · skip
      exact kp_some h
    · skip
      refine kp_ix ?_
      refine kp_if ?_ ?_
      · skip
        exact kp_some h
      · skip
        exact ih _ _ _ _ h
theorem kr_StringLatin1_indexOfChar_1 {A : Mm} (M : Mm) (a1 : Int32) (a2 : Int32) (a3 : Int32) (h : kR A M) : kp (kR A) (q_StringLatin1_indexOfChar_1 M a1 a2 a3) := by
  unfold q_StringLatin1_indexOfChar_1
  refine kp_lv (fun x1 => ?_)
  exact kr_StringLatin1_indexOfChar_1_7 4000 _ _ _ _ h
theorem kr_StringLatin1_indexOf_1 {A : Mm} (M : Mm) (a1 : Int32) (a2 : Int32) (a3 : Int32) (h : kR A M) : kp (kR A) (q_StringLatin1_indexOf_1 M a1 a2 a3) := by
  unfold q_StringLatin1_indexOf_1
  refine kp_cal (kr_StringLatin1_canEncode _ _ h) (fun m1 r2 h3 => ?_)
  refine kp_if ?_ ?_
  · skip
    exact kp_some h3
  · skip
    refine kp_lv (fun x4 => ?_)
    refine kp_lv (fun x5 => ?_)
    refine kp_if ?_ ?_
    · skip
      refine kp_cal (kr_StringLatin1_indexOfChar_1 _ _ _ _ h3) (fun m6 r7 h8 => ?_)
      exact kp_some h8
    · skip
      exact kp_some h3
theorem kr_String_indexOf_3 {A : Mm} (M : Mm) (a1 : Int32) (a2 : Int32) (h : kR A M) : kp (kR A) (q_String_indexOf_3 M a1 a2) := by
  unfold q_String_indexOf_3
  refine kp_cal (kr_String_isLatin1_1 _ h) (fun m1 r2 h3 => ?_)
  refine kp_if ?_ ?_
  · skip
    refine kp_cal (kr_String_length_1 _ h3) (fun m4 r5 h6 => ?_)
    exact kp_none
  · skip
    refine kp_cal (kr_String_length_1 _ h3) (fun m7 r8 h9 => ?_)
    refine kp_cal (kr_StringLatin1_indexOf_1 _ _ _ _ h9) (fun m10 r11 h12 => ?_)
    exact kp_some h12
theorem kr_String_indexOf_2 {A : Mm} (M : Mm) (a1 : Int32) (h : kR A M) : kp (kR A) (q_String_indexOf_2 M a1) := by
  unfold q_String_indexOf_2
  refine kp_cal (kr_String_indexOf_3 _ _ _ h) (fun m1 r2 h3 => ?_)
  exact kp_some h3
theorem kr_Reader_oneOf_1_23 {A : Mm} (M : Mm) (v2 : Int32) (h : kR A M) : kp (kR A) (q_Reader_oneOf_1_23 M v2) := by
  unfold q_Reader_oneOf_1_23
  refine kp_if ?_ ?_
  · skip
    exact kp_some h
  · skip
    exact kp_some h
theorem kr_Reader_oneOf_1 {A : Mm} (M : Mm) (h : kR A M) : kp (kR A) (q_Reader_oneOf_1 M) := by
  unfold q_Reader_oneOf_1
  refine kp_cal (kr_Reader_next _ h) (fun m1 r2 h3 => ?_)
  refine kp_cal (kr_String_indexOf_2 _ _ h3) (fun m4 r5 h6 => ?_)
  refine kp_if ?_ ?_
  · skip
    exact kr_Reader_oneOf_1_23 _ _ h6
  · skip
    refine kp_st (kR.st h6 (by decide)) (fun m7 h8 => ?_)
    exact kr_Reader_oneOf_1_23 _ _ h8
theorem kr_Reader_readRule_119 {A : Mm} (M : Mm) (v1 : Int32) (t0 : Int32) (t1 : Int32) (h : kR A M) : kp (kR A) (q_Reader_readRule_119 M v1 t0 t1) := by
  unfold q_Reader_readRule_119
  refine kp_ix ?_
  refine kp_st (kR.st h (by decide)) (fun m1 h2 => ?_)
  refine kp_ix ?_
  refine kp_if ?_ ?_
  · skip
    exact kp_some h2
  · skip
    refine kp_cal (kr_Reader_take _ _ h2) (fun m3 r4 h5 => ?_)
    refine kp_if ?_ ?_
    · skip
      exact kp_some h5
    · skip
      exact kp_some h5
theorem kr_Reader_readRule {A : Mm} (M : Mm) (a1 : Int32) (h : kR A M) : kp (kR A) (q_Reader_readRule M a1) := by
  unfold q_Reader_readRule
  refine kp_ix ?_
  refine kp_st (kR.st h (by decide)) (fun m1 h2 => ?_)
  refine kp_cal (kr_Reader_name _ h2) (fun m3 r4 h5 => ?_)
  refine kp_ix ?_
  refine kp_st (kR.st h5 (by decide)) (fun m6 h7 => ?_)
  refine kp_ix ?_
  refine kp_if ?_ ?_
  · skip
    exact kp_some h7
  · skip
    refine kp_cal (kr_Reader_oneOf_1 _ h7) (fun m8 r9 h10 => ?_)
    refine kp_ix ?_
    refine kp_st (kR.st h10 (by decide)) (fun m11 h12 => ?_)
    refine kp_ix ?_
    refine kp_if ?_ ?_
    · skip
      exact kp_some h12
    · skip
      refine kp_ix ?_
      refine kp_st (kR.st h12 (by decide)) (fun m13 h14 => ?_)
      refine kp_cal (kr_Reader_name _ h14) (fun m15 r16 h17 => ?_)
      refine kp_ix ?_
      refine kp_st (kR.st h17 (by decide)) (fun m18 h19 => ?_)
      refine kp_ix ?_
      refine kp_if ?_ ?_
      · skip
        exact kp_some h19
      · skip
        refine kp_ix ?_
        refine kp_if ?_ ?_
        · skip
          refine kp_cal (kr_Reader_numberBehindSign _ h19) (fun m20 r21 h22 => ?_)
          exact kr_Reader_readRule_119 _ _ _ _ h22
        · skip
          exact kr_Reader_readRule_119 _ _ _ _ h19
theorem kr_Reader_readRules_2 {A : Mm} : ∀ (n' : Nat) (M : Mm) (v1 : Int32), kR A M → kp (kR A) (q_Reader_readRules_2 n' M v1) := by
  intro n'
  induction n' with
  | zero =>
    intro M v1 h
    rw [q_Reader_readRules_2]
    exact kp_none
  | succ n' ih =>
    intro M v1 h
    rw [q_Reader_readRules_2]
    refine kp_if ?_ ?_
    · skip
      exact kp_some h
    · skip
      refine kp_if ?_ ?_
      · skip
        refine kp_cal (kr_Reader_readRule _ _ h) (fun m1 r2 h3 => ?_)
        refine kp_if ?_ ?_
        · skip
          exact kp_some h3
        · skip
          refine kp_st (kR.st h3 (by decide)) (fun m4 h5 => ?_)
          exact ih _ _ h5
      · skip
        exact kp_some h
theorem kr_Reader_readRules {A : Mm} (M : Mm) (h : kR A M) : kp (kR A) (q_Reader_readRules M) := by
  unfold q_Reader_readRules
  exact kr_Reader_readRules_2 4000 _ _ h
theorem kr_Reader_readAll_42 {A : Mm} (M : Mm) (t0 : Int32) (h : kR A M) : kp (kR A) (q_Reader_readAll_42 M t0) := by
  unfold q_Reader_readAll_42
  refine kp_st (kR.st h (by decide)) (fun m1 h2 => ?_)
  refine kp_bz ?_
  exact kp_some h2
theorem kr_Reader_readAll_41 {A : Mm} (M : Mm) (h : kR A M) : kp (kR A) (q_Reader_readAll_41 M) := by
  unfold q_Reader_readAll_41
  exact kr_Reader_readAll_42 _ _ h
theorem kr_Reader_readAll {A : Mm} (M : Mm) (h : kR A M) : kp (kR A) (q_Reader_readAll M) := by
  unfold q_Reader_readAll
  refine kp_cal (kr_Draft_clear _ h) (fun m1 r2 h3 => ?_)
  refine kp_st (kR.st h3 (by decide)) (fun m4 h5 => ?_)
  refine kp_cal (kr_Reader_readRegisters _ h5) (fun m6 r7 h8 => ?_)
  refine kp_if ?_ ?_
  · skip
    exact kr_Reader_readAll_41 _ h8
  · skip
    refine kp_cal (kr_Reader_readRules _ h8) (fun m9 r10 h11 => ?_)
    refine kp_if ?_ ?_
    · skip
      exact kr_Reader_readAll_41 _ h11
    · skip
      refine kp_if ?_ ?_
      · skip
        exact kr_Reader_readAll_42 _ _ h11
      · skip
        exact kr_Reader_readAll_41 _ h11
