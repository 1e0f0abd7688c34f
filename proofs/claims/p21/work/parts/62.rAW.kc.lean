-- what else the calls leave alone
def kC (A M : Mm) : Prop := ∀ p, p < 60 ∨ (65 ≤ p ∧ p ≤ 72) → M.1 p = A.1 p
theorem kC.st {A M : Mm} {k : Nat} {f : Nat → Int32} (h : kC A M) (hk : (60 ≤ k ∧ k ≤ 64) ∨ 73 ≤ k) : kC A (stI M k f) := fun p hp => by rw [stI_ne M f (by omega)]; exact h p hp
theorem kC.sj {A M : Mm} {k : Nat} {f : Nat → Int64} (h : kC A M) : kC A (stJ M k f) := h
def kJ (A M : Mm) : Prop := ∀ p, 65 ≤ p → p ≤ 68 → M.1 p = A.1 p
theorem kJ.st {A M : Mm} {k : Nat} {f : Nat → Int32} (h : kJ A M) (hk : k < 65 ∨ 69 ≤ k) : kJ A (stI M k f) := fun p h1 h2 => by rw [stI_ne M f (by omega)]; exact h p h1 h2
theorem kJ.sj {A M : Mm} {k : Nat} {f : Nat → Int64} (h : kJ A M) : kJ A (stJ M k f) := h
def kE (A M : Mm) : Prop := M = A
def kN (A M : Mm) : Prop := (∀ p, p ≠ 0 → M.1 p = A.1 p) ∧ (∀ j, j ≠ 0 → M.1 0 j = A.1 0 j)
theorem kN.s0 {A M : Mm} {k : Nat} {x : Int32} (h : kN A M) (hk : k = 0) : kN A (stI M 0 (upd (M.1 0) k x)) := ⟨fun p h0 => by rw [stI_ne M _ h0]; exact h.1 p h0, fun j hj => by rw [stI_at, updN (by omega)]; exact h.2 j hj⟩
def kG (A M : Mm) : Prop := M.1 0 58 = A.1 0 58
theorem kG.st {A M : Mm} {k : Nat} {f : Nat → Int32} (h : kG A M) (hk : 1 ≤ k) : kG A (stI M k f) := by
  unfold kG
  rw [stI_ne M f (by omega)]
  exact h
theorem kG.s0 {A M : Mm} {k : Nat} {x : Int32} (h : kG A M) (hk : k ≠ 58) : kG A (stI M 0 (upd (M.1 0) k x)) := by
  unfold kG
  rw [stI_at, updN (by omega)]
  exact h
theorem kc_Layout_isKnown {A : Mm} (M : Mm) (a1 : Int32) (h : kC A M) : kp (kC A) (q_Layout_isKnown M a1) := by
  unfold q_Layout_isKnown
  refine kp_ix ?_
  refine kp_if ?_ ?_
  · skip
    exact kp_some h
  · skip
    refine kp_ix ?_
    refine kp_if ?_ ?_
    · skip
      exact kp_some h
    · skip
      exact kp_some h
theorem kc_ChipMap_hasMap {A : Mm} (M : Mm) (h : kC A M) : kp (kC A) (q_ChipMap_hasMap M) := by
  unfold q_ChipMap_hasMap
  refine kp_if ?_ ?_
  · skip
    exact kp_some h
  · skip
    exact kp_some h
theorem kc_Integer_numberOfTrailingZeros_74 {A : Mm} (M : Mm) (v0 : Int32) (v1 : Int32) (h : kC A M) : kp (kC A) (q_Integer_numberOfTrailingZeros_74 M v0 v1) := by
  unfold q_Integer_numberOfTrailingZeros_74
  exact kp_some h
theorem kc_Integer_numberOfTrailingZeros_62 {A : Mm} (M : Mm) (v0 : Int32) (v1 : Int32) (h : kC A M) : kp (kC A) (q_Integer_numberOfTrailingZeros_62 M v0 v1) := by
  unfold q_Integer_numberOfTrailingZeros_62
  refine kp_if ?_ ?_
  · skip
    exact kc_Integer_numberOfTrailingZeros_74 _ _ _ h
  · skip
    refine kp_lv (fun x1 => ?_)
    exact kc_Integer_numberOfTrailingZeros_74 _ _ _ h
theorem kc_Integer_numberOfTrailingZeros_49 {A : Mm} (M : Mm) (v0 : Int32) (v1 : Int32) (h : kC A M) : kp (kC A) (q_Integer_numberOfTrailingZeros_49 M v0 v1) := by
  unfold q_Integer_numberOfTrailingZeros_49
  refine kp_if ?_ ?_
  · skip
    exact kc_Integer_numberOfTrailingZeros_62 _ _ _ h
  · skip
    refine kp_lv (fun x1 => ?_)
    exact kc_Integer_numberOfTrailingZeros_62 _ _ _ h
theorem kc_Integer_numberOfTrailingZeros_34 {A : Mm} (M : Mm) (v0 : Int32) (v1 : Int32) (h : kC A M) : kp (kC A) (q_Integer_numberOfTrailingZeros_34 M v0 v1) := by
  unfold q_Integer_numberOfTrailingZeros_34
  refine kp_if ?_ ?_
  · skip
    exact kc_Integer_numberOfTrailingZeros_49 _ _ _ h
  · skip
    refine kp_lv (fun x1 => ?_)
    exact kc_Integer_numberOfTrailingZeros_49 _ _ _ h
theorem kc_Integer_numberOfTrailingZeros {A : Mm} (M : Mm) (a0 : Int32) (h : kC A M) : kp (kC A) (q_Integer_numberOfTrailingZeros M a0) := by
  unfold q_Integer_numberOfTrailingZeros
  refine kp_lv (fun x1 => ?_)
  refine kp_if ?_ ?_
  · skip
    refine kp_if ?_ ?_
    · skip
      exact kc_Integer_numberOfTrailingZeros_34 _ _ _ h
    · skip
      refine kp_lv (fun x2 => ?_)
      exact kc_Integer_numberOfTrailingZeros_34 _ _ _ h
  · skip
    exact kp_some h
theorem kc_Plan_beginHere {A : Mm} (M : Mm) (h : kC A M) : kp (kC A) (q_Plan_beginHere M) := by
  unfold q_Plan_beginHere
  refine kp_st (kC.st h (by decide)) (fun m1 h2 => ?_)
  refine kp_st (kC.st h2 (by decide)) (fun m3 h4 => ?_)
  exact kp_some h4
theorem kc_Mind_knownValue_1 {A : Mm} (M : Mm) (a1 : Int32) (h : kC A M) : kp (kC A) (q_Mind_knownValue_1 M a1) := by
  unfold q_Mind_knownValue_1
  refine kp_ix ?_
  refine kp_ix ?_
  refine kp_ix ?_
  refine kp_ix ?_
  exact kp_some h
theorem kc_Mind_isThere_1 {A : Mm} (M : Mm) (a1 : Int32) (h : kC A M) : kp (kC A) (q_Mind_isThere_1 M a1) := by
  unfold q_Mind_isThere_1
  refine kp_ix ?_
  refine kp_lv (fun x1 => ?_)
  refine kp_if ?_ ?_
  · skip
    exact kp_some h
  · skip
    refine kp_cal (kc_Mind_knownValue_1 _ _ h) (fun m2 r3 h4 => ?_)
    refine kp_ix ?_
    refine kp_if ?_ ?_
    · skip
      exact kp_some h4
    · skip
      exact kp_some h4
theorem kc_Mind_isWritten_1 {A : Mm} (M : Mm) (a1 : Int32) (a2 : Int32) (a3 : Int32) (h : kC A M) : kp (kC A) (q_Mind_isWritten_1 M a1 a2 a3) := by
  unfold q_Mind_isWritten_1
  refine kp_ix ?_
  refine kp_if ?_ ?_
  · skip
    refine kp_ix ?_
    refine kp_ix ?_
    refine kp_if ?_ ?_
    · skip
      exact kp_some h
    · skip
      exact kp_some h
  · skip
    exact kp_some h
theorem kc_Mind_brokenBy_1_184 {A : Mm} {kf14 : Mm → Int32 → Int32 → Int32 → Int32 → Rs} (hk14 : ∀ (M : Mm) (b1 : Int32) (b2 : Int32) (b3 : Int32) (b4 : Int32), kC A M → kp (kC A) (kf14 M b1 b2 b3 b4)) (M : Mm) (v1 : Int32) (v2 : Int32) (v4 : Int32) (v5 : Int32) (h : kC A M) : kp (kC A) (q_Mind_brokenBy_1_184 kf14 M v1 v2 v4 v5) := by
  unfold q_Mind_brokenBy_1_184
  exact hk14 _ _ _ _ _ h
theorem kc_Mind_brokenBy_1_170 {A : Mm} {kf14 : Mm → Int32 → Int32 → Int32 → Int32 → Rs} (hk14 : ∀ (M : Mm) (b1 : Int32) (b2 : Int32) (b3 : Int32) (b4 : Int32), kC A M → kp (kC A) (kf14 M b1 b2 b3 b4)) (M : Mm) (v1 : Int32) (v2 : Int32) (v4 : Int32) (v5 : Int32) (v7 : Int32) (h : kC A M) : kp (kC A) (q_Mind_brokenBy_1_170 kf14 M v1 v2 v4 v5 v7) := by
  unfold q_Mind_brokenBy_1_170
  refine kp_if ?_ ?_
  · skip
    exact kc_Mind_brokenBy_1_184 hk14 _ _ _ _ _ h
  · skip
    refine kp_lv (fun x1 => ?_)
    exact kc_Mind_brokenBy_1_184 hk14 _ _ _ _ _ h
theorem kc_Mind_brokenBy_1_168 {A : Mm} {kf14 : Mm → Int32 → Int32 → Int32 → Int32 → Rs} (hk14 : ∀ (M : Mm) (b1 : Int32) (b2 : Int32) (b3 : Int32) (b4 : Int32), kC A M → kp (kC A) (kf14 M b1 b2 b3 b4)) (M : Mm) (v1 : Int32) (v2 : Int32) (v4 : Int32) (v5 : Int32) (t0 : Int32) (h : kC A M) : kp (kC A) (q_Mind_brokenBy_1_168 kf14 M v1 v2 v4 v5 t0) := by
  unfold q_Mind_brokenBy_1_168
  exact kc_Mind_brokenBy_1_170 hk14 _ _ _ _ _ _ h
theorem kc_Mind_brokenBy_1_167 {A : Mm} {kf14 : Mm → Int32 → Int32 → Int32 → Int32 → Rs} (hk14 : ∀ (M : Mm) (b1 : Int32) (b2 : Int32) (b3 : Int32) (b4 : Int32), kC A M → kp (kC A) (kf14 M b1 b2 b3 b4)) (M : Mm) (v1 : Int32) (v2 : Int32) (v4 : Int32) (v5 : Int32) (h : kC A M) : kp (kC A) (q_Mind_brokenBy_1_167 kf14 M v1 v2 v4 v5) := by
  unfold q_Mind_brokenBy_1_167
  exact kc_Mind_brokenBy_1_168 hk14 _ _ _ _ _ _ h
theorem kc_Mind_brokenBy_1_121 {A : Mm} {kf14 : Mm → Int32 → Int32 → Int32 → Int32 → Rs} (hk14 : ∀ (M : Mm) (b1 : Int32) (b2 : Int32) (b3 : Int32) (b4 : Int32), kC A M → kp (kC A) (kf14 M b1 b2 b3 b4)) (M : Mm) (v1 : Int32) (v2 : Int32) (v4 : Int32) (v5 : Int32) (t0 : Int32) (h : kC A M) : kp (kC A) (q_Mind_brokenBy_1_121 kf14 M v1 v2 v4 v5 t0) := by
  unfold q_Mind_brokenBy_1_121
  exact kc_Mind_brokenBy_1_170 hk14 _ _ _ _ _ _ h
theorem kc_Mind_brokenBy_1_120 {A : Mm} {kf14 : Mm → Int32 → Int32 → Int32 → Int32 → Rs} (hk14 : ∀ (M : Mm) (b1 : Int32) (b2 : Int32) (b3 : Int32) (b4 : Int32), kC A M → kp (kC A) (kf14 M b1 b2 b3 b4)) (M : Mm) (v1 : Int32) (v2 : Int32) (v4 : Int32) (v5 : Int32) (h : kC A M) : kp (kC A) (q_Mind_brokenBy_1_120 kf14 M v1 v2 v4 v5) := by
  unfold q_Mind_brokenBy_1_120
  exact kc_Mind_brokenBy_1_121 hk14 _ _ _ _ _ _ h
theorem kc_Mind_brokenBy_1_79 {A : Mm} {kf14 : Mm → Int32 → Int32 → Int32 → Int32 → Rs} (hk14 : ∀ (M : Mm) (b1 : Int32) (b2 : Int32) (b3 : Int32) (b4 : Int32), kC A M → kp (kC A) (kf14 M b1 b2 b3 b4)) (M : Mm) (v1 : Int32) (v2 : Int32) (v4 : Int32) (v5 : Int32) (t0 : Int32) (h : kC A M) : kp (kC A) (q_Mind_brokenBy_1_79 kf14 M v1 v2 v4 v5 t0) := by
  unfold q_Mind_brokenBy_1_79
  exact kc_Mind_brokenBy_1_170 hk14 _ _ _ _ _ _ h
theorem kc_Mind_brokenBy_1_78 {A : Mm} {kf14 : Mm → Int32 → Int32 → Int32 → Int32 → Rs} (hk14 : ∀ (M : Mm) (b1 : Int32) (b2 : Int32) (b3 : Int32) (b4 : Int32), kC A M → kp (kC A) (kf14 M b1 b2 b3 b4)) (M : Mm) (v1 : Int32) (v2 : Int32) (v4 : Int32) (v5 : Int32) (h : kC A M) : kp (kC A) (q_Mind_brokenBy_1_78 kf14 M v1 v2 v4 v5) := by
  unfold q_Mind_brokenBy_1_78
  exact kc_Mind_brokenBy_1_79 hk14 _ _ _ _ _ _ h
theorem kc_Mind_brokenBy_1_41 {A : Mm} {kf14 : Mm → Int32 → Int32 → Int32 → Int32 → Rs} (hk14 : ∀ (M : Mm) (b1 : Int32) (b2 : Int32) (b3 : Int32) (b4 : Int32), kC A M → kp (kC A) (kf14 M b1 b2 b3 b4)) (M : Mm) (v1 : Int32) (v2 : Int32) (v4 : Int32) (v5 : Int32) (t0 : Int32) (h : kC A M) : kp (kC A) (q_Mind_brokenBy_1_41 kf14 M v1 v2 v4 v5 t0) := by
  unfold q_Mind_brokenBy_1_41
  refine kp_ix ?_
  refine kp_if ?_ ?_
  · skip
    refine kp_if ?_ ?_
    · skip
      refine kp_ix ?_
      refine kp_cal (kc_Mind_isWritten_1 _ _ _ _ h) (fun m1 r2 h3 => ?_)
      refine kp_if ?_ ?_
      · skip
        exact kc_Mind_brokenBy_1_78 hk14 _ _ _ _ _ h3
      · skip
        exact kc_Mind_brokenBy_1_79 hk14 _ _ _ _ _ _ h3
    · skip
      exact kc_Mind_brokenBy_1_78 hk14 _ _ _ _ _ h
  · skip
    refine kp_ix ?_
    refine kp_if ?_ ?_
    · skip
      refine kp_if ?_ ?_
      · skip
        exact kc_Mind_brokenBy_1_120 hk14 _ _ _ _ _ h
      · skip
        refine kp_ix ?_
        refine kp_cal (kc_Mind_isWritten_1 _ _ _ _ h) (fun m4 r5 h6 => ?_)
        refine kp_if ?_ ?_
        · skip
          exact kc_Mind_brokenBy_1_120 hk14 _ _ _ _ _ h6
        · skip
          exact kc_Mind_brokenBy_1_121 hk14 _ _ _ _ _ _ h6
    · skip
      refine kp_ix ?_
      refine kp_cal (kc_Mind_isWritten_1 _ _ _ _ h) (fun m7 r8 h9 => ?_)
      refine kp_if ?_ ?_
      · skip
        exact kc_Mind_brokenBy_1_167 hk14 _ _ _ _ _ h9
      · skip
        refine kp_ix ?_
        refine kp_cal (kc_Mind_knownValue_1 _ _ h9) (fun m10 r11 h12 => ?_)
        refine kp_ix ?_
        refine kp_if ?_ ?_
        · skip
          exact kc_Mind_brokenBy_1_167 hk14 _ _ _ _ _ h12
        · skip
          exact kc_Mind_brokenBy_1_168 hk14 _ _ _ _ _ _ h12
theorem kc_Mind_brokenBy_1_14 {A : Mm} : ∀ (n' : Nat) (M : Mm) (v1 : Int32) (v2 : Int32) (v4 : Int32) (v5 : Int32), kC A M → kp (kC A) (q_Mind_brokenBy_1_14 n' M v1 v2 v4 v5) := by
  intro n'
  induction n' with
  | zero =>
    intro M v1 v2 v4 v5 h
    rw [q_Mind_brokenBy_1_14]
    exact kp_none
  | succ n' ih =>
    intro M v1 v2 v4 v5 h
    rw [q_Mind_brokenBy_1_14]
    refine kp_if ?_ ?_
    · skip
      exact kp_some h
    · skip
      refine kp_if ?_ ?_
      · skip
        exact kc_Mind_brokenBy_1_41 ih _ _ _ _ _ _ h
      · skip
        exact kc_Mind_brokenBy_1_41 ih _ _ _ _ _ _ h
theorem kc_Mind_brokenBy_1 {A : Mm} (M : Mm) (a1 : Int32) (a2 : Int32) (h : kC A M) : kp (kC A) (q_Mind_brokenBy_1 M a1 a2) := by
  unfold q_Mind_brokenBy_1
  exact kc_Mind_brokenBy_1_14 4000 _ _ _ _ _ h
theorem kc_Mind_write_1_136 {A : Mm} {kf11 : Mm → Int32 → Int32 → Int32 → Rs} (hk11 : ∀ (M : Mm) (b1 : Int32) (b2 : Int32) (b3 : Int32), kC A M → kp (kC A) (kf11 M b1 b2 b3)) (M : Mm) (v1 : Int32) (v2 : Int32) (v4 : Int32) (h : kC A M) : kp (kC A) (q_Mind_write_1_136 kf11 M v1 v2 v4) := by
  unfold q_Mind_write_1_136
  exact hk11 _ _ _ _ h
theorem kc_Mind_write_1_62 {A : Mm} {kf11 : Mm → Int32 → Int32 → Int32 → Rs} (hk11 : ∀ (M : Mm) (b1 : Int32) (b2 : Int32) (b3 : Int32), kC A M → kp (kC A) (kf11 M b1 b2 b3)) (M : Mm) (v1 : Int32) (v2 : Int32) (v4 : Int32) (h : kC A M) : kp (kC A) (q_Mind_write_1_62 kf11 M v1 v2 v4) := by
  unfold q_Mind_write_1_62
  refine kp_ix ?_
  refine kp_if ?_ ?_
  · skip
    refine kp_ix ?_
    refine kp_cal (kc_Mind_isWritten_1 _ _ _ _ h) (fun m1 r2 h3 => ?_)
    refine kp_if ?_ ?_
    · skip
      refine kp_ix ?_
      refine kp_cal (kc_Mind_isWritten_1 _ _ _ _ h3) (fun m4 r5 h6 => ?_)
      refine kp_if ?_ ?_
      · skip
        exact kc_Mind_write_1_136 hk11 _ _ _ _ h6
      · skip
        refine kp_st (kC.st h6 (by decide)) (fun m7 h8 => ?_)
        exact kc_Mind_write_1_136 hk11 _ _ _ _ h8
    · skip
      refine kp_st (kC.st h3 (by decide)) (fun m9 h10 => ?_)
      exact kc_Mind_write_1_136 hk11 _ _ _ _ h10
  · skip
    exact kc_Mind_write_1_136 hk11 _ _ _ _ h
theorem kc_Mind_write_1_11 {A : Mm} : ∀ (n' : Nat) (M : Mm) (v1 : Int32) (v2 : Int32) (v4 : Int32), kC A M → kp (kC A) (q_Mind_write_1_11 n' M v1 v2 v4) := by
  intro n'
  induction n' with
  | zero =>
    intro M v1 v2 v4 h
    rw [q_Mind_write_1_11]
    exact kp_none
  | succ n' ih =>
    intro M v1 v2 v4 h
    rw [q_Mind_write_1_11]
    refine kp_if ?_ ?_
    · skip
      refine kp_ix ?_
      refine kp_ix ?_
      refine kp_st (kC.st h (by decide)) (fun m1 h2 => ?_)
      exact kp_some h2
    · skip
      refine kp_ix ?_
      refine kp_if ?_ ?_
      · skip
        refine kp_ix ?_
        refine kp_cal (kc_Mind_isWritten_1 _ _ _ _ h) (fun m3 r4 h5 => ?_)
        refine kp_if ?_ ?_
        · skip
          exact kc_Mind_write_1_62 ih _ _ _ _ h5
        · skip
          refine kp_st (kC.st h5 (by decide)) (fun m6 h7 => ?_)
          exact kc_Mind_write_1_136 ih _ _ _ _ h7
      · skip
        exact kc_Mind_write_1_62 ih _ _ _ _ h
theorem kc_Mind_write_1 {A : Mm} (M : Mm) (a1 : Int32) (a2 : Int32) (h : kC A M) : kp (kC A) (q_Mind_write_1 M a1 a2) := by
  unfold q_Mind_write_1
  exact kc_Mind_write_1_11 4000 _ _ _ _ h
theorem kc_Plan_addTold {A : Mm} (M : Mm) (a1 : Int32) (a2 : Int32) (a3 : Int32) (h : kC A M) : kp (kC A) (q_Plan_addTold M a1 a2 a3) := by
  unfold q_Plan_addTold
  refine kp_if ?_ ?_
  · skip
    refine kp_if ?_ ?_
    · skip
      refine kp_ix ?_
      refine kp_lv (fun x1 => ?_)
      refine kp_cal (kc_Mind_brokenBy_1 _ _ _ h) (fun m2 r3 h4 => ?_)
      refine kp_if ?_ ?_
      · skip
        refine kp_cal (kc_Mind_write_1 _ _ _ h4) (fun m5 r6 h7 => ?_)
        refine kp_ix ?_
        refine kp_st (kC.st h7 (by decide)) (fun m8 h9 => ?_)
        refine kp_ix ?_
        refine kp_st (kC.st h9 (by decide)) (fun m10 h11 => ?_)
        refine kp_st (kC.st h11 (by decide)) (fun m12 h13 => ?_)
        exact kp_some h13
      · skip
        refine kp_cal (kc_Integer_numberOfTrailingZeros _ _ h4) (fun m14 r15 h16 => ?_)
        refine kp_st (kC.st h16 (by decide)) (fun m17 h18 => ?_)
        exact kp_some h18
    · skip
      exact kp_some h
  · skip
    exact kp_some h
theorem kc_Plan_addReach {A : Mm} (M : Mm) (a1 : Int32) (h : kC A M) : kp (kC A) (q_Plan_addReach M a1) := by
  unfold q_Plan_addReach
  refine kp_cal (kc_Mind_isThere_1 _ _ h) (fun m1 r2 h3 => ?_)
  refine kp_if ?_ ?_
  · skip
    refine kp_ix ?_
    refine kp_lv (fun x4 => ?_)
    refine kp_ix ?_
    refine kp_ix ?_
    refine kp_ix ?_
    refine kp_ix ?_
    refine kp_cal (kc_Plan_addTold _ _ _ _ h3) (fun m5 r6 h7 => ?_)
    exact kp_some h7
  · skip
    exact kp_some h3
theorem kc_Plan_addPut_24 {A : Mm} (M : Mm) (v1 : Int32) (v2 : Int32) (h : kC A M) : kp (kC A) (q_Plan_addPut_24 M v1 v2) := by
  unfold q_Plan_addPut_24
  refine kp_ix ?_
  refine kp_lv (fun x1 => ?_)
  refine kp_cal (kc_Plan_addReach _ _ h) (fun m2 r3 h4 => ?_)
  refine kp_ix ?_
  refine kp_ix ?_
  refine kp_cal (kc_Plan_addTold _ _ _ _ h4) (fun m5 r6 h7 => ?_)
  exact kp_some h7
theorem kc_Plan_addPut {A : Mm} (M : Mm) (a1 : Int32) (a2 : Int32) (h : kC A M) : kp (kC A) (q_Plan_addPut M a1 a2) := by
  unfold q_Plan_addPut
  refine kp_cal (kc_Layout_isKnown _ _ h) (fun m1 r2 h3 => ?_)
  refine kp_if ?_ ?_
  · skip
    exact kc_Plan_addPut_24 _ _ _ h3
  · skip
    refine kp_cal (kc_Mind_knownValue_1 _ _ h3) (fun m4 r5 h6 => ?_)
    refine kp_if ?_ ?_
    · skip
      exact kp_some h6
    · skip
      exact kc_Plan_addPut_24 _ _ _ h6
theorem kc_Plan_addFetch {A : Mm} (M : Mm) (a1 : Int32) (h : kC A M) : kp (kC A) (q_Plan_addFetch M a1) := by
  unfold q_Plan_addFetch
  refine kp_ix ?_
  refine kp_if ?_ ?_
  · skip
    exact kp_some h
  · skip
    refine kp_ix ?_
    refine kp_cal (kc_Plan_addReach _ _ h) (fun m1 r2 h3 => ?_)
    exact kp_some h3
theorem kc_Mind_restart_1_2 {A : Mm} : ∀ (n' : Nat) (M : Mm) (v1 : Int32), kC A M → kp (kC A) (q_Mind_restart_1_2 n' M v1) := by
  intro n'
  induction n' with
  | zero =>
    intro M v1 h
    rw [q_Mind_restart_1_2]
    exact kp_none
  | succ n' ih =>
    intro M v1 h
    rw [q_Mind_restart_1_2]
    refine kp_if ?_ ?_
    · skip
      refine kp_st (kC.st h (by decide)) (fun m1 h2 => ?_)
      exact kp_some h2
    · skip
      refine kp_ix ?_
      refine kp_ix ?_
      refine kp_ix ?_
      refine kp_st (kC.st h (by decide)) (fun m3 h4 => ?_)
      exact ih _ _ h4
theorem kc_Mind_restart_1 {A : Mm} (M : Mm) (h : kC A M) : kp (kC A) (q_Mind_restart_1 M) := by
  unfold q_Mind_restart_1
  exact kc_Mind_restart_1_2 4000 _ _ h
theorem kc_Checker_makeKey_10 {A : Mm} : ∀ (n' : Nat) (M : Mm) (v1 : Int32) (v2 : Int32), kC A M → kp (kC A) (q_Checker_makeKey_10 n' M v1 v2) := by
  intro n'
  induction n' with
  | zero =>
    intro M v1 v2 h
    rw [q_Checker_makeKey_10]
    exact kp_none
  | succ n' ih =>
    intro M v1 v2 h
    rw [q_Checker_makeKey_10]
    refine kp_if ?_ ?_
    · skip
      refine kp_st (kC.sj h) (fun m1 h2 => ?_)
      exact kp_some h2
    · skip
      refine kp_ix ?_
      refine kp_ix ?_
      refine kp_ix ?_
      refine kp_st (kC.sj h) (fun m3 h4 => ?_)
      exact ih _ _ _ h4
theorem kc_Checker_makeKey {A : Mm} (M : Mm) (a1 : Int32) (h : kC A M) : kp (kC A) (q_Checker_makeKey M a1) := by
  unfold q_Checker_makeKey
  refine kp_st (kC.sj h) (fun m1 h2 => ?_)
  exact kc_Checker_makeKey_10 4000 _ _ _ h2
theorem kc_Checker_hashOfKey_4 {A : Mm} : ∀ (n' : Nat) (M : Mm) (v1 : Int64) (v3 : Int32), kC A M → kp (kC A) (q_Checker_hashOfKey_4 n' M v1 v3) := by
  intro n'
  induction n' with
  | zero =>
    intro M v1 v3 h
    rw [q_Checker_hashOfKey_4]
    exact kp_none
  | succ n' ih =>
    intro M v1 v3 h
    rw [q_Checker_hashOfKey_4]
    refine kp_if ?_ ?_
    · skip
      exact kp_some h
    · skip
      refine kp_ix ?_
      refine kp_lv (fun x1 => ?_)
      refine kp_lv (fun x2 => ?_)
      exact ih _ _ _ h
theorem kc_Checker_hashOfKey {A : Mm} (M : Mm) (h : kC A M) : kp (kC A) (q_Checker_hashOfKey M) := by
  unfold q_Checker_hashOfKey
  exact kc_Checker_hashOfKey_4 4000 _ _ _ h
theorem kc_Checker_isKey_2 {A : Mm} : ∀ (n' : Nat) (M : Mm) (v1 : Int32) (v2 : Int32), kC A M → kp (kC A) (q_Checker_isKey_2 n' M v1 v2) := by
  intro n'
  induction n' with
  | zero =>
    intro M v1 v2 h
    rw [q_Checker_isKey_2]
    exact kp_none
  | succ n' ih =>
    intro M v1 v2 h
    rw [q_Checker_isKey_2]
    refine kp_if ?_ ?_
    · skip
      exact kp_some h
    · skip
      refine kp_ix ?_
      refine kp_ix ?_
      refine kp_if ?_ ?_
      · skip
        exact ih _ _ _ h
      · skip
        exact kp_some h
theorem kc_Checker_isKey {A : Mm} (M : Mm) (a1 : Int32) (h : kC A M) : kp (kC A) (q_Checker_isKey M a1) := by
  unfold q_Checker_isKey
  exact kc_Checker_isKey_2 4000 _ _ _ h
theorem kc_Checker_add {A : Mm} (M : Mm) (a1 : Int32) (h : kC A M) : kp (kC A) (q_Checker_add M a1) := by
  unfold q_Checker_add
  refine kp_if ?_ ?_
  · skip
    refine kp_cpk ?_
    refine kp_st (kC.sj h) (fun m1 h2 => ?_)
    refine kp_st (kC.st h2 (by decide)) (fun m3 h4 => ?_)
    refine kp_ix ?_
    refine kp_st (kC.st h4 (by decide)) (fun m5 h6 => ?_)
    exact kp_some h6
  · skip
    refine kp_st (kC.st h (by decide)) (fun m7 h8 => ?_)
    exact kp_some h8
theorem kc_Checker_meet_22 {A : Mm} : ∀ (n' : Nat) (M : Mm) (v2 : Int32) (v3 : Int32), kC A M → kp (kC A) (q_Checker_meet_22 n' M v2 v3) := by
  intro n'
  induction n' with
  | zero =>
    intro M v2 v3 h
    rw [q_Checker_meet_22]
    exact kp_none
  | succ n' ih =>
    intro M v2 v3 h
    rw [q_Checker_meet_22]
    refine kp_if ?_ ?_
    · skip
      exact kp_some h
    · skip
      refine kp_lv (fun x1 => ?_)
      refine kp_ix ?_
      refine kp_if ?_ ?_
      · skip
        refine kp_cal (kc_Checker_add _ _ h) (fun m2 r3 h4 => ?_)
        exact kp_some h4
      · skip
        refine kp_ix ?_
        refine kp_cal (kc_Checker_isKey _ _ h) (fun m5 r6 h7 => ?_)
        refine kp_if ?_ ?_
        · skip
          exact ih _ _ _ h7
        · skip
          exact kp_some h7
theorem kc_Checker_meet {A : Mm} (M : Mm) (a1 : Int32) (h : kC A M) : kp (kC A) (q_Checker_meet M a1) := by
  unfold q_Checker_meet
  refine kp_lv (fun x1 => ?_)
  refine kp_cal (kc_Checker_makeKey _ _ h) (fun m2 r3 h4 => ?_)
  refine kp_cal (kc_Checker_hashOfKey _ h4) (fun m5 r6 h7 => ?_)
  exact kc_Checker_meet_22 4000 _ _ _ h7
theorem kc_Checker_begin {A : Mm} (M : Mm) (h : kC A M) : kp (kC A) (q_Checker_begin M) := by
  unfold q_Checker_begin
  refine kp_st (kC.st h (by decide)) (fun m1 h2 => ?_)
  refine kp_st (kC.st h2 (by decide)) (fun m3 h4 => ?_)
  refine kp_st (kC.st h4 (by decide)) (fun m5 h6 => ?_)
  refine kp_st (kC.st h6 (by decide)) (fun m7 h8 => ?_)
  refine kp_st (kC.st h8 (by decide)) (fun m9 h10 => ?_)
  refine kp_cal (kc_Mind_restart_1 _ h10) (fun m11 r12 h13 => ?_)
  refine kp_cal (kc_Checker_meet _ _ h13) (fun m14 r15 h16 => ?_)
  exact kp_some h16
theorem kc_Checker_load_6 {A : Mm} : ∀ (n' : Nat) (M : Mm) (v2 : Int32) (v3 : Int32), kC A M → kp (kC A) (q_Checker_load_6 n' M v2 v3) := by
  intro n'
  induction n' with
  | zero =>
    intro M v2 v3 h
    rw [q_Checker_load_6]
    exact kp_none
  | succ n' ih =>
    intro M v2 v3 h
    rw [q_Checker_load_6]
    refine kp_if ?_ ?_
    · skip
      refine kp_ix ?_
      refine kp_lv (fun x1 => ?_)
      refine kp_st (kC.st h (by decide)) (fun m2 h3 => ?_)
      exact kp_some h3
    · skip
      refine kp_ix ?_
      refine kp_ix ?_
      refine kp_st (kC.st h (by decide)) (fun m4 h5 => ?_)
      exact ih _ _ _ h5
theorem kc_Checker_load {A : Mm} (M : Mm) (a1 : Int32) (h : kC A M) : kp (kC A) (q_Checker_load M a1) := by
  unfold q_Checker_load
  refine kp_lv (fun x1 => ?_)
  exact kc_Checker_load_6 4000 _ _ _ h
theorem kc_Checker_tell_16 {A : Mm} (M : Mm) (v1 : Int32) (v2 : Int32) (h : kC A M) : kp (kC A) (q_Checker_tell_16 M v1 v2) := by
  unfold q_Checker_tell_16
  refine kp_st (kC.st h (by decide)) (fun m1 h2 => ?_)
  refine kp_st (kC.st h2 (by decide)) (fun m3 h4 => ?_)
  exact kp_some h4
theorem kc_Checker_tell {A : Mm} (M : Mm) (a1 : Int32) (a2 : Int32) (h : kC A M) : kp (kC A) (q_Checker_tell M a1 a2) := by
  unfold q_Checker_tell
  refine kp_if ?_ ?_
  · skip
    exact kc_Checker_tell_16 _ _ _ h
  · skip
    refine kp_if ?_ ?_
    · skip
      refine kp_if ?_ ?_
      · skip
        refine kp_if ?_ ?_
        · skip
          exact kp_some h
        · skip
          refine kp_st (kC.st h (by decide)) (fun m1 h2 => ?_)
          exact kp_some h2
      · skip
        exact kp_some h
    · skip
      exact kc_Checker_tell_16 _ _ _ h
theorem kc_Checker_visit_130 {A : Mm} (M : Mm) (v2 : Int32) (h : kC A M) : kp (kC A) (q_Checker_visit_130 M v2) := by
  unfold q_Checker_visit_130
  refine kp_if ?_ ?_
  · skip
    refine kp_cal (kc_Checker_meet _ _ h) (fun m1 r2 h3 => ?_)
    exact kp_some h3
  · skip
    refine kp_cal (kc_Checker_tell _ _ _ h) (fun m4 r5 h6 => ?_)
    exact kp_some h6
theorem kc_Checker_visit {A : Mm} (M : Mm) (a1 : Int32) (h : kC A M) : kp (kC A) (q_Checker_visit M a1) := by
  unfold q_Checker_visit
  refine kp_cal (kc_Checker_load _ _ h) (fun m1 r2 h3 => ?_)
  refine kp_if ?_ ?_
  · skip
    refine kp_ix ?_
    refine kp_lv (fun x4 => ?_)
    refine kp_if ?_ ?_
    · skip
      refine kp_cal (kc_Checker_meet _ _ h3) (fun m5 r6 h7 => ?_)
      exact kp_some h7
    · skip
      refine kp_if ?_ ?_
      · skip
        refine kp_cal (kc_Checker_meet _ _ h3) (fun m8 r9 h10 => ?_)
        refine kp_ix ?_
        refine kp_cal (kc_Checker_meet _ _ h10) (fun m11 r12 h13 => ?_)
        exact kp_some h13
      · skip
        refine kp_cal (kc_Plan_beginHere _ h3) (fun m14 r15 h16 => ?_)
        refine kp_if ?_ ?_
        · skip
          refine kp_ix ?_
          refine kp_ix ?_
          refine kp_cal (kc_Plan_addPut _ _ _ h16) (fun m17 r18 h19 => ?_)
          exact kc_Checker_visit_130 _ _ h19
        · skip
          refine kp_ix ?_
          refine kp_cal (kc_Plan_addFetch _ _ h16) (fun m20 r21 h22 => ?_)
          exact kc_Checker_visit_130 _ _ h22
  · skip
    exact kp_some h3
theorem kc_ChipMap_check_63 {A : Mm} (M : Mm) (h : kC A M) : kp (kC A) (q_ChipMap_check_63 M) := by
  unfold q_ChipMap_check_63
  refine kp_if ?_ ?_
  · skip
    exact kp_some h
  · skip
    exact kp_some h
theorem kc_ChipMap_check_18 {A : Mm} : ∀ (n' : Nat) (M : Mm) (v1 : Int32), kC A M → kp (kC A) (q_ChipMap_check_18 n' M v1) := by
  intro n'
  induction n' with
  | zero =>
    intro M v1 h
    rw [q_ChipMap_check_18]
    exact kp_none
  | succ n' ih =>
    intro M v1 h
    rw [q_ChipMap_check_18]
    refine kp_if ?_ ?_
    · skip
      exact kc_ChipMap_check_63 _ h
    · skip
      refine kp_if ?_ ?_
      · skip
        exact kc_ChipMap_check_63 _ h
      · skip
        refine kp_if ?_ ?_
        · skip
          refine kp_cal (kc_Checker_visit _ _ h) (fun m1 r2 h3 => ?_)
          exact ih _ _ h3
        · skip
          exact kc_ChipMap_check_63 _ h
theorem kc_ChipMap_check {A : Mm} (M : Mm) (h : kC A M) : kp (kC A) (q_ChipMap_check M) := by
  unfold q_ChipMap_check
  refine kp_cal (kc_ChipMap_hasMap _ h) (fun m1 r2 h3 => ?_)
  refine kp_if ?_ ?_
  · skip
    exact kp_some h3
  · skip
    refine kp_cal (kc_Checker_begin _ h3) (fun m4 r5 h6 => ?_)
    exact kc_ChipMap_check_18 4000 _ _ h6
theorem kj_Layout_isKnown {A : Mm} (M : Mm) (a1 : Int32) (h : kJ A M) : kp (kJ A) (q_Layout_isKnown M a1) := by
  unfold q_Layout_isKnown
  refine kp_ix ?_
  refine kp_if ?_ ?_
  · skip
    exact kp_some h
  · skip
    refine kp_ix ?_
    refine kp_if ?_ ?_
    · skip
      exact kp_some h
    · skip
      exact kp_some h
theorem kj_Layout_has {A : Mm} (M : Mm) (a1 : Int32) (h : kJ A M) : kp (kJ A) (q_Layout_has M a1) := by
  unfold q_Layout_has
  refine kp_if ?_ ?_
  · skip
    exact kp_some h
  · skip
    refine kp_if ?_ ?_
    · skip
      exact kp_some h
    · skip
      refine kp_ix ?_
      refine kp_if ?_ ?_
      · skip
        exact kp_some h
      · skip
        exact kp_some h
theorem kj_Layout_bitsOf {A : Mm} (M : Mm) (a1 : Int32) (a2 : Int32) (h : kJ A M) : kp (kJ A) (q_Layout_bitsOf M a1 a2) := by
  unfold q_Layout_bitsOf
  refine kp_ix ?_
  refine kp_ix ?_
  exact kp_some h
theorem kj_Device_valueOf {A : Mm} (M : Mm) (a1 : Int32) (h : kJ A M) : kp (kJ A) (q_Device_valueOf M a1) := by
  unfold q_Device_valueOf
  refine kp_ix ?_
  refine kp_lv (fun x1 => ?_)
  refine kp_ix ?_
  refine kp_ix ?_
  refine kp_cal (kj_Layout_bitsOf _ _ _ h) (fun m2 r3 h4 => ?_)
  exact kp_some h4
theorem kj_ChipMap_hasMap {A : Mm} (M : Mm) (h : kJ A M) : kp (kJ A) (q_ChipMap_hasMap M) := by
  unfold q_ChipMap_hasMap
  refine kp_if ?_ ?_
  · skip
    exact kp_some h
  · skip
    exact kp_some h
theorem kj_Mind_knownValue {A : Mm} (M : Mm) (a1 : Int32) (h : kJ A M) : kp (kJ A) (q_Mind_knownValue M a1) := by
  unfold q_Mind_knownValue
  refine kp_ix ?_
  refine kp_ix ?_
  refine kp_ix ?_
  refine kp_ix ?_
  exact kp_some h
theorem kj_Mind_isThere {A : Mm} (M : Mm) (a1 : Int32) (h : kJ A M) : kp (kJ A) (q_Mind_isThere M a1) := by
  unfold q_Mind_isThere
  refine kp_ix ?_
  refine kp_lv (fun x1 => ?_)
  refine kp_if ?_ ?_
  · skip
    exact kp_some h
  · skip
    refine kp_cal (kj_Mind_knownValue _ _ h) (fun m2 r3 h4 => ?_)
    refine kp_ix ?_
    refine kp_if ?_ ?_
    · skip
      exact kp_some h4
    · skip
      exact kp_some h4
theorem kj_Device_registerAt_39 {A : Mm} {kf2 : Mm → Int32 → Int32 → Rs} (hk2 : ∀ (M : Mm) (b1 : Int32) (b2 : Int32), kJ A M → kp (kJ A) (kf2 M b1 b2)) (M : Mm) (v1 : Int32) (v2 : Int32) (h : kJ A M) : kp (kJ A) (q_Device_registerAt_39 kf2 M v1 v2) := by
  unfold q_Device_registerAt_39
  exact hk2 _ _ _ h
theorem kj_Device_registerAt_2 {A : Mm} : ∀ (n' : Nat) (M : Mm) (v1 : Int32) (v2 : Int32), kJ A M → kp (kJ A) (q_Device_registerAt_2 n' M v1 v2) := by
  intro n'
  induction n' with
  | zero =>
    intro M v1 v2 h
    rw [q_Device_registerAt_2]
    exact kp_none
  | succ n' ih =>
    intro M v1 v2 h
    rw [q_Device_registerAt_2]
    refine kp_if ?_ ?_
    · skip
      exact kp_some h
    · skip
      refine kp_ix ?_
      refine kp_if ?_ ?_
      · skip
        refine kp_cal (kj_Mind_isThere _ _ h) (fun m1 r2 h3 => ?_)
        refine kp_if ?_ ?_
        · skip
          exact kj_Device_registerAt_39 ih _ _ _ h3
        · skip
          exact kp_some h3
      · skip
        exact kj_Device_registerAt_39 ih _ _ _ h
theorem kj_Device_registerAt {A : Mm} (M : Mm) (a1 : Int32) (h : kJ A M) : kp (kJ A) (q_Device_registerAt M a1) := by
  unfold q_Device_registerAt
  exact kj_Device_registerAt_2 4000 _ _ _ h
theorem kj_Mind_isWritten {A : Mm} (M : Mm) (a1 : Int32) (a2 : Int32) (a3 : Int32) (h : kJ A M) : kp (kJ A) (q_Mind_isWritten M a1 a2 a3) := by
  unfold q_Mind_isWritten
  refine kp_ix ?_
  refine kp_if ?_ ?_
  · skip
    refine kp_ix ?_
    refine kp_ix ?_
    refine kp_if ?_ ?_
    · skip
      exact kp_some h
    · skip
      exact kp_some h
  · skip
    exact kp_some h
theorem kj_Mind_brokenBy_184 {A : Mm} {kf14 : Mm → Int32 → Int32 → Int32 → Int32 → Rs} (hk14 : ∀ (M : Mm) (b1 : Int32) (b2 : Int32) (b3 : Int32) (b4 : Int32), kJ A M → kp (kJ A) (kf14 M b1 b2 b3 b4)) (M : Mm) (v1 : Int32) (v2 : Int32) (v4 : Int32) (v5 : Int32) (h : kJ A M) : kp (kJ A) (q_Mind_brokenBy_184 kf14 M v1 v2 v4 v5) := by
  unfold q_Mind_brokenBy_184
  exact hk14 _ _ _ _ _ h
theorem kj_Mind_brokenBy_170 {A : Mm} {kf14 : Mm → Int32 → Int32 → Int32 → Int32 → Rs} (hk14 : ∀ (M : Mm) (b1 : Int32) (b2 : Int32) (b3 : Int32) (b4 : Int32), kJ A M → kp (kJ A) (kf14 M b1 b2 b3 b4)) (M : Mm) (v1 : Int32) (v2 : Int32) (v4 : Int32) (v5 : Int32) (v7 : Int32) (h : kJ A M) : kp (kJ A) (q_Mind_brokenBy_170 kf14 M v1 v2 v4 v5 v7) := by
  unfold q_Mind_brokenBy_170
  refine kp_if ?_ ?_
  · skip
    exact kj_Mind_brokenBy_184 hk14 _ _ _ _ _ h
  · skip
    refine kp_lv (fun x1 => ?_)
    exact kj_Mind_brokenBy_184 hk14 _ _ _ _ _ h
theorem kj_Mind_brokenBy_168 {A : Mm} {kf14 : Mm → Int32 → Int32 → Int32 → Int32 → Rs} (hk14 : ∀ (M : Mm) (b1 : Int32) (b2 : Int32) (b3 : Int32) (b4 : Int32), kJ A M → kp (kJ A) (kf14 M b1 b2 b3 b4)) (M : Mm) (v1 : Int32) (v2 : Int32) (v4 : Int32) (v5 : Int32) (t0 : Int32) (h : kJ A M) : kp (kJ A) (q_Mind_brokenBy_168 kf14 M v1 v2 v4 v5 t0) := by
  unfold q_Mind_brokenBy_168
  exact kj_Mind_brokenBy_170 hk14 _ _ _ _ _ _ h
theorem kj_Mind_brokenBy_167 {A : Mm} {kf14 : Mm → Int32 → Int32 → Int32 → Int32 → Rs} (hk14 : ∀ (M : Mm) (b1 : Int32) (b2 : Int32) (b3 : Int32) (b4 : Int32), kJ A M → kp (kJ A) (kf14 M b1 b2 b3 b4)) (M : Mm) (v1 : Int32) (v2 : Int32) (v4 : Int32) (v5 : Int32) (h : kJ A M) : kp (kJ A) (q_Mind_brokenBy_167 kf14 M v1 v2 v4 v5) := by
  unfold q_Mind_brokenBy_167
  exact kj_Mind_brokenBy_168 hk14 _ _ _ _ _ _ h
theorem kj_Mind_brokenBy_121 {A : Mm} {kf14 : Mm → Int32 → Int32 → Int32 → Int32 → Rs} (hk14 : ∀ (M : Mm) (b1 : Int32) (b2 : Int32) (b3 : Int32) (b4 : Int32), kJ A M → kp (kJ A) (kf14 M b1 b2 b3 b4)) (M : Mm) (v1 : Int32) (v2 : Int32) (v4 : Int32) (v5 : Int32) (t0 : Int32) (h : kJ A M) : kp (kJ A) (q_Mind_brokenBy_121 kf14 M v1 v2 v4 v5 t0) := by
  unfold q_Mind_brokenBy_121
  exact kj_Mind_brokenBy_170 hk14 _ _ _ _ _ _ h
theorem kj_Mind_brokenBy_120 {A : Mm} {kf14 : Mm → Int32 → Int32 → Int32 → Int32 → Rs} (hk14 : ∀ (M : Mm) (b1 : Int32) (b2 : Int32) (b3 : Int32) (b4 : Int32), kJ A M → kp (kJ A) (kf14 M b1 b2 b3 b4)) (M : Mm) (v1 : Int32) (v2 : Int32) (v4 : Int32) (v5 : Int32) (h : kJ A M) : kp (kJ A) (q_Mind_brokenBy_120 kf14 M v1 v2 v4 v5) := by
  unfold q_Mind_brokenBy_120
  exact kj_Mind_brokenBy_121 hk14 _ _ _ _ _ _ h
theorem kj_Mind_brokenBy_79 {A : Mm} {kf14 : Mm → Int32 → Int32 → Int32 → Int32 → Rs} (hk14 : ∀ (M : Mm) (b1 : Int32) (b2 : Int32) (b3 : Int32) (b4 : Int32), kJ A M → kp (kJ A) (kf14 M b1 b2 b3 b4)) (M : Mm) (v1 : Int32) (v2 : Int32) (v4 : Int32) (v5 : Int32) (t0 : Int32) (h : kJ A M) : kp (kJ A) (q_Mind_brokenBy_79 kf14 M v1 v2 v4 v5 t0) := by
  unfold q_Mind_brokenBy_79
  exact kj_Mind_brokenBy_170 hk14 _ _ _ _ _ _ h
theorem kj_Mind_brokenBy_78 {A : Mm} {kf14 : Mm → Int32 → Int32 → Int32 → Int32 → Rs} (hk14 : ∀ (M : Mm) (b1 : Int32) (b2 : Int32) (b3 : Int32) (b4 : Int32), kJ A M → kp (kJ A) (kf14 M b1 b2 b3 b4)) (M : Mm) (v1 : Int32) (v2 : Int32) (v4 : Int32) (v5 : Int32) (h : kJ A M) : kp (kJ A) (q_Mind_brokenBy_78 kf14 M v1 v2 v4 v5) := by
  unfold q_Mind_brokenBy_78
  exact kj_Mind_brokenBy_79 hk14 _ _ _ _ _ _ h
theorem kj_Mind_brokenBy_41 {A : Mm} {kf14 : Mm → Int32 → Int32 → Int32 → Int32 → Rs} (hk14 : ∀ (M : Mm) (b1 : Int32) (b2 : Int32) (b3 : Int32) (b4 : Int32), kJ A M → kp (kJ A) (kf14 M b1 b2 b3 b4)) (M : Mm) (v1 : Int32) (v2 : Int32) (v4 : Int32) (v5 : Int32) (t0 : Int32) (h : kJ A M) : kp (kJ A) (q_Mind_brokenBy_41 kf14 M v1 v2 v4 v5 t0) := by
  unfold q_Mind_brokenBy_41
  refine kp_ix ?_
  refine kp_if ?_ ?_
  · skip
    refine kp_if ?_ ?_
    · skip
      refine kp_ix ?_
      refine kp_cal (kj_Mind_isWritten _ _ _ _ h) (fun m1 r2 h3 => ?_)
      refine kp_if ?_ ?_
      · skip
        exact kj_Mind_brokenBy_78 hk14 _ _ _ _ _ h3
      · skip
        exact kj_Mind_brokenBy_79 hk14 _ _ _ _ _ _ h3
    · skip
      exact kj_Mind_brokenBy_78 hk14 _ _ _ _ _ h
  · skip
    refine kp_ix ?_
    refine kp_if ?_ ?_
    · skip
      refine kp_if ?_ ?_
      · skip
        exact kj_Mind_brokenBy_120 hk14 _ _ _ _ _ h
      · skip
        refine kp_ix ?_
        refine kp_cal (kj_Mind_isWritten _ _ _ _ h) (fun m4 r5 h6 => ?_)
        refine kp_if ?_ ?_
        · skip
          exact kj_Mind_brokenBy_120 hk14 _ _ _ _ _ h6
        · skip
          exact kj_Mind_brokenBy_121 hk14 _ _ _ _ _ _ h6
    · skip
      refine kp_ix ?_
      refine kp_cal (kj_Mind_isWritten _ _ _ _ h) (fun m7 r8 h9 => ?_)
      refine kp_if ?_ ?_
      · skip
        exact kj_Mind_brokenBy_167 hk14 _ _ _ _ _ h9
      · skip
        refine kp_ix ?_
        refine kp_cal (kj_Mind_knownValue _ _ h9) (fun m10 r11 h12 => ?_)
        refine kp_ix ?_
        refine kp_if ?_ ?_
        · skip
          exact kj_Mind_brokenBy_167 hk14 _ _ _ _ _ h12
        · skip
          exact kj_Mind_brokenBy_168 hk14 _ _ _ _ _ _ h12
theorem kj_Mind_brokenBy_14 {A : Mm} : ∀ (n' : Nat) (M : Mm) (v1 : Int32) (v2 : Int32) (v4 : Int32) (v5 : Int32), kJ A M → kp (kJ A) (q_Mind_brokenBy_14 n' M v1 v2 v4 v5) := by
  intro n'
  induction n' with
  | zero =>
    intro M v1 v2 v4 v5 h
    rw [q_Mind_brokenBy_14]
    exact kp_none
  | succ n' ih =>
    intro M v1 v2 v4 v5 h
    rw [q_Mind_brokenBy_14]
    refine kp_if ?_ ?_
    · skip
      exact kp_some h
    · skip
      refine kp_if ?_ ?_
      · skip
        exact kj_Mind_brokenBy_41 ih _ _ _ _ _ _ h
      · skip
        exact kj_Mind_brokenBy_41 ih _ _ _ _ _ _ h
theorem kj_Mind_brokenBy {A : Mm} (M : Mm) (a1 : Int32) (a2 : Int32) (h : kJ A M) : kp (kJ A) (q_Mind_brokenBy M a1 a2) := by
  unfold q_Mind_brokenBy
  exact kj_Mind_brokenBy_14 4000 _ _ _ _ _ h
theorem kj_Log_add {A : Mm} (M : Mm) (a1 : Int32) (a2 : Int32) (a3 : Int32) (h : kJ A M) : kp (kJ A) (q_Log_add M a1 a2 a3) := by
  unfold q_Log_add
  refine kp_lv (fun x1 => ?_)
  refine kp_ix ?_
  refine kp_st (kJ.st h (by decide)) (fun m2 h3 => ?_)
  refine kp_ix ?_
  refine kp_st (kJ.st h3 (by decide)) (fun m4 h5 => ?_)
  refine kp_ix ?_
  refine kp_st (kJ.st h5 (by decide)) (fun m6 h7 => ?_)
  refine kp_st (kJ.st h7 (by decide)) (fun m8 h9 => ?_)
  exact kp_some h9
theorem kj_Mind_write_136 {A : Mm} {kf11 : Mm → Int32 → Int32 → Int32 → Rs} (hk11 : ∀ (M : Mm) (b1 : Int32) (b2 : Int32) (b3 : Int32), kJ A M → kp (kJ A) (kf11 M b1 b2 b3)) (M : Mm) (v1 : Int32) (v2 : Int32) (v4 : Int32) (h : kJ A M) : kp (kJ A) (q_Mind_write_136 kf11 M v1 v2 v4) := by
  unfold q_Mind_write_136
  exact hk11 _ _ _ _ h
theorem kj_Mind_write_62 {A : Mm} {kf11 : Mm → Int32 → Int32 → Int32 → Rs} (hk11 : ∀ (M : Mm) (b1 : Int32) (b2 : Int32) (b3 : Int32), kJ A M → kp (kJ A) (kf11 M b1 b2 b3)) (M : Mm) (v1 : Int32) (v2 : Int32) (v4 : Int32) (h : kJ A M) : kp (kJ A) (q_Mind_write_62 kf11 M v1 v2 v4) := by
  unfold q_Mind_write_62
  refine kp_ix ?_
  refine kp_if ?_ ?_
  · skip
    refine kp_ix ?_
    refine kp_cal (kj_Mind_isWritten _ _ _ _ h) (fun m1 r2 h3 => ?_)
    refine kp_if ?_ ?_
    · skip
      refine kp_ix ?_
      refine kp_cal (kj_Mind_isWritten _ _ _ _ h3) (fun m4 r5 h6 => ?_)
      refine kp_if ?_ ?_
      · skip
        exact kj_Mind_write_136 hk11 _ _ _ _ h6
      · skip
        refine kp_st (kJ.st h6 (by decide)) (fun m7 h8 => ?_)
        exact kj_Mind_write_136 hk11 _ _ _ _ h8
    · skip
      refine kp_st (kJ.st h3 (by decide)) (fun m9 h10 => ?_)
      exact kj_Mind_write_136 hk11 _ _ _ _ h10
  · skip
    exact kj_Mind_write_136 hk11 _ _ _ _ h
theorem kj_Mind_write_11 {A : Mm} : ∀ (n' : Nat) (M : Mm) (v1 : Int32) (v2 : Int32) (v4 : Int32), kJ A M → kp (kJ A) (q_Mind_write_11 n' M v1 v2 v4) := by
  intro n'
  induction n' with
  | zero =>
    intro M v1 v2 v4 h
    rw [q_Mind_write_11]
    exact kp_none
  | succ n' ih =>
    intro M v1 v2 v4 h
    rw [q_Mind_write_11]
    refine kp_if ?_ ?_
    · skip
      refine kp_ix ?_
      refine kp_ix ?_
      refine kp_st (kJ.st h (by decide)) (fun m1 h2 => ?_)
      exact kp_some h2
    · skip
      refine kp_ix ?_
      refine kp_if ?_ ?_
      · skip
        refine kp_ix ?_
        refine kp_cal (kj_Mind_isWritten _ _ _ _ h) (fun m3 r4 h5 => ?_)
        refine kp_if ?_ ?_
        · skip
          exact kj_Mind_write_62 ih _ _ _ _ h5
        · skip
          refine kp_st (kJ.st h5 (by decide)) (fun m6 h7 => ?_)
          exact kj_Mind_write_136 ih _ _ _ _ h7
      · skip
        exact kj_Mind_write_62 ih _ _ _ _ h
theorem kj_Mind_write {A : Mm} (M : Mm) (a1 : Int32) (a2 : Int32) (h : kJ A M) : kp (kJ A) (q_Mind_write M a1 a2) := by
  unfold q_Mind_write
  exact kj_Mind_write_11 4000 _ _ _ _ h
theorem kj_Device_setLoose {A : Mm} (M : Mm) (a1 : Int32) (a2 : Int32) (h : kJ A M) : kp (kJ A) (q_Device_setLoose M a1 a2) := by
  unfold q_Device_setLoose
  refine kp_ix ?_
  refine kp_lv (fun x1 => ?_)
  refine kp_ix ?_
  refine kp_ix ?_
  refine kp_ix ?_
  refine kp_ix ?_
  refine kp_st (kJ.st h (by decide)) (fun m2 h3 => ?_)
  exact kp_some h3
theorem kj_Device_startPulses_68 {A : Mm} {kf2 : Mm → Int32 → Int32 → Int32 → Rs} (hk2 : ∀ (M : Mm) (b1 : Int32) (b2 : Int32) (b3 : Int32), kJ A M → kp (kJ A) (kf2 M b1 b2 b3)) (M : Mm) (v1 : Int32) (v2 : Int32) (v3 : Int32) (h : kJ A M) : kp (kJ A) (q_Device_startPulses_68 kf2 M v1 v2 v3) := by
  unfold q_Device_startPulses_68
  exact hk2 _ _ _ _ h
theorem kj_Device_startPulses_2 {A : Mm} : ∀ (n' : Nat) (M : Mm) (v1 : Int32) (v2 : Int32) (v3 : Int32), kJ A M → kp (kJ A) (q_Device_startPulses_2 n' M v1 v2 v3) := by
  intro n'
  induction n' with
  | zero =>
    intro M v1 v2 v3 h
    rw [q_Device_startPulses_2]
    exact kp_none
  | succ n' ih =>
    intro M v1 v2 v3 h
    rw [q_Device_startPulses_2]
    refine kp_if ?_ ?_
    · skip
      exact kp_some h
    · skip
      refine kp_ix ?_
      refine kp_if ?_ ?_
      · skip
        refine kp_ix ?_
        refine kp_if ?_ ?_
        · skip
          refine kp_cal (kj_Layout_bitsOf _ _ _ h) (fun m1 r2 h3 => ?_)
          refine kp_if ?_ ?_
          · skip
            exact kj_Device_startPulses_68 ih _ _ _ _ h3
          · skip
            refine kp_cal (kj_Layout_bitsOf _ _ _ h3) (fun m4 r5 h6 => ?_)
            refine kp_cal (kj_Device_setLoose _ _ _ h6) (fun m7 r8 h9 => ?_)
            refine kp_ix ?_
            refine kp_st (kJ.st h9 (by decide)) (fun m10 h11 => ?_)
            exact kj_Device_startPulses_68 ih _ _ _ _ h11
        · skip
          exact kj_Device_startPulses_68 ih _ _ _ _ h
      · skip
        exact kj_Device_startPulses_68 ih _ _ _ _ h
theorem kj_Device_startPulses {A : Mm} (M : Mm) (a1 : Int32) (a2 : Int32) (h : kJ A M) : kp (kJ A) (q_Device_startPulses M a1 a2) := by
  unfold q_Device_startPulses
  exact kj_Device_startPulses_2 4000 _ _ _ _ h
theorem kj_Device_write {A : Mm} (M : Mm) (a1 : Int32) (a2 : Int32) (h : kJ A M) : kp (kJ A) (q_Device_write M a1 a2) := by
  unfold q_Device_write
  refine kp_ix ?_
  refine kp_cal (kj_Log_add _ _ _ _ h) (fun m1 r2 h3 => ?_)
  refine kp_cal (kj_Mind_write _ _ _ h3) (fun m4 r5 h6 => ?_)
  refine kp_ix ?_
  refine kp_ix ?_
  refine kp_ix ?_
  refine kp_st (kJ.st h6 (by decide)) (fun m7 h8 => ?_)
  refine kp_ix ?_
  refine kp_ix ?_
  refine kp_ix ?_
  refine kp_st (kJ.st h8 (by decide)) (fun m9 h10 => ?_)
  refine kp_ix ?_
  refine kp_if ?_ ?_
  · skip
    exact kp_some h10
  · skip
    refine kp_cal (kj_Device_startPulses _ _ _ h10) (fun m11 r12 h13 => ?_)
    exact kp_some h13
theorem kj_Integer_bitCount {A : Mm} (M : Mm) (a0 : Int32) (h : kJ A M) : kp (kJ A) (q_Integer_bitCount M a0) := by
  unfold q_Integer_bitCount
  refine kp_lv (fun x1 => ?_)
  refine kp_lv (fun x2 => ?_)
  refine kp_lv (fun x3 => ?_)
  refine kp_lv (fun x4 => ?_)
  refine kp_lv (fun x5 => ?_)
  exact kp_some h
theorem kj_Integer_numberOfTrailingZeros_74 {A : Mm} (M : Mm) (v0 : Int32) (v1 : Int32) (h : kJ A M) : kp (kJ A) (q_Integer_numberOfTrailingZeros_74 M v0 v1) := by
  unfold q_Integer_numberOfTrailingZeros_74
  exact kp_some h
theorem kj_Integer_numberOfTrailingZeros_62 {A : Mm} (M : Mm) (v0 : Int32) (v1 : Int32) (h : kJ A M) : kp (kJ A) (q_Integer_numberOfTrailingZeros_62 M v0 v1) := by
  unfold q_Integer_numberOfTrailingZeros_62
  refine kp_if ?_ ?_
  · skip
    exact kj_Integer_numberOfTrailingZeros_74 _ _ _ h
  · skip
    refine kp_lv (fun x1 => ?_)
    exact kj_Integer_numberOfTrailingZeros_74 _ _ _ h
theorem kj_Integer_numberOfTrailingZeros_49 {A : Mm} (M : Mm) (v0 : Int32) (v1 : Int32) (h : kJ A M) : kp (kJ A) (q_Integer_numberOfTrailingZeros_49 M v0 v1) := by
  unfold q_Integer_numberOfTrailingZeros_49
  refine kp_if ?_ ?_
  · skip
    exact kj_Integer_numberOfTrailingZeros_62 _ _ _ h
  · skip
    refine kp_lv (fun x1 => ?_)
    exact kj_Integer_numberOfTrailingZeros_62 _ _ _ h
theorem kj_Integer_numberOfTrailingZeros_34 {A : Mm} (M : Mm) (v0 : Int32) (v1 : Int32) (h : kJ A M) : kp (kJ A) (q_Integer_numberOfTrailingZeros_34 M v0 v1) := by
  unfold q_Integer_numberOfTrailingZeros_34
  refine kp_if ?_ ?_
  · skip
    exact kj_Integer_numberOfTrailingZeros_49 _ _ _ h
  · skip
    refine kp_lv (fun x1 => ?_)
    exact kj_Integer_numberOfTrailingZeros_49 _ _ _ h
theorem kj_Integer_numberOfTrailingZeros {A : Mm} (M : Mm) (a0 : Int32) (h : kJ A M) : kp (kJ A) (q_Integer_numberOfTrailingZeros M a0) := by
  unfold q_Integer_numberOfTrailingZeros
  refine kp_lv (fun x1 => ?_)
  refine kp_if ?_ ?_
  · skip
    refine kp_if ?_ ?_
    · skip
      exact kj_Integer_numberOfTrailingZeros_34 _ _ _ h
    · skip
      refine kp_lv (fun x2 => ?_)
      exact kj_Integer_numberOfTrailingZeros_34 _ _ _ h
  · skip
    exact kp_some h
theorem kj_ChipMap_busWrite {A : Mm} (M : Mm) (a1 : Int32) (a2 : Int32) (h : kJ A M) : kp (kJ A) (q_ChipMap_busWrite M a1 a2) := by
  unfold q_ChipMap_busWrite
  refine kp_cal (kj_Device_registerAt _ _ h) (fun m1 r2 h3 => ?_)
  refine kp_if ?_ ?_
  · skip
    exact kp_some h3
  · skip
    refine kp_cal (kj_Mind_brokenBy _ _ _ h3) (fun m4 r5 h6 => ?_)
    refine kp_cal (kj_Device_write _ _ _ h6) (fun m7 r8 h9 => ?_)
    refine kp_cal (kj_Integer_bitCount _ _ h9) (fun m10 r11 h12 => ?_)
    refine kp_st (kJ.st h12 (by decide)) (fun m13 h14 => ?_)
    refine kp_if ?_ ?_
    · skip
      exact kp_some h14
    · skip
      refine kp_cal (kj_Integer_numberOfTrailingZeros _ _ h14) (fun m15 r16 h17 => ?_)
      exact kp_some h17
theorem kj_Device_countPulses_55 {A : Mm} {kf2 : Mm → Int32 → Int32 → Rs} (hk2 : ∀ (M : Mm) (b1 : Int32) (b2 : Int32), kJ A M → kp (kJ A) (kf2 M b1 b2)) (M : Mm) (v1 : Int32) (v2 : Int32) (h : kJ A M) : kp (kJ A) (q_Device_countPulses_55 kf2 M v1 v2) := by
  unfold q_Device_countPulses_55
  exact hk2 _ _ _ h
theorem kj_Device_countPulses_2 {A : Mm} : ∀ (n' : Nat) (M : Mm) (v1 : Int32) (v2 : Int32), kJ A M → kp (kJ A) (q_Device_countPulses_2 n' M v1 v2) := by
  intro n'
  induction n' with
  | zero =>
    intro M v1 v2 h
    rw [q_Device_countPulses_2]
    exact kp_none
  | succ n' ih =>
    intro M v1 v2 h
    rw [q_Device_countPulses_2]
    refine kp_if ?_ ?_
    · skip
      exact kp_some h
    · skip
      refine kp_ix ?_
      refine kp_if ?_ ?_
      · skip
        refine kp_ix ?_
        refine kp_if ?_ ?_
        · skip
          exact kj_Device_countPulses_55 ih _ _ _ h
        · skip
          refine kp_ix ?_
          refine kp_ix ?_
          refine kp_st (kJ.st h (by decide)) (fun m1 h2 => ?_)
          refine kp_ix ?_
          refine kp_if ?_ ?_
          · skip
            refine kp_cal (kj_Device_setLoose _ _ _ h2) (fun m3 r4 h5 => ?_)
            exact kj_Device_countPulses_55 ih _ _ _ h5
          · skip
            exact kj_Device_countPulses_55 ih _ _ _ h2
      · skip
        exact kj_Device_countPulses_55 ih _ _ _ h
theorem kj_Device_countPulses {A : Mm} (M : Mm) (a1 : Int32) (h : kJ A M) : kp (kJ A) (q_Device_countPulses M a1) := by
  unfold q_Device_countPulses
  exact kj_Device_countPulses_2 4000 _ _ _ h
theorem kj_Device_read {A : Mm} (M : Mm) (a1 : Int32) (h : kJ A M) : kp (kJ A) (q_Device_read M a1) := by
  unfold q_Device_read
  refine kp_ix ?_
  refine kp_ix ?_
  refine kp_ix ?_
  refine kp_lv (fun x1 => ?_)
  refine kp_ix ?_
  refine kp_cal (kj_Log_add _ _ _ _ h) (fun m2 r3 h4 => ?_)
  refine kp_ix ?_
  refine kp_ix ?_
  refine kp_ix ?_
  refine kp_ix ?_
  refine kp_st (kJ.st h4 (by decide)) (fun m5 h6 => ?_)
  refine kp_ix ?_
  refine kp_ix ?_
  refine kp_ix ?_
  refine kp_st (kJ.st h6 (by decide)) (fun m7 h8 => ?_)
  refine kp_ix ?_
  refine kp_if ?_ ?_
  · skip
    exact kp_some h8
  · skip
    refine kp_cal (kj_Device_countPulses _ _ h8) (fun m9 r10 h11 => ?_)
    exact kp_some h11
theorem kj_ChipMap_busRead {A : Mm} (M : Mm) (a1 : Int32) (h : kJ A M) : kp (kJ A) (q_ChipMap_busRead M a1) := by
  unfold q_ChipMap_busRead
  refine kp_cal (kj_Device_registerAt _ _ h) (fun m1 r2 h3 => ?_)
  refine kp_if ?_ ?_
  · skip
    exact kp_some h3
  · skip
    refine kp_cal (kj_Device_read _ _ h3) (fun m4 r5 h6 => ?_)
    exact kp_some h6
theorem kj_Layout_fits {A : Mm} (M : Mm) (a1 : Int32) (a2 : Int32) (h : kJ A M) : kp (kJ A) (q_Layout_fits M a1 a2) := by
  unfold q_Layout_fits
  refine kp_ix ?_
  refine kp_if ?_ ?_
  · skip
    exact kp_some h
  · skip
    exact kp_some h
theorem kj_ChipMap_poke_52 {A : Mm} (M : Mm) (v1 : Int32) (v2 : Int32) (h : kJ A M) : kp (kJ A) (q_ChipMap_poke_52 M v1 v2) := by
  unfold q_ChipMap_poke_52
  refine kp_cal (kj_Device_setLoose _ _ _ h) (fun m1 r2 h3 => ?_)
  exact kp_some h3
theorem kj_ChipMap_poke {A : Mm} (M : Mm) (a1 : Int32) (a2 : Int32) (h : kJ A M) : kp (kJ A) (q_ChipMap_poke M a1 a2) := by
  unfold q_ChipMap_poke
  refine kp_cal (kj_Layout_has _ _ h) (fun m1 r2 h3 => ?_)
  refine kp_if ?_ ?_
  · skip
    exact kp_some h3
  · skip
    refine kp_cal (kj_Layout_fits _ _ _ h3) (fun m4 r5 h6 => ?_)
    refine kp_if ?_ ?_
    · skip
      exact kp_some h6
    · skip
      refine kp_ix ?_
      refine kp_lv (fun x7 => ?_)
      refine kp_if ?_ ?_
      · skip
        exact kj_ChipMap_poke_52 _ _ _ h6
      · skip
        refine kp_if ?_ ?_
        · skip
          exact kj_ChipMap_poke_52 _ _ _ h6
        · skip
          refine kp_if ?_ ?_
          · skip
            exact kj_ChipMap_poke_52 _ _ _ h6
          · skip
            exact kp_some h6
theorem kj_Layout_canPut {A : Mm} (M : Mm) (a1 : Int32) (a2 : Int32) (h : kJ A M) : kp (kJ A) (q_Layout_canPut M a1 a2) := by
  unfold q_Layout_canPut
  refine kp_cal (kj_Layout_has _ _ h) (fun m1 r2 h3 => ?_)
  refine kp_if ?_ ?_
  · skip
    exact kp_some h3
  · skip
    refine kp_ix ?_
    refine kp_if ?_ ?_
    · skip
      exact kp_some h3
    · skip
      refine kp_ix ?_
      refine kp_if ?_ ?_
      · skip
        exact kp_some h3
      · skip
        refine kp_cal (kj_Layout_fits _ _ _ h3) (fun m4 r5 h6 => ?_)
        refine kp_if ?_ ?_
        · skip
          exact kp_some h6
        · skip
          exact kp_some h6
theorem kj_Mind_copy {A : Mm} (M : Mm) (h : kJ A M) : kp (kJ A) (q_Mind_copy M) := by
  unfold q_Mind_copy
  refine kp_cpk ?_
  refine kp_st (kJ.st h (by decide)) (fun m1 h2 => ?_)
  refine kp_st (kJ.st h2 (by decide)) (fun m3 h4 => ?_)
  exact kp_some h4
theorem kj_Plan_beginHere {A : Mm} (M : Mm) (h : kJ A M) : kp (kJ A) (q_Plan_beginHere M) := by
  unfold q_Plan_beginHere
  refine kp_st (kJ.st h (by decide)) (fun m1 h2 => ?_)
  refine kp_st (kJ.st h2 (by decide)) (fun m3 h4 => ?_)
  exact kp_some h4
theorem kj_Plan_begin {A : Mm} (M : Mm) (h : kJ A M) : kp (kJ A) (q_Plan_begin M) := by
  unfold q_Plan_begin
  refine kp_cal (kj_Mind_copy _ h) (fun m1 r2 h3 => ?_)
  refine kp_cal (kj_Plan_beginHere _ h3) (fun m4 r5 h6 => ?_)
  exact kp_some h6
theorem kj_Mind_knownValue_1 {A : Mm} (M : Mm) (a1 : Int32) (h : kJ A M) : kp (kJ A) (q_Mind_knownValue_1 M a1) := by
  unfold q_Mind_knownValue_1
  refine kp_ix ?_
  refine kp_ix ?_
  refine kp_ix ?_
  refine kp_ix ?_
  exact kp_some h
theorem kj_Mind_isThere_1 {A : Mm} (M : Mm) (a1 : Int32) (h : kJ A M) : kp (kJ A) (q_Mind_isThere_1 M a1) := by
  unfold q_Mind_isThere_1
  refine kp_ix ?_
  refine kp_lv (fun x1 => ?_)
  refine kp_if ?_ ?_
  · skip
    exact kp_some h
  · skip
    refine kp_cal (kj_Mind_knownValue_1 _ _ h) (fun m2 r3 h4 => ?_)
    refine kp_ix ?_
    refine kp_if ?_ ?_
    · skip
      exact kp_some h4
    · skip
      exact kp_some h4
theorem kj_Mind_isWritten_1 {A : Mm} (M : Mm) (a1 : Int32) (a2 : Int32) (a3 : Int32) (h : kJ A M) : kp (kJ A) (q_Mind_isWritten_1 M a1 a2 a3) := by
  unfold q_Mind_isWritten_1
  refine kp_ix ?_
  refine kp_if ?_ ?_
  · skip
    refine kp_ix ?_
    refine kp_ix ?_
    refine kp_if ?_ ?_
    · skip
      exact kp_some h
    · skip
      exact kp_some h
  · skip
    exact kp_some h
theorem kj_Mind_brokenBy_1_184 {A : Mm} {kf14 : Mm → Int32 → Int32 → Int32 → Int32 → Rs} (hk14 : ∀ (M : Mm) (b1 : Int32) (b2 : Int32) (b3 : Int32) (b4 : Int32), kJ A M → kp (kJ A) (kf14 M b1 b2 b3 b4)) (M : Mm) (v1 : Int32) (v2 : Int32) (v4 : Int32) (v5 : Int32) (h : kJ A M) : kp (kJ A) (q_Mind_brokenBy_1_184 kf14 M v1 v2 v4 v5) := by
  unfold q_Mind_brokenBy_1_184
  exact hk14 _ _ _ _ _ h
theorem kj_Mind_brokenBy_1_170 {A : Mm} {kf14 : Mm → Int32 → Int32 → Int32 → Int32 → Rs} (hk14 : ∀ (M : Mm) (b1 : Int32) (b2 : Int32) (b3 : Int32) (b4 : Int32), kJ A M → kp (kJ A) (kf14 M b1 b2 b3 b4)) (M : Mm) (v1 : Int32) (v2 : Int32) (v4 : Int32) (v5 : Int32) (v7 : Int32) (h : kJ A M) : kp (kJ A) (q_Mind_brokenBy_1_170 kf14 M v1 v2 v4 v5 v7) := by
  unfold q_Mind_brokenBy_1_170
  refine kp_if ?_ ?_
  · skip
    exact kj_Mind_brokenBy_1_184 hk14 _ _ _ _ _ h
  · skip
    refine kp_lv (fun x1 => ?_)
    exact kj_Mind_brokenBy_1_184 hk14 _ _ _ _ _ h
theorem kj_Mind_brokenBy_1_168 {A : Mm} {kf14 : Mm → Int32 → Int32 → Int32 → Int32 → Rs} (hk14 : ∀ (M : Mm) (b1 : Int32) (b2 : Int32) (b3 : Int32) (b4 : Int32), kJ A M → kp (kJ A) (kf14 M b1 b2 b3 b4)) (M : Mm) (v1 : Int32) (v2 : Int32) (v4 : Int32) (v5 : Int32) (t0 : Int32) (h : kJ A M) : kp (kJ A) (q_Mind_brokenBy_1_168 kf14 M v1 v2 v4 v5 t0) := by
  unfold q_Mind_brokenBy_1_168
  exact kj_Mind_brokenBy_1_170 hk14 _ _ _ _ _ _ h
theorem kj_Mind_brokenBy_1_167 {A : Mm} {kf14 : Mm → Int32 → Int32 → Int32 → Int32 → Rs} (hk14 : ∀ (M : Mm) (b1 : Int32) (b2 : Int32) (b3 : Int32) (b4 : Int32), kJ A M → kp (kJ A) (kf14 M b1 b2 b3 b4)) (M : Mm) (v1 : Int32) (v2 : Int32) (v4 : Int32) (v5 : Int32) (h : kJ A M) : kp (kJ A) (q_Mind_brokenBy_1_167 kf14 M v1 v2 v4 v5) := by
  unfold q_Mind_brokenBy_1_167
  exact kj_Mind_brokenBy_1_168 hk14 _ _ _ _ _ _ h
theorem kj_Mind_brokenBy_1_121 {A : Mm} {kf14 : Mm → Int32 → Int32 → Int32 → Int32 → Rs} (hk14 : ∀ (M : Mm) (b1 : Int32) (b2 : Int32) (b3 : Int32) (b4 : Int32), kJ A M → kp (kJ A) (kf14 M b1 b2 b3 b4)) (M : Mm) (v1 : Int32) (v2 : Int32) (v4 : Int32) (v5 : Int32) (t0 : Int32) (h : kJ A M) : kp (kJ A) (q_Mind_brokenBy_1_121 kf14 M v1 v2 v4 v5 t0) := by
  unfold q_Mind_brokenBy_1_121
  exact kj_Mind_brokenBy_1_170 hk14 _ _ _ _ _ _ h
theorem kj_Mind_brokenBy_1_120 {A : Mm} {kf14 : Mm → Int32 → Int32 → Int32 → Int32 → Rs} (hk14 : ∀ (M : Mm) (b1 : Int32) (b2 : Int32) (b3 : Int32) (b4 : Int32), kJ A M → kp (kJ A) (kf14 M b1 b2 b3 b4)) (M : Mm) (v1 : Int32) (v2 : Int32) (v4 : Int32) (v5 : Int32) (h : kJ A M) : kp (kJ A) (q_Mind_brokenBy_1_120 kf14 M v1 v2 v4 v5) := by
  unfold q_Mind_brokenBy_1_120
  exact kj_Mind_brokenBy_1_121 hk14 _ _ _ _ _ _ h
theorem kj_Mind_brokenBy_1_79 {A : Mm} {kf14 : Mm → Int32 → Int32 → Int32 → Int32 → Rs} (hk14 : ∀ (M : Mm) (b1 : Int32) (b2 : Int32) (b3 : Int32) (b4 : Int32), kJ A M → kp (kJ A) (kf14 M b1 b2 b3 b4)) (M : Mm) (v1 : Int32) (v2 : Int32) (v4 : Int32) (v5 : Int32) (t0 : Int32) (h : kJ A M) : kp (kJ A) (q_Mind_brokenBy_1_79 kf14 M v1 v2 v4 v5 t0) := by
  unfold q_Mind_brokenBy_1_79
  exact kj_Mind_brokenBy_1_170 hk14 _ _ _ _ _ _ h
theorem kj_Mind_brokenBy_1_78 {A : Mm} {kf14 : Mm → Int32 → Int32 → Int32 → Int32 → Rs} (hk14 : ∀ (M : Mm) (b1 : Int32) (b2 : Int32) (b3 : Int32) (b4 : Int32), kJ A M → kp (kJ A) (kf14 M b1 b2 b3 b4)) (M : Mm) (v1 : Int32) (v2 : Int32) (v4 : Int32) (v5 : Int32) (h : kJ A M) : kp (kJ A) (q_Mind_brokenBy_1_78 kf14 M v1 v2 v4 v5) := by
  unfold q_Mind_brokenBy_1_78
  exact kj_Mind_brokenBy_1_79 hk14 _ _ _ _ _ _ h
theorem kj_Mind_brokenBy_1_41 {A : Mm} {kf14 : Mm → Int32 → Int32 → Int32 → Int32 → Rs} (hk14 : ∀ (M : Mm) (b1 : Int32) (b2 : Int32) (b3 : Int32) (b4 : Int32), kJ A M → kp (kJ A) (kf14 M b1 b2 b3 b4)) (M : Mm) (v1 : Int32) (v2 : Int32) (v4 : Int32) (v5 : Int32) (t0 : Int32) (h : kJ A M) : kp (kJ A) (q_Mind_brokenBy_1_41 kf14 M v1 v2 v4 v5 t0) := by
  unfold q_Mind_brokenBy_1_41
  refine kp_ix ?_
  refine kp_if ?_ ?_
  · skip
    refine kp_if ?_ ?_
    · skip
      refine kp_ix ?_
      refine kp_cal (kj_Mind_isWritten_1 _ _ _ _ h) (fun m1 r2 h3 => ?_)
      refine kp_if ?_ ?_
      · skip
        exact kj_Mind_brokenBy_1_78 hk14 _ _ _ _ _ h3
      · skip
        exact kj_Mind_brokenBy_1_79 hk14 _ _ _ _ _ _ h3
    · skip
      exact kj_Mind_brokenBy_1_78 hk14 _ _ _ _ _ h
  · skip
    refine kp_ix ?_
    refine kp_if ?_ ?_
    · skip
      refine kp_if ?_ ?_
      · skip
        exact kj_Mind_brokenBy_1_120 hk14 _ _ _ _ _ h
      · skip
        refine kp_ix ?_
        refine kp_cal (kj_Mind_isWritten_1 _ _ _ _ h) (fun m4 r5 h6 => ?_)
        refine kp_if ?_ ?_
        · skip
          exact kj_Mind_brokenBy_1_120 hk14 _ _ _ _ _ h6
        · skip
          exact kj_Mind_brokenBy_1_121 hk14 _ _ _ _ _ _ h6
    · skip
      refine kp_ix ?_
      refine kp_cal (kj_Mind_isWritten_1 _ _ _ _ h) (fun m7 r8 h9 => ?_)
      refine kp_if ?_ ?_
      · skip
        exact kj_Mind_brokenBy_1_167 hk14 _ _ _ _ _ h9
      · skip
        refine kp_ix ?_
        refine kp_cal (kj_Mind_knownValue_1 _ _ h9) (fun m10 r11 h12 => ?_)
        refine kp_ix ?_
        refine kp_if ?_ ?_
        · skip
          exact kj_Mind_brokenBy_1_167 hk14 _ _ _ _ _ h12
        · skip
          exact kj_Mind_brokenBy_1_168 hk14 _ _ _ _ _ _ h12
theorem kj_Mind_brokenBy_1_14 {A : Mm} : ∀ (n' : Nat) (M : Mm) (v1 : Int32) (v2 : Int32) (v4 : Int32) (v5 : Int32), kJ A M → kp (kJ A) (q_Mind_brokenBy_1_14 n' M v1 v2 v4 v5) := by
  intro n'
  induction n' with
  | zero =>
    intro M v1 v2 v4 v5 h
    rw [q_Mind_brokenBy_1_14]
    exact kp_none
  | succ n' ih =>
    intro M v1 v2 v4 v5 h
    rw [q_Mind_brokenBy_1_14]
    refine kp_if ?_ ?_
    · skip
      exact kp_some h
    · skip
      refine kp_if ?_ ?_
      · skip
        exact kj_Mind_brokenBy_1_41 ih _ _ _ _ _ _ h
      · skip
        exact kj_Mind_brokenBy_1_41 ih _ _ _ _ _ _ h
theorem kj_Mind_brokenBy_1 {A : Mm} (M : Mm) (a1 : Int32) (a2 : Int32) (h : kJ A M) : kp (kJ A) (q_Mind_brokenBy_1 M a1 a2) := by
  unfold q_Mind_brokenBy_1
  exact kj_Mind_brokenBy_1_14 4000 _ _ _ _ _ h
theorem kj_Mind_write_1_136 {A : Mm} {kf11 : Mm → Int32 → Int32 → Int32 → Rs} (hk11 : ∀ (M : Mm) (b1 : Int32) (b2 : Int32) (b3 : Int32), kJ A M → kp (kJ A) (kf11 M b1 b2 b3)) (M : Mm) (v1 : Int32) (v2 : Int32) (v4 : Int32) (h : kJ A M) : kp (kJ A) (q_Mind_write_1_136 kf11 M v1 v2 v4) := by
  unfold q_Mind_write_1_136
  exact hk11 _ _ _ _ h
theorem kj_Mind_write_1_62 {A : Mm} {kf11 : Mm → Int32 → Int32 → Int32 → Rs} (hk11 : ∀ (M : Mm) (b1 : Int32) (b2 : Int32) (b3 : Int32), kJ A M → kp (kJ A) (kf11 M b1 b2 b3)) (M : Mm) (v1 : Int32) (v2 : Int32) (v4 : Int32) (h : kJ A M) : kp (kJ A) (q_Mind_write_1_62 kf11 M v1 v2 v4) := by
  unfold q_Mind_write_1_62
  refine kp_ix ?_
  refine kp_if ?_ ?_
  · skip
    refine kp_ix ?_
    refine kp_cal (kj_Mind_isWritten_1 _ _ _ _ h) (fun m1 r2 h3 => ?_)
    refine kp_if ?_ ?_
    · skip
      refine kp_ix ?_
      refine kp_cal (kj_Mind_isWritten_1 _ _ _ _ h3) (fun m4 r5 h6 => ?_)
      refine kp_if ?_ ?_
      · skip
        exact kj_Mind_write_1_136 hk11 _ _ _ _ h6
      · skip
        refine kp_st (kJ.st h6 (by decide)) (fun m7 h8 => ?_)
        exact kj_Mind_write_1_136 hk11 _ _ _ _ h8
    · skip
      refine kp_st (kJ.st h3 (by decide)) (fun m9 h10 => ?_)
      exact kj_Mind_write_1_136 hk11 _ _ _ _ h10
  · skip
    exact kj_Mind_write_1_136 hk11 _ _ _ _ h
theorem kj_Mind_write_1_11 {A : Mm} : ∀ (n' : Nat) (M : Mm) (v1 : Int32) (v2 : Int32) (v4 : Int32), kJ A M → kp (kJ A) (q_Mind_write_1_11 n' M v1 v2 v4) := by
  intro n'
  induction n' with
  | zero =>
    intro M v1 v2 v4 h
    rw [q_Mind_write_1_11]
    exact kp_none
  | succ n' ih =>
    intro M v1 v2 v4 h
    rw [q_Mind_write_1_11]
    refine kp_if ?_ ?_
    · skip
      refine kp_ix ?_
      refine kp_ix ?_
      refine kp_st (kJ.st h (by decide)) (fun m1 h2 => ?_)
      exact kp_some h2
    · skip
      refine kp_ix ?_
      refine kp_if ?_ ?_
      · skip
        refine kp_ix ?_
        refine kp_cal (kj_Mind_isWritten_1 _ _ _ _ h) (fun m3 r4 h5 => ?_)
        refine kp_if ?_ ?_
        · skip
          exact kj_Mind_write_1_62 ih _ _ _ _ h5
        · skip
          refine kp_st (kJ.st h5 (by decide)) (fun m6 h7 => ?_)
          exact kj_Mind_write_1_136 ih _ _ _ _ h7
      · skip
        exact kj_Mind_write_1_62 ih _ _ _ _ h
theorem kj_Mind_write_1 {A : Mm} (M : Mm) (a1 : Int32) (a2 : Int32) (h : kJ A M) : kp (kJ A) (q_Mind_write_1 M a1 a2) := by
  unfold q_Mind_write_1
  exact kj_Mind_write_1_11 4000 _ _ _ _ h
theorem kj_Plan_addTold {A : Mm} (M : Mm) (a1 : Int32) (a2 : Int32) (a3 : Int32) (h : kJ A M) : kp (kJ A) (q_Plan_addTold M a1 a2 a3) := by
  unfold q_Plan_addTold
  refine kp_if ?_ ?_
  · skip
    refine kp_if ?_ ?_
    · skip
      refine kp_ix ?_
      refine kp_lv (fun x1 => ?_)
      refine kp_cal (kj_Mind_brokenBy_1 _ _ _ h) (fun m2 r3 h4 => ?_)
      refine kp_if ?_ ?_
      · skip
        refine kp_cal (kj_Mind_write_1 _ _ _ h4) (fun m5 r6 h7 => ?_)
        refine kp_ix ?_
        refine kp_st (kJ.st h7 (by decide)) (fun m8 h9 => ?_)
        refine kp_ix ?_
        refine kp_st (kJ.st h9 (by decide)) (fun m10 h11 => ?_)
        refine kp_st (kJ.st h11 (by decide)) (fun m12 h13 => ?_)
        exact kp_some h13
      · skip
        refine kp_cal (kj_Integer_numberOfTrailingZeros _ _ h4) (fun m14 r15 h16 => ?_)
        refine kp_st (kJ.st h16 (by decide)) (fun m17 h18 => ?_)
        exact kp_some h18
    · skip
      exact kp_some h
  · skip
    exact kp_some h
theorem kj_Plan_addReach {A : Mm} (M : Mm) (a1 : Int32) (h : kJ A M) : kp (kJ A) (q_Plan_addReach M a1) := by
  unfold q_Plan_addReach
  refine kp_cal (kj_Mind_isThere_1 _ _ h) (fun m1 r2 h3 => ?_)
  refine kp_if ?_ ?_
  · skip
    refine kp_ix ?_
    refine kp_lv (fun x4 => ?_)
    refine kp_ix ?_
    refine kp_ix ?_
    refine kp_ix ?_
    refine kp_ix ?_
    refine kp_cal (kj_Plan_addTold _ _ _ _ h3) (fun m5 r6 h7 => ?_)
    exact kp_some h7
  · skip
    exact kp_some h3
theorem kj_Plan_addPut_24 {A : Mm} (M : Mm) (v1 : Int32) (v2 : Int32) (h : kJ A M) : kp (kJ A) (q_Plan_addPut_24 M v1 v2) := by
  unfold q_Plan_addPut_24
  refine kp_ix ?_
  refine kp_lv (fun x1 => ?_)
  refine kp_cal (kj_Plan_addReach _ _ h) (fun m2 r3 h4 => ?_)
  refine kp_ix ?_
  refine kp_ix ?_
  refine kp_cal (kj_Plan_addTold _ _ _ _ h4) (fun m5 r6 h7 => ?_)
  exact kp_some h7
theorem kj_Plan_addPut {A : Mm} (M : Mm) (a1 : Int32) (a2 : Int32) (h : kJ A M) : kp (kJ A) (q_Plan_addPut M a1 a2) := by
  unfold q_Plan_addPut
  refine kp_cal (kj_Layout_isKnown _ _ h) (fun m1 r2 h3 => ?_)
  refine kp_if ?_ ?_
  · skip
    exact kj_Plan_addPut_24 _ _ _ h3
  · skip
    refine kp_cal (kj_Mind_knownValue_1 _ _ h3) (fun m4 r5 h6 => ?_)
    refine kp_if ?_ ?_
    · skip
      exact kp_some h6
    · skip
      exact kj_Plan_addPut_24 _ _ _ h6
theorem kj_ChipMap_doWrites_15 {A : Mm} : ∀ (n' : Nat) (M : Mm) (v1 : Int32), kJ A M → kp (kJ A) (q_ChipMap_doWrites_15 n' M v1) := by
  intro n'
  induction n' with
  | zero =>
    intro M v1 h
    rw [q_ChipMap_doWrites_15]
    exact kp_none
  | succ n' ih =>
    intro M v1 h
    rw [q_ChipMap_doWrites_15]
    refine kp_if ?_ ?_
    · skip
      exact kp_some h
    · skip
      refine kp_ix ?_
      refine kp_ix ?_
      refine kp_cal (kj_Device_write _ _ _ h) (fun m1 r2 h3 => ?_)
      exact ih _ _ h3
theorem kj_ChipMap_doWrites {A : Mm} (M : Mm) (h : kJ A M) : kp (kJ A) (q_ChipMap_doWrites M) := by
  unfold q_ChipMap_doWrites
  refine kp_if ?_ ?_
  · skip
    exact kj_ChipMap_doWrites_15 4000 _ _ h
  · skip
    exact kp_some h
theorem kj_ChipMap_put {A : Mm} (M : Mm) (a1 : Int32) (a2 : Int32) (h : kJ A M) : kp (kJ A) (q_ChipMap_put M a1 a2) := by
  unfold q_ChipMap_put
  refine kp_cal (kj_Layout_canPut _ _ _ h) (fun m1 r2 h3 => ?_)
  refine kp_if ?_ ?_
  · skip
    exact kp_some h3
  · skip
    refine kp_if ?_ ?_
    · skip
      refine kp_cal (kj_Plan_begin _ h3) (fun m4 r5 h6 => ?_)
      refine kp_cal (kj_Plan_addPut _ _ _ h6) (fun m7 r8 h9 => ?_)
      refine kp_cal (kj_ChipMap_doWrites _ h9) (fun m10 r11 h12 => ?_)
      exact kp_some h12
    · skip
      exact kp_some h3
theorem kj_Layout_canFetch {A : Mm} (M : Mm) (a1 : Int32) (h : kJ A M) : kp (kJ A) (q_Layout_canFetch M a1) := by
  unfold q_Layout_canFetch
  refine kp_cal (kj_Layout_has _ _ h) (fun m1 r2 h3 => ?_)
  refine kp_if ?_ ?_
  · skip
    exact kp_some h3
  · skip
    refine kp_ix ?_
    refine kp_if ?_ ?_
    · skip
      exact kp_some h3
    · skip
      exact kp_some h3
theorem kj_Plan_addFetch {A : Mm} (M : Mm) (a1 : Int32) (h : kJ A M) : kp (kJ A) (q_Plan_addFetch M a1) := by
  unfold q_Plan_addFetch
  refine kp_ix ?_
  refine kp_if ?_ ?_
  · skip
    exact kp_some h
  · skip
    refine kp_ix ?_
    refine kp_cal (kj_Plan_addReach _ _ h) (fun m1 r2 h3 => ?_)
    exact kp_some h3
theorem kj_ChipMap_reachForFetch {A : Mm} (M : Mm) (a1 : Int32) (h : kJ A M) : kp (kJ A) (q_ChipMap_reachForFetch M a1) := by
  unfold q_ChipMap_reachForFetch
  refine kp_cal (kj_Plan_begin _ h) (fun m1 r2 h3 => ?_)
  refine kp_cal (kj_Plan_addFetch _ _ h3) (fun m4 r5 h6 => ?_)
  refine kp_cal (kj_ChipMap_doWrites _ h6) (fun m7 r8 h9 => ?_)
  refine kp_if ?_ ?_
  · skip
    exact kp_some h9
  · skip
    exact kp_some h9
theorem kj_Device_takeKept {A : Mm} (M : Mm) (a1 : Int32) (h : kJ A M) : kp (kJ A) (q_Device_takeKept M a1) := by
  unfold q_Device_takeKept
  refine kp_ix ?_
  refine kp_lv (fun x1 => ?_)
  refine kp_ix ?_
  refine kp_cal (kj_Layout_bitsOf _ _ _ h) (fun m2 r3 h4 => ?_)
  refine kp_ix ?_
  refine kp_ix ?_
  refine kp_ix ?_
  refine kp_st (kJ.st h4 (by decide)) (fun m5 h6 => ?_)
  exact kp_some h6
theorem kj_ChipMap_readOut {A : Mm} (M : Mm) (a1 : Int32) (h : kJ A M) : kp (kJ A) (q_ChipMap_readOut M a1) := by
  unfold q_ChipMap_readOut
  refine kp_ix ?_
  refine kp_lv (fun x1 => ?_)
  refine kp_if ?_ ?_
  · skip
    refine kp_cal (kj_Device_valueOf _ _ h) (fun m2 r3 h4 => ?_)
    exact kp_some h4
  · skip
    refine kp_ix ?_
    refine kp_lv (fun x5 => ?_)
    refine kp_cal (kj_Device_read _ _ h) (fun m6 r7 h8 => ?_)
    refine kp_if ?_ ?_
    · skip
      refine kp_cal (kj_Device_takeKept _ _ h8) (fun m9 r10 h11 => ?_)
      exact kp_some h11
    · skip
      refine kp_cal (kj_Layout_bitsOf _ _ _ h8) (fun m12 r13 h14 => ?_)
      exact kp_some h14
theorem kj_ChipMap_fetch_37 {A : Mm} (M : Mm) (h : kJ A M) : kp (kJ A) (q_ChipMap_fetch_37 M) := by
  unfold q_ChipMap_fetch_37
  exact kp_none
theorem kj_ChipMap_fetch {A : Mm} (M : Mm) (a1 : Int32) (h : kJ A M) : kp (kJ A) (q_ChipMap_fetch M a1) := by
  unfold q_ChipMap_fetch
  refine kp_cal (kj_Layout_canFetch _ _ h) (fun m1 r2 h3 => ?_)
  refine kp_if ?_ ?_
  · skip
    exact kp_none
  · skip
    refine kp_if ?_ ?_
    · skip
      exact kj_ChipMap_fetch_37 _ h3
    · skip
      refine kp_cal (kj_ChipMap_reachForFetch _ _ h3) (fun m4 r5 h6 => ?_)
      refine kp_if ?_ ?_
      · skip
        exact kj_ChipMap_fetch_37 _ h6
      · skip
        refine kp_cal (kj_ChipMap_readOut _ _ h6) (fun m7 r8 h9 => ?_)
        exact kp_some h9
theorem kj_Steps_isFull_1 {A : Mm} (M : Mm) (h : kJ A M) : kp (kJ A) (q_Steps_isFull_1 M) := by
  unfold q_Steps_isFull_1
  refine kp_if ?_ ?_
  · skip
    exact kp_some h
  · skip
    exact kp_some h
theorem kj_ChipMap_isStep {A : Mm} (M : Mm) (a1 : Int32) (a2 : Int32) (a3 : Int32) (h : kJ A M) : kp (kJ A) (q_ChipMap_isStep M a1 a2 a3) := by
  unfold q_ChipMap_isStep
  refine kp_if ?_ ?_
  · skip
    refine kp_cal (kj_Layout_canPut _ _ _ h) (fun m1 r2 h3 => ?_)
    refine kp_bz ?_
    exact kp_some h3
  · skip
    refine kp_if ?_ ?_
    · skip
      refine kp_cal (kj_Layout_canFetch _ _ h) (fun m4 r5 h6 => ?_)
      refine kp_bz ?_
      exact kp_some h6
    · skip
      refine kp_if ?_ ?_
      · skip
        refine kp_if ?_ ?_
        · skip
          exact kp_some h
        · skip
          refine kp_if ?_ ?_
          · skip
            exact kp_some h
          · skip
            exact kp_some h
      · skip
        refine kp_if ?_ ?_
        · skip
          exact kp_some h
        · skip
          exact kp_some h
theorem kj_Steps_append_1 {A : Mm} (M : Mm) (a1 : Int32) (a2 : Int32) (a3 : Int32) (h : kJ A M) : kp (kJ A) (q_Steps_append_1 M a1 a2 a3) := by
  unfold q_Steps_append_1
  refine kp_ix ?_
  refine kp_st (kJ.st h (by decide)) (fun m1 h2 => ?_)
  refine kp_ix ?_
  refine kp_st (kJ.st h2 (by decide)) (fun m3 h4 => ?_)
  refine kp_ix ?_
  refine kp_st (kJ.st h4 (by decide)) (fun m5 h6 => ?_)
  refine kp_st (kJ.st h6 (by decide)) (fun m7 h8 => ?_)
  exact kp_some h8
theorem kj_ChipMap_step {A : Mm} (M : Mm) (a1 : Int32) (a2 : Int32) (a3 : Int32) (h : kJ A M) : kp (kJ A) (q_ChipMap_step M a1 a2 a3) := by
  unfold q_ChipMap_step
  refine kp_cal (kj_Steps_isFull_1 _ h) (fun m1 r2 h3 => ?_)
  refine kp_if ?_ ?_
  · skip
    refine kp_cal (kj_ChipMap_hasMap _ h3) (fun m4 r5 h6 => ?_)
    refine kp_if ?_ ?_
    · skip
      exact kp_some h6
    · skip
      refine kp_cal (kj_ChipMap_isStep _ _ _ _ h6) (fun m7 r8 h9 => ?_)
      refine kp_if ?_ ?_
      · skip
        exact kp_some h9
      · skip
        refine kp_cal (kj_Steps_append_1 _ _ _ _ h9) (fun m10 r11 h12 => ?_)
        exact kp_some h12
  · skip
    exact kp_some h3
theorem kj_Steps_empty_1 {A : Mm} (M : Mm) (h : kJ A M) : kp (kJ A) (q_Steps_empty_1 M) := by
  unfold q_Steps_empty_1
  refine kp_lv (fun x1 => ?_)
  refine kp_st (kJ.st h (by decide)) (fun m2 h3 => ?_)
  exact kp_some h3
theorem kj_ChipMap_erase {A : Mm} (M : Mm) (h : kJ A M) : kp (kJ A) (q_ChipMap_erase M) := by
  unfold q_ChipMap_erase
  refine kp_cal (kj_Steps_empty_1 _ h) (fun m1 r2 h3 => ?_)
  exact kp_some h3
theorem kj_ChipMap_doStep {A : Mm} (M : Mm) (a1 : Int32) (h : kJ A M) : kp (kJ A) (q_ChipMap_doStep M a1) := by
  unfold q_ChipMap_doStep
  refine kp_ix ?_
  refine kp_lv (fun x1 => ?_)
  refine kp_ix ?_
  refine kp_if ?_ ?_
  · skip
    refine kp_cal (kj_ChipMap_reachForFetch _ _ h) (fun m2 r3 h4 => ?_)
    refine kp_if ?_ ?_
    · skip
      exact kp_some h4
    · skip
      refine kp_cal (kj_ChipMap_readOut _ _ h4) (fun m5 r6 h7 => ?_)
      exact kp_some h7
  · skip
    refine kp_cal (kj_Plan_begin _ h) (fun m8 r9 h10 => ?_)
    refine kp_ix ?_
    refine kp_cal (kj_Plan_addPut _ _ _ h10) (fun m11 r12 h13 => ?_)
    refine kp_cal (kj_ChipMap_doWrites _ h13) (fun m14 r15 h16 => ?_)
    refine kp_if ?_ ?_
    · skip
      exact kp_some h16
    · skip
      exact kp_some h16
theorem kj_ChipMap_run_137 {A : Mm} {kf26 : Mm → Int32 → Int32 → Int32 → Int32 → Rs} (hk26 : ∀ (M : Mm) (b1 : Int32) (b2 : Int32) (b3 : Int32) (b4 : Int32), kJ A M → kp (kJ A) (kf26 M b1 b2 b3 b4)) (M : Mm) (v1 : Int32) (v2 : Int32) (v3 : Int32) (v4 : Int32) (h : kJ A M) : kp (kJ A) (q_ChipMap_run_137 kf26 M v1 v2 v3 v4) := by
  unfold q_ChipMap_run_137
  exact hk26 _ _ _ _ _ h
theorem kj_ChipMap_run_115 {A : Mm} {kf26 : Mm → Int32 → Int32 → Int32 → Int32 → Rs} (hk26 : ∀ (M : Mm) (b1 : Int32) (b2 : Int32) (b3 : Int32) (b4 : Int32), kJ A M → kp (kJ A) (kf26 M b1 b2 b3 b4)) (M : Mm) (v1 : Int32) (v3 : Int32) (v4 : Int32) (t0 : Int32) (h : kJ A M) : kp (kJ A) (q_ChipMap_run_115 kf26 M v1 v3 v4 t0) := by
  unfold q_ChipMap_run_115
  exact kj_ChipMap_run_137 hk26 _ _ _ _ _ h
theorem kj_ChipMap_run_90 {A : Mm} {kf26 : Mm → Int32 → Int32 → Int32 → Int32 → Rs} (hk26 : ∀ (M : Mm) (b1 : Int32) (b2 : Int32) (b3 : Int32) (b4 : Int32), kJ A M → kp (kJ A) (kf26 M b1 b2 b3 b4)) (M : Mm) (v1 : Int32) (v2 : Int32) (v3 : Int32) (v4 : Int32) (t0 : Int32) (h : kJ A M) : kp (kJ A) (q_ChipMap_run_90 kf26 M v1 v2 v3 v4 t0) := by
  unfold q_ChipMap_run_90
  refine kp_if ?_ ?_
  · skip
    exact kj_ChipMap_run_115 hk26 _ _ _ _ _ h
  · skip
    refine kp_ix ?_
    exact kj_ChipMap_run_115 hk26 _ _ _ _ _ h
theorem kj_ChipMap_run_26 {A : Mm} : ∀ (n' : Nat) (M : Mm) (v1 : Int32) (v2 : Int32) (v3 : Int32) (v4 : Int32), kJ A M → kp (kJ A) (q_ChipMap_run_26 n' M v1 v2 v3 v4) := by
  intro n'
  induction n' with
  | zero =>
    intro M v1 v2 v3 v4 h
    rw [q_ChipMap_run_26]
    exact kp_none
  | succ n' ih =>
    intro M v1 v2 v3 v4 h
    rw [q_ChipMap_run_26]
    refine kp_if ?_ ?_
    · skip
      refine kp_if ?_ ?_
      · skip
        exact kp_some h
      · skip
        exact kp_some h
    · skip
      refine kp_if ?_ ?_
      · skip
        exact kp_some h
      · skip
        refine kp_ix ?_
        refine kp_if ?_ ?_
        · skip
          exact kp_some h
        · skip
          refine kp_ix ?_
          refine kp_if ?_ ?_
          · skip
            refine kp_if ?_ ?_
            · skip
              exact kj_ChipMap_run_90 ih _ _ _ _ _ _ h
            · skip
              exact kj_ChipMap_run_90 ih _ _ _ _ _ _ h
          · skip
            refine kp_cal (kj_ChipMap_doStep _ _ h) (fun m1 r2 h3 => ?_)
            refine kp_if ?_ ?_
            · skip
              exact kp_some h3
            · skip
              exact kj_ChipMap_run_137 ih _ _ _ _ _ h3
theorem kj_ChipMap_run {A : Mm} (M : Mm) (a1 : Int32) (h : kJ A M) : kp (kJ A) (q_ChipMap_run M a1) := by
  unfold q_ChipMap_run
  refine kp_cal (kj_ChipMap_hasMap _ h) (fun m1 r2 h3 => ?_)
  refine kp_if ?_ ?_
  · skip
    exact kp_some h3
  · skip
    refine kp_if ?_ ?_
    · skip
      exact kj_ChipMap_run_26 4000 _ _ _ _ _ h3
    · skip
      exact kp_some h3
theorem kj_t_ChipMap_fetch_37 {A : Mm} (M : Mm) (h : kJ A M) : kp (kJ A) (qt_ChipMap_fetch_37 M) := by
  unfold qt_ChipMap_fetch_37
  exact kp_some h
theorem kj_t_ChipMap_fetch {A : Mm} (M : Mm) (a1 : Int32) (h : kJ A M) : kp (kJ A) (qt_ChipMap_fetch M a1) := by
  unfold qt_ChipMap_fetch
  refine kp_cal (kj_Layout_canFetch _ _ h) (fun m1 r2 h3 => ?_)
  refine kp_if ?_ ?_
  · skip
    exact kp_some h3
  · skip
    refine kp_if ?_ ?_
    · skip
      exact kj_t_ChipMap_fetch_37 _ h3
    · skip
      refine kp_cal (kj_ChipMap_reachForFetch _ _ h3) (fun m4 r5 h6 => ?_)
      refine kp_if ?_ ?_
      · skip
        exact kj_t_ChipMap_fetch_37 _ h6
      · skip
        refine kp_cal (kj_ChipMap_readOut _ _ h6) (fun m7 r8 h9 => ?_)
        exact kp_none
theorem ke_ChipMap_fault {A : Mm} (M : Mm) (a1 : Int32) (h : kE A M) : kp (kE A) (q_ChipMap_fault M a1) := by
  unfold q_ChipMap_fault
  refine kp_if ?_ ?_
  · skip
    exact kp_some h
  · skip
    refine kp_if ?_ ?_
    · skip
      exact kp_some h
    · skip
      exact kp_some h
theorem ke_Layout_has {A : Mm} (M : Mm) (a1 : Int32) (h : kE A M) : kp (kE A) (q_Layout_has M a1) := by
  unfold q_Layout_has
  refine kp_if ?_ ?_
  · skip
    exact kp_some h
  · skip
    refine kp_if ?_ ?_
    · skip
      exact kp_some h
    · skip
      refine kp_ix ?_
      refine kp_if ?_ ?_
      · skip
        exact kp_some h
      · skip
        exact kp_some h
theorem ke_Layout_bitsOf {A : Mm} (M : Mm) (a1 : Int32) (a2 : Int32) (h : kE A M) : kp (kE A) (q_Layout_bitsOf M a1 a2) := by
  unfold q_Layout_bitsOf
  refine kp_ix ?_
  refine kp_ix ?_
  exact kp_some h
theorem ke_Device_valueOf {A : Mm} (M : Mm) (a1 : Int32) (h : kE A M) : kp (kE A) (q_Device_valueOf M a1) := by
  unfold q_Device_valueOf
  refine kp_ix ?_
  refine kp_lv (fun x1 => ?_)
  refine kp_ix ?_
  refine kp_ix ?_
  refine kp_cal (ke_Layout_bitsOf _ _ _ h) (fun m2 r3 h4 => ?_)
  exact kp_some h4
theorem ke_ChipMap_field {A : Mm} (M : Mm) (a1 : Int32) (a2 : Int32) (h : kE A M) : kp (kE A) (q_ChipMap_field M a1 a2) := by
  unfold q_ChipMap_field
  refine kp_cal (ke_Layout_has _ _ h) (fun m1 r2 h3 => ?_)
  refine kp_if ?_ ?_
  · skip
    exact kp_some h3
  · skip
    refine kp_if ?_ ?_
    · skip
      refine kp_ix ?_
      exact kp_some h3
    · skip
      refine kp_if ?_ ?_
      · skip
        refine kp_ix ?_
        exact kp_some h3
      · skip
        refine kp_if ?_ ?_
        · skip
          refine kp_ix ?_
          exact kp_some h3
        · skip
          refine kp_if ?_ ?_
          · skip
            refine kp_cal (ke_Device_valueOf _ _ h3) (fun m4 r5 h6 => ?_)
            exact kp_some h6
          · skip
            refine kp_if ?_ ?_
            · skip
              refine kp_ix ?_
              refine kp_ix ?_
              refine kp_cal (ke_Layout_bitsOf _ _ _ h3) (fun m7 r8 h9 => ?_)
              exact kp_some h9
            · skip
              exact kp_some h3
theorem ke_Log_rowOf {A : Mm} (M : Mm) (a1 : Int32) (h : kE A M) : kp (kE A) (q_Log_rowOf M a1) := by
  unfold q_Log_rowOf
  refine kp_if ?_ ?_
  · skip
    exact kp_some h
  · skip
    refine kp_if ?_ ?_
    · skip
      exact kp_some h
    · skip
      refine kp_if ?_ ?_
      · skip
        exact kp_some h
      · skip
        exact kp_some h
theorem ke_ChipMap_trace {A : Mm} (M : Mm) (a1 : Int32) (a2 : Int32) (h : kE A M) : kp (kE A) (q_ChipMap_trace M a1 a2) := by
  unfold q_ChipMap_trace
  refine kp_cal (ke_Log_rowOf _ _ h) (fun m1 r2 h3 => ?_)
  refine kp_if ?_ ?_
  · skip
    exact kp_some h3
  · skip
    refine kp_if ?_ ?_
    · skip
      refine kp_ix ?_
      exact kp_some h3
    · skip
      refine kp_if ?_ ?_
      · skip
        refine kp_ix ?_
        exact kp_some h3
      · skip
        refine kp_if ?_ ?_
        · skip
          refine kp_ix ?_
          exact kp_some h3
        · skip
          exact kp_some h3
theorem ke_ChipMap_found {A : Mm} (M : Mm) (a1 : Int32) (h : kE A M) : kp (kE A) (q_ChipMap_found M a1) := by
  unfold q_ChipMap_found
  refine kp_if ?_ ?_
  · skip
    exact kp_some h
  · skip
    refine kp_if ?_ ?_
    · skip
      refine kp_if ?_ ?_
      · skip
        exact kp_some h
      · skip
        exact kp_some h
    · skip
      exact kp_some h
theorem ke_ChipMap_state {A : Mm} (M : Mm) (a1 : Int32) (h : kE A M) : kp (kE A) (q_ChipMap_state M a1) := by
  unfold q_ChipMap_state
  refine kp_if ?_ ?_
  · skip
    exact kp_some h
  · skip
    refine kp_if ?_ ?_
    · skip
      exact kp_some h
    · skip
      refine kp_if ?_ ?_
      · skip
        exact kp_some h
      · skip
        refine kp_if ?_ ?_
        · skip
          exact kp_some h
        · skip
          refine kp_if ?_ ?_
          · skip
            exact kp_some h
          · skip
            exact kp_some h
theorem kn_ChipMapModel_fault {A : Mm} (M : Mm) (a1 : Int32) (h : kN A M) : kp (kN A) (q_ChipMapModel_fault M a1) := by
  unfold q_ChipMapModel_fault
  refine kp_st (kN.s0 h rfl) (fun m1 h2 => ?_)
  refine kp_if ?_ ?_
  · skip
    exact kp_some h2
  · skip
    refine kp_if ?_ ?_
    · skip
      exact kp_some h2
    · skip
      exact kp_some h2
theorem kn_ChipMapModel_isField {A : Mm} (M : Mm) (a1 : Int32) (h : kN A M) : kp (kN A) (q_ChipMapModel_isField M a1) := by
  unfold q_ChipMapModel_isField
  refine kp_if ?_ ?_
  · skip
    exact kp_some h
  · skip
    refine kp_if ?_ ?_
    · skip
      exact kp_some h
    · skip
      refine kp_if ?_ ?_
      · skip
        exact kp_some h
      · skip
        refine kp_ix ?_
        refine kp_if ?_ ?_
        · skip
          exact kp_some h
        · skip
          exact kp_some h
theorem kn_ChipMapModel_field {A : Mm} (M : Mm) (a1 : Int32) (a2 : Int32) (h : kN A M) : kp (kN A) (q_ChipMapModel_field M a1 a2) := by
  unfold q_ChipMapModel_field
  refine kp_st (kN.s0 h rfl) (fun m1 h2 => ?_)
  refine kp_cal (kn_ChipMapModel_isField _ _ h2) (fun m3 r4 h5 => ?_)
  refine kp_if ?_ ?_
  · skip
    exact kp_some h5
  · skip
    refine kp_if ?_ ?_
    · skip
      exact kp_some h5
    · skip
      refine kp_if ?_ ?_
      · skip
        refine kp_if ?_ ?_
        · skip
          refine kp_ix ?_
          exact kp_some h5
        · skip
          refine kp_if ?_ ?_
          · skip
            refine kp_ix ?_
            exact kp_some h5
          · skip
            refine kp_if ?_ ?_
            · skip
              refine kp_ix ?_
              exact kp_some h5
            · skip
              refine kp_if ?_ ?_
              · skip
                refine kp_ix ?_
                exact kp_some h5
              · skip
                refine kp_ix ?_
                exact kp_some h5
      · skip
        exact kp_some h5
theorem kn_ChipMapModel_trace_1 {A : Mm} (M : Mm) (a1 : Int32) (a2 : Int32) (h : kN A M) : kp (kN A) (q_ChipMapModel_trace_1 M a1 a2) := by
  unfold q_ChipMapModel_trace_1
  refine kp_st (kN.s0 h rfl) (fun m1 h2 => ?_)
  refine kp_if ?_ ?_
  · skip
    exact kp_some h2
  · skip
    refine kp_if ?_ ?_
    · skip
      exact kp_some h2
    · skip
      refine kp_if ?_ ?_
      · skip
        exact kp_some h2
      · skip
        refine kp_if ?_ ?_
        · skip
          exact kp_some h2
        · skip
          refine kp_if ?_ ?_
          · skip
            refine kp_lv (fun x3 => ?_)
            refine kp_if ?_ ?_
            · skip
              refine kp_ix ?_
              exact kp_some h2
            · skip
              refine kp_if ?_ ?_
              · skip
                refine kp_ix ?_
                exact kp_some h2
              · skip
                refine kp_ix ?_
                exact kp_some h2
          · skip
            exact kp_some h2
theorem kn_ChipMapModel_found {A : Mm} (M : Mm) (a1 : Int32) (h : kN A M) : kp (kN A) (q_ChipMapModel_found M a1) := by
  unfold q_ChipMapModel_found
  refine kp_st (kN.s0 h rfl) (fun m1 h2 => ?_)
  refine kp_if ?_ ?_
  · skip
    exact kp_some h2
  · skip
    refine kp_if ?_ ?_
    · skip
      exact kp_some h2
    · skip
      exact kp_some h2
theorem kn_ChipMapModel_state {A : Mm} (M : Mm) (a1 : Int32) (h : kN A M) : kp (kN A) (q_ChipMapModel_state M a1) := by
  unfold q_ChipMapModel_state
  refine kp_st (kN.s0 h rfl) (fun m1 h2 => ?_)
  refine kp_if ?_ ?_
  · skip
    exact kp_some h2
  · skip
    refine kp_if ?_ ?_
    · skip
      exact kp_some h2
    · skip
      refine kp_if ?_ ?_
      · skip
        exact kp_some h2
      · skip
        refine kp_if ?_ ?_
        · skip
          exact kp_some h2
        · skip
          refine kp_if ?_ ?_
          · skip
            exact kp_some h2
          · skip
            exact kp_some h2
theorem kg_ChipMapModel_resetDevice_55 {A : Mm} : ∀ (n' : Nat) (M : Mm) (v1 : Int32), kG A M → kp (kG A) (q_ChipMapModel_resetDevice_55 n' M v1) := by
  intro n'
  induction n' with
  | zero =>
    intro M v1 h
    rw [q_ChipMapModel_resetDevice_55]
    exact kp_none
  | succ n' ih =>
    intro M v1 h
    rw [q_ChipMapModel_resetDevice_55]
    refine kp_if ?_ ?_
    · skip
      exact kp_some h
    · skip
      refine kp_ix ?_
      refine kp_st (kG.st h (by decide)) (fun m1 h2 => ?_)
      exact ih _ _ h2
theorem kg_ChipMapModel_resetDevice_32 {A : Mm} {kf2 : Mm → Int32 → Rs} (hk2 : ∀ (M : Mm) (b1 : Int32), kG A M → kp (kG A) (kf2 M b1)) (M : Mm) (v1 : Int32) (t0 : Int32) (t1 : Int32) (h : kG A M) : kp (kG A) (q_ChipMapModel_resetDevice_32 kf2 M v1 t0 t1) := by
  unfold q_ChipMapModel_resetDevice_32
  refine kp_ix ?_
  refine kp_st (kG.st h (by decide)) (fun m1 h2 => ?_)
  refine kp_ix ?_
  refine kp_st (kG.st h2 (by decide)) (fun m3 h4 => ?_)
  refine kp_ix ?_
  refine kp_st (kG.st h4 (by decide)) (fun m5 h6 => ?_)
  exact hk2 _ _ h6
theorem kg_ChipMapModel_resetDevice_2 {A : Mm} : ∀ (n' : Nat) (M : Mm) (v1 : Int32), kG A M → kp (kG A) (q_ChipMapModel_resetDevice_2 n' M v1) := by
  intro n'
  induction n' with
  | zero =>
    intro M v1 h
    rw [q_ChipMapModel_resetDevice_2]
    exact kp_none
  | succ n' ih =>
    intro M v1 h
    rw [q_ChipMapModel_resetDevice_2]
    refine kp_if ?_ ?_
    · skip
      exact kg_ChipMapModel_resetDevice_55 4000 _ _ h
    · skip
      refine kp_ix ?_
      refine kp_if ?_ ?_
      · skip
        exact kg_ChipMapModel_resetDevice_32 ih _ _ _ _ h
      · skip
        refine kp_ix ?_
        exact kg_ChipMapModel_resetDevice_32 ih _ _ _ _ h
theorem kg_ChipMapModel_resetDevice {A : Mm} (M : Mm) (h : kG A M) : kp (kG A) (q_ChipMapModel_resetDevice M) := by
  unfold q_ChipMapModel_resetDevice
  exact kg_ChipMapModel_resetDevice_2 4000 _ _ h
theorem kg_ChipMapModel_resetAll {A : Mm} (M : Mm) (h : kG A M) : kp (kG A) (q_ChipMapModel_resetAll M) := by
  unfold q_ChipMapModel_resetAll
  refine kp_cal (kg_ChipMapModel_resetDevice _ h) (fun m1 r2 h3 => ?_)
  refine kp_st (kG.s0 h3 (by decide)) (fun m4 h5 => ?_)
  refine kp_st (kG.s0 h5 (by decide)) (fun m6 h7 => ?_)
  refine kp_st (kG.s0 h7 (by decide)) (fun m8 h9 => ?_)
  exact kp_some h9
theorem kg_ChipMapModel_compile_230 {A : Mm} : ∀ (n' : Nat) (M : Mm) (v2 : Int32), kG A M → kp (kG A) (q_ChipMapModel_compile_230 n' M v2) := by
  intro n'
  induction n' with
  | zero =>
    intro M v2 h
    rw [q_ChipMapModel_compile_230]
    exact kp_none
  | succ n' ih =>
    intro M v2 h
    rw [q_ChipMapModel_compile_230]
    refine kp_if ?_ ?_
    · skip
      refine kp_st (kG.s0 h (by decide)) (fun m1 h2 => ?_)
      refine kp_st (kG.s0 h2 (by decide)) (fun m3 h4 => ?_)
      refine kp_st (kG.s0 h4 (by decide)) (fun m5 h6 => ?_)
      refine kp_cal (kg_ChipMapModel_resetAll _ h6) (fun m7 r8 h9 => ?_)
      exact kp_some h9
    · skip
      refine kp_ix ?_
      refine kp_ix ?_
      refine kp_st (kG.st h (by decide)) (fun m10 h11 => ?_)
      refine kp_ix ?_
      refine kp_ix ?_
      refine kp_st (kG.st h11 (by decide)) (fun m12 h13 => ?_)
      refine kp_ix ?_
      refine kp_ix ?_
      refine kp_st (kG.st h13 (by decide)) (fun m14 h15 => ?_)
      refine kp_ix ?_
      refine kp_ix ?_
      refine kp_st (kG.st h15 (by decide)) (fun m16 h17 => ?_)
      exact ih _ _ h17
theorem kg_ChipMapModel_compile_123 {A : Mm} : ∀ (n' : Nat) (M : Mm) (v2 : Int32), kG A M → kp (kG A) (q_ChipMapModel_compile_123 n' M v2) := by
  intro n'
  induction n' with
  | zero =>
    intro M v2 h
    rw [q_ChipMapModel_compile_123]
    exact kp_none
  | succ n' ih =>
    intro M v2 h
    rw [q_ChipMapModel_compile_123]
    refine kp_if ?_ ?_
    · skip
      refine kp_st (kG.s0 h (by decide)) (fun m1 h2 => ?_)
      exact kg_ChipMapModel_compile_230 4000 _ _ h2
    · skip
      refine kp_ix ?_
      refine kp_lv (fun x3 => ?_)
      refine kp_ix ?_
      refine kp_st (kG.st h (by decide)) (fun m4 h5 => ?_)
      refine kp_ix ?_
      refine kp_ix ?_
      refine kp_st (kG.st h5 (by decide)) (fun m6 h7 => ?_)
      refine kp_ix ?_
      refine kp_ix ?_
      refine kp_st (kG.st h7 (by decide)) (fun m8 h9 => ?_)
      refine kp_ix ?_
      refine kp_ix ?_
      refine kp_st (kG.st h9 (by decide)) (fun m10 h11 => ?_)
      refine kp_ix ?_
      refine kp_ix ?_
      refine kp_ix ?_
      refine kp_st (kG.st h11 (by decide)) (fun m12 h13 => ?_)
      refine kp_ix ?_
      refine kp_ix ?_
      refine kp_st (kG.st h13 (by decide)) (fun m14 h15 => ?_)
      exact ih _ _ h15
theorem kg_ChipMapModel_compile_102 {A : Mm} : ∀ (n' : Nat) (M : Mm) (v2 : Int32), kG A M → kp (kG A) (q_ChipMapModel_compile_102 n' M v2) := by
  intro n'
  induction n' with
  | zero =>
    intro M v2 h
    rw [q_ChipMapModel_compile_102]
    exact kp_none
  | succ n' ih =>
    intro M v2 h
    rw [q_ChipMapModel_compile_102]
    refine kp_if ?_ ?_
    · skip
      exact kg_ChipMapModel_compile_123 4000 _ _ h
    · skip
      refine kp_ix ?_
      refine kp_st (kG.st h (by decide)) (fun m1 h2 => ?_)
      exact ih _ _ h2
theorem kg_ChipMapModel_compile_50 {A : Mm} : ∀ (n' : Nat) (M : Mm) (v2 : Int32), kG A M → kp (kG A) (q_ChipMapModel_compile_50 n' M v2) := by
  intro n'
  induction n' with
  | zero =>
    intro M v2 h
    rw [q_ChipMapModel_compile_50]
    exact kp_none
  | succ n' ih =>
    intro M v2 h
    rw [q_ChipMapModel_compile_50]
    refine kp_if ?_ ?_
    · skip
      exact kg_ChipMapModel_compile_102 4000 _ _ h
    · skip
      refine kp_ix ?_
      refine kp_ix ?_
      refine kp_st (kG.st h (by decide)) (fun m1 h2 => ?_)
      refine kp_ix ?_
      refine kp_ix ?_
      refine kp_st (kG.st h2 (by decide)) (fun m3 h4 => ?_)
      refine kp_ix ?_
      refine kp_ix ?_
      refine kp_st (kG.st h4 (by decide)) (fun m5 h6 => ?_)
      exact ih _ _ h6
