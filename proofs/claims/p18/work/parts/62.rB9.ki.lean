section
-- the plan leaves the long arrays alone
def kI (A M : Mm) : Prop := M.2 = A.2
theorem kI.st {A M : Mm} {k : Nat} {f : Nat → Int32} (h : kI A M) : kI A (stI M k f) := h
theorem pj_Layout_isKnown {A : Mm} (M : Mm) (a1 : Int32) (h : kI A M) : kp (kI A) (q_Layout_isKnown M a1) := by
  unfold q_Layout_isKnown
  refine kp_ix ?_
  refine kp_if ?_ ?_
  · skip
    exact kp_some h
  · skip
    refine kp_ix ?_
    refine kp_if ?_ ?_
    · skip
      exact kp_some h
    · skip
      exact kp_some h
theorem pj_Integer_numberOfTrailingZeros_74 {A : Mm} (M : Mm) (v0 : Int32) (v1 : Int32) (h : kI A M) : kp (kI A) (q_Integer_numberOfTrailingZeros_74 M v0 v1) := by
  unfold q_Integer_numberOfTrailingZeros_74
  exact kp_some h
theorem pj_Integer_numberOfTrailingZeros_62 {A : Mm} (M : Mm) (v0 : Int32) (v1 : Int32) (h : kI A M) : kp (kI A) (q_Integer_numberOfTrailingZeros_62 M v0 v1) := by
  unfold q_Integer_numberOfTrailingZeros_62
  refine kp_if ?_ ?_
  · skip
    exact pj_Integer_numberOfTrailingZeros_74 _ _ _ h
  · skip
    refine kp_lv (fun x1 => ?_)
    exact pj_Integer_numberOfTrailingZeros_74 _ _ _ h
theorem pj_Integer_numberOfTrailingZeros_49 {A : Mm} (M : Mm) (v0 : Int32) (v1 : Int32) (h : kI A M) : kp (kI A) (q_Integer_numberOfTrailingZeros_49 M v0 v1) := by
  unfold q_Integer_numberOfTrailingZeros_49
  refine kp_if ?_ ?_
  · skip
    exact pj_Integer_numberOfTrailingZeros_62 _ _ _ h
  · skip
    refine kp_lv (fun x1 => ?_)
    exact pj_Integer_numberOfTrailingZeros_62 _ _ _ h
theorem pj_Integer_numberOfTrailingZeros_34 {A : Mm} (M : Mm) (v0 : Int32) (v1 : Int32) (h : kI A M) : kp (kI A) (q_Integer_numberOfTrailingZeros_34 M v0 v1) := by
  unfold q_Integer_numberOfTrailingZeros_34
  refine kp_if ?_ ?_
  · skip
    exact pj_Integer_numberOfTrailingZeros_49 _ _ _ h
  · skip
    refine kp_lv (fun x1 => ?_)
    exact pj_Integer_numberOfTrailingZeros_49 _ _ _ h
theorem pj_Integer_numberOfTrailingZeros {A : Mm} (M : Mm) (a0 : Int32) (h : kI A M) : kp (kI A) (q_Integer_numberOfTrailingZeros M a0) := by
  unfold q_Integer_numberOfTrailingZeros
  refine kp_lv (fun x1 => ?_)
  refine kp_if ?_ ?_
  · skip
    refine kp_if ?_ ?_
    · skip
      exact pj_Integer_numberOfTrailingZeros_34 _ _ _ h
    · skip
      refine kp_lv (fun x2 => ?_)
      exact pj_Integer_numberOfTrailingZeros_34 _ _ _ h
  · skip
    exact kp_some h
theorem pj_Mind_knownValue_1 {A : Mm} (M : Mm) (a1 : Int32) (h : kI A M) : kp (kI A) (q_Mind_knownValue_1 M a1) := by
  unfold q_Mind_knownValue_1
  refine kp_ix ?_
  refine kp_ix ?_
  refine kp_ix ?_
  refine kp_ix ?_
  exact kp_some h
theorem pj_Mind_isThere_1 {A : Mm} (M : Mm) (a1 : Int32) (h : kI A M) : kp (kI A) (q_Mind_isThere_1 M a1) := by
  unfold q_Mind_isThere_1
  refine kp_ix ?_
  refine kp_lv (fun x1 => ?_)
  refine kp_if ?_ ?_
  · skip
    exact kp_some h
  · skip
    refine kp_cal (pj_Mind_knownValue_1 _ _ h) (fun m2 r3 h4 => ?_)
    refine kp_ix ?_
    refine kp_if ?_ ?_
    · skip
      exact kp_some h4
    · skip
      exact kp_some h4
theorem pj_Mind_isWritten_1 {A : Mm} (M : Mm) (a1 : Int32) (a2 : Int32) (a3 : Int32) (h : kI A M) : kp (kI A) (q_Mind_isWritten_1 M a1 a2 a3) := by
  unfold q_Mind_isWritten_1
  refine kp_ix ?_
  refine kp_if ?_ ?_
  · skip
    refine kp_ix ?_
    refine kp_ix ?_
    refine kp_if ?_ ?_
    · skip
      exact kp_some h
    · skip
      exact kp_some h
  · skip
    exact kp_some h
theorem pj_Mind_brokenBy_1_184 {A : Mm} {kf14 : Mm → Int32 → Int32 → Int32 → Int32 → Rs} (hk14 : ∀ (M : Mm) (b1 : Int32) (b2 : Int32) (b3 : Int32) (b4 : Int32), kI A M → kp (kI A) (kf14 M b1 b2 b3 b4)) (M : Mm) (v1 : Int32) (v2 : Int32) (v4 : Int32) (v5 : Int32) (h : kI A M) : kp (kI A) (q_Mind_brokenBy_1_184 kf14 M v1 v2 v4 v5) := by
  unfold q_Mind_brokenBy_1_184
  exact hk14 _ _ _ _ _ h
theorem pj_Mind_brokenBy_1_170 {A : Mm} {kf14 : Mm → Int32 → Int32 → Int32 → Int32 → Rs} (hk14 : ∀ (M : Mm) (b1 : Int32) (b2 : Int32) (b3 : Int32) (b4 : Int32), kI A M → kp (kI A) (kf14 M b1 b2 b3 b4)) (M : Mm) (v1 : Int32) (v2 : Int32) (v4 : Int32) (v5 : Int32) (v7 : Int32) (h : kI A M) : kp (kI A) (q_Mind_brokenBy_1_170 kf14 M v1 v2 v4 v5 v7) := by
  unfold q_Mind_brokenBy_1_170
  refine kp_if ?_ ?_
  · skip
    exact pj_Mind_brokenBy_1_184 hk14 _ _ _ _ _ h
  · skip
    refine kp_lv (fun x1 => ?_)
    exact pj_Mind_brokenBy_1_184 hk14 _ _ _ _ _ h
theorem pj_Mind_brokenBy_1_168 {A : Mm} {kf14 : Mm → Int32 → Int32 → Int32 → Int32 → Rs} (hk14 : ∀ (M : Mm) (b1 : Int32) (b2 : Int32) (b3 : Int32) (b4 : Int32), kI A M → kp (kI A) (kf14 M b1 b2 b3 b4)) (M : Mm) (v1 : Int32) (v2 : Int32) (v4 : Int32) (v5 : Int32) (t0 : Int32) (h : kI A M) : kp (kI A) (q_Mind_brokenBy_1_168 kf14 M v1 v2 v4 v5 t0) := by
  unfold q_Mind_brokenBy_1_168
  exact pj_Mind_brokenBy_1_170 hk14 _ _ _ _ _ _ h
theorem pj_Mind_brokenBy_1_167 {A : Mm} {kf14 : Mm → Int32 → Int32 → Int32 → Int32 → Rs} (hk14 : ∀ (M : Mm) (b1 : Int32) (b2 : Int32) (b3 : Int32) (b4 : Int32), kI A M → kp (kI A) (kf14 M b1 b2 b3 b4)) (M : Mm) (v1 : Int32) (v2 : Int32) (v4 : Int32) (v5 : Int32) (h : kI A M) : kp (kI A) (q_Mind_brokenBy_1_167 kf14 M v1 v2 v4 v5) := by
  unfold q_Mind_brokenBy_1_167
  exact pj_Mind_brokenBy_1_168 hk14 _ _ _ _ _ _ h
theorem pj_Mind_brokenBy_1_121 {A : Mm} {kf14 : Mm → Int32 → Int32 → Int32 → Int32 → Rs} (hk14 : ∀ (M : Mm) (b1 : Int32) (b2 : Int32) (b3 : Int32) (b4 : Int32), kI A M → kp (kI A) (kf14 M b1 b2 b3 b4)) (M : Mm) (v1 : Int32) (v2 : Int32) (v4 : Int32) (v5 : Int32) (t0 : Int32) (h : kI A M) : kp (kI A) (q_Mind_brokenBy_1_121 kf14 M v1 v2 v4 v5 t0) := by
  unfold q_Mind_brokenBy_1_121
  exact pj_Mind_brokenBy_1_170 hk14 _ _ _ _ _ _ h
theorem pj_Mind_brokenBy_1_120 {A : Mm} {kf14 : Mm → Int32 → Int32 → Int32 → Int32 → Rs} (hk14 : ∀ (M : Mm) (b1 : Int32) (b2 : Int32) (b3 : Int32) (b4 : Int32), kI A M → kp (kI A) (kf14 M b1 b2 b3 b4)) (M : Mm) (v1 : Int32) (v2 : Int32) (v4 : Int32) (v5 : Int32) (h : kI A M) : kp (kI A) (q_Mind_brokenBy_1_120 kf14 M v1 v2 v4 v5) := by
  unfold q_Mind_brokenBy_1_120
  exact pj_Mind_brokenBy_1_121 hk14 _ _ _ _ _ _ h
theorem pj_Mind_brokenBy_1_79 {A : Mm} {kf14 : Mm → Int32 → Int32 → Int32 → Int32 → Rs} (hk14 : ∀ (M : Mm) (b1 : Int32) (b2 : Int32) (b3 : Int32) (b4 : Int32), kI A M → kp (kI A) (kf14 M b1 b2 b3 b4)) (M : Mm) (v1 : Int32) (v2 : Int32) (v4 : Int32) (v5 : Int32) (t0 : Int32) (h : kI A M) : kp (kI A) (q_Mind_brokenBy_1_79 kf14 M v1 v2 v4 v5 t0) := by
  unfold q_Mind_brokenBy_1_79
  exact pj_Mind_brokenBy_1_170 hk14 _ _ _ _ _ _ h
theorem pj_Mind_brokenBy_1_78 {A : Mm} {kf14 : Mm → Int32 → Int32 → Int32 → Int32 → Rs} (hk14 : ∀ (M : Mm) (b1 : Int32) (b2 : Int32) (b3 : Int32) (b4 : Int32), kI A M → kp (kI A) (kf14 M b1 b2 b3 b4)) (M : Mm) (v1 : Int32) (v2 : Int32) (v4 : Int32) (v5 : Int32) (h : kI A M) : kp (kI A) (q_Mind_brokenBy_1_78 kf14 M v1 v2 v4 v5) := by
  unfold q_Mind_brokenBy_1_78
  exact pj_Mind_brokenBy_1_79 hk14 _ _ _ _ _ _ h
theorem pj_Mind_brokenBy_1_41 {A : Mm} {kf14 : Mm → Int32 → Int32 → Int32 → Int32 → Rs} (hk14 : ∀ (M : Mm) (b1 : Int32) (b2 : Int32) (b3 : Int32) (b4 : Int32), kI A M → kp (kI A) (kf14 M b1 b2 b3 b4)) (M : Mm) (v1 : Int32) (v2 : Int32) (v4 : Int32) (v5 : Int32) (t0 : Int32) (h : kI A M) : kp (kI A) (q_Mind_brokenBy_1_41 kf14 M v1 v2 v4 v5 t0) := by
  unfold q_Mind_brokenBy_1_41
  refine kp_ix ?_
  refine kp_if ?_ ?_
  · skip
    refine kp_if ?_ ?_
    · skip
      refine kp_ix ?_
      refine kp_cal (pj_Mind_isWritten_1 _ _ _ _ h) (fun m1 r2 h3 => ?_)
      refine kp_if ?_ ?_
      · skip
        exact pj_Mind_brokenBy_1_78 hk14 _ _ _ _ _ h3
      · skip
        exact pj_Mind_brokenBy_1_79 hk14 _ _ _ _ _ _ h3
    · skip
      exact pj_Mind_brokenBy_1_78 hk14 _ _ _ _ _ h
  · skip
    refine kp_ix ?_
    refine kp_if ?_ ?_
    · skip
      refine kp_if ?_ ?_
      · skip
        exact pj_Mind_brokenBy_1_120 hk14 _ _ _ _ _ h
      · skip
        refine kp_ix ?_
        refine kp_cal (pj_Mind_isWritten_1 _ _ _ _ h) (fun m4 r5 h6 => ?_)
        refine kp_if ?_ ?_
        · skip
          exact pj_Mind_brokenBy_1_120 hk14 _ _ _ _ _ h6
        · skip
          exact pj_Mind_brokenBy_1_121 hk14 _ _ _ _ _ _ h6
    · skip
      refine kp_ix ?_
      refine kp_cal (pj_Mind_isWritten_1 _ _ _ _ h) (fun m7 r8 h9 => ?_)
      refine kp_if ?_ ?_
      · skip
        exact pj_Mind_brokenBy_1_167 hk14 _ _ _ _ _ h9
      · skip
        refine kp_ix ?_
        refine kp_cal (pj_Mind_knownValue_1 _ _ h9) (fun m10 r11 h12 => ?_)
        refine kp_ix ?_
        refine kp_if ?_ ?_
        · skip
          exact pj_Mind_brokenBy_1_167 hk14 _ _ _ _ _ h12
        · skip
          exact pj_Mind_brokenBy_1_168 hk14 _ _ _ _ _ _ h12
theorem pj_Mind_brokenBy_1_14 {A : Mm} : ∀ (n' : Nat) (M : Mm) (v1 : Int32) (v2 : Int32) (v4 : Int32) (v5 : Int32), kI A M → kp (kI A) (q_Mind_brokenBy_1_14 n' M v1 v2 v4 v5) := by
  intro n'
  induction n' with
  | zero =>
    intro M v1 v2 v4 v5 h
    rw [q_Mind_brokenBy_1_14]
    exact kp_none
  | succ n' ih =>
    intro M v1 v2 v4 v5 h
    rw [q_Mind_brokenBy_1_14]
    refine kp_if ?_ ?_
    · skip
      exact kp_some h
    · skip
      refine kp_if ?_ ?_
      · skip
        exact pj_Mind_brokenBy_1_41 ih _ _ _ _ _ _ h
      · skip
        exact pj_Mind_brokenBy_1_41 ih _ _ _ _ _ _ h
theorem pj_Mind_brokenBy_1 {A : Mm} (M : Mm) (a1 : Int32) (a2 : Int32) (h : kI A M) : kp (kI A) (q_Mind_brokenBy_1 M a1 a2) := by
  unfold q_Mind_brokenBy_1
  exact pj_Mind_brokenBy_1_14 4000 _ _ _ _ _ h
theorem pj_Mind_write_1_136 {A : Mm} {kf11 : Mm → Int32 → Int32 → Int32 → Rs} (hk11 : ∀ (M : Mm) (b1 : Int32) (b2 : Int32) (b3 : Int32), kI A M → kp (kI A) (kf11 M b1 b2 b3)) (M : Mm) (v1 : Int32) (v2 : Int32) (v4 : Int32) (h : kI A M) : kp (kI A) (q_Mind_write_1_136 kf11 M v1 v2 v4) := by
  unfold q_Mind_write_1_136
  exact hk11 _ _ _ _ h
theorem pj_Mind_write_1_62 {A : Mm} {kf11 : Mm → Int32 → Int32 → Int32 → Rs} (hk11 : ∀ (M : Mm) (b1 : Int32) (b2 : Int32) (b3 : Int32), kI A M → kp (kI A) (kf11 M b1 b2 b3)) (M : Mm) (v1 : Int32) (v2 : Int32) (v4 : Int32) (h : kI A M) : kp (kI A) (q_Mind_write_1_62 kf11 M v1 v2 v4) := by
  unfold q_Mind_write_1_62
  refine kp_ix ?_
  refine kp_if ?_ ?_
  · skip
    refine kp_ix ?_
    refine kp_cal (pj_Mind_isWritten_1 _ _ _ _ h) (fun m1 r2 h3 => ?_)
    refine kp_if ?_ ?_
    · skip
      refine kp_ix ?_
      refine kp_cal (pj_Mind_isWritten_1 _ _ _ _ h3) (fun m4 r5 h6 => ?_)
      refine kp_if ?_ ?_
      · skip
        exact pj_Mind_write_1_136 hk11 _ _ _ _ h6
      · skip
        refine kp_st (kI.st h6 ) (fun m7 h8 => ?_)
        exact pj_Mind_write_1_136 hk11 _ _ _ _ h8
    · skip
      refine kp_st (kI.st h3 ) (fun m9 h10 => ?_)
      exact pj_Mind_write_1_136 hk11 _ _ _ _ h10
  · skip
    exact pj_Mind_write_1_136 hk11 _ _ _ _ h
theorem pj_Mind_write_1_11 {A : Mm} : ∀ (n' : Nat) (M : Mm) (v1 : Int32) (v2 : Int32) (v4 : Int32), kI A M → kp (kI A) (q_Mind_write_1_11 n' M v1 v2 v4) := by
  intro n'
  induction n' with
  | zero =>
    intro M v1 v2 v4 h
    rw [q_Mind_write_1_11]
    exact kp_none
  | succ n' ih =>
    intro M v1 v2 v4 h
    rw [q_Mind_write_1_11]
    refine kp_if ?_ ?_
    · skip
      refine kp_ix ?_
      refine kp_ix ?_
      refine kp_st (kI.st h ) (fun m1 h2 => ?_)
      exact kp_some h2
    · skip
      refine kp_ix ?_
      refine kp_if ?_ ?_
      · skip
        refine kp_ix ?_
        refine kp_cal (pj_Mind_isWritten_1 _ _ _ _ h) (fun m3 r4 h5 => ?_)
        refine kp_if ?_ ?_
        · skip
          exact pj_Mind_write_1_62 ih _ _ _ _ h5
        · skip
          refine kp_st (kI.st h5 ) (fun m6 h7 => ?_)
          exact pj_Mind_write_1_136 ih _ _ _ _ h7
      · skip
        exact pj_Mind_write_1_62 ih _ _ _ _ h
theorem pj_Mind_write_1 {A : Mm} (M : Mm) (a1 : Int32) (a2 : Int32) (h : kI A M) : kp (kI A) (q_Mind_write_1 M a1 a2) := by
  unfold q_Mind_write_1
  exact pj_Mind_write_1_11 4000 _ _ _ _ h
theorem pj_Plan_addTold {A : Mm} (M : Mm) (a1 : Int32) (a2 : Int32) (a3 : Int32) (h : kI A M) : kp (kI A) (q_Plan_addTold M a1 a2 a3) := by
  unfold q_Plan_addTold
  refine kp_if ?_ ?_
  · skip
    refine kp_if ?_ ?_
    · skip
      refine kp_ix ?_
      refine kp_lv (fun x1 => ?_)
      refine kp_cal (pj_Mind_brokenBy_1 _ _ _ h) (fun m2 r3 h4 => ?_)
      refine kp_if ?_ ?_
      · skip
        refine kp_cal (pj_Mind_write_1 _ _ _ h4) (fun m5 r6 h7 => ?_)
        refine kp_ix ?_
        refine kp_st (kI.st h7 ) (fun m8 h9 => ?_)
        refine kp_ix ?_
        refine kp_st (kI.st h9 ) (fun m10 h11 => ?_)
        refine kp_st (kI.st h11 ) (fun m12 h13 => ?_)
        exact kp_some h13
      · skip
        refine kp_cal (pj_Integer_numberOfTrailingZeros _ _ h4) (fun m14 r15 h16 => ?_)
        refine kp_st (kI.st h16 ) (fun m17 h18 => ?_)
        exact kp_some h18
    · skip
      exact kp_some h
  · skip
    exact kp_some h
theorem pj_Plan_addReach {A : Mm} (M : Mm) (a1 : Int32) (h : kI A M) : kp (kI A) (q_Plan_addReach M a1) := by
  unfold q_Plan_addReach
  refine kp_cal (pj_Mind_isThere_1 _ _ h) (fun m1 r2 h3 => ?_)
  refine kp_if ?_ ?_
  · skip
    refine kp_ix ?_
    refine kp_lv (fun x4 => ?_)
    refine kp_ix ?_
    refine kp_ix ?_
    refine kp_ix ?_
    refine kp_ix ?_
    refine kp_cal (pj_Plan_addTold _ _ _ _ h3) (fun m5 r6 h7 => ?_)
    exact kp_some h7
  · skip
    exact kp_some h3
theorem pj_Plan_addPut_24 {A : Mm} (M : Mm) (v1 : Int32) (v2 : Int32) (h : kI A M) : kp (kI A) (q_Plan_addPut_24 M v1 v2) := by
  unfold q_Plan_addPut_24
  refine kp_ix ?_
  refine kp_lv (fun x1 => ?_)
  refine kp_cal (pj_Plan_addReach _ _ h) (fun m2 r3 h4 => ?_)
  refine kp_ix ?_
  refine kp_ix ?_
  refine kp_cal (pj_Plan_addTold _ _ _ _ h4) (fun m5 r6 h7 => ?_)
  exact kp_some h7
theorem pj_Plan_addPut {A : Mm} (M : Mm) (a1 : Int32) (a2 : Int32) (h : kI A M) : kp (kI A) (q_Plan_addPut M a1 a2) := by
  unfold q_Plan_addPut
  refine kp_cal (pj_Layout_isKnown _ _ h) (fun m1 r2 h3 => ?_)
  refine kp_if ?_ ?_
  · skip
    exact pj_Plan_addPut_24 _ _ _ h3
  · skip
    refine kp_cal (pj_Mind_knownValue_1 _ _ h3) (fun m4 r5 h6 => ?_)
    refine kp_if ?_ ?_
    · skip
      exact kp_some h6
    · skip
      exact pj_Plan_addPut_24 _ _ _ h6
theorem pj_Plan_addFetch {A : Mm} (M : Mm) (a1 : Int32) (h : kI A M) : kp (kI A) (q_Plan_addFetch M a1) := by
  unfold q_Plan_addFetch
  refine kp_ix ?_
  refine kp_if ?_ ?_
  · skip
    exact kp_some h
  · skip
    refine kp_ix ?_
    refine kp_cal (pj_Plan_addReach _ _ h) (fun m1 r2 h3 => ?_)
    exact kp_some h3
end
section
-- the plan and the reference in step, from any mind
def PQ (A B M N : Mm) : Prop := (∀ p, p < 60 ∨ 65 ≤ p → M.1 p = A.1 p) ∧ (0 ≤ (M.1 60 2).toInt ∧ (M.1 60 2).toInt ≤ 16) ∧ LF A N ∧ LA A N ∧ MD A (M.1 61 2) (M.1 62) N ∧ ((M.1 60 5 = 0 ∧ N.1 0 55 = 0) ∨ (M.1 60 5 ≠ 0 ∧ N.1 0 55 ≠ 0)) ∧ N.1 0 58 = B.1 0 58 ∧ N.1 0 47 = B.1 0 47 + dz B * M.1 60 2 ∧ (∀ p, p ≠ 0 → p < 33 ∨ 40 ≤ p ∨ p = 35 → N.1 p = B.1 p) ∧ (∀ j, j ≠ 47 → j ≠ 55 → j ≠ 56 → j ≠ 57 → N.1 0 j = B.1 0 j) ∧ (∀ f, 26 ≤ f → N.1 33 f = B.1 33 f) ∧ (∀ k, 12 ≤ k → N.1 36 k = B.1 36 k)
theorem told_q {A B M N : Mm} (h : PQ A B M N) (hu : ruI A) {r mk val : Int32} (hr : 0 ≤ r.toInt ∧ r.toInt ≤ 15) (c16 : (M.1 60 2).toInt < 16) (h47 : 0 ≤ (N.1 0 47).toInt) {M' N' : Mm} {x y : Int32} (q1 : q_Plan_addTold M r mk val = some (M', x)) (q2 : q_ChipMapModel_operate N r ((M.1 62 r.toNatClampNeg &&& (mk ^^^ (-1))) ||| val) = some (N', y)) : PQ A B M' N' ∧ (M'.1 60 2 = M.1 60 2 ∨ M'.1 60 2 = M.1 60 2 + 1) := by
  have h0 := h
  obtain ⟨f1, f2, hl, la, md, rf, e58, e47, g1, g2, g3, g4⟩ := h0
  have h12 := hu.1
  have tr := tnc h12.1
  have t60 := tnc f2.1
  have huM : ruI M := hu.cg (fun p h1 h2 => f1 p (by omega))
  have z0 : (0 : Int32).toInt = 0 := rfl
  unfold q_Plan_addTold at q1
  unfold q_ChipMapModel_operate at q2
  rcases rf with ⟨r0, n0⟩ | ⟨r0, n0⟩
  rotate_left
  · rw [if_neg r0] at q1
    rw [if_neg n0] at q2
    obtain ⟨rfl, -⟩ := rs_e q1
    obtain ⟨rfl, -⟩ := rs_e q2
    exact ⟨h, Or.inl rfl⟩
  have c : M.1 60 2 < 16 := Int32.lt_iff_toInt_lt.mpr c16
  rw [if_pos r0, if_pos c] at q1
  have q1 := ix_r q1
  rw [lq_s] at q1
  rw [if_pos n0] at q2
  generalize hx : (M.1 62 r.toNatClampNeg &&& (mk ^^^ (-1))) ||| val = w at q1 q2
  obtain ⟨m, b1, bm⟩ := bby_1 huM (v := w) hr
  rw [b1, cal_s] at q1
  have bmA : ∀ b, tb m b = (decide (b < (A.1 43 0).toNatClampNeg) && brb A (M.1 61 2) (M.1 62) r w b) := fun b => by
    rw [bm b, f1 43 (by omega), brb_cg (A := A) (fun p h1 h2 => f1 p (by omega))]
  obtain ⟨u, u1, fu⟩ := fb_m hl la md h12 r w
  rw [u1, cal_s] at q2
  obtain ⟨-, k2⟩ := mask_e h12 bmA fu
  rcases k2 with ⟨m0, u0⟩ | ⟨m0, u0⟩
  · rw [if_pos m0] at q1
    rw [if_pos u0] at q2
    obtain ⟨M4, p1, x1, x2, x3, x4, x5⟩ := mw_1 huM (v := w) hr
    rw [p1, cal_s] at q1
    have q1 := ix_r q1
    rw [lq_s] at q1
    have q1 := ix_r q1
    rw [lq_s, lq_s] at q1
    obtain ⟨e8, -⟩ := rs_e q1
    have s60 : M4.1 60 = M.1 60 := x1 60 (by decide) (by decide)
    have y60 : M'.1 60 = upd (M.1 60) 2 (M.1 60 2 + 1) := by
      rw [← e8, stI_at, stI_ne _ _ (by decide), stI_ne _ _ (by decide), s60]
    have y63 : M'.1 63 = upd (M.1 63) (M.1 60 2).toNatClampNeg r := by
      rw [← e8, stI_ne _ _ (by decide), stI_ne _ _ (by decide), stI_at, s60, x1 63 (by decide) (by decide)]
    have y64 : M'.1 64 = upd (M.1 64) (M.1 60 2).toNatClampNeg w := by
      rw [← e8, stI_ne _ _ (by decide), stI_at, stI_ne _ _ (by decide), stI_ne _ _ (by decide), s60, x1 64 (by decide) (by decide)]
    have y61 : M'.1 61 = M4.1 61 := by rw [← e8, stI_ne _ _ (by decide), stI_ne _ _ (by decide), stI_ne _ _ (by decide)]
    have y62 : M'.1 62 = upd (M.1 62) r.toNatClampNeg (w &&& A.1 29 r.toNatClampNeg) := by
      rw [← e8, stI_ne _ _ (by decide), stI_ne _ _ (by decide), stI_ne _ _ (by decide), x4, f1 29 (by omega)]
    have yo : ∀ p, p < 60 ∨ 65 ≤ p → M'.1 p = A.1 p := fun p hp => by
      rw [← e8, stI_ne _ _ (by omega), stI_ne _ _ (by omega), stI_ne _ _ (by omega), x1 p (by omega) (by omega)]
      exact f1 p hp
    have ec : (M.1 60 2 + 1).toInt = (M.1 60 2).toInt + 1 := iadd rfl (rfl : (1 : Int32).toInt = 1) (by omega) (by omega)
    have es : (M.1 60 2 + 1).toNatClampNeg = (M.1 60 2).toNatClampNeg + 1 := tnS (by omega)
    have nb : ∀ b, tb (M'.1 61 2) b = if b < (A.1 43 0).toNatClampNeg then nbb A (M.1 62) r w b (tb (M.1 61 2) b) else tb (M.1 61 2) b := fun b => by
      rw [y61, x5 b, f1 43 (by omega), nbb_cg (A := A) (fun p h1 h2 => f1 p (by omega))]
    obtain ⟨N1, w1, w2, w3, w4, w5, w6, w7, w8⟩ := wr_m hl la md h12 h47 (v := w) hr (fl' := M'.1 61 2) (fun k hk => by rw [nb k, if_pos (by omega)])
    rw [w1, cal_s] at q2
    obtain ⟨rfl, -⟩ := rs_e q2
    refine ⟨⟨yo, ?_, ?_, ?_, ?_, ?_, ?_, ?_, fun p h1 h2 => ?_, fun j j1 j2 j3 j4 => ?_, fun f hf => ?_, fun k hk => ?_⟩, Or.inr ?_⟩
    · rw [y60, updS]; omega
    · exact hl.n (fun p h1 h2 => w3 p (by omega) (by omega))
    · exact la.n (fun p h1 h2 => w3 p (by omega) (by omega)) (fun j hj => w4 j (by omega))
    · rw [y62]; exact w2
    · refine Or.inl ⟨?_, ?_⟩
      · rw [y60, updN (by decide)]; exact r0
      · rw [w4 55 (by decide)]; exact n0
    · rw [w4 58 (by decide)]; exact e58
    · have ed : dz N = dz B := by unfold dz; rw [e58]
      rw [w5, e47, ed, y60, updS, Int32.add_assoc, Int32.mul_add, Int32.mul_one]
    · rw [w3 p h1 h2]; exact g1 p h1 h2
    · rw [w4 j j1]; exact g2 j j1 j2 j3 j4
    · rw [w7 f hf]; exact g3 f hf
    · rw [w8 k hk]; exact g4 k hk
    · rw [y60, updS]
  · have u' : u ≠ -1 := by
      rcases fu with ⟨-, z2⟩ | ⟨z, -⟩
      · exfalso
        apply m0
        apply tb_ext
        intro b _
        rw [bmA b, tb_0]
        by_cases cb : b < (A.1 43 0).toNatClampNeg
        · rw [z2 b cb, Bool.and_false]
        · rw [decide_eq_false cb, Bool.false_and]
      · intro e
        rw [e] at z
        exact absurd z (by decide)
    have u0' : 0 ≤ u.toInt ∧ u.toInt < 12 := by
      rcases fu with ⟨z, -⟩ | ⟨z, z2, -⟩
      · exact absurd z u'
      · omega
    rw [if_neg m0, nz_e, cal_s, lq_s] at q1
    rw [if_neg u', lq_s, lq_s] at q2
    obtain ⟨e6, -⟩ := rs_e q1
    obtain ⟨e4, -⟩ := rs_e q2
    have y60 : M'.1 60 = upd (M.1 60) 5 (1 + nzV m) := by rw [← e6, stI_at]
    have yo : ∀ p, p ≠ 60 → M'.1 p = M.1 p := fun p hp => by rw [← e6, stI_ne _ _ hp]
    have np : ∀ p, p ≠ 0 → N'.1 p = N.1 p := fun p hp => by rw [← e4, stI_ne _ _ hp, stI_ne _ _ hp]
    have ns : ∀ j, j ≠ 55 → j ≠ 56 → N'.1 0 j = N.1 0 j := fun j j1 j2 => by rw [← e4, stI_at, updN j2, stI_at, updN j1]
    have n55 : N'.1 0 55 = 1 := by rw [← e4, stI_at, updN (by decide), stI_at, updS]
    have e1 : (1 + u).toInt = 1 + u.toInt := iadd (rfl : (1 : Int32).toInt = 1) rfl (by omega) (by omega)
    refine ⟨⟨fun p hp => ?_, ?_, ?_, ?_, ?_, Or.inr ⟨?_, ?_⟩, ?_, ?_, fun p h1 h2 => ?_, fun j j1 j2 j3 j4 => ?_, fun f hf => ?_, fun k hk => ?_⟩, Or.inl ?_⟩
    · rw [yo p (by omega)]; exact f1 p hp
    · rw [y60, updN (by decide)]; exact f2
    · exact hl.n (fun p h1 h2 => np p (by omega))
    · exact la.n (fun p h1 h2 => np p (by omega)) (fun j hj => ns j (by omega) (by omega))
    · rw [yo 61 (by decide), yo 62 (by decide)]
      exact md.n (np 33 (by decide)) (np 36 (by decide))
    · rw [y60, updS, u0]
      intro z
      have := congrArg Int32.toInt z
      omega
    · rw [n55]; decide
    · rw [ns 58 (by decide) (by decide)]; exact e58
    · rw [ns 47 (by decide) (by decide), y60, updN (by decide)]; exact e47
    · rw [np p h1]; exact g1 p h1 h2
    · rw [ns j j2 j3]; exact g2 j j1 j2 j3 j4
    · rw [np 33 (by decide)]; exact g3 f hf
    · rw [np 36 (by decide)]; exact g4 k hk
    · rw [y60, updN (by decide)]
theorem PQ.n47 {A B M N : Mm} (h : PQ A B M N) (hx : PX A B) : 0 ≤ (N.1 0 47).toInt := by
  obtain ⟨-, f2, -, -, -, -, -, e47, -⟩ := h
  have hb := hx.2.2.2
  rw [e47]
  rcases dz_01 B with z | z
  · rw [z, Int32.zero_mul, Int32.add_zero]
    exact hb.1
  · rw [z, Int32.one_mul, iadd rfl rfl (by omega) (by omega)]
    omega
theorem reach_q {A B M N : Mm} (h : PQ A B M N) (hx : PX A B) {r : Int32} (hr : 0 ≤ r.toInt ∧ r.toInt < (A.1 24 0).toInt) (c16 : (M.1 60 2).toInt < 16) {M' N' : Mm} {x y : Int32} (q1 : q_Plan_addReach M r = some (M', x)) (q2 : q_ChipMapModel_reach N r = some (N', y)) : PQ A B M' N' ∧ (M'.1 60 2 = M.1 60 2 ∨ M'.1 60 2 = M.1 60 2 + 1) := by
  have h47 := h.n47 hx
  obtain ⟨hu, hh, h16, -⟩ := hx
  have h0 := h
  obtain ⟨f1, f2, hl, la, md, rf, e58, e47, g1, g2, g3, g4⟩ := h0
  have t := tnc hr.1
  have hb := th_b hl la hh hr
  have e1 : q_Mind_isThere_1 M r = some (M, b2 (thb A (M.1 62) r)) := by
    rw [th_1 (M := M) ⟨hr.1, by omega⟩ (by rw [f1 26 (by omega), f1 38 (by omega)]; exact hb), thb_cg f1]
  have e2 := th_m hl la md.1 hr h16.2
  unfold q_Plan_addReach at q1
  unfold q_ChipMapModel_reach at q2
  rw [e1, cal_s] at q1
  rw [e2, cal_s] at q2
  by_cases z : b2 (thb A (M.1 62) r) = 0
  · rw [if_pos z] at q1 q2
    have c : A.1 26 r.toNatClampNeg ≠ -1 := by
      intro c
      rw [b2_0] at z
      unfold thb at z
      rw [decide_eq_true c, Bool.true_or] at z
      cases z
    obtain ⟨l25, l26, l27⟩ := la.2.2.2.1.2 r.toNatClampNeg (by omega)
    obtain ⟨w27, wp, w0, w39⟩ := l27 c
    have lp := lf_p hl wp
    have q1 := ix_r q1
    rw [lq_s, f1 26 (by omega)] at q1
    have q1 := ix_r (ix_r (ix_r (ix_r q1)))
    rw [f1 27 (by omega), f1 38 (by omega), f1 40 (by omega), f1 42 (by omega)] at q1
    obtain ⟨M1, r1, p1, q1⟩ := cal_o q1
    obtain ⟨rfl, -⟩ := rs_e q1
    have q2 := ix_r q2
    rw [lq_s, ← l26] at q2
    have q2 := ix_r (ix_r q2)
    rw [← lp.2.1, st_e hl la md.1 ⟨lp.2.2.1, hh _⟩, cal_s] at q2
    have q2 := ix_r q2
    rw [← w27, wi_e hl la w0 wp, cal_s] at q2
    obtain ⟨N1, s1, p2, q2⟩ := cal_o q2
    obtain ⟨rfl, -⟩ := rs_e q2
    exact told_q h hu ⟨lp.2.2.1, hh _⟩ c16 h47 p1 p2
  · rw [if_neg z] at q1 q2
    obtain ⟨rfl, -⟩ := rs_e q1
    obtain ⟨rfl, -⟩ := rs_e q2
    exact ⟨h, Or.inl rfl⟩
theorem put_q {A B M N : Mm} (h : PQ A B M N) (hx : PX A B) {f v : Int32} (f0 : 0 ≤ f.toInt) (hp : pf A f.toNatClampNeg) (hr : (A.1 38 f.toNatClampNeg).toInt < (A.1 24 0).toInt) (c15 : (M.1 60 2).toInt < 15) {M' N' : Mm} {x y : Int32} (q1 : q_Plan_addPut M f v = some (M', x)) (q2 : q_ChipMapModel_doPut N f v = some (N', y)) : PQ A B M' N' := by
  have h0 := h
  obtain ⟨f1, f2, hl, la, md, rf, e58, e47, g1, g2, g3, g4⟩ := h0
  have t := tnc f0
  have hp1 := hp.1
  have lp := lf_p hl hp
  have hh := hx.2.1
  obtain ⟨t1, k1, k2⟩ := kn_e (M := M) f ⟨f0, by omega⟩
  obtain ⟨t2, s1, s2⟩ := sto_m hl f0 hp
  rw [f1 39 (by omega)] at k2
  unfold q_Plan_addPut at q1
  unfold q_ChipMapModel_doPut at q2
  rw [k1, cal_s] at q1
  rw [s1, cal_s] at q2
  have go : q_Plan_addPut_24 M f v = some (M', x) → q_ChipMapModel_doPut_19 N f v = some (N', y) → PQ A B M' N' := by
    intro q1 q2
    unfold q_Plan_addPut_24 at q1
    unfold q_ChipMapModel_doPut_19 at q2
    have q1 := ix_r q1
    rw [lq_s, f1 38 (by omega)] at q1
    obtain ⟨M1, r1, p1, q1⟩ := cal_o q1
    have q2 := ix_r q2
    rw [← lp.2.1] at q2
    obtain ⟨N1, s1, p2, q2⟩ := cal_o q2
    obtain ⟨h1, hc⟩ := reach_q h hx ⟨lp.2.2.1, hr⟩ (by omega) p1 p2
    have hc' := up1 hc (by omega)
    have q1 := ix_r (ix_r q1)
    obtain ⟨M3, r3, p3, q1⟩ := cal_o q1
    obtain ⟨rfl, -⟩ := rs_e q1
    have q2 := ix_r (ix_r q2)
    have h1' := h1
    obtain ⟨f1', f2', hl', la', md', -⟩ := h1'
    have lp' := lf_p hl' hp
    rw [← lp'.2.1, st_e hl' la' md'.1 ⟨lp.2.2.1, hh _⟩, cal_s, wi_e hl' la' f0 hp, cal_s] at q2
    obtain ⟨N3, s3, p4, q2⟩ := cal_o q2
    obtain ⟨rfl, -⟩ := rs_e q2
    rw [f1' 42 (by omega), f1' 40 (by omega)] at p3
    exact (told_q h1 hx.1 ⟨lp.2.2.1, hh _⟩ (by omega) (h1.n47 hx) p3 p4).1
  rcases k2 with ⟨rfl, nk⟩ | ⟨rfl, kk⟩
  · rcases s2 with ⟨rfl, -⟩ | ⟨rfl, kk⟩
    · rw [if_pos rfl] at q1 q2
      exact go q1 q2
    · exact absurd kk nk
  · rcases s2 with ⟨rfl, nk⟩ | ⟨rfl, -⟩
    · exact absurd kk nk
    · rw [if_neg (by decide : ¬ (1 : Int32) = 0)] at q1 q2
      have e1 : q_Mind_knownValue_1 M f = some (M, N.1 33 f.toNatClampNeg) := by
        rw [kve_1 (M := M) ⟨f0, by omega⟩ (by rw [f1 38 (by omega)]; exact ⟨lp.2.2.1, hh _⟩), ← kv_md hl la md.1 hp kk]
        unfold kvl
        rw [f1 38 (by omega), f1 42 (by omega), f1 40 (by omega)]
      rw [e1, cal_s] at q1
      have q2 := ix_r q2
      by_cases cv : N.1 33 f.toNatClampNeg = v
      · rw [if_pos cv] at q1 q2
        obtain ⟨rfl, -⟩ := rs_e q1
        obtain ⟨rfl, -⟩ := rs_e q2
        exact h
      · rw [if_neg cv] at q1 q2
        exact go q1 q2
end
section
-- bits of longs; the keys of situations
def tL (x : Int64) (b : Nat) : Bool := x.toBitVec.getLsbD b
theorem tL_or {x y : Int64} {b : Nat} : tL (x ||| y) b = (tL x b || tL y b) := by
  unfold tL
  rw [Int64.toBitVec_or, BitVec.getLsbD_or]
theorem tL_0 {b : Nat} : tL 0 b = false := by
  unfold tL
  show (0#64).getLsbD b = false
  exact BitVec.getLsbD_zero
theorem tL_64 {x : Int64} {b : Nat} (h : 64 ≤ b) : tL x b = false := BitVec.getLsbD_of_ge _ _ h
theorem tL_ext {x y : Int64} (h : ∀ b, b < 64 → tL x b = tL y b) : x = y := by
  apply Int64.toBitVec_inj.mp
  exact BitVec.eq_of_getLsbD_eq (fun b hb => h b hb)
theorem tL_i {v : Int32} (h : tb v 31 = false) (b : Nat) : tL v.toInt64 b = tb v b := by
  show (v.toBitVec.signExtend 64).getLsbD b = _
  rw [BitVec.getLsbD_signExtend, BitVec.msb_eq_getLsbD_last]
  by_cases c : b < 32
  · rw [if_pos c, decide_eq_true (show b < 64 by omega), Bool.true_and]
    rfl
  · rw [if_neg c, tb_32 (by omega)]
    have z : v.toBitVec.getLsbD (32 - 1) = false := h
    rw [z, Bool.and_false]
theorem sm_k : ∀ r : Fin 16, ((((Int32.ofNat r.val &&& 3) * 16) : Int32).toInt64 &&& 63).toBitVec.smod 64#64 = BitVec.ofNat 64 (16 * (r.val % 4)) := by decide
theorem um_k : ∀ r : Fin 16, ((((Int32.ofNat r.val &&& 3) * 16) : Int32).toInt64.toUInt64 &&& Int64.toUInt64 63).toBitVec % 64#64 = BitVec.ofNat 64 (16 * (r.val % 4)) := by decide
theorem sh2_k : ∀ r : Fin 16, ((Int32.ofNat r.val) >>> (2 &&& 31)).toInt = ((r.val / 4 : Nat) : Int) := by decide
theorem m4_lt (n : Nat) : 16 * (n % 4) < 2 ^ 64 := by
  have : n % 4 < 4 := Nat.mod_lt _ (by decide)
  omega
theorem tL_shl {x : Int64} {r : Int32} (hr : 0 ≤ r.toInt ∧ r.toInt < 16) (b : Nat) : tL (x <<< ((((r &&& 3) * 16) : Int32).toInt64 &&& 63)) b = (decide (b < 64) && !decide (b < 16 * (r.toNatClampNeg % 4)) && tL x (b - 16 * (r.toNatClampNeg % 4))) := by
  have e := sm_k ⟨r.toInt.toNat, by omega⟩
  rw [show (⟨r.toInt.toNat, by omega⟩ : Fin 16).val = r.toInt.toNat from rfl, ← of_i hr.1] at e
  show (x.toBitVec <<< (((((r &&& 3) * 16) : Int32).toInt64 &&& 63).toBitVec.smod 64#64)).getLsbD b = _
  rw [e, BitVec.getLsbD_shiftLeft', BitVec.toNat_ofNat, Nat.mod_eq_of_lt (m4_lt _)]
  rfl
theorem tL_ushr {x : Int64} {r : Int32} (hr : 0 ≤ r.toInt ∧ r.toInt < 16) (b : Nat) : tL (((x : Int64).toUInt64 >>> ((((r &&& 3) * 16) : Int32).toInt64.toUInt64 &&& Int64.toUInt64 63)).toInt64) b = tL x (16 * (r.toNatClampNeg % 4) + b) := by
  have e := um_k ⟨r.toInt.toNat, by omega⟩
  rw [show (⟨r.toInt.toNat, by omega⟩ : Fin 16).val = r.toInt.toNat from rfl, ← of_i hr.1] at e
  show (x.toBitVec >>> (((((r &&& 3) * 16) : Int32).toInt64.toUInt64 &&& Int64.toUInt64 63).toBitVec % 64#64)).getLsbD b = _
  rw [e, BitVec.ushiftRight_eq', BitVec.getLsbD_ushiftRight, BitVec.toNat_ofNat, Nat.mod_eq_of_lt (m4_lt _)]
  rfl
theorem tL_shl8 {x : Int64} (b : Nat) : tL (x <<< ((8 : Int32).toInt64 &&& 63)) b = (decide (b < 64) && !decide (b < 8) && tL x (b - 8)) := by
  have e : ((8 : Int32).toInt64 &&& 63).toBitVec.smod 64#64 = BitVec.ofNat 64 8 := by decide
  show (x.toBitVec <<< (((8 : Int32).toInt64 &&& 63).toBitVec.smod 64#64)).getLsbD b = _
  rw [e, BitVec.getLsbD_shiftLeft', BitVec.toNat_ofNat, Nat.mod_eq_of_lt (by decide)]
  rfl
theorem tL_ushr8 {x : Int64} (b : Nat) : tL (((x : Int64).toUInt64 >>> ((8 : Int32).toInt64.toUInt64 &&& Int64.toUInt64 63)).toInt64) b = tL x (8 + b) := by
  have e : ((8 : Int32).toInt64.toUInt64 &&& Int64.toUInt64 63).toBitVec % 64#64 = BitVec.ofNat 64 8 := by decide
  show (x.toBitVec >>> (((8 : Int32).toInt64.toUInt64 &&& Int64.toUInt64 63).toBitVec % 64#64)).getLsbD b = _
  rw [e, BitVec.ushiftRight_eq', BitVec.getLsbD_ushiftRight, BitVec.toNat_ofNat, Nat.mod_eq_of_lt (by decide)]
  rfl
theorem tb_l {x : Int64} (b : Nat) : tb x.toInt32 b = (decide (b < 32) && tL x b) := by
  show (x.toBitVec.signExtend 32).getLsbD b = _
  rw [BitVec.getLsbD_signExtend]
  by_cases c : b < 32
  · rw [if_pos (show b < 64 by omega)]
    rfl
  · rw [decide_eq_false c, Bool.false_and, Bool.false_and]
theorem tb_ones {c : Int32} {n : Nat} (h : c.toBitVec = BitVec.ofNat 32 (2 ^ n - 1)) (hn : n ≤ 32) (b : Nat) : tb c b = decide (b < n) := by
  unfold tb
  rw [h, BitVec.getLsbD_ofNat, Nat.testBit_two_pow_sub_one]
  by_cases z : b < n
  · rw [decide_eq_true z, decide_eq_true (show b < 32 by omega)]
    rfl
  · rw [decide_eq_false z, Bool.and_false]
theorem tb_ffff (b : Nat) : tb (65535 : Int32) b = decide (b < 16) := tb_ones (n := 16) rfl (by decide) b
theorem tb_ff (b : Nat) : tb (255 : Int32) b = decide (b < 8) := tb_ones (n := 8) rfl (by decide) b
theorem tb_small {v : Int32} {n : Nat} (h : 0 ≤ v.toInt ∧ v.toInt < ((2 ^ n : Nat) : Int)) (hn : n ≤ 31) {b : Nat} (hb : n ≤ b) : tb v b = false := by
  show v.toBitVec.getLsbD b = false
  rw [← BitVec.testBit_toNat]
  apply Nat.testBit_lt_two_pow
  have e : v.toInt = (v.toBitVec.toNat : Int) := by
    show v.toBitVec.toInt = _
    have h0 : 0 ≤ v.toBitVec.toInt := h.1
    rw [BitVec.toInt_eq_toNat_cond] at h0 ⊢
    have := v.toBitVec.isLt
    split at h0
    · rename_i z
      rw [if_pos z]
    · exfalso
      omega
  have h1 := h.2
  rw [e] at h1
  have h2 : v.toBitVec.toNat < 2 ^ n := Int.ofNat_lt.mp h1
  exact Nat.lt_of_lt_of_le h2 (Nat.pow_le_pow_right (by decide) hb)
/-- the key of a situation: the step, the rules that look back, the words that are known -/
def KB (n : Nat) (wd : Nat → Int32) (key : Nat → Int64) : Prop := ∀ i, i < 4 → ∀ b, tL (key i) b = (decide (b < 64) && decide (4 * i + b / 16 < n) && tb (wd (4 * i + b / 16)) (b % 16))
def KY (n : Nat) (sa fl : Int32) (wd : Nat → Int32) (key : Nat → Int64) : Prop := KB n wd key ∧ key 4 = ((fl : Int32).toInt64 <<< ((8 : Int32).toInt64 &&& 63)) ||| (sa : Int32).toInt64
/-- what may stand in a situation: words of 16 bits, looks of 12, steps up to 40 -/
def OKs (sa fl : Int32) (wd : Nat → Int32) : Prop := (0 ≤ sa.toInt ∧ sa.toInt ≤ 40) ∧ (∀ b, 12 ≤ b → tb fl b = false) ∧ ∀ r, r < 16 → ∀ b, 16 ≤ b → tb (wd r) b = false
theorem KY.same {n : Nat} {sa fl : Int32} {wd wd' : Nat → Int32} {k k' : Nat → Int64} (hw : ∀ r, r < n → wd r = wd' r) (h : KY n sa fl wd k) (h' : KY n sa fl wd' k') : ∀ i, i < 5 → k i = k' i := by
  intro i hi
  by_cases c : i = 4
  · rw [c, h.2, h'.2]
  · apply tL_ext
    intro b hb
    rw [h.1 i (by omega) b, h'.1 i (by omega) b]
    by_cases z : 4 * i + b / 16 < n
    · rw [hw _ z]
    · rw [decide_eq_false z]
      cases decide (b < 64) <;> rfl
theorem at_8 {sa : Int32} (h : 0 ≤ sa.toInt ∧ sa.toInt ≤ 40) {b : Nat} (hb : 8 ≤ b) : tb sa b = false := tb_small (n := 8) ⟨h.1, by have e : ((2 ^ 8 : Nat) : Int) = 256 := rfl; omega⟩ (by decide) hb
theorem KY.fl {n : Nat} {sa fl : Int32} {wd : Nat → Int32} {k : Nat → Int64} (h : KY n sa fl wd k) (ok : OKs sa fl wd) : (((((k 4 : Int64).toUInt64 >>> ((8 : Int32).toInt64.toUInt64 &&& Int64.toUInt64 63)).toInt64) : Int64).toInt32) = fl := by
  apply tb_ext
  intro b hb
  rw [tb_l, tL_ushr8, h.2, tL_or, tL_shl8, tL_i (ok.2.1 31 (by decide)), tL_i (at_8 ok.1 (by decide)), decide_eq_true hb, decide_eq_true (show 8 + b < 64 by omega), decide_eq_false (show ¬ 8 + b < 8 by omega), at_8 ok.1 (show 8 ≤ 8 + b by omega), show 8 + b - 8 = b by omega]
  cases tb fl b <;> rfl
theorem KY.ats {n : Nat} {sa fl : Int32} {wd : Nat → Int32} {k : Nat → Int64} (h : KY n sa fl wd k) (ok : OKs sa fl wd) : ((k 4 : Int64).toInt32) &&& 255 = sa := by
  apply tb_ext
  intro b hb
  rw [tb_and, tb_ff, tb_l, h.2, tL_or, tL_shl8, tL_i (ok.2.1 31 (by decide)), tL_i (at_8 ok.1 (by decide)), decide_eq_true hb, decide_eq_true (show b < 64 by omega)]
  by_cases c : b < 8
  · rw [decide_eq_true c]
    cases tb sa b <;> rfl
  · rw [decide_eq_false c, at_8 ok.1 (by omega), Bool.and_false]
theorem KY.wd {n : Nat} {sa fl : Int32} {wd : Nat → Int32} {k : Nat → Int64} (h : KY n sa fl wd k) (hn : n ≤ 16) (ok : OKs sa fl wd) {r : Int32} (r0 : 0 ≤ r.toInt) (hr : r.toNatClampNeg < n) : (((((k (r.toNatClampNeg / 4) : Int64).toUInt64 >>> ((((r &&& 3) * 16) : Int32).toInt64.toUInt64 &&& Int64.toUInt64 63)).toInt64) : Int64).toInt32) &&& 65535 = wd r.toNatClampNeg := by
  have t := tnc r0
  apply tb_ext
  intro b hb
  have hm : r.toNatClampNeg % 4 < 4 := Nat.mod_lt _ (by decide)
  rw [tb_and, tb_ffff, tb_l, tL_ushr (by omega), h.1 _ (by omega), decide_eq_true hb, Bool.true_and]
  by_cases c : b < 16
  · rw [show 4 * (r.toNatClampNeg / 4) + (16 * (r.toNatClampNeg % 4) + b) / 16 = r.toNatClampNeg by omega, show (16 * (r.toNatClampNeg % 4) + b) % 16 = b by omega, decide_eq_true c, decide_eq_true hr, decide_eq_true (show 16 * (r.toNatClampNeg % 4) + b < 64 by omega)]
    cases tb (wd r.toNatClampNeg) b <;> rfl
  · rw [decide_eq_false c, Bool.and_false, ok.2.2 _ (by omega) b (by omega)]
/-- equal keys, equal situations -/
theorem KY.inj {n : Nat} {sa fl a2 f2 : Int32} {wd w2 : Nat → Int32} {k k' : Nat → Int64} (hn : n ≤ 16) (h : KY n sa fl wd k) (ok : OKs sa fl wd) (h' : KY n a2 f2 w2 k') (ok' : OKs a2 f2 w2) (e : ∀ i, i < 5 → k i = k' i) : sa = a2 ∧ fl = f2 ∧ ∀ r, r < n → wd r = w2 r := by
  refine ⟨?_, ?_, fun r hr => ?_⟩
  · rw [← h.ats ok, ← h'.ats ok', e 4 (by decide)]
  · rw [← h.fl ok, ← h'.fl ok', e 4 (by decide)]
  · have er : (Int32.ofNat r).toInt = (r : Int) := Int32.toInt_ofNat_of_lt (by omega)
    have tr := tnc (i := Int32.ofNat r) (by omega)
    have en : (Int32.ofNat r).toNatClampNeg = r := by omega
    have z1 := h.wd hn ok (r := Int32.ofNat r) (by omega) (by omega)
    have z2 := h'.wd hn ok' (r := Int32.ofNat r) (by omega) (by omega)
    rw [en] at z1 z2
    rw [← z1, ← z2, e _ (by omega)]
theorem stJ_ne {M : Mm} {k j : Nat} {f : Nat → Int64} (h : j ≠ k) : (stJ M k f).2 j = M.2 j := by simp [stJ, h]
theorem updLS {f : Nat → Int64} {i : Nat} {x : Int64} : vp_updL f i x i = x := by simp [vp_updL]
theorem updLN {f : Nat → Int64} {i j : Nat} {x : Int64} (h : j ≠ i) : vp_updL f i x j = f j := by simp [vp_updL, h]
/-- one word more in the key -/
theorem KB.up {n : Nat} {wd : Nat → Int32} {k : Nat → Int64} (h : KB n wd k) (hw : ∀ r, r < 16 → ∀ b, 16 ≤ b → tb (wd r) b = false) {r : Int32} (hr : 0 ≤ r.toInt ∧ r.toInt < 16) (en : r.toNatClampNeg = n) : KB (n + 1) wd (vp_updL k (n / 4) (k (n / 4) ||| (((wd n : Int32).toInt64) <<< ((((r &&& 3) * 16) : Int32).toInt64 &&& 63)))) := by
  intro i hi b
  have t := tnc hr.1
  have hm : n % 4 < 4 := Nat.mod_lt _ (by decide)
  by_cases ci : i = n / 4
  · rw [ci, updLS, tL_or, h _ (by omega), tL_shl hr, tL_i (hw n (by omega) 31 (by decide)), en]
    by_cases b64 : b < 64
    · rw [decide_eq_true b64]
      by_cases cb : b / 16 = n % 4
      · have e1 : 4 * (n / 4) + b / 16 = n := by omega
        rw [e1, decide_eq_false (show ¬ n < n by omega), decide_eq_true (show n < n + 1 by omega), decide_eq_false (show ¬ b < 16 * (n % 4) by omega), show b - 16 * (n % 4) = b % 16 by omega]
        cases tb (wd n) (b % 16) <;> rfl
      · by_cases cl : b < 16 * (n % 4)
        · rw [decide_eq_true cl, decide_eq_true (show 4 * (n / 4) + b / 16 < n by omega), decide_eq_true (show 4 * (n / 4) + b / 16 < n + 1 by omega)]
          cases tb (wd (4 * (n / 4) + b / 16)) (b % 16) <;> rfl
        · rw [decide_eq_false cl, decide_eq_false (show ¬ 4 * (n / 4) + b / 16 < n by omega), decide_eq_false (show ¬ 4 * (n / 4) + b / 16 < n + 1 by omega), hw n (by omega) _ (show 16 ≤ b - 16 * (n % 4) by omega)]
          rfl
    · rw [decide_eq_false b64]
      rfl
  · rw [updLN ci, h i hi b]
    by_cases b64 : b < 64
    · by_cases z : 4 * i + b / 16 < n
      · rw [decide_eq_true z, decide_eq_true (show 4 * i + b / 16 < n + 1 by omega)]
      · rw [decide_eq_false z, decide_eq_false (show ¬ 4 * i + b / 16 < n + 1 by omega)]
    · rw [decide_eq_false b64]
      rfl
end
section
-- makeKey() and load()
theorem mk_l {A : Mm} {n : Nat} (hn : (A.1 24 0).toInt = (n : Int)) (h16 : n ≤ 16) (hw : ∀ r, r < 16 → ∀ b, 16 ≤ b → tb (A.1 62 r) b = false) {a : Int32} : ∀ (j n' : Nat) (M : Mm) (i : Int32), (n : Int) - i.toInt = (j : Int) → 0 ≤ i.toInt → M.1 = A.1 → (∀ p, p ≠ 75 → M.2 p = A.2 p) → KB i.toNatClampNeg (A.1 62) (M.2 75) → ∀ (M' : Mm) (x : Int32), q_Checker_makeKey_10 n' M a i = some (M', x) → M'.1 = A.1 ∧ (∀ p, p ≠ 75 → M'.2 p = A.2 p) ∧ KY n a (A.1 61 2) (A.1 62) (M'.2 75) := by
  intro j
  induction j with
  | zero =>
    intro n' M i hj i0 e1 e2 hk M' x q
    obtain ⟨n', rfl⟩ : ∃ m, n' = m + 1 := by
      cases n' with
      | zero => rw [q_Checker_makeKey_10] at q; cases q
      | succ m => exact ⟨m, rfl⟩
    have tn := tnc i0
    rw [q_Checker_makeKey_10, e1, if_pos (Int32.le_iff_toInt_le.mpr (by omega)), lq_s] at q
    obtain ⟨rfl, -⟩ := rs_e q
    have ei : i.toNatClampNeg = n := by omega
    rw [ei] at hk
    refine ⟨e1, fun p hp => ?_, fun i' hi' b => ?_, ?_⟩
    · rw [stJ_ne hp]; exact e2 p hp
    · rw [stJ_at, updLN (show i' ≠ (4 : Int32).toNatClampNeg by have e : (4 : Int32).toNatClampNeg = 4 := rfl; omega)]
      exact hk i' hi' b
    · rw [stJ_at]
      exact updLS
  | succ j ih =>
    intro n' M i hj i0 e1 e2 hk M' x q
    obtain ⟨n', rfl⟩ : ∃ m, n' = m + 1 := by
      cases n' with
      | zero => rw [q_Checker_makeKey_10] at q; cases q
      | succ m => exact ⟨m, rfl⟩
    have tn := tnc i0
    have ez : (i + 1).toInt = i.toInt + 1 := iadd rfl (rfl : (1 : Int32).toInt = 1) (by omega) (by omega)
    have es : (i + 1).toNatClampNeg = i.toNatClampNeg + 1 := tnS (by omega)
    have c : ¬ A.1 24 0 ≤ i := fun z => by have := Int32.le_iff_toInt_le.mp z; omega
    have e4 : ((i : Int32) >>> (2 &&& 31)).toNatClampNeg = i.toNatClampNeg / 4 := by
      have z := sh2_k ⟨i.toInt.toNat, by omega⟩
      rw [show (⟨i.toInt.toNat, by omega⟩ : Fin 16).val = i.toInt.toNat from rfl, ← of_i i0] at z
      have t4 := tnc (i := (i : Int32) >>> (2 &&& 31)) (by omega)
      omega
    rw [q_Checker_makeKey_10, e1, if_neg c] at q
    have q := ix_r (ix_r (ix_r q))
    rw [lq_s, e4] at q
    refine ih n' (stJ M 75 _) (i + 1) (by omega) (by omega) e1 (fun p hp => by rw [stJ_ne hp]; exact e2 p hp) ?_ M' x q
    rw [es, stJ_at]
    exact hk.up hw ⟨i0, by omega⟩ rfl
theorem mk_e {A : Mm} {n : Nat} (hn : (A.1 24 0).toInt = (n : Int)) (h16 : n ≤ 16) (hw : ∀ r, r < 16 → ∀ b, 16 ≤ b → tb (A.1 62 r) b = false) {a : Int32} {M' : Mm} {x : Int32} (q : q_Checker_makeKey A a = some (M', x)) : M'.1 = A.1 ∧ (∀ p, p ≠ 75 → M'.2 p = A.2 p) ∧ KY n a (A.1 61 2) (A.1 62) (M'.2 75) := by
  have z0 : (0 : Int32).toInt = 0 := rfl
  have e0 : (0 : Int32).toNatClampNeg = 0 := rfl
  unfold q_Checker_makeKey at q
  rw [lq_s] at q
  refine mk_l hn h16 hw n 4000 (stJ A 75 (fun _ => 0)) 0 (by omega) (by decide) rfl (fun p hp => stJ_ne hp) ?_ M' x q
  intro i hi b
  rw [stJ_at, tL_0, e0, decide_eq_false (show ¬ 4 * i + b / 16 < 0 by omega)]
  cases decide (b < 64) <;> rfl
/-- load() gives back what the key was made of -/
theorem ld_l {A : Mm} {n : Nat} (hn : (A.1 24 0).toInt = (n : Int)) (h16 : n ≤ 16) {sa fl : Int32} {wd : Nat → Int32} (ok : OKs sa fl wd) {s : Int32} (hs : 0 ≤ s.toInt ∧ s.toInt ≤ 4995) (hk : KY n sa fl wd (fun i => A.2 74 (s.toNatClampNeg + i))) : ∀ (j n' : Nat) (M : Mm) (i : Int32), (n : Int) - i.toInt = (j : Int) → 0 ≤ i.toInt → M.2 = A.2 → (∀ p, p ≠ 62 → M.1 p = A.1 p) → (∀ r, r < i.toNatClampNeg → M.1 62 r = wd r) → (∀ r, i.toNatClampNeg ≤ r → M.1 62 r = A.1 62 r) → ∀ (M' : Mm) (x : Int32), q_Checker_load_6 n' M s i = some (M', x) → x = sa ∧ M'.2 = A.2 ∧ (∀ p, p ≠ 61 → p ≠ 62 → M'.1 p = A.1 p) ∧ (∀ j, j ≠ 2 → M'.1 61 j = A.1 61 j) ∧ M'.1 61 2 = fl ∧ (∀ r, r < n → M'.1 62 r = wd r) ∧ ∀ r, n ≤ r → M'.1 62 r = A.1 62 r := by
  have ts := tnc hs.1
  intro j
  induction j with
  | zero =>
    intro n' M i hj i0 e2 e1 hr hr2 M' x q
    obtain ⟨n', rfl⟩ : ∃ m, n' = m + 1 := by
      cases n' with
      | zero => rw [q_Checker_load_6] at q; cases q
      | succ m => exact ⟨m, rfl⟩
    have tn := tnc i0
    have e4 : (s + 4).toInt = s.toInt + 4 := iadd rfl (rfl : (4 : Int32).toInt = 4) (by omega) (by omega)
    have t4 := tnc (i := s + 4) (by omega)
    rw [q_Checker_load_6, e1 24 (by decide), if_pos (Int32.le_iff_toInt_le.mpr (by omega))] at q
    have q := ix_r q
    rw [lq_s, lq_s, e2, show (s + 4).toNatClampNeg = s.toNatClampNeg + 4 by omega] at q
    obtain ⟨rfl, rfl⟩ := rs_e q
    refine ⟨hk.ats ok, e2, fun p h1 h2 => ?_, fun j hj => ?_, ?_, fun r h => ?_, fun r h => ?_⟩
    · rw [stI_ne _ _ h1]; exact e1 p h2
    · rw [stI_at, updN hj, e1 61 (by decide)]
    · rw [stI_at, updS]; exact hk.fl ok
    · rw [stI_ne _ _ (by decide)]; exact hr r (by omega)
    · rw [stI_ne _ _ (by decide)]; exact hr2 r (by omega)
  | succ j ih =>
    intro n' M i hj i0 e2 e1 hr hr2 M' x q
    obtain ⟨n', rfl⟩ : ∃ m, n' = m + 1 := by
      cases n' with
      | zero => rw [q_Checker_load_6] at q; cases q
      | succ m => exact ⟨m, rfl⟩
    have tn := tnc i0
    have ez : (i + 1).toInt = i.toInt + 1 := iadd rfl (rfl : (1 : Int32).toInt = 1) (by omega) (by omega)
    have es : (i + 1).toNatClampNeg = i.toNatClampNeg + 1 := tnS (by omega)
    have c : ¬ A.1 24 0 ≤ i := fun z => by have := Int32.le_iff_toInt_le.mp z; omega
    have z4 := sh2_k ⟨i.toInt.toNat, by omega⟩
    rw [show (⟨i.toInt.toNat, by omega⟩ : Fin 16).val = i.toInt.toNat from rfl, ← of_i i0] at z4
    have e4 : (s + ((i : Int32) >>> (2 &&& 31))).toInt = s.toInt + ((i : Int32) >>> (2 &&& 31)).toInt := iadd rfl rfl (by omega) (by omega)
    have t4 := tnc (i := s + ((i : Int32) >>> (2 &&& 31))) (by omega)
    rw [q_Checker_load_6, e1 24 (by decide), if_neg c] at q
    have q := ix_r (ix_r q)
    rw [lq_s, e2, show (s + ((i : Int32) >>> (2 &&& 31))).toNatClampNeg = s.toNatClampNeg + i.toNatClampNeg / 4 by omega] at q
    have hv := hk.wd h16 ok (r := i) i0 (by omega)
    rw [hv] at q
    refine ih n' (stI M 62 _) (i + 1) (by omega) (by omega) e2 (fun p hp => by rw [stI_ne _ _ hp]; exact e1 p hp) (fun r h => ?_) (fun r h => ?_) M' x q
    · rw [stI_at]
      by_cases cr : r = i.toNatClampNeg
      · rw [cr, updS]
      · rw [updN cr]
        exact hr r (by omega)
    · rw [stI_at, updN (by omega)]
      exact hr2 r (by omega)
end
section
-- the class's table of situations
def mix (x k : Int64) : Int64 := ((x ^^^ k) * (-7046029254386353131)) ^^^ (((((x ^^^ k) * (-7046029254386353131)) : Int64).toUInt64 >>> ((29 : Int32).toInt64.toUInt64 &&& Int64.toUInt64 63)).toInt64)
def hsR (f : Nat → Int64) : Nat → Int64
  | 0 => 0
  | n + 1 => mix (hsR f n) (f n)
def hsV (f : Nat → Int64) : Int32 := ((((((hsR f 5) : Int64).toUInt64 >>> ((32 : Int32).toInt64.toUInt64 &&& Int64.toUInt64 63)).toInt64) : Int64).toInt32) &&& 2047
theorem hsR_cg {f g : Nat → Int64} : ∀ n : Nat, (∀ i, i < n → f i = g i) → hsR f n = hsR g n := by
  intro n
  induction n with
  | zero => intro _; rfl
  | succ n ih =>
    intro h
    rw [hsR, hsR, ih (fun i hi => h i (by omega)), h n (by omega)]
theorem hsV_cg {f g : Nat → Int64} (h : ∀ i, i < 5 → f i = g i) : hsV f = hsV g := by
  unfold hsV
  rw [hsR_cg 5 h]
theorem hsV_r (f : Nat → Int64) : 0 ≤ (hsV f).toInt ∧ (hsV f).toInt ≤ 2047 := by
  have h := iand (a := ((((((hsR f 5) : Int64).toUInt64 >>> ((32 : Int32).toInt64.toUInt64 &&& Int64.toUInt64 63)).toInt64) : Int64).toInt32)) (c := 2047) (by decide)
  exact h
theorem hs_l {M : Mm} : ∀ (j n' : Nat) (v : Int64) (i : Int32), 5 - i.toInt = (j : Int) → 0 ≤ i.toInt → v = hsR (M.2 75) i.toNatClampNeg → ∀ (M' : Mm) (x : Int32), q_Checker_hashOfKey_4 n' M v i = some (M', x) → M' = M ∧ x = hsV (M.2 75) := by
  have e5 : (5 : Int32).toInt = 5 := rfl
  intro j
  induction j with
  | zero =>
    intro n' v i hj i0 hv M' x q
    obtain ⟨n', rfl⟩ : ∃ m, n' = m + 1 := by
      cases n' with
      | zero => rw [q_Checker_hashOfKey_4] at q; cases q
      | succ m => exact ⟨m, rfl⟩
    have tn := tnc i0
    rw [q_Checker_hashOfKey_4, if_pos (Int32.le_iff_toInt_le.mpr (by omega))] at q
    obtain ⟨rfl, rfl⟩ := rs_e q
    rw [show i.toNatClampNeg = 5 by omega] at hv
    rw [hv]
    exact ⟨rfl, rfl⟩
  | succ j ih =>
    intro n' v i hj i0 hv M' x q
    obtain ⟨n', rfl⟩ : ∃ m, n' = m + 1 := by
      cases n' with
      | zero => rw [q_Checker_hashOfKey_4] at q; cases q
      | succ m => exact ⟨m, rfl⟩
    have tn := tnc i0
    have ez : (i + 1).toInt = i.toInt + 1 := iadd rfl (rfl : (1 : Int32).toInt = 1) (by omega) (by omega)
    have es : (i + 1).toNatClampNeg = i.toNatClampNeg + 1 := tnS (by omega)
    have c : ¬ (5 : Int32) ≤ i := fun z => by have := Int32.le_iff_toInt_le.mp z; omega
    rw [q_Checker_hashOfKey_4, if_neg c] at q
    have q := ix_r q
    rw [lq_s, lq_s] at q
    refine ih n' _ (i + 1) (by omega) (by omega) ?_ M' x q
    rw [es, hsR, ← hv]
    rfl
theorem hs_e {M M' : Mm} {x : Int32} (q : q_Checker_hashOfKey M = some (M', x)) : M' = M ∧ x = hsV (M.2 75) := by
  unfold q_Checker_hashOfKey at q
  exact hs_l 5 4000 0 0 (by decide) (by decide) rfl M' x q
theorem lg_0 {x y : Int64} : lg_cmp x y = 0 ↔ x = y := by
  unfold lg_cmp
  constructor
  · intro h
    by_cases c : x > y
    · rw [if_pos c] at h
      exact absurd h (by decide)
    · rw [if_neg c] at h
      by_cases e : x = y
      · exact e
      · rw [if_neg e] at h
        exact absurd h (by decide)
  · intro h
    subst h
    have c : ¬ x > x := fun h => by
      have := Int64.lt_iff_toInt_lt.mp h
      omega
    rw [if_neg c, if_pos rfl]
theorem ik_l {M : Mm} {s : Int32} (hs : 0 ≤ s.toInt ∧ s.toInt ≤ 4995) : ∀ (j n' : Nat) (i : Int32), 5 - i.toInt = (j : Int) → 0 ≤ i.toInt → (∀ k, k < i.toNatClampNeg → M.2 74 (s.toNatClampNeg + k) = M.2 75 k) → ∀ (M' : Mm) (x : Int32), q_Checker_isKey_2 n' M s i = some (M', x) → M' = M ∧ ((x = 1 ∧ ∀ k, k < 5 → M.2 74 (s.toNatClampNeg + k) = M.2 75 k) ∨ (x = 0 ∧ ¬ ∀ k, k < 5 → M.2 74 (s.toNatClampNeg + k) = M.2 75 k)) := by
  have e5 : (5 : Int32).toInt = 5 := rfl
  have ts := tnc hs.1
  intro j
  induction j with
  | zero =>
    intro n' i hj i0 h M' x q
    obtain ⟨n', rfl⟩ : ∃ m, n' = m + 1 := by
      cases n' with
      | zero => rw [q_Checker_isKey_2] at q; cases q
      | succ m => exact ⟨m, rfl⟩
    have tn := tnc i0
    rw [q_Checker_isKey_2, if_pos (Int32.le_iff_toInt_le.mpr (by omega))] at q
    obtain ⟨rfl, rfl⟩ := rs_e q
    exact ⟨rfl, Or.inl ⟨rfl, fun k hk => h k (by omega)⟩⟩
  | succ j ih =>
    intro n' i hj i0 h M' x q
    obtain ⟨n', rfl⟩ : ∃ m, n' = m + 1 := by
      cases n' with
      | zero => rw [q_Checker_isKey_2] at q; cases q
      | succ m => exact ⟨m, rfl⟩
    have tn := tnc i0
    have ez : (i + 1).toInt = i.toInt + 1 := iadd rfl (rfl : (1 : Int32).toInt = 1) (by omega) (by omega)
    have es : (i + 1).toNatClampNeg = i.toNatClampNeg + 1 := tnS (by omega)
    have c : ¬ (5 : Int32) ≤ i := fun z => by have := Int32.le_iff_toInt_le.mp z; omega
    have e4 : (s + i).toInt = s.toInt + i.toInt := iadd rfl rfl (by omega) (by omega)
    have t4 := tnc (i := s + i) (by omega)
    rw [q_Checker_isKey_2, if_neg c] at q
    have q := ix_r (ix_r q)
    rw [show (s + i).toNatClampNeg = s.toNatClampNeg + i.toNatClampNeg by omega] at q
    by_cases e : lg_cmp (M.2 74 (s.toNatClampNeg + i.toNatClampNeg)) (M.2 75 i.toNatClampNeg) = 0
    · rw [if_pos e] at q
      refine ih n' (i + 1) (by omega) (by omega) (fun k hk => ?_) M' x q
      by_cases ck : k = i.toNatClampNeg
      · rw [ck]; exact lg_0.mp e
      · exact h k (by omega)
    · rw [if_neg e] at q
      obtain ⟨rfl, rfl⟩ := rs_e q
      exact ⟨rfl, Or.inr ⟨rfl, fun z => e (lg_0.mpr (z _ (by omega)))⟩⟩
theorem ik_e {M M' : Mm} {s x : Int32} (hs : 0 ≤ s.toInt ∧ s.toInt ≤ 4995) (q : q_Checker_isKey M s = some (M', x)) : M' = M ∧ ((x = 1 ∧ ∀ k, k < 5 → M.2 74 (s.toNatClampNeg + k) = M.2 75 k) ∨ (x = 0 ∧ ¬ ∀ k, k < 5 → M.2 74 (s.toNatClampNeg + k) = M.2 75 k)) := by
  unfold q_Checker_isKey at q
  exact ik_l hs 5 4000 0 (by decide) (by decide) (fun k hk => nlz (by have e0 : (0 : Int32).toNatClampNeg = 0 := rfl; rw [e0] at hk; exact hk)) M' x q
theorem m11 {h d : Int32} (hh : 0 ≤ h.toInt ∧ h.toInt ≤ 2047) (hd : 0 ≤ d.toInt ∧ d.toInt < 2048) : ((h + d) &&& 2047).toNatClampNeg = (h.toNatClampNeg + d.toNatClampNeg) % 2048 ∧ 0 ≤ ((h + d) &&& 2047).toInt ∧ ((h + d) &&& 2047).toInt ≤ 2047 := by
  have e : (h + d).toInt = h.toInt + d.toInt := iadd rfl rfl (by omega) (by omega)
  have i2 := iand (a := h + d) (c := 2047) (by decide)
  have i3 : (2047 : Int32).toInt = 2047 := rfl
  have t1 := tnc hh.1
  have t2 := tnc hd.1
  have nn : ∀ v : Int32, 0 ≤ v.toInt → (v.toBitVec.toNat : Int) = v.toInt := by
    intro v hv
    have h0 : 0 ≤ v.toBitVec.toInt := hv
    show _ = v.toBitVec.toInt
    rw [BitVec.toInt_eq_toNat_cond] at h0 ⊢
    have := v.toBitVec.isLt
    split at h0
    · rename_i z
      rw [if_pos z]
    · exfalso
      omega
  have a1 := nn (h + d) (by omega)
  have a2 := nn ((h + d) &&& 2047) i2.1
  have a3 : ((h + d) &&& 2047).toBitVec.toNat = (h + d).toBitVec.toNat % 2048 := by
    have z : ((h + d) &&& 2047).toBitVec = (h + d).toBitVec &&& (2047 : Int32).toBitVec := rfl
    rw [z, BitVec.toNat_and]
    exact Nat.and_two_pow_sub_one_eq_mod _ 11
  have t3 := tnc (i := (h + d) &&& 2047) i2.1
  refine ⟨by omega, i2.1, by omega⟩
theorem cnt_up {p p' : Nat → Bool} {k : Nat} (h1 : p k = false) (h2 : p' k = true) (h3 : ∀ j, j ≠ k → p' j = p j) : ∀ n : Nat, cnt p' n = cnt p n + if k < n then 1 else 0 := by
  intro n
  induction n with
  | zero => rfl
  | succ n ih =>
    rw [cnt, cnt, ih]
    by_cases c : n = k
    · subst c
      rw [h1, h2]
      simp
    · rw [h3 n c]
      by_cases d : k < n
      · rw [if_pos d, if_pos (show k < n + 1 by omega)]
        omega
      · rw [if_neg d, if_neg (show ¬ k < n + 1 by omega)]
        omega
theorem cnt_all {p : Nat → Bool} : ∀ n : Nat, (∀ k, k < n → p k = true) → cnt p n = n := by
  intro n
  induction n with
  | zero => intro _; rfl
  | succ n ih =>
    intro h
    rw [cnt, ih (fun k hk => h k (by omega)), h n (by omega), if_pos rfl]
def rwK (M : Mm) (i : Nat) : Nat → Int64 := fun j => M.2 74 (5 * i + j)
def nzS (M : Mm) (k : Nat) : Bool := !decide (M.1 76 k = 0)
/-- every situation is found again -/
def HT (M : Mm) : Prop := (0 ≤ (M.1 73 6).toInt ∧ (M.1 73 6).toInt ≤ 1000) ∧ (∀ k, 0 ≤ (M.1 76 k).toInt ∧ (M.1 76 k).toInt ≤ (M.1 73 6).toInt) ∧ cnt (nzS M) 2048 = (M.1 73 6).toNatClampNeg ∧ ∀ i, i < (M.1 73 6).toNatClampNeg → ∃ d, d < 2048 ∧ M.1 76 (((hsV (rwK M i)).toNatClampNeg + d) % 2048) = Int32.ofNat (i + 1) ∧ ∀ e, e < d → M.1 76 (((hsV (rwK M i)).toNatClampNeg + e) % 2048) ≠ 0
/-- what meeting a key k does: it stands there; it is added; there are too many -/
def MT (A M' : Mm) (k : Nat → Int64) : Prop := (∀ p, p ≠ 73 → p ≠ 76 → M'.1 p = A.1 p) ∧ (∀ j, j ≠ 6 → j ≠ 7 → M'.1 73 j = A.1 73 j) ∧ HT M' ∧ (∀ i, i < (A.1 73 6).toNatClampNeg → ∀ j, j < 5 → rwK M' i j = rwK A i j) ∧ (((∃ i, i < (A.1 73 6).toNatClampNeg ∧ ∀ j, j < 5 → rwK A i j = k j) ∧ M'.1 73 6 = A.1 73 6 ∧ M'.1 73 7 = A.1 73 7) ∨ ((¬ ∃ i, i < (A.1 73 6).toNatClampNeg ∧ ∀ j, j < 5 → rwK A i j = k j) ∧ (((A.1 73 6).toInt < 1000 ∧ M'.1 73 6 = A.1 73 6 + 1 ∧ M'.1 73 7 = A.1 73 7 ∧ ∀ j, j < 5 → rwK M' (A.1 73 6).toNatClampNeg j = k j) ∨ ((A.1 73 6).toInt = 1000 ∧ M'.1 73 6 = A.1 73 6 ∧ M'.1 73 7 = 1))))
theorem add_m {A : Mm} (h : HT A) {h0 : Int32} (eh : h0 = hsV (A.2 75)) {d : Int32} (hd : 0 ≤ d.toInt ∧ d.toInt < 2048) (hz : A.1 76 ((h0.toNatClampNeg + d.toNatClampNeg) % 2048) = 0) (hp : ∀ e, e < d.toNatClampNeg → A.1 76 ((h0.toNatClampNeg + e) % 2048) ≠ 0 ∧ ¬ ∀ j, j < 5 → rwK A ((A.1 76 ((h0.toNatClampNeg + e) % 2048)).toNatClampNeg - 1) j = A.2 75 j) {M' : Mm} {x : Int32} (q : q_Checker_add A ((h0 + d) &&& 2047) = some (M', x)) : MT A M' (A.2 75) := by
  obtain ⟨hc, h1, h2, h3⟩ := h
  have tc := tnc hc.1
  have z1000 : (1000 : Int32).toInt = 1000 := rfl
  have hr := hsV_r (A.2 75)
  rw [← eh] at hr
  obtain ⟨es, -, -⟩ := m11 hr hd
  have no : ¬ ∃ i, i < (A.1 73 6).toNatClampNeg ∧ ∀ j, j < 5 → rwK A i j = A.2 75 j := by
    intro ⟨i, hi, hk⟩
    obtain ⟨di, d1, d2, d3⟩ := h3 i hi
    have eq : hsV (rwK A i) = h0 := by rw [eh]; exact hsV_cg hk
    rw [eq] at d2 d3
    have en : (Int32.ofNat (i + 1)).toInt = ((i + 1 : Nat) : Int) := Int32.toInt_ofNat_of_lt (by omega)
    have tn := tnc (i := Int32.ofNat (i + 1)) (by omega)
    rcases Nat.lt_trichotomy di d.toNatClampNeg with c | c | c
    · have z := (hp di c).2
      rw [d2, show (Int32.ofNat (i + 1)).toNatClampNeg - 1 = i by omega] at z
      exact z hk
    · rw [c, hz] at d2
      rw [← d2] at en
      have e0 : (0 : Int32).toInt = 0 := rfl
      omega
    · exact d3 _ c hz
  unfold q_Checker_add at q
  by_cases c : A.1 73 6 < 1000
  · have cl := Int32.lt_iff_toInt_lt.mp c
    rw [if_pos c] at q
    have e5 : (A.1 73 6 * 5).toInt = (A.1 73 6).toInt * 5 := imul rfl (rfl : (5 : Int32).toInt = 5) (by omega) (by omega)
    have t5 := tnc (i := A.1 73 6 * 5) (by omega)
    have q : lt' (stJ A 74 (va_cpy (A.2 75) (A.2 74) (0 : Int32).toNatClampNeg ((A.1 73 6 * 5) : Int32).toNatClampNeg (5 : Int32).toNatClampNeg)) (fun M1 => lt' (stI M1 73 (upd (M1.1 73) 6 ((M1.1 73 6) + 1))) fun M2 => ix ((h0 + d) &&& 2047) 2048 <| lt' (stI M2 76 (upd (M2.1 76) (((h0 + d) &&& 2047) : Int32).toNatClampNeg (M2.1 73 6))) fun M3 => some (M3, 0)) = some (M', x) := by
      unfold cpk at q
      split at q
      · exact q
      · cases q
    rw [lq_s, lq_s] at q
    have q := ix_r q
    rw [lq_s, es] at q
    obtain ⟨e', -⟩ := rs_e q
    have ec : (A.1 73 6 + 1).toInt = (A.1 73 6).toInt + 1 := iadd rfl (rfl : (1 : Int32).toInt = 1) (by omega) (by omega)
    have tc' := tnc (i := A.1 73 6 + 1) (by omega)
    have y73 : M'.1 73 = upd (A.1 73) 6 (A.1 73 6 + 1) := by rw [← e']; rfl
    have y76 : M'.1 76 = upd (A.1 76) ((h0.toNatClampNeg + d.toNatClampNeg) % 2048) (A.1 73 6 + 1) := by rw [← e']; rfl
    have yo : ∀ p, p ≠ 73 → p ≠ 76 → M'.1 p = A.1 p := fun p p1 p2 => by rw [← e', stI_ne _ _ p2, stI_ne _ _ p1]; rfl
    have y74 : ∀ k, M'.2 74 k = if 5 * (A.1 73 6).toNatClampNeg ≤ k ∧ k < 5 * (A.1 73 6).toNatClampNeg + 5 then A.2 75 (k - 5 * (A.1 73 6).toNatClampNeg) else A.2 74 k := fun k => by
      have z : M'.2 74 = va_cpy (A.2 75) (A.2 74) (0 : Int32).toNatClampNeg ((A.1 73 6 * 5) : Int32).toNatClampNeg (5 : Int32).toNatClampNeg := by
        rw [← e']
        exact stJ_at A 74 _
      rw [z]
      show (if (A.1 73 6 * 5).toNatClampNeg ≤ k ∧ k < (A.1 73 6 * 5).toNatClampNeg + 5 then A.2 75 (0 + (k - (A.1 73 6 * 5).toNatClampNeg)) else A.2 74 k) = _
      rw [show (A.1 73 6 * 5).toNatClampNeg = 5 * (A.1 73 6).toNatClampNeg by omega, Nat.zero_add]
    have old : ∀ i, i < (A.1 73 6).toNatClampNeg → ∀ j, j < 5 → rwK M' i j = rwK A i j := fun i hi j hj => by
      unfold rwK
      rw [y74, if_neg (by omega)]
    have new : ∀ j, j < 5 → rwK M' (A.1 73 6).toNatClampNeg j = A.2 75 j := fun j hj => by
      unfold rwK
      rw [y74, if_pos (by omega), show 5 * (A.1 73 6).toNatClampNeg + j - 5 * (A.1 73 6).toNatClampNeg = j by omega]
    have y6 : M'.1 73 6 = A.1 73 6 + 1 := by rw [y73, updS]
    have nz : A.1 73 6 + 1 ≠ 0 := fun z => by
      rw [z] at ec
      have e0 : (0 : Int32).toInt = 0 := rfl
      omega
    refine ⟨yo, fun j j1 j2 => by rw [y73, updN j1], ⟨by rw [y6]; omega, fun k => ?_, ?_, fun i hi => ?_⟩, old, Or.inr ⟨no, Or.inl ⟨by omega, y6, by rw [y73, updN (by decide)], new⟩⟩⟩
    · rw [y6, y76]
      by_cases ck : k = (h0.toNatClampNeg + d.toNatClampNeg) % 2048
      · rw [ck, updS]; omega
      · rw [updN ck]
        have := h1 k
        omega
    · rw [y6, cnt_up (p := nzS A) (k := (h0.toNatClampNeg + d.toNatClampNeg) % 2048) (by unfold nzS; rw [hz]; rfl) (by unfold nzS; rw [y76, updS, decide_eq_false nz]; rfl) (fun j hj => by unfold nzS; rw [y76, updN hj]) 2048, if_pos (Nat.mod_lt _ (by decide)), h2]
      omega
    · rw [y6] at hi
      by_cases ci : i = (A.1 73 6).toNatClampNeg
      · have eq : hsV (rwK M' i) = h0 := by rw [eh, ci]; exact hsV_cg new
        rw [eq, y76]
        refine ⟨d.toNatClampNeg, by have := tnc hd.1; omega, ?_, fun e he => ?_⟩
        · rw [updS, of_i (v := A.1 73 6 + 1) (by omega)]
          congr 1
          have : (A.1 73 6 + 1).toInt.toNat = (A.1 73 6 + 1).toNatClampNeg := rfl
          omega
        · by_cases cs : (h0.toNatClampNeg + e) % 2048 = (h0.toNatClampNeg + d.toNatClampNeg) % 2048
          · rw [cs, updS]; exact nz
          · rw [updN cs]; exact (hp e he).1
      · obtain ⟨di, d1, d2, d3⟩ := h3 i (by omega)
        have eq : hsV (rwK M' i) = hsV (rwK A i) := hsV_cg (old i (by omega))
        rw [eq, y76]
        refine ⟨di, d1, ?_, fun e he => ?_⟩
        · rw [updN (fun z => ?_)]
          · exact d2
          · rw [z, hz] at d2
            have en : (Int32.ofNat (i + 1)).toInt = ((i + 1 : Nat) : Int) := Int32.toInt_ofNat_of_lt (by omega)
            rw [← d2] at en
            have e0 : (0 : Int32).toInt = 0 := rfl
            omega
        · by_cases cs : ((hsV (rwK A i)).toNatClampNeg + e) % 2048 = (h0.toNatClampNeg + d.toNatClampNeg) % 2048
          · rw [cs, updS]; exact nz
          · rw [updN cs]; exact d3 e he
  · have cl : ¬ (A.1 73 6).toInt < (1000 : Int32).toInt := fun z => c (Int32.lt_iff_toInt_lt.mpr z)
    rw [if_neg c, lq_s] at q
    obtain ⟨e', -⟩ := rs_e q
    have y73 : M'.1 73 = upd (A.1 73) 7 1 := by rw [← e', stI_at]
    have yo : ∀ p, p ≠ 73 → M'.1 p = A.1 p := fun p p1 => by rw [← e', stI_ne _ _ p1]
    have y2 : M'.2 = A.2 := by rw [← e']; rfl
    have y6 : M'.1 73 6 = A.1 73 6 := by rw [y73, updN (by decide)]
    have er : ∀ i, rwK M' i = rwK A i := fun i => by unfold rwK; rw [y2]
    refine ⟨fun p p1 _ => yo p p1, fun j _ j2 => by rw [y73, updN j2], ⟨by rw [y6]; exact hc, by rw [y6, yo 76 (by decide)]; exact h1, ?_, fun i hi => ?_⟩, fun i _ j _ => by rw [er], Or.inr ⟨no, Or.inr ⟨by omega, y6, by rw [y73, updS]⟩⟩⟩
    · have en : nzS M' = nzS A := by
        funext k
        unfold nzS
        rw [yo 76 (by decide)]
      rw [en, y6]
      exact h2
    · rw [y6] at hi
      rw [er, yo 76 (by decide)]
      exact h3 i hi
theorem HT.k {A M : Mm} (h : HT A) (e1 : M.1 73 = A.1 73) (e2 : M.1 76 = A.1 76) (e3 : M.2 74 = A.2 74) : HT M := by
  unfold HT nzS rwK
  rw [e1, e2, e3]
  exact h
theorem meet_l {A : Mm} (h : HT A) {h0 : Int32} (eh : h0 = hsV (A.2 75)) : ∀ (j n' : Nat) (d : Int32), 2048 - d.toInt = (j : Int) → 0 ≤ d.toInt → (∀ e, e < d.toNatClampNeg → A.1 76 ((h0.toNatClampNeg + e) % 2048) ≠ 0 ∧ ¬ ∀ j, j < 5 → rwK A ((A.1 76 ((h0.toNatClampNeg + e) % 2048)).toNatClampNeg - 1) j = A.2 75 j) → ∀ (M' : Mm) (x : Int32), q_Checker_meet_22 n' A h0 d = some (M', x) → MT A M' (A.2 75) := by
  have e2048 : (2048 : Int32).toInt = 2048 := rfl
  have hr := hsV_r (A.2 75)
  rw [← eh] at hr
  have hc := h.1
  have tc := tnc hc.1
  intro j
  induction j with
  | zero =>
    intro n' d hj d0 hp M' x q
    exfalso
    have td := tnc d0
    have all : ∀ k, k < 2048 → nzS A k = true := fun k hk => by
      have th := tnc hr.1
      have z := (hp ((k + 2048 - h0.toNatClampNeg) % 2048) (by omega)).1
      rw [show (h0.toNatClampNeg + (k + 2048 - h0.toNatClampNeg) % 2048) % 2048 = k by omega] at z
      unfold nzS
      rw [decide_eq_false z]
      rfl
    have z := cnt_all 2048 all
    rw [h.2.2.1] at z
    omega
  | succ j ih =>
    intro n' d hj d0 hp M' x q
    obtain ⟨n', rfl⟩ : ∃ m, n' = m + 1 := by
      cases n' with
      | zero => rw [q_Checker_meet_22] at q; cases q
      | succ m => exact ⟨m, rfl⟩
    have td := tnc d0
    have ez : (d + 1).toInt = d.toInt + 1 := iadd rfl (rfl : (1 : Int32).toInt = 1) (by omega) (by omega)
    have es : (d + 1).toNatClampNeg = d.toNatClampNeg + 1 := by
      have := tnc (i := d + 1) (by omega)
      omega
    have c : ¬ (2048 : Int32) ≤ d := fun z => by have := Int32.le_iff_toInt_le.mp z; omega
    obtain ⟨em, -, -⟩ := m11 (d := d) hr ⟨d0, by omega⟩
    rw [q_Checker_meet_22, if_neg c, lq_s] at q
    have q := ix_r q
    rw [em] at q
    by_cases z : A.1 76 ((h0.toNatClampNeg + d.toNatClampNeg) % 2048) = 0
    · rw [if_pos z] at q
      obtain ⟨M2, s, p, q⟩ := cal_o q
      obtain ⟨rfl, -⟩ := rs_e q
      exact add_m h eh ⟨d0, by omega⟩ z hp p
    rw [if_neg z] at q
    have q := ix_r q
    obtain ⟨M2, s, p, q⟩ := cal_o q
    have hv := h.2.1 ((h0.toNatClampNeg + d.toNatClampNeg) % 2048)
    have hv1 : 1 ≤ (A.1 76 ((h0.toNatClampNeg + d.toNatClampNeg) % 2048)).toInt := by
      have n0 : (A.1 76 ((h0.toNatClampNeg + d.toNatClampNeg) % 2048)).toInt ≠ 0 := fun y => z (Int32.toInt_inj.mp y)
      omega
    have tv := tnc hv.1
    have e1 : (A.1 76 ((h0.toNatClampNeg + d.toNatClampNeg) % 2048) - 1).toInt = (A.1 76 ((h0.toNatClampNeg + d.toNatClampNeg) % 2048)).toInt - 1 := isub rfl (rfl : (1 : Int32).toInt = 1) (by omega) (by omega)
    have e5 : ((A.1 76 ((h0.toNatClampNeg + d.toNatClampNeg) % 2048) - 1) * 5).toInt = ((A.1 76 ((h0.toNatClampNeg + d.toNatClampNeg) % 2048)).toInt - 1) * 5 := imul e1 (rfl : (5 : Int32).toInt = 5) (by omega) (by omega)
    have t5 := tnc (i := (A.1 76 ((h0.toNatClampNeg + d.toNatClampNeg) % 2048) - 1) * 5) (by omega)
    obtain ⟨rfl, hk⟩ := ik_e (by omega) p
    rw [show ((M2.1 76 ((h0.toNatClampNeg + d.toNatClampNeg) % 2048) - 1) * 5).toNatClampNeg = 5 * ((M2.1 76 ((h0.toNatClampNeg + d.toNatClampNeg) % 2048)).toNatClampNeg - 1) by omega] at hk
    rcases hk with ⟨rfl, hk⟩ | ⟨rfl, hk⟩
    · rw [if_neg (by decide : ¬ (1 : Int32) = 0)] at q
      obtain ⟨rfl, -⟩ := rs_e q
      exact ⟨fun _ _ _ => rfl, fun _ _ _ => rfl, h, fun _ _ _ _ => rfl, Or.inl ⟨⟨(M2.1 76 ((h0.toNatClampNeg + d.toNatClampNeg) % 2048)).toNatClampNeg - 1, by omega, hk⟩, rfl, rfl⟩⟩
    · rw [if_pos rfl] at q
      refine ih n' (d + 1) (by omega) (by omega) (fun e he => ?_) M' x q
      by_cases ce : e = d.toNatClampNeg
      · rw [ce]
        exact ⟨z, hk⟩
      · exact hp e (by omega)
/-- meet(): the plan's mind at a step -/
theorem meet_c {A : Mm} (h : HT A) {n : Nat} (hn : (A.1 24 0).toInt = (n : Int)) (h16 : n ≤ 16) (hw : ∀ r, r < 16 → ∀ b, 16 ≤ b → tb (A.1 62 r) b = false) {a : Int32} {M' : Mm} {x : Int32} (q : q_Checker_meet A a = some (M', x)) : ∃ k : Nat → Int64, KY n (if A.1 69 0 < a then A.1 69 0 else a) (A.1 61 2) (A.1 62) k ∧ MT A M' k := by
  unfold q_Checker_meet at q
  rw [lq_s] at q
  obtain ⟨M2, s2, p2, q2⟩ := cal_o q
  obtain ⟨M4, s4, p4, q4⟩ := cal_o q2
  obtain ⟨m1, m2, m3⟩ := mk_e hn h16 hw p2
  obtain ⟨rfl, eh⟩ := hs_e p4
  have h4 : HT M4 := h.k (by rw [m1]) (by rw [m1]) (m2 74 (by decide))
  have mt := meet_l h4 eh 2048 4000 0 (by decide) (by decide) (fun e he => nlz (by have e0 : (0 : Int32).toNatClampNeg = 0 := rfl; rw [e0] at he; exact he)) M' x q4
  refine ⟨M4.2 75, m3, ?_⟩
  unfold MT at mt ⊢
  have er : ∀ i, rwK M4 i = rwK A i := fun i => by unfold rwK; rw [m2 74 (by decide)]
  simp only [m1, er] at mt
  exact mt
end
section
-- the class's plan depends on the layout and on the mind alone
def SM (M1 M2 : Mm) : Prop := (∀ p, 24 ≤ p → p < 50 → M1.1 p = M2.1 p) ∧ M1.1 61 2 = M2.1 61 2 ∧ (∀ r, r < 16 → M1.1 62 r = M2.1 62 r) ∧ M1.1 60 2 = M2.1 60 2 ∧ M1.1 60 5 = M2.1 60 5
def PW (M : Mm) : Prop := ruI M ∧ (∀ f, (M.1 38 f).toInt ≤ 15) ∧ ((M.1 24 0).toInt ≤ 16) ∧ ∀ r : Nat, (r : Int) < (M.1 24 0).toInt → M.1 26 r ≠ -1 → (0 ≤ (M.1 26 r).toInt ∧ (M.1 26 r).toInt ≤ 25) ∧ 0 ≤ (M.1 38 (M.1 26 r).toNatClampNeg).toInt
theorem PW.k {M M' : Mm} (h : PW M) (e : ∀ p, 24 ≤ p → p < 50 → M'.1 p = M.1 p) : PW M' := by
  refine ⟨h.1.cg (fun p h1 h2 => e p (by omega) (by omega)), ?_⟩
  rw [e 24 (by decide) (by decide), e 26 (by decide) (by decide), e 38 (by decide) (by decide)]
  exact h.2
theorem brb_d {M1 M2 : Mm} (h : SM M1 M2) (hu : ruI M1) {fl : Int32} {r v : Int32} (hr : 0 ≤ r.toInt ∧ r.toInt ≤ 15) {k : Nat} (hk : (k : Int) < (M1.1 43 0).toInt) : brb M1 fl (M1.1 62) r v k = brb M2 fl (M2.1 62) r v k := by
  have t := tnc hr.1
  have hf := (hu.2 k hk).2.2
  have tf := tnc hf.1
  have e := h.1
  unfold brb wrb kvl
  rw [← e 38 (by decide) (by decide), ← e 40 (by decide) (by decide), ← e 42 (by decide) (by decide), ← e 44 (by decide) (by decide), ← e 45 (by decide) (by decide), ← e 46 (by decide) (by decide), ← e 47 (by decide) (by decide), ← h.2.2.1 r.toNatClampNeg (by omega), ← h.2.2.1 (M1.1 38 (M1.1 46 k).toNatClampNeg).toNatClampNeg (by omega)]
theorem nbb_d {M1 M2 : Mm} (h : SM M1 M2) {r v : Int32} (hr : 0 ≤ r.toInt ∧ r.toInt ≤ 15) (k : Nat) (old : Bool) : nbb M1 (M1.1 62) r v k old = nbb M2 (M2.1 62) r v k old := by
  have t := tnc hr.1
  have e := h.1
  unfold nbb wrb
  rw [← e 38 (by decide) (by decide), ← e 42 (by decide) (by decide), ← e 44 (by decide) (by decide), ← e 45 (by decide) (by decide), ← e 46 (by decide) (by decide), ← h.2.2.1 r.toNatClampNeg (by omega)]
theorem told_i {M M' : Mm} {r mk val x : Int32} (hu : ruI M) (hr : 0 ≤ r.toInt ∧ r.toInt ≤ 15) (q : q_Plan_addTold M r mk val = some (M', x)) : ((M.1 60 5 ≠ 0 ∨ ¬ M.1 60 2 < 16) ∧ M' = M) ∨ (M.1 60 5 = 0 ∧ M.1 60 2 < 16 ∧ ∃ w m : Int32, w = (M.1 62 r.toNatClampNeg &&& (mk ^^^ (-1))) ||| val ∧ (∀ b, tb m b = (decide (b < (M.1 43 0).toNatClampNeg) && brb M (M.1 61 2) (M.1 62) r w b)) ∧ (∀ p, p < 60 ∨ 65 ≤ p → M'.1 p = M.1 p) ∧ ((m ≠ 0 ∧ M'.1 60 2 = M.1 60 2 ∧ M'.1 60 5 = 1 + nzV m ∧ M'.1 61 2 = M.1 61 2 ∧ M'.1 62 = M.1 62) ∨ (m = 0 ∧ M'.1 60 2 = M.1 60 2 + 1 ∧ M'.1 60 5 = M.1 60 5 ∧ (∀ b, tb (M'.1 61 2) b = if b < (M.1 43 0).toNatClampNeg then nbb M (M.1 62) r w b (tb (M.1 61 2) b) else tb (M.1 61 2) b) ∧ M'.1 62 = upd (M.1 62) r.toNatClampNeg (w &&& M.1 29 r.toNatClampNeg)))) := by
  unfold q_Plan_addTold at q
  by_cases c5 : M.1 60 5 = 0
  rotate_left
  · rw [if_neg c5] at q
    exact Or.inl ⟨Or.inl c5, (rs_e q).1.symm⟩
  rw [if_pos c5] at q
  by_cases c2 : M.1 60 2 < 16
  rotate_left
  · rw [if_neg c2] at q
    exact Or.inl ⟨Or.inr c2, (rs_e q).1.symm⟩
  rw [if_pos c2] at q
  have q := ix_r q
  rw [lq_s] at q
  obtain ⟨m, b1, bm⟩ := bby_1 hu (v := (M.1 62 r.toNatClampNeg &&& (mk ^^^ (-1))) ||| val) hr
  rw [b1, cal_s] at q
  refine Or.inr ⟨c5, c2, _, m, rfl, bm, ?_⟩
  by_cases m0 : m = 0
  · rw [if_pos m0] at q
    obtain ⟨M4, p1, x1, x2, x3, x4, x5⟩ := mw_1 hu (v := (M.1 62 r.toNatClampNeg &&& (mk ^^^ (-1))) ||| val) hr
    rw [p1, cal_s] at q
    have q := ix_r q
    rw [lq_s] at q
    have q := ix_r q
    rw [lq_s, lq_s] at q
    obtain ⟨e8, -⟩ := rs_e q
    have s60 : M4.1 60 = M.1 60 := x1 60 (by decide) (by decide)
    have y60 : M'.1 60 = upd (M.1 60) 2 (M.1 60 2 + 1) := by
      rw [← e8, stI_at, stI_ne _ _ (by decide), stI_ne _ _ (by decide), s60]
    refine ⟨fun p hp => ?_, Or.inr ⟨m0, by rw [y60, updS], by rw [y60, updN (by decide)], fun b => ?_, ?_⟩⟩
    · rw [← e8, stI_ne _ _ (by omega), stI_ne _ _ (by omega), stI_ne _ _ (by omega), x1 p (by omega) (by omega)]
    · rw [← e8, stI_ne _ _ (by decide), stI_ne _ _ (by decide), stI_ne _ _ (by decide)]; exact x5 b
    · rw [← e8, stI_ne _ _ (by decide), stI_ne _ _ (by decide), stI_ne _ _ (by decide)]; exact x4
  · rw [if_neg m0, nz_e, cal_s, lq_s] at q
    obtain ⟨e6, -⟩ := rs_e q
    refine ⟨fun p hp => ?_, Or.inl ⟨m0, ?_, ?_, ?_, ?_⟩⟩
    · rw [← e6, stI_ne _ _ (by omega)]
    · rw [← e6, stI_at, updN (by decide)]
    · rw [← e6, stI_at, updS]
    · rw [← e6, stI_ne _ _ (by decide)]
    · rw [← e6, stI_ne _ _ (by decide)]
theorem told_d {M1 M2 : Mm} (h : SM M1 M2) (hu : ruI M1) {r mk val : Int32} (hr : 0 ≤ r.toInt ∧ r.toInt ≤ 15) {M1' M2' : Mm} {x1 x2 : Int32} (q1 : q_Plan_addTold M1 r mk val = some (M1', x1)) (q2 : q_Plan_addTold M2 r mk val = some (M2', x2)) : SM M1' M2' := by
  have t := tnc hr.1
  have hu2 : ruI M2 := hu.cg (fun p h1 h2 => (h.1 p (by omega) (by omega)).symm)
  obtain ⟨e, e61, e62, e602, e605⟩ := id h
  have tr := tnc hu.1.1
  rcases told_i hu hr q1 with ⟨c, rfl⟩ | ⟨c5, c2, w, m, ew, bm, fp, hm⟩
  · rcases told_i hu2 hr q2 with ⟨c', rfl⟩ | ⟨c5', c2', -⟩
    · exact h
    · rw [← e605] at c5'
      rw [← e602] at c2'
      rcases c with c | c
      · exact absurd c5' c
      · exact absurd c2' c
  · rcases told_i hu2 hr q2 with ⟨c', rfl⟩ | ⟨c5', c2', w', m', ew', bm', fp', hm'⟩
    · rw [← e605, ← e602] at c'
      rcases c' with c' | c'
      · exact absurd c5 c'
      · exact absurd c2 c'
    · have eww : w = w' := by rw [ew, ew', e62 _ (by omega)]
      subst eww
      have emm : m = m' := by
        apply tb_ext
        intro b _
        rw [bm b, bm' b, ← e 43 (by decide) (by decide)]
        by_cases cb : b < (M1.1 43 0).toNatClampNeg
        · rw [brb_d h hu hr (by omega), e61]
        · rw [decide_eq_false cb, Bool.false_and, Bool.false_and]
      subst emm
      have ep : ∀ p, 24 ≤ p → p < 50 → M1'.1 p = M2'.1 p := fun p h1 h2 => by rw [fp p (by omega), fp' p (by omega)]; exact e p h1 h2
      rcases hm with ⟨m0, a1, a2, a3, a4⟩ | ⟨m0, a1, a2, a3, a4⟩
      · rcases hm' with ⟨-, b1, b2', b3, b4⟩ | ⟨m1, -⟩
        · exact ⟨ep, by rw [a3, b3, e61], fun r hr => by rw [a4, b4]; exact e62 r hr, by rw [a1, b1, e602], by rw [a2, b2']⟩
        · exact absurd m1 m0
      · rcases hm' with ⟨m1, -⟩ | ⟨-, b1, b2', b3, b4⟩
        · exact absurd m0 m1
        · refine ⟨ep, tb_ext (fun b _ => ?_), fun q hq => ?_, by rw [a1, b1, e602], by rw [a2, b2', e605]⟩
          · rw [a3 b, b3 b, ← e 43 (by decide) (by decide), nbb_d h hr, e61]
          · rw [a4, b4, e 29 (by decide) (by decide)]
            by_cases cq : q = r.toNatClampNeg
            · rw [cq, updS, updS]
            · rw [updN cq, updN cq]
              exact e62 q hq
theorem reach_d {M1 M2 : Mm} (h : SM M1 M2) (hw : PW M1) {r : Int32} (hr : 0 ≤ r.toInt ∧ r.toInt < (M1.1 24 0).toInt) {M1' M2' : Mm} {x1 x2 : Int32} (q1 : q_Plan_addReach M1 r = some (M1', x1)) (q2 : q_Plan_addReach M2 r = some (M2', x2)) : SM M1' M2' ∧ PW M1' := by
  have t := tnc hr.1
  have h16 := hw.2.2.1
  have e := h.1
  have hw2 : PW M2 := hw.k (fun p h1 h2 => (e p h1 h2).symm)
  have hb : M1.1 26 r.toNatClampNeg ≠ -1 → (0 ≤ (M1.1 26 r.toNatClampNeg).toInt ∧ (M1.1 26 r.toNatClampNeg).toInt ≤ 25) ∧ (0 ≤ (M1.1 38 (M1.1 26 r.toNatClampNeg).toNatClampNeg).toInt ∧ (M1.1 38 (M1.1 26 r.toNatClampNeg).toNatClampNeg).toInt ≤ 15) := fun c => by
    have z := hw.2.2.2 r.toNatClampNeg (by omega) c
    exact ⟨z.1, z.2, hw.2.1 _⟩
  unfold q_Plan_addReach at q1 q2
  rw [th_1 (M := M1) ⟨hr.1, by omega⟩ hb, cal_s] at q1
  rw [th_1 (M := M2) ⟨hr.1, by omega⟩ (by rw [← e 26 (by decide) (by decide), ← e 38 (by decide) (by decide)]; exact hb), cal_s] at q2
  have et : thb M2 (M2.1 62) r = thb M1 (M1.1 62) r := by
    unfold thb kvl
    rw [← e 26 (by decide) (by decide), ← e 27 (by decide) (by decide), ← e 38 (by decide) (by decide), ← e 40 (by decide) (by decide), ← e 42 (by decide) (by decide)]
    by_cases c : M1.1 26 r.toNatClampNeg = -1
    · rw [decide_eq_true c, Bool.true_or, Bool.true_or]
    · have z := (hb c).2
      have tz := tnc z.1
      rw [← h.2.2.1 _ (show (M1.1 38 (M1.1 26 r.toNatClampNeg).toNatClampNeg).toNatClampNeg < 16 by omega)]
  rw [et] at q2
  by_cases z : b2 (thb M1 (M1.1 62) r) = 0
  · rw [if_pos z] at q1 q2
    have c : M1.1 26 r.toNatClampNeg ≠ -1 := by
      intro c
      rw [b2_0] at z
      unfold thb at z
      rw [decide_eq_true c, Bool.true_or] at z
      cases z
    have q1 := ix_r q1
    rw [lq_s] at q1
    have q1 := ix_r (ix_r (ix_r (ix_r q1)))
    have q2 := ix_r q2
    rw [lq_s] at q2
    have q2 := ix_r (ix_r (ix_r (ix_r q2)))
    rw [← e 26 (by decide) (by decide), ← e 27 (by decide) (by decide), ← e 38 (by decide) (by decide), ← e 40 (by decide) (by decide), ← e 42 (by decide) (by decide)] at q2
    obtain ⟨A1, s1, p1, q1⟩ := cal_o q1
    obtain ⟨rfl, -⟩ := rs_e q1
    obtain ⟨A2, s2, p2, q2⟩ := cal_o q2
    obtain ⟨rfl, -⟩ := rs_e q2
    refine ⟨told_d h hw.1 (hb c).2 p1 p2, hw.k ?_⟩
    rcases told_i hw.1 (hb c).2 p1 with ⟨-, rfl⟩ | ⟨-, -, -, -, -, -, fp, -⟩
    · exact fun _ _ _ => rfl
    · exact fun p h1 h2 => fp p (by omega)
  · rw [if_neg z] at q1 q2
    obtain ⟨rfl, -⟩ := rs_e q1
    obtain ⟨rfl, -⟩ := rs_e q2
    exact ⟨h, hw⟩
theorem put_d {M1 M2 : Mm} (h : SM M1 M2) (hw : PW M1) {f v : Int32} (hf : 0 ≤ f.toInt ∧ f.toInt ≤ 25) (hh : 0 ≤ (M1.1 38 f.toNatClampNeg).toInt ∧ (M1.1 38 f.toNatClampNeg).toInt < (M1.1 24 0).toInt) {M1' M2' : Mm} {x1 x2 : Int32} (q1 : q_Plan_addPut M1 f v = some (M1', x1)) (q2 : q_Plan_addPut M2 f v = some (M2', x2)) : SM M1' M2' := by
  have e := h.1
  have h16 := hw.2.2.1
  have hh15 : 0 ≤ (M1.1 38 f.toNatClampNeg).toInt ∧ (M1.1 38 f.toNatClampNeg).toInt ≤ 15 := by omega
  have th := tnc hh.1
  have go : q_Plan_addPut_24 M1 f v = some (M1', x1) → q_Plan_addPut_24 M2 f v = some (M2', x2) → SM M1' M2' := by
    intro q1 q2
    unfold q_Plan_addPut_24 at q1 q2
    have q1 := ix_r q1
    have q2 := ix_r q2
    rw [lq_s] at q1 q2
    rw [← e 38 (by decide) (by decide)] at q2
    obtain ⟨A1, s1, p1, q1⟩ := cal_o q1
    obtain ⟨A2, s2, p2, q2⟩ := cal_o q2
    obtain ⟨h1, hw1⟩ := reach_d h hw hh p1 p2
    have q1 := ix_r (ix_r q1)
    have q2 := ix_r (ix_r q2)
    rw [← h1.1 42 (by decide) (by decide), ← h1.1 40 (by decide) (by decide)] at q2
    obtain ⟨A3, s3, p3, q1⟩ := cal_o q1
    obtain ⟨rfl, -⟩ := rs_e q1
    obtain ⟨A4, s4, p4, q2⟩ := cal_o q2
    obtain ⟨rfl, -⟩ := rs_e q2
    exact told_d h1 hw1.1 hh15 p3 p4
  unfold q_Plan_addPut at q1 q2
  obtain ⟨t1, k1, k2⟩ := kn_e (M := M1) f hf
  obtain ⟨t2, l1, l2⟩ := kn_e (M := M2) f hf
  rw [k1, cal_s] at q1
  rw [l1, cal_s] at q2
  rw [← e 39 (by decide) (by decide)] at l2
  have ev : q_Mind_knownValue_1 M2 f = some (M2, kvl M1 (M1.1 62) f) := by
    rw [kve_1 (M := M2) hf (by rw [← e 38 (by decide) (by decide)]; exact hh15)]
    unfold kvl
    rw [← e 38 (by decide) (by decide), ← e 40 (by decide) (by decide), ← e 42 (by decide) (by decide), ← h.2.2.1 _ (show (M1.1 38 f.toNatClampNeg).toNatClampNeg < 16 by omega)]
  rcases k2 with ⟨rfl, nk⟩ | ⟨rfl, kk⟩
  · rcases l2 with ⟨rfl, -⟩ | ⟨rfl, kk⟩
    · rw [if_pos rfl] at q1 q2
      exact go q1 q2
    · exact absurd kk nk
  · rcases l2 with ⟨rfl, nk⟩ | ⟨rfl, -⟩
    · exact absurd kk nk
    · rw [if_neg (by decide : ¬ (1 : Int32) = 0)] at q1 q2
      rw [kve_1 (M := M1) hf hh15, cal_s] at q1
      rw [ev, cal_s] at q2
      by_cases cv : kvl M1 (M1.1 62) f = v
      · rw [if_pos cv] at q1 q2
        obtain ⟨rfl, -⟩ := rs_e q1
        obtain ⟨rfl, -⟩ := rs_e q2
        exact h
      · rw [if_neg cv] at q1 q2
        exact go q1 q2
theorem fet_d {M1 M2 : Mm} (h : SM M1 M2) (hw : PW M1) {f : Int32} (hh : 0 ≤ (M1.1 38 f.toNatClampNeg).toInt ∧ (M1.1 38 f.toNatClampNeg).toInt < (M1.1 24 0).toInt) {M1' M2' : Mm} {x1 x2 : Int32} (q1 : q_Plan_addFetch M1 f = some (M1', x1)) (q2 : q_Plan_addFetch M2 f = some (M2', x2)) : SM M1' M2' := by
  have e := h.1
  unfold q_Plan_addFetch at q1 q2
  have q1 := ix_r q1
  have q2 := ix_r q2
  rw [← e 39 (by decide) (by decide), ← e 38 (by decide) (by decide)] at q2
  by_cases c : M1.1 39 f.toNatClampNeg = 0
  · rw [if_pos c] at q1 q2
    obtain ⟨rfl, -⟩ := rs_e q1
    obtain ⟨rfl, -⟩ := rs_e q2
    exact h
  · rw [if_neg c] at q1 q2
    have q1 := ix_r q1
    have q2 := ix_r q2
    obtain ⟨A1, s1, p1, q1⟩ := cal_o q1
    obtain ⟨rfl, -⟩ := rs_e q1
    obtain ⟨A2, s2, p2, q2⟩ := cal_o q2
    obtain ⟨rfl, -⟩ := rs_e q2
    exact (reach_d h hw hh p1 p2).1
end
section
-- situations, and the class's search through them
def cw (w : Nat → Int32) : Nat → Int32 := fun r => if r < 16 then w r else 0
theorem cw_e {w : Nat → Int32} {r : Nat} (h : r < 16) : cw w r = w r := if_pos h
theorem cw_x {w w' : Nat → Int32} (h : ∀ r, r < 16 → w r = w' r) : cw w = cw w' := by
  funext r
  unfold cw
  by_cases c : r < 16
  · rw [if_pos c, if_pos c]; exact h r c
  · rw [if_neg c, if_neg c]
theorem cw_cw {w : Nat → Int32} : cw (cw w) = cw w := cw_x (fun _ h => cw_e h)
def mn (v l : Int32) : Int32 := if l < v then l else v
/-- the class as it stands at a situation, a plan begun -/
def PM (C : Mm) (fl : Int32) (wd : Nat → Int32) (M : Mm) : Prop := (∀ p, p < 60 ∨ (65 ≤ p ∧ p ≤ 72) → M.1 p = C.1 p) ∧ M.1 60 2 = 0 ∧ M.1 60 5 = 0 ∧ M.1 61 2 = fl ∧ ∀ r, r < 16 → M.1 62 r = wd r
/-- a put or a fetch of the script, told to the plan -/
def PS (C : Mm) (a : Nat) (M M' : Mm) : Prop := (C.1 70 a = 0 ∧ ∃ x, q_Plan_addPut M (C.1 71 a) (C.1 72 a) = some (M', x)) ∨ (C.1 70 a = 1 ∧ ∃ x, q_Plan_addFetch M (C.1 71 a) = some (M', x))
abbrev Sit := Int32 × Int32 × (Nat → Int32)
/-- from one situation to a next one -/
def Es (C : Mm) (s s' : Sit) : Prop := s.1.toInt < (C.1 69 0).toInt ∧ ((C.1 70 s.1.toNatClampNeg = 3 ∧ s' = (C.1 69 0, s.2)) ∨ (C.1 70 s.1.toNatClampNeg = 2 ∧ (s' = (s.1 + 1, s.2) ∨ s' = (mn (C.1 72 s.1.toNatClampNeg) (C.1 69 0), s.2))) ∨ ∃ M M', PM C s.2.1 s.2.2 M ∧ PS C s.1.toNatClampNeg M M' ∧ M'.1 60 5 = 0 ∧ s' = (s.1 + 1, M'.1 61 2, cw (M'.1 62)))
/-- the step of a situation is told -/
def Ts (C : Mm) (s : Sit) : Prop := s.1.toInt < (C.1 69 0).toInt ∧ ∃ M M', PM C s.2.1 s.2.2 M ∧ PS C s.1.toNatClampNeg M M' ∧ M'.1 60 5 ≠ 0
def s0 (C : Mm) : Sit := (0, 0, cw (fun r => C.1 28 r &&& C.1 29 r))
def Rch (C : Mm) (s : Sit) : Prop := ∀ P : Sit → Prop, P (s0 C) → (∀ a b, P a → Es C a b → P b) → P s
theorem Rch.z (C : Mm) : Rch C (s0 C) := fun _ h _ => h
theorem Rch.e {C : Mm} {s s' : Sit} (h : Rch C s) (e : Es C s s') : Rch C s' := fun P h0 h1 => h1 s s' (h P h0 h1) e
/-- what can stand in a situation -/
def Vs (C : Mm) (s : Sit) : Prop := (0 ≤ s.1.toInt ∧ s.1.toInt ≤ (C.1 69 0).toInt) ∧ (∀ b, (C.1 43 0).toNatClampNeg ≤ b → tb s.2.1 b = false) ∧ (∀ r, r < 16 → ∀ b, tb (s.2.2 r) b = true → tb (C.1 29 r) b = true) ∧ cw s.2.2 = s.2.2
/-- the map and the script of which situations speak -/
def CX (C : Mm) : Prop := PW C ∧ (0 ≤ (C.1 24 0).toInt) ∧ (0 ≤ (C.1 69 0).toInt ∧ (C.1 69 0).toInt ≤ 40) ∧ (∀ r, r < 16 → ∀ b, 16 ≤ b → tb (C.1 29 r) b = false) ∧ (∀ r : Nat, r < 16 → (C.1 24 0).toInt ≤ (r : Int) → C.1 29 r = 0) ∧ ∀ a : Nat, (a : Int) < (C.1 69 0).toInt → C.1 70 a = 3 ∨ (C.1 70 a = 2 ∧ 0 ≤ (C.1 72 a).toInt ∧ (C.1 72 a).toInt ≤ 40) ∨ ((C.1 70 a = 0 ∨ C.1 70 a = 1) ∧ (0 ≤ (C.1 71 a).toInt ∧ (C.1 71 a).toInt ≤ 25) ∧ (0 ≤ (C.1 38 (C.1 71 a).toNatClampNeg).toInt ∧ (C.1 38 (C.1 71 a).toNatClampNeg).toInt < (C.1 24 0).toInt))
theorem Vs.ok {C : Mm} (hc : CX C) {s : Sit} (h : Vs C s) : OKs s.1 s.2.1 s.2.2 := by
  have r12 := hc.1.1.1
  have tr := tnc r12.1
  have l40 := hc.2.2.1
  obtain ⟨h1, h2, h3, -⟩ := h
  refine ⟨by omega, fun b hb => h2 b (by omega), fun r hr b hb => ?_⟩
  cases z : tb (s.2.2 r) b with
  | false => rfl
  | true =>
    have y := h3 r hr b z
    rw [hc.2.2.2.1 r hr b hb] at y
    cases y
/-- a valid situation is given by its key -/
theorem Vs.inj {C : Mm} (hc : CX C) {s s' : Sit} (h : Vs C s) (h' : Vs C s') {k k' : Nat → Int64} (hk : KY (C.1 24 0).toNatClampNeg s.1 s.2.1 s.2.2 k) (hk' : KY (C.1 24 0).toNatClampNeg s'.1 s'.2.1 s'.2.2 k') (e : ∀ i, i < 5 → k i = k' i) : s = s' := by
  have t := tnc hc.2.1
  have h16 := hc.1.2.2.1
  obtain ⟨e1, e2, e3⟩ := KY.inj (by omega) hk (h.ok hc) hk' (h'.ok hc) e
  have e4 : s.2.2 = s'.2.2 := by
    rw [← h.2.2.2, ← h'.2.2.2]
    refine cw_x (fun r hr => ?_)
    by_cases c : r < (C.1 24 0).toNatClampNeg
    · exact e3 r c
    · have z := hc.2.2.2.2.1 r hr (by omega)
      have o : ∀ w : Nat → Int32, (∀ b, tb (w r) b = true → tb (C.1 29 r) b = true) → w r = 0 := fun w hw => by
        apply tb_ext
        intro b _
        rw [tb_0]
        cases y : tb (w r) b with
        | false => rfl
        | true =>
          have x := hw b y
          rw [z, tb_0] at x
          cases x
      rw [o s.2.2 (h.2.2.1 r hr), o s'.2.2 (h'.2.2.1 r hr)]
  obtain ⟨a, b, c⟩ := s
  obtain ⟨a', b', c'⟩ := s'
  have e1 : a = a' := e1
  have e2 : b = b' := e2
  have e4 : c = c' := e4
  rw [e1, e2, e4]
/-- the situations that stand in the class's table -/
def CS (C : Mm) (S : Nat → Sit) (M : Mm) : Prop := (∀ p, p < 60 ∨ (65 ≤ p ∧ p ≤ 72) → M.1 p = C.1 p) ∧ HT M ∧ (∀ j, j < (M.1 73 6).toNatClampNeg → Vs C (S j) ∧ Rch C (S j) ∧ KY (C.1 24 0).toNatClampNeg (S j).1 (S j).2.1 (S j).2.2 (rwK M j)) ∧ (∀ i j, i < j → j < (M.1 73 6).toNatClampNeg → S i ≠ S j) ∧ (M.1 73 7 ≠ 0 → (M.1 73 6).toInt = 1000 ∧ ∃ s', Rch C s' ∧ ∀ k, k < (M.1 73 6).toNatClampNeg → S k ≠ s')
theorem KY.r5 {n : Nat} {a f : Int32} {w : Nat → Int32} {k k' : Nat → Int64} (h : KY n a f w k) (e : ∀ j, j < 5 → k' j = k j) : KY n a f w k' := by
  refine ⟨fun i hi b => ?_, ?_⟩
  · rw [e i (by omega)]; exact h.1 i hi b
  · rw [e 4 (by decide)]; exact h.2
theorem KY.w {n : Nat} {a f : Int32} {w w' : Nat → Int32} {k : Nat → Int64} (hn : n ≤ 16) (h : KY n a f w k) (e : ∀ r, r < 16 → w' r = w r) : KY n a f w' k := by
  refine ⟨fun i hi b => ?_, h.2⟩
  rw [h.1 i hi b]
  by_cases z : 4 * i + b / 16 < n
  · rw [e _ (by omega)]
  · rw [decide_eq_false z]
    cases decide (b < 64) <;> rfl
/-- one situation more -/
def nxt (S : Nat → Sit) (c : Nat) (s : Sit) : Nat → Sit := fun j => if j < c then S j else s
theorem nxt_o {S : Nat → Sit} {c j : Nat} {s : Sit} (h : j < c) : nxt S c s j = S j := if_pos h
theorem nxt_n {S : Nat → Sit} {c j : Nat} {s : Sit} (h : ¬ j < c) : nxt S c s j = s := if_neg h
/-- a situation is met -/
theorem meet_s {C : Mm} (hc : CX C) {S : Nat → Sit} {M : Mm} (h : CS C S M) {a : Int32} {s : Sit} (e1 : s.1 = mn a (C.1 69 0)) (e2 : s.2.1 = M.1 61 2) (e3 : ∀ r, r < 16 → s.2.2 r = M.1 62 r) (hv : Vs C s) (hr : Rch C s) {M' : Mm} {x : Int32} (q : q_Checker_meet M a = some (M', x)) : ∃ S' : Nat → Sit, CS C S' M' ∧ (∀ j, j < (M.1 73 6).toNatClampNeg → S' j = S j) ∧ (M.1 73 6).toNatClampNeg ≤ (M'.1 73 6).toNatClampNeg ∧ (M'.1 73 7 = 0 → M.1 73 7 = 0 ∧ ∃ k, k < (M'.1 73 6).toNatClampNeg ∧ S' k = s) ∧ (∀ p, p ≠ 73 → p ≠ 76 → M'.1 p = M.1 p) ∧ (∀ j, j ≠ 6 → j ≠ 7 → M'.1 73 j = M.1 73 j) ∧ ((M.1 73 6).toInt < 1000 → M'.1 73 7 = M.1 73 7) := by
  obtain ⟨h1, h2, h3, h4, h5⟩ := h
  have t24 := tnc hc.2.1
  have h16 := hc.1.2.2.1
  have c0 := h2.1
  have tc := tnc c0.1
  have ok := hv.ok hc
  obtain ⟨k, hk, mt⟩ := meet_c h2 (n := (C.1 24 0).toNatClampNeg) (by rw [h1 24 (by omega)]; omega) (by omega) (fun r hr b hb => by rw [← e3 r hr]; exact ok.2.2 r hr b hb) q
  rw [h1 69 (by omega)] at hk
  have hk : KY (C.1 24 0).toNatClampNeg s.1 s.2.1 s.2.2 k := by
    rw [e1, e2]
    exact KY.w (by omega) hk e3
  obtain ⟨m1, m2, m3, m4, m5⟩ := mt
  have eq : ∀ j, j < (M.1 73 6).toNatClampNeg → ((∀ i, i < 5 → rwK M j i = k i) ↔ S j = s) := by
    intro j hj
    obtain ⟨v1, -, v3⟩ := h3 j hj
    constructor
    · intro z
      exact Vs.inj hc v1 hv v3 hk z
    · intro z i hi
      rw [z] at v3
      exact KY.same (fun _ _ => rfl) v3 hk i hi
  have hp : ∀ p, p < 60 ∨ (65 ≤ p ∧ p ≤ 72) → M'.1 p = C.1 p := fun p hp => by rw [m1 p (by omega) (by omega)]; exact h1 p hp
  rcases m5 with ⟨⟨i, i1, i2⟩, n6, n7⟩ | ⟨no, ⟨lt, n6, n7, nk⟩ | ⟨ge, n6, n7⟩⟩
  · refine ⟨S, ⟨hp, m3, ?_, ?_, ?_⟩, fun _ _ => rfl, by rw [n6]; omega, fun z => ⟨by rw [← n7]; exact z, i, by rw [n6]; exact i1, (eq i i1).mp i2⟩, m1, m2, fun _ => n7⟩
    · rw [n6]
      intro j hj
      obtain ⟨v1, v2, v3⟩ := h3 j hj
      exact ⟨v1, v2, v3.r5 (m4 j hj)⟩
    · rw [n6]; exact h4
    · rw [n6, n7]; exact h5
  · have ec : (M.1 73 6 + 1).toInt = (M.1 73 6).toInt + 1 := iadd rfl (rfl : (1 : Int32).toInt = 1) (by omega) (by omega)
    have tc' := tnc (i := M.1 73 6 + 1) (by omega)
    have nc : M'.1 73 6 = M.1 73 6 + 1 := n6
    have ncn : (M'.1 73 6).toNatClampNeg = (M.1 73 6).toNatClampNeg + 1 := by rw [nc]; omega
    refine ⟨nxt S (M.1 73 6).toNatClampNeg s, ⟨hp, m3, fun j hj => ?_, fun i j hij hj => ?_, fun z => ?_⟩, fun j hj => nxt_o hj, by omega, fun z => ⟨by rw [← n7]; exact z, (M.1 73 6).toNatClampNeg, by omega, nxt_n (Nat.lt_irrefl _)⟩, m1, m2, fun _ => n7⟩
    · by_cases cj : j < (M.1 73 6).toNatClampNeg
      · rw [nxt_o cj]
        obtain ⟨v1, v2, v3⟩ := h3 j cj
        exact ⟨v1, v2, v3.r5 (m4 j cj)⟩
      · rw [nxt_n cj, show j = (M.1 73 6).toNatClampNeg by omega]
        exact ⟨hv, hr, hk.r5 nk⟩
    · rw [nxt_o (show i < (M.1 73 6).toNatClampNeg by omega)]
      by_cases cj : j < (M.1 73 6).toNatClampNeg
      · rw [nxt_o cj]
        exact h4 i j hij cj
      · rw [nxt_n cj]
        intro z
        exact no ⟨i, by omega, (eq i (by omega)).mpr z⟩
    · rw [n7] at z
      have := (h5 z).1
      omega
  · refine ⟨S, ⟨hp, m3, ?_, ?_, fun _ => ?_⟩, fun _ _ => rfl, by rw [n6]; omega, fun z => absurd (n7.symm.trans z) (by decide), m1, m2, fun z => by omega⟩
    · rw [n6]
      intro j hj
      obtain ⟨v1, v2, v3⟩ := h3 j hj
      exact ⟨v1, v2, v3.r5 (m4 j hj)⟩
    · rw [n6]; exact h4
    · rw [n6]
      exact ⟨ge, s, hr, fun k hk z => no ⟨k, hk, (eq k hk).mpr z⟩⟩
end
