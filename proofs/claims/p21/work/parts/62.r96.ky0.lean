section
theorem ky_ChipMapModel_raise {A : Mm} (M : Mm) (a1 : Int32) (h : kY A M) : kp (kY A) (q_ChipMapModel_raise M a1) := by
  unfold q_ChipMapModel_raise
  refine kp_st (kY.s0 h (by decide)) (fun m1 h2 => ?_)
  exact kp_some h2
theorem ky_ChipMapModel_resetDevice_55 {A : Mm} : ∀ (n' : Nat) (M : Mm) (v1 : Int32), kY A M → kp (kY A) (q_ChipMapModel_resetDevice_55 n' M v1) := by
  intro n'
  induction n' with
  | zero =>
    intro M v1 h
    rw [q_ChipMapModel_resetDevice_55]
    exact kp_none
  | succ n' ih =>
    intro M v1 h
    rw [q_ChipMapModel_resetDevice_55]
    refine kp_if ?_ ?_
    · skip
      exact kp_some h
    · skip
      refine kp_ix ?_
      refine kp_st (kY.st h (by decide)) (fun m1 h2 => ?_)
      exact ih _ _ h2
theorem ky_ChipMapModel_resetDevice_32 {A : Mm} {kf2 : Mm → Int32 → Rs} (hk2 : ∀ (M : Mm) (b1 : Int32), kY A M → kp (kY A) (kf2 M b1)) (M : Mm) (v1 : Int32) (t0 : Int32) (t1 : Int32) (h : kY A M) : kp (kY A) (q_ChipMapModel_resetDevice_32 kf2 M v1 t0 t1) := by
  unfold q_ChipMapModel_resetDevice_32
  refine kp_ix ?_
  refine kp_st (kY.st h (by decide)) (fun m1 h2 => ?_)
  refine kp_ix ?_
  refine kp_st (kY.st h2 (by decide)) (fun m3 h4 => ?_)
  refine kp_ix ?_
  refine kp_st (kY.st h4 (by decide)) (fun m5 h6 => ?_)
  exact hk2 _ _ h6
theorem ky_ChipMapModel_resetDevice_2 {A : Mm} : ∀ (n' : Nat) (M : Mm) (v1 : Int32), kY A M → kp (kY A) (q_ChipMapModel_resetDevice_2 n' M v1) := by
  intro n'
  induction n' with
  | zero =>
    intro M v1 h
    rw [q_ChipMapModel_resetDevice_2]
    exact kp_none
  | succ n' ih =>
    intro M v1 h
    rw [q_ChipMapModel_resetDevice_2]
    refine kp_if ?_ ?_
    · skip
      exact ky_ChipMapModel_resetDevice_55 4000 _ _ h
    · skip
      refine kp_ix ?_
      refine kp_if ?_ ?_
      · skip
        exact ky_ChipMapModel_resetDevice_32 ih _ _ _ _ h
      · skip
        refine kp_ix ?_
        exact ky_ChipMapModel_resetDevice_32 ih _ _ _ _ h
theorem ky_ChipMapModel_resetDevice {A : Mm} (M : Mm) (h : kY A M) : kp (kY A) (q_ChipMapModel_resetDevice M) := by
  unfold q_ChipMapModel_resetDevice
  exact ky_ChipMapModel_resetDevice_2 4000 _ _ h
theorem ky_ChipMapModel_resetAll {A : Mm} (M : Mm) (h : kY A M) : kp (kY A) (q_ChipMapModel_resetAll M) := by
  unfold q_ChipMapModel_resetAll
  refine kp_cal (ky_ChipMapModel_resetDevice _ h) (fun m1 r2 h3 => ?_)
  refine kp_st (kY.s0 h3 (by decide)) (fun m4 h5 => ?_)
  refine kp_st (kY.s0 h5 (by decide)) (fun m6 h7 => ?_)
  refine kp_st (kY.s0 h7 (by decide)) (fun m8 h9 => ?_)
  exact kp_some h9
theorem ky_ChipMapModel_fault {A : Mm} (M : Mm) (a1 : Int32) (h : kY A M) : kp (kY A) (q_ChipMapModel_fault M a1) := by
  unfold q_ChipMapModel_fault
  refine kp_st (kY.s0 h (by decide)) (fun m1 h2 => ?_)
  refine kp_if ?_ ?_
  · skip
    exact kp_some h2
  · skip
    refine kp_if ?_ ?_
    · skip
      exact kp_some h2
    · skip
      exact kp_some h2
theorem ky_ChipMapModel_copyDevice_82 {A : Mm} : ∀ (n' : Nat) (M : Mm) (v1 : Int32) (v2 : Int32) (v3 : Int32), kY A M → kp (kY A) (q_ChipMapModel_copyDevice_82 n' M v1 v2 v3) := by
  intro n'
  induction n' with
  | zero =>
    intro M v1 v2 v3 h
    rw [q_ChipMapModel_copyDevice_82]
    exact kp_none
  | succ n' ih =>
    intro M v1 v2 v3 h
    rw [q_ChipMapModel_copyDevice_82]
    refine kp_if ?_ ?_
    · skip
      exact kp_some h
    · skip
      refine kp_ix ?_
      refine kp_ix ?_
      refine kp_st (kY.st h (by decide)) (fun m1 h2 => ?_)
      exact ih _ _ _ _ h2
theorem ky_ChipMapModel_copyDevice_2 {A : Mm} : ∀ (n' : Nat) (M : Mm) (v1 : Int32) (v2 : Int32) (v3 : Int32), kY A M → kp (kY A) (q_ChipMapModel_copyDevice_2 n' M v1 v2 v3) := by
  intro n'
  induction n' with
  | zero =>
    intro M v1 v2 v3 h
    rw [q_ChipMapModel_copyDevice_2]
    exact kp_none
  | succ n' ih =>
    intro M v1 v2 v3 h
    rw [q_ChipMapModel_copyDevice_2]
    refine kp_if ?_ ?_
    · skip
      exact ky_ChipMapModel_copyDevice_82 4000 _ _ _ _ h
    · skip
      refine kp_ix ?_
      refine kp_ix ?_
      refine kp_st (kY.st h (by decide)) (fun m1 h2 => ?_)
      refine kp_ix ?_
      refine kp_ix ?_
      refine kp_st (kY.st h2 (by decide)) (fun m3 h4 => ?_)
      refine kp_ix ?_
      refine kp_ix ?_
      refine kp_st (kY.st h4 (by decide)) (fun m5 h6 => ?_)
      exact ih _ _ _ _ h6
theorem ky_ChipMapModel_copyDevice {A : Mm} (M : Mm) (a1 : Int32) (a2 : Int32) (h : kY A M) : kp (kY A) (q_ChipMapModel_copyDevice M a1 a2) := by
  unfold q_ChipMapModel_copyDevice
  exact ky_ChipMapModel_copyDevice_2 4000 _ _ _ _ h
theorem ky_ChipMapModel_isIn {A : Mm} (M : Mm) (a1 : Int32) (a2 : Int32) (h : kY A M) : kp (kY A) (q_ChipMapModel_isIn M a1 a2) := by
  unfold q_ChipMapModel_isIn
  refine kp_ix ?_
  refine kp_if ?_ ?_
  · skip
    exact kp_some h
  · skip
    refine kp_ix ?_
    refine kp_if ?_ ?_
    · skip
      exact kp_some h
    · skip
      exact kp_some h
theorem ky_ChipMapModel_part {A : Mm} (M : Mm) (a1 : Int32) (a2 : Int32) (h : kY A M) : kp (kY A) (q_ChipMapModel_part M a1 a2) := by
  unfold q_ChipMapModel_part
  refine kp_ix ?_
  refine kp_ix ?_
  exact kp_some h
theorem ky_ChipMapModel_isStored {A : Mm} (M : Mm) (a1 : Int32) (h : kY A M) : kp (kY A) (q_ChipMapModel_isStored M a1) := by
  unfold q_ChipMapModel_isStored
  refine kp_ix ?_
  refine kp_if ?_ ?_
  · skip
    exact kp_some h
  · skip
    refine kp_ix ?_
    refine kp_if ?_ ?_
    · skip
      exact kp_some h
    · skip
      exact kp_some h
theorem ky_ChipMapModel_isWritten {A : Mm} (M : Mm) (a1 : Int32) (a2 : Int32) (a3 : Int32) (h : kY A M) : kp (kY A) (q_ChipMapModel_isWritten M a1 a2 a3) := by
  unfold q_ChipMapModel_isWritten
  refine kp_cal (ky_ChipMapModel_isIn _ _ _ h) (fun m1 r2 h3 => ?_)
  refine kp_if ?_ ?_
  · skip
    exact kp_some h3
  · skip
    refine kp_ix ?_
    refine kp_if ?_ ?_
    · skip
      exact kp_some h3
    · skip
      refine kp_ix ?_
      refine kp_if ?_ ?_
      · skip
        exact kp_some h3
      · skip
        refine kp_cal (ky_ChipMapModel_part _ _ _ h3) (fun m4 r5 h6 => ?_)
        refine kp_cal (ky_ChipMapModel_isStored _ _ h6) (fun m7 r8 h9 => ?_)
        refine kp_if ?_ ?_
        · skip
          refine kp_if ?_ ?_
          · skip
            exact kp_some h9
          · skip
            exact kp_some h9
        · skip
          refine kp_ix ?_
          refine kp_if ?_ ?_
          · skip
            exact kp_some h9
          · skip
            exact kp_some h9
theorem ky_ChipMapModel_breaks {A : Mm} (M : Mm) (a1 : Int32) (a2 : Int32) (a3 : Int32) (h : kY A M) : kp (kY A) (q_ChipMapModel_breaks M a1 a2 a3) := by
  unfold q_ChipMapModel_breaks
  refine kp_ix ?_
  refine kp_cal (ky_ChipMapModel_isWritten _ _ _ _ h) (fun m1 r2 h3 => ?_)
  refine kp_ix ?_
  refine kp_cal (ky_ChipMapModel_isWritten _ _ _ _ h3) (fun m4 r5 h6 => ?_)
  refine kp_ix ?_
  refine kp_if ?_ ?_
  · skip
    refine kp_if ?_ ?_
    · skip
      exact kp_some h6
    · skip
      refine kp_ix ?_
      refine kp_if ?_ ?_
      · skip
        exact kp_some h6
      · skip
        exact kp_some h6
  · skip
    refine kp_ix ?_
    refine kp_if ?_ ?_
    · skip
      refine kp_if ?_ ?_
      · skip
        exact kp_some h6
      · skip
        refine kp_ix ?_
        refine kp_ix ?_
        refine kp_ix ?_
        refine kp_if ?_ ?_
        · skip
          exact kp_some h6
        · skip
          exact kp_some h6
    · skip
      refine kp_if ?_ ?_
      · skip
        exact kp_some h6
      · skip
        refine kp_ix ?_
        refine kp_if ?_ ?_
        · skip
          exact kp_some h6
        · skip
          exact kp_some h6
theorem ky_ChipMapModel_firstBroken_2 {A : Mm} : ∀ (n' : Nat) (M : Mm) (v1 : Int32) (v2 : Int32) (v3 : Int32), kY A M → kp (kY A) (q_ChipMapModel_firstBroken_2 n' M v1 v2 v3) := by
  intro n'
  induction n' with
  | zero =>
    intro M v1 v2 v3 h
    rw [q_ChipMapModel_firstBroken_2]
    exact kp_none
  | succ n' ih =>
    intro M v1 v2 v3 h
    rw [q_ChipMapModel_firstBroken_2]
    refine kp_if ?_ ?_
    · skip
      exact kp_some h
    · skip
      refine kp_cal (ky_ChipMapModel_breaks _ _ _ _ h) (fun m1 r2 h3 => ?_)
      refine kp_if ?_ ?_
      · skip
        exact ih _ _ _ _ h3
      · skip
        exact kp_some h3
theorem ky_ChipMapModel_firstBroken {A : Mm} (M : Mm) (a1 : Int32) (a2 : Int32) (h : kY A M) : kp (kY A) (q_ChipMapModel_firstBroken M a1 a2) := by
  unfold q_ChipMapModel_firstBroken
  exact ky_ChipMapModel_firstBroken_2 4000 _ _ _ _ h
theorem ky_ChipMapModel_trace_32 {A : Mm} (M : Mm) (v2 : Int32) (v3 : Int32) (v4 : Int32) (t0 : Int32) (t1 : Int32) (h : kY A M) : kp (kY A) (q_ChipMapModel_trace_32 M v2 v3 v4 t0 t1) := by
  unfold q_ChipMapModel_trace_32
  refine kp_ix ?_
  refine kp_st (kY.st h (by decide)) (fun m1 h2 => ?_)
  refine kp_ix ?_
  refine kp_ix ?_
  refine kp_st (kY.st h2 (by decide)) (fun m3 h4 => ?_)
  refine kp_ix ?_
  refine kp_st (kY.st h4 (by decide)) (fun m5 h6 => ?_)
  refine kp_st (kY.s0 h6 (by decide)) (fun m7 h8 => ?_)
  exact kp_some h8
theorem ky_ChipMapModel_trace {A : Mm} (M : Mm) (a1 : Int32) (a2 : Int32) (a3 : Int32) (h : kY A M) : kp (kY A) (q_ChipMapModel_trace M a1 a2 a3) := by
  unfold q_ChipMapModel_trace
  refine kp_if ?_ ?_
  · skip
    refine kp_lv (fun x1 => ?_)
    refine kp_if ?_ ?_
    · skip
      exact ky_ChipMapModel_trace_32 _ _ _ _ _ _ h
    · skip
      exact ky_ChipMapModel_trace_32 _ _ _ _ _ _ h
  · skip
    exact kp_some h
theorem ky_ChipMapModel_write_255 {A : Mm} {kf136 : Mm → Int32 → Int32 → Int32 → Rs} (hk136 : ∀ (M : Mm) (b1 : Int32) (b2 : Int32) (b3 : Int32), kY A M → kp (kY A) (kf136 M b1 b2 b3)) (M : Mm) (v1 : Int32) (v2 : Int32) (v3 : Int32) (h : kY A M) : kp (kY A) (q_ChipMapModel_write_255 kf136 M v1 v2 v3) := by
  unfold q_ChipMapModel_write_255
  exact hk136 _ _ _ _ h
theorem ky_ChipMapModel_write_224 {A : Mm} {kf136 : Mm → Int32 → Int32 → Int32 → Rs} (hk136 : ∀ (M : Mm) (b1 : Int32) (b2 : Int32) (b3 : Int32), kY A M → kp (kY A) (kf136 M b1 b2 b3)) (M : Mm) (v1 : Int32) (v2 : Int32) (v3 : Int32) (v4 : Int32) (h : kY A M) : kp (kY A) (q_ChipMapModel_write_224 kf136 M v1 v2 v3 v4) := by
  unfold q_ChipMapModel_write_224
  refine kp_ix ?_
  refine kp_if ?_ ?_
  · skip
    refine kp_if ?_ ?_
    · skip
      exact ky_ChipMapModel_write_255 hk136 _ _ _ _ h
    · skip
      refine kp_ix ?_
      refine kp_st (kY.st h (by decide)) (fun m1 h2 => ?_)
      refine kp_ix ?_
      refine kp_st (kY.st h2 (by decide)) (fun m3 h4 => ?_)
      exact ky_ChipMapModel_write_255 hk136 _ _ _ _ h4
  · skip
    exact ky_ChipMapModel_write_255 hk136 _ _ _ _ h
theorem ky_ChipMapModel_write_202 {A : Mm} {kf136 : Mm → Int32 → Int32 → Int32 → Rs} (hk136 : ∀ (M : Mm) (b1 : Int32) (b2 : Int32) (b3 : Int32), kY A M → kp (kY A) (kf136 M b1 b2 b3)) (M : Mm) (v1 : Int32) (v2 : Int32) (v3 : Int32) (v4 : Int32) (h : kY A M) : kp (kY A) (q_ChipMapModel_write_202 kf136 M v1 v2 v3 v4) := by
  unfold q_ChipMapModel_write_202
  refine kp_ix ?_
  refine kp_if ?_ ?_
  · skip
    refine kp_ix ?_
    refine kp_ix ?_
    refine kp_st (kY.st h (by decide)) (fun m1 h2 => ?_)
    exact ky_ChipMapModel_write_224 hk136 _ _ _ _ _ h2
  · skip
    exact ky_ChipMapModel_write_224 hk136 _ _ _ _ _ h
theorem ky_ChipMapModel_write_178 {A : Mm} {kf136 : Mm → Int32 → Int32 → Int32 → Rs} (hk136 : ∀ (M : Mm) (b1 : Int32) (b2 : Int32) (b3 : Int32), kY A M → kp (kY A) (kf136 M b1 b2 b3)) (M : Mm) (v1 : Int32) (v2 : Int32) (v3 : Int32) (v4 : Int32) (h : kY A M) : kp (kY A) (q_ChipMapModel_write_178 kf136 M v1 v2 v3 v4) := by
  unfold q_ChipMapModel_write_178
  refine kp_ix ?_
  refine kp_if ?_ ?_
  · skip
    refine kp_ix ?_
    refine kp_ix ?_
    refine kp_st (kY.st h (by decide)) (fun m1 h2 => ?_)
    exact ky_ChipMapModel_write_202 hk136 _ _ _ _ _ h2
  · skip
    exact ky_ChipMapModel_write_202 hk136 _ _ _ _ _ h
theorem ky_ChipMapModel_write_136 {A : Mm} : ∀ (n' : Nat) (M : Mm) (v1 : Int32) (v2 : Int32) (v3 : Int32), kY A M → kp (kY A) (q_ChipMapModel_write_136 n' M v1 v2 v3) := by
  intro n'
  induction n' with
  | zero =>
    intro M v1 v2 v3 h
    rw [q_ChipMapModel_write_136]
    exact kp_none
  | succ n' ih =>
    intro M v1 v2 v3 h
    rw [q_ChipMapModel_write_136]
    refine kp_if ?_ ?_
    · skip
      refine kp_cal (ky_ChipMapModel_trace _ _ _ _ h) (fun m1 r2 h3 => ?_)
      exact kp_some h3
    · skip
      refine kp_cal (ky_ChipMapModel_isIn _ _ _ h) (fun m4 r5 h6 => ?_)
      refine kp_if ?_ ?_
      · skip
        exact ky_ChipMapModel_write_255 ih _ _ _ _ h6
      · skip
        refine kp_cal (ky_ChipMapModel_part _ _ _ h6) (fun m7 r8 h9 => ?_)
        refine kp_cal (ky_ChipMapModel_isStored _ _ h9) (fun m10 r11 h12 => ?_)
        refine kp_if ?_ ?_
        · skip
          exact ky_ChipMapModel_write_178 ih _ _ _ _ _ h12
        · skip
          refine kp_ix ?_
          refine kp_st (kY.st h12 (by decide)) (fun m13 h14 => ?_)
          exact ky_ChipMapModel_write_178 ih _ _ _ _ _ h14
theorem ky_ChipMapModel_write_128 {A : Mm} {kf2 : Mm → Int32 → Int32 → Int32 → Rs} (hk2 : ∀ (M : Mm) (b1 : Int32) (b2 : Int32) (b3 : Int32), kY A M → kp (kY A) (kf2 M b1 b2 b3)) (M : Mm) (v1 : Int32) (v2 : Int32) (v3 : Int32) (h : kY A M) : kp (kY A) (q_ChipMapModel_write_128 kf2 M v1 v2 v3) := by
  unfold q_ChipMapModel_write_128
  exact hk2 _ _ _ _ h
theorem ky_ChipMapModel_write_127 {A : Mm} {kf2 : Mm → Int32 → Int32 → Int32 → Rs} (hk2 : ∀ (M : Mm) (b1 : Int32) (b2 : Int32) (b3 : Int32), kY A M → kp (kY A) (kf2 M b1 b2 b3)) (M : Mm) (v1 : Int32) (v2 : Int32) (v3 : Int32) (t0 : Int32) (t1 : Int32) (h : kY A M) : kp (kY A) (q_ChipMapModel_write_127 kf2 M v1 v2 v3 t0 t1) := by
  unfold q_ChipMapModel_write_127
  refine kp_ix ?_
  refine kp_st (kY.st h (by decide)) (fun m1 h2 => ?_)
  exact ky_ChipMapModel_write_128 hk2 _ _ _ _ h2
theorem ky_ChipMapModel_write_126 {A : Mm} {kf2 : Mm → Int32 → Int32 → Int32 → Rs} (hk2 : ∀ (M : Mm) (b1 : Int32) (b2 : Int32) (b3 : Int32), kY A M → kp (kY A) (kf2 M b1 b2 b3)) (M : Mm) (v1 : Int32) (v2 : Int32) (v3 : Int32) (t0 : Int32) (h : kY A M) : kp (kY A) (q_ChipMapModel_write_126 kf2 M v1 v2 v3 t0) := by
  unfold q_ChipMapModel_write_126
  exact ky_ChipMapModel_write_127 hk2 _ _ _ _ _ _ h
theorem ky_ChipMapModel_write_74 {A : Mm} {kf2 : Mm → Int32 → Int32 → Int32 → Rs} (hk2 : ∀ (M : Mm) (b1 : Int32) (b2 : Int32) (b3 : Int32), kY A M → kp (kY A) (kf2 M b1 b2 b3)) (M : Mm) (v1 : Int32) (v2 : Int32) (v3 : Int32) (v4 : Int32) (v5 : Int32) (h : kY A M) : kp (kY A) (q_ChipMapModel_write_74 kf2 M v1 v2 v3 v4 v5) := by
  unfold q_ChipMapModel_write_74
  refine kp_ix ?_
  refine kp_if ?_ ?_
  · skip
    refine kp_if ?_ ?_
    · skip
      refine kp_ix ?_
      refine kp_if ?_ ?_
      · skip
        exact ky_ChipMapModel_write_126 hk2 _ _ _ _ _ h
      · skip
        refine kp_if ?_ ?_
        · skip
          exact ky_ChipMapModel_write_127 hk2 _ _ _ _ _ _ h
        · skip
          exact ky_ChipMapModel_write_126 hk2 _ _ _ _ _ h
    · skip
      refine kp_if ?_ ?_
      · skip
        exact ky_ChipMapModel_write_127 hk2 _ _ _ _ _ _ h
      · skip
        exact ky_ChipMapModel_write_127 hk2 _ _ _ _ _ _ h
  · skip
    exact ky_ChipMapModel_write_128 hk2 _ _ _ _ h
theorem ky_ChipMapModel_write_73 {A : Mm} {kf2 : Mm → Int32 → Int32 → Int32 → Rs} (hk2 : ∀ (M : Mm) (b1 : Int32) (b2 : Int32) (b3 : Int32), kY A M → kp (kY A) (kf2 M b1 b2 b3)) (M : Mm) (v1 : Int32) (v2 : Int32) (v3 : Int32) (v4 : Int32) (v5 : Int32) (t0 : Int32) (t1 : Int32) (h : kY A M) : kp (kY A) (q_ChipMapModel_write_73 kf2 M v1 v2 v3 v4 v5 t0 t1) := by
  unfold q_ChipMapModel_write_73
  refine kp_ix ?_
  refine kp_st (kY.st h (by decide)) (fun m1 h2 => ?_)
  exact ky_ChipMapModel_write_74 hk2 _ _ _ _ _ _ h2
theorem ky_ChipMapModel_write_68 {A : Mm} {kf2 : Mm → Int32 → Int32 → Int32 → Rs} (hk2 : ∀ (M : Mm) (b1 : Int32) (b2 : Int32) (b3 : Int32), kY A M → kp (kY A) (kf2 M b1 b2 b3)) (M : Mm) (v1 : Int32) (v2 : Int32) (v3 : Int32) (v4 : Int32) (v5 : Int32) (t0 : Int32) (h : kY A M) : kp (kY A) (q_ChipMapModel_write_68 kf2 M v1 v2 v3 v4 v5 t0) := by
  unfold q_ChipMapModel_write_68
  exact ky_ChipMapModel_write_73 hk2 _ _ _ _ _ _ _ _ h
theorem ky_ChipMapModel_write_2 {A : Mm} : ∀ (n' : Nat) (M : Mm) (v1 : Int32) (v2 : Int32) (v3 : Int32), kY A M → kp (kY A) (q_ChipMapModel_write_2 n' M v1 v2 v3) := by
  intro n'
  induction n' with
  | zero =>
    intro M v1 v2 v3 h
    rw [q_ChipMapModel_write_2]
    exact kp_none
  | succ n' ih =>
    intro M v1 v2 v3 h
    rw [q_ChipMapModel_write_2]
    refine kp_if ?_ ?_
    · skip
      exact ky_ChipMapModel_write_136 4000 _ _ _ _ h
    · skip
      refine kp_ix ?_
      refine kp_cal (ky_ChipMapModel_isWritten _ _ _ _ h) (fun m1 r2 h3 => ?_)
      refine kp_ix ?_
      refine kp_cal (ky_ChipMapModel_isWritten _ _ _ _ h3) (fun m4 r5 h6 => ?_)
      refine kp_ix ?_
      refine kp_if ?_ ?_
      · skip
        refine kp_ix ?_
        refine kp_if ?_ ?_
        · skip
          refine kp_if ?_ ?_
          · skip
            exact ky_ChipMapModel_write_73 ih _ _ _ _ _ _ _ _ h6
          · skip
            exact ky_ChipMapModel_write_68 ih _ _ _ _ _ _ _ h6
        · skip
          exact ky_ChipMapModel_write_68 ih _ _ _ _ _ _ _ h6
      · skip
        exact ky_ChipMapModel_write_74 ih _ _ _ _ _ _ h6
theorem ky_ChipMapModel_write {A : Mm} (M : Mm) (a1 : Int32) (a2 : Int32) (h : kY A M) : kp (kY A) (q_ChipMapModel_write M a1 a2) := by
  unfold q_ChipMapModel_write
  exact ky_ChipMapModel_write_2 4000 _ _ _ _ h
theorem ky_ChipMapModel_read_119 {A : Mm} {kf4 : Mm → Int32 → Int32 → Int32 → Rs} (hk4 : ∀ (M : Mm) (b1 : Int32) (b2 : Int32) (b3 : Int32), kY A M → kp (kY A) (kf4 M b1 b2 b3)) (M : Mm) (v1 : Int32) (v2 : Int32) (v3 : Int32) (h : kY A M) : kp (kY A) (q_ChipMapModel_read_119 kf4 M v1 v2 v3) := by
  unfold q_ChipMapModel_read_119
  exact hk4 _ _ _ _ h
theorem ky_ChipMapModel_read_82 {A : Mm} {kf4 : Mm → Int32 → Int32 → Int32 → Rs} (hk4 : ∀ (M : Mm) (b1 : Int32) (b2 : Int32) (b3 : Int32), kY A M → kp (kY A) (kf4 M b1 b2 b3)) (M : Mm) (v1 : Int32) (v2 : Int32) (v3 : Int32) (h : kY A M) : kp (kY A) (q_ChipMapModel_read_82 kf4 M v1 v2 v3) := by
  unfold q_ChipMapModel_read_82
  refine kp_ix ?_
  refine kp_if ?_ ?_
  · skip
    refine kp_ix ?_
    refine kp_ix ?_
    refine kp_st (kY.st h (by decide)) (fun m1 h2 => ?_)
    refine kp_ix ?_
    refine kp_if ?_ ?_
    · skip
      exact ky_ChipMapModel_read_119 hk4 _ _ _ _ h2
    · skip
      refine kp_ix ?_
      refine kp_st (kY.st h2 (by decide)) (fun m3 h4 => ?_)
      exact ky_ChipMapModel_read_119 hk4 _ _ _ _ h4
  · skip
    exact ky_ChipMapModel_read_119 hk4 _ _ _ _ h
theorem ky_ChipMapModel_read_4 {A : Mm} : ∀ (n' : Nat) (M : Mm) (v1 : Int32) (v2 : Int32) (v3 : Int32), kY A M → kp (kY A) (q_ChipMapModel_read_4 n' M v1 v2 v3) := by
  intro n'
  induction n' with
  | zero =>
    intro M v1 v2 v3 h
    rw [q_ChipMapModel_read_4]
    exact kp_none
  | succ n' ih =>
    intro M v1 v2 v3 h
    rw [q_ChipMapModel_read_4]
    refine kp_if ?_ ?_
    · skip
      refine kp_cal (ky_ChipMapModel_trace _ _ _ _ h) (fun m1 r2 h3 => ?_)
      exact kp_some h3
    · skip
      refine kp_cal (ky_ChipMapModel_isIn _ _ _ h) (fun m4 r5 h6 => ?_)
      refine kp_if ?_ ?_
      · skip
        exact ky_ChipMapModel_read_119 ih _ _ _ _ h6
      · skip
        refine kp_ix ?_
        refine kp_if ?_ ?_
        · skip
          exact ky_ChipMapModel_read_119 ih _ _ _ _ h6
        · skip
          refine kp_ix ?_
          refine kp_ix ?_
          refine kp_lv (fun x7 => ?_)
          refine kp_ix ?_
          refine kp_if ?_ ?_
          · skip
            refine kp_ix ?_
            refine kp_ix ?_
            refine kp_ix ?_
            refine kp_st (kY.st h6 (by decide)) (fun m8 h9 => ?_)
            refine kp_ix ?_
            refine kp_st (kY.st h9 (by decide)) (fun m10 h11 => ?_)
            exact ky_ChipMapModel_read_82 ih _ _ _ _ h11
          · skip
            exact ky_ChipMapModel_read_82 ih _ _ _ _ h6
theorem ky_ChipMapModel_read {A : Mm} (M : Mm) (a1 : Int32) (h : kY A M) : kp (kY A) (q_ChipMapModel_read M a1) := by
  unfold q_ChipMapModel_read
  exact ky_ChipMapModel_read_4 4000 _ _ _ _ h
theorem ky_ChipMapModel_isThere {A : Mm} (M : Mm) (a1 : Int32) (h : kY A M) : kp (kY A) (q_ChipMapModel_isThere M a1) := by
  unfold q_ChipMapModel_isThere
  refine kp_ix ?_
  refine kp_if ?_ ?_
  · skip
    exact kp_some h
  · skip
    refine kp_ix ?_
    refine kp_ix ?_
    refine kp_ix ?_
    refine kp_if ?_ ?_
    · skip
      exact kp_some h
    · skip
      exact kp_some h
theorem ky_ChipMapModel_registerAt_30 {A : Mm} {kf2 : Mm → Int32 → Int32 → Rs} (hk2 : ∀ (M : Mm) (b1 : Int32) (b2 : Int32), kY A M → kp (kY A) (kf2 M b1 b2)) (M : Mm) (v1 : Int32) (v2 : Int32) (h : kY A M) : kp (kY A) (q_ChipMapModel_registerAt_30 kf2 M v1 v2) := by
  unfold q_ChipMapModel_registerAt_30
  exact hk2 _ _ _ h
theorem ky_ChipMapModel_registerAt_2 {A : Mm} : ∀ (n' : Nat) (M : Mm) (v1 : Int32) (v2 : Int32), kY A M → kp (kY A) (q_ChipMapModel_registerAt_2 n' M v1 v2) := by
  intro n'
  induction n' with
  | zero =>
    intro M v1 v2 h
    rw [q_ChipMapModel_registerAt_2]
    exact kp_none
  | succ n' ih =>
    intro M v1 v2 h
    rw [q_ChipMapModel_registerAt_2]
    refine kp_if ?_ ?_
    · skip
      exact kp_some h
    · skip
      refine kp_ix ?_
      refine kp_if ?_ ?_
      · skip
        refine kp_cal (ky_ChipMapModel_isThere _ _ h) (fun m1 r2 h3 => ?_)
        refine kp_if ?_ ?_
        · skip
          exact ky_ChipMapModel_registerAt_30 ih _ _ _ h3
        · skip
          exact kp_some h3
      · skip
        exact ky_ChipMapModel_registerAt_30 ih _ _ _ h
theorem ky_ChipMapModel_registerAt {A : Mm} (M : Mm) (a1 : Int32) (h : kY A M) : kp (kY A) (q_ChipMapModel_registerAt M a1) := by
  unfold q_ChipMapModel_registerAt
  exact ky_ChipMapModel_registerAt_2 4000 _ _ _ h
theorem ky_ChipMapModel_isField {A : Mm} (M : Mm) (a1 : Int32) (h : kY A M) : kp (kY A) (q_ChipMapModel_isField M a1) := by
  unfold q_ChipMapModel_isField
  refine kp_if ?_ ?_
  · skip
    exact kp_some h
  · skip
    refine kp_if ?_ ?_
    · skip
      exact kp_some h
    · skip
      refine kp_if ?_ ?_
      · skip
        exact kp_some h
      · skip
        refine kp_ix ?_
        refine kp_if ?_ ?_
        · skip
          exact kp_some h
        · skip
          exact kp_some h
theorem ky_ChipMapModel_isFit {A : Mm} (M : Mm) (a1 : Int32) (a2 : Int32) (h : kY A M) : kp (kY A) (q_ChipMapModel_isFit M a1 a2) := by
  unfold q_ChipMapModel_isFit
  refine kp_if ?_ ?_
  · skip
    exact kp_some h
  · skip
    refine kp_ix ?_
    refine kp_if ?_ ?_
    · skip
      exact kp_some h
    · skip
      exact kp_some h
theorem ky_ChipMapModel_field {A : Mm} (M : Mm) (a1 : Int32) (a2 : Int32) (h : kY A M) : kp (kY A) (q_ChipMapModel_field M a1 a2) := by
  unfold q_ChipMapModel_field
  refine kp_st (kY.s0 h (by decide)) (fun m1 h2 => ?_)
  refine kp_cal (ky_ChipMapModel_isField _ _ h2) (fun m3 r4 h5 => ?_)
  refine kp_if ?_ ?_
  · skip
    exact kp_some h5
  · skip
    refine kp_if ?_ ?_
    · skip
      exact kp_some h5
    · skip
      refine kp_if ?_ ?_
      · skip
        refine kp_if ?_ ?_
        · skip
          refine kp_ix ?_
          exact kp_some h5
        · skip
          refine kp_if ?_ ?_
          · skip
            refine kp_ix ?_
            exact kp_some h5
          · skip
            refine kp_if ?_ ?_
            · skip
              refine kp_ix ?_
              exact kp_some h5
            · skip
              refine kp_if ?_ ?_
              · skip
                refine kp_ix ?_
                exact kp_some h5
              · skip
                refine kp_ix ?_
                exact kp_some h5
      · skip
        exact kp_some h5
theorem ky_ChipMapModel_reset {A : Mm} (M : Mm) (h : kY A M) : kp (kY A) (q_ChipMapModel_reset M) := by
  unfold q_ChipMapModel_reset
  refine kp_st (kY.s0 h (by decide)) (fun m1 h2 => ?_)
  refine kp_if ?_ ?_
  · skip
    exact kp_some h2
  · skip
    refine kp_cal (ky_ChipMapModel_resetAll _ h2) (fun m3 r4 h5 => ?_)
    exact kp_some h5
theorem ky_ChipMapModel_busWrite_79 {A : Mm} {kf48 : Mm → Int32 → Int32 → Int32 → Int32 → Rs} (hk48 : ∀ (M : Mm) (b1 : Int32) (b2 : Int32) (b3 : Int32) (b4 : Int32), kY A M → kp (kY A) (kf48 M b1 b2 b3 b4)) (M : Mm) (v3 : Int32) (v4 : Int32) (v5 : Int32) (v6 : Int32) (t0 : Int32) (t1 : Int32) (h : kY A M) : kp (kY A) (q_ChipMapModel_busWrite_79 kf48 M v3 v4 v5 v6 t0 t1) := by
  unfold q_ChipMapModel_busWrite_79
  refine kp_st (kY.s0 h (by decide)) (fun m1 h2 => ?_)
  exact hk48 _ _ _ _ _ h2
theorem ky_ChipMapModel_busWrite_48 {A : Mm} : ∀ (n' : Nat) (M : Mm) (v3 : Int32) (v4 : Int32) (v5 : Int32) (v6 : Int32), kY A M → kp (kY A) (q_ChipMapModel_busWrite_48 n' M v3 v4 v5 v6) := by
  intro n'
  induction n' with
  | zero =>
    intro M v3 v4 v5 v6 h
    rw [q_ChipMapModel_busWrite_48]
    exact kp_none
  | succ n' ih =>
    intro M v3 v4 v5 v6 h
    rw [q_ChipMapModel_busWrite_48]
    refine kp_if ?_ ?_
    · skip
      refine kp_cal (ky_ChipMapModel_write _ _ _ h) (fun m1 r2 h3 => ?_)
      exact kp_some h3
    · skip
      refine kp_cal (ky_ChipMapModel_breaks _ _ _ _ h) (fun m4 r5 h6 => ?_)
      refine kp_if ?_ ?_
      · skip
        exact ky_ChipMapModel_busWrite_79 ih _ _ _ _ _ _ _ h6
      · skip
        exact ky_ChipMapModel_busWrite_79 ih _ _ _ _ _ _ _ h6
theorem ky_ChipMapModel_busWrite_21 {A : Mm} (M : Mm) (v2 : Int32) (t0 : Int32) (h : kY A M) : kp (kY A) (q_ChipMapModel_busWrite_21 M v2 t0) := by
  unfold q_ChipMapModel_busWrite_21
  refine kp_if ?_ ?_
  · skip
    exact kp_some h
  · skip
    refine kp_lv (fun x1 => ?_)
    refine kp_cal (ky_ChipMapModel_firstBroken _ _ _ h) (fun m2 r3 h4 => ?_)
    exact ky_ChipMapModel_busWrite_48 4000 _ _ _ _ _ h4
theorem ky_ChipMapModel_busWrite {A : Mm} (M : Mm) (a1 : Int32) (a2 : Int32) (h : kY A M) : kp (kY A) (q_ChipMapModel_busWrite M a1 a2) := by
  unfold q_ChipMapModel_busWrite
  refine kp_st (kY.s0 h (by decide)) (fun m1 h2 => ?_)
  refine kp_if ?_ ?_
  · skip
    exact ky_ChipMapModel_busWrite_21 _ _ _ h2
  · skip
    refine kp_cal (ky_ChipMapModel_registerAt _ _ h2) (fun m3 r4 h5 => ?_)
    exact ky_ChipMapModel_busWrite_21 _ _ _ h5
theorem ky_ChipMapModel_busRead_21 {A : Mm} (M : Mm) (t0 : Int32) (h : kY A M) : kp (kY A) (q_ChipMapModel_busRead_21 M t0) := by
  unfold q_ChipMapModel_busRead_21
  refine kp_if ?_ ?_
  · skip
    exact kp_some h
  · skip
    refine kp_cal (ky_ChipMapModel_read _ _ h) (fun m1 r2 h3 => ?_)
    exact kp_some h3
theorem ky_ChipMapModel_busRead {A : Mm} (M : Mm) (a1 : Int32) (h : kY A M) : kp (kY A) (q_ChipMapModel_busRead M a1) := by
  unfold q_ChipMapModel_busRead
  refine kp_st (kY.s0 h (by decide)) (fun m1 h2 => ?_)
  refine kp_if ?_ ?_
  · skip
    exact ky_ChipMapModel_busRead_21 _ _ h2
  · skip
    refine kp_cal (ky_ChipMapModel_registerAt _ _ h2) (fun m3 r4 h5 => ?_)
    exact ky_ChipMapModel_busRead_21 _ _ h5
theorem ky_ChipMapModel_poke_46 {A : Mm} (M : Mm) (v1 : Int32) (v2 : Int32) (h : kY A M) : kp (kY A) (q_ChipMapModel_poke_46 M v1 v2) := by
  unfold q_ChipMapModel_poke_46
  refine kp_cal (ky_ChipMapModel_isFit _ _ _ h) (fun m1 r2 h3 => ?_)
  refine kp_if ?_ ?_
  · skip
    exact kp_some h3
  · skip
    refine kp_ix ?_
    refine kp_st (kY.st h3 (by decide)) (fun m4 h5 => ?_)
    exact kp_some h5
theorem ky_ChipMapModel_poke {A : Mm} (M : Mm) (a1 : Int32) (a2 : Int32) (h : kY A M) : kp (kY A) (q_ChipMapModel_poke M a1 a2) := by
  unfold q_ChipMapModel_poke
  refine kp_st (kY.s0 h (by decide)) (fun m1 h2 => ?_)
  refine kp_cal (ky_ChipMapModel_isField _ _ h2) (fun m3 r4 h5 => ?_)
  refine kp_if ?_ ?_
  · skip
    exact kp_some h5
  · skip
    refine kp_ix ?_
    refine kp_if ?_ ?_
    · skip
      exact ky_ChipMapModel_poke_46 _ _ _ h5
    · skip
      refine kp_ix ?_
      refine kp_if ?_ ?_
      · skip
        exact ky_ChipMapModel_poke_46 _ _ _ h5
      · skip
        refine kp_ix ?_
        refine kp_if ?_ ?_
        · skip
          exact ky_ChipMapModel_poke_46 _ _ _ h5
        · skip
          exact kp_some h5
theorem ky_ChipMapModel_still_45 {A : Mm} {kf4 : Mm → Int32 → Int32 → Int32 → Rs} (hk4 : ∀ (M : Mm) (b1 : Int32) (b2 : Int32) (b3 : Int32), kY A M → kp (kY A) (kf4 M b1 b2 b3)) (M : Mm) (v1 : Int32) (v3 : Int32) (t0 : Int32) (t1 : Int32) (h : kY A M) : kp (kY A) (q_ChipMapModel_still_45 kf4 M v1 v3 t0 t1) := by
  unfold q_ChipMapModel_still_45
  refine kp_lv (fun x1 => ?_)
  exact hk4 _ _ _ _ h
theorem ky_ChipMapModel_still_44 {A : Mm} {kf4 : Mm → Int32 → Int32 → Int32 → Rs} (hk4 : ∀ (M : Mm) (b1 : Int32) (b2 : Int32) (b3 : Int32), kY A M → kp (kY A) (kf4 M b1 b2 b3)) (M : Mm) (v1 : Int32) (v3 : Int32) (t0 : Int32) (h : kY A M) : kp (kY A) (q_ChipMapModel_still_44 kf4 M v1 v3 t0) := by
  unfold q_ChipMapModel_still_44
  exact ky_ChipMapModel_still_45 hk4 _ _ _ _ _ h
theorem ky_ChipMapModel_still_4 {A : Mm} : ∀ (n' : Nat) (M : Mm) (v1 : Int32) (v2 : Int32) (v3 : Int32), kY A M → kp (kY A) (q_ChipMapModel_still_4 n' M v1 v2 v3) := by
  intro n'
  induction n' with
  | zero =>
    intro M v1 v2 v3 h
    rw [q_ChipMapModel_still_4]
    exact kp_none
  | succ n' ih =>
    intro M v1 v2 v3 h
    rw [q_ChipMapModel_still_4]
    refine kp_if ?_ ?_
    · skip
      exact kp_some h
    · skip
      refine kp_cal (ky_ChipMapModel_isIn _ _ _ h) (fun m1 r2 h3 => ?_)
      refine kp_if ?_ ?_
      · skip
        exact ky_ChipMapModel_still_44 ih _ _ _ _ h3
      · skip
        refine kp_cal (ky_ChipMapModel_isStored _ _ h3) (fun m4 r5 h6 => ?_)
        refine kp_if ?_ ?_
        · skip
          exact ky_ChipMapModel_still_44 ih _ _ _ _ h6
        · skip
          refine kp_ix ?_
          refine kp_ix ?_
          exact ky_ChipMapModel_still_45 ih _ _ _ _ _ h6
theorem ky_ChipMapModel_still {A : Mm} (M : Mm) (a1 : Int32) (h : kY A M) : kp (kY A) (q_ChipMapModel_still M a1) := by
  unfold q_ChipMapModel_still
  exact ky_ChipMapModel_still_4 4000 _ _ _ _ h
theorem ky_ChipMapModel_with {A : Mm} (M : Mm) (a1 : Int32) (a2 : Int32) (a3 : Int32) (h : kY A M) : kp (kY A) (q_ChipMapModel_with M a1 a2 a3) := by
  unfold q_ChipMapModel_with
  refine kp_ix ?_
  refine kp_ix ?_
  refine kp_ix ?_
  exact kp_some h
theorem ky_ChipMapModel_operate {A : Mm} (M : Mm) (a1 : Int32) (a2 : Int32) (h : kY A M) : kp (kY A) (q_ChipMapModel_operate M a1 a2) := by
  unfold q_ChipMapModel_operate
  refine kp_if ?_ ?_
  · skip
    refine kp_cal (ky_ChipMapModel_firstBroken _ _ _ h) (fun m1 r2 h3 => ?_)
    refine kp_if ?_ ?_
    · skip
      refine kp_cal (ky_ChipMapModel_write _ _ _ h3) (fun m4 r5 h6 => ?_)
      exact kp_some h6
    · skip
      refine kp_st (kY.s0 h3 (by decide)) (fun m7 h8 => ?_)
      refine kp_st (kY.s0 h8 (by decide)) (fun m9 h10 => ?_)
      exact kp_some h10
  · skip
    exact kp_some h
theorem ky_ChipMapModel_reach {A : Mm} (M : Mm) (a1 : Int32) (h : kY A M) : kp (kY A) (q_ChipMapModel_reach M a1) := by
  unfold q_ChipMapModel_reach
  refine kp_cal (ky_ChipMapModel_isThere _ _ h) (fun m1 r2 h3 => ?_)
  refine kp_if ?_ ?_
  · skip
    refine kp_ix ?_
    refine kp_lv (fun x4 => ?_)
    refine kp_ix ?_
    refine kp_ix ?_
    refine kp_cal (ky_ChipMapModel_still _ _ h3) (fun m5 r6 h7 => ?_)
    refine kp_ix ?_
    refine kp_cal (ky_ChipMapModel_with _ _ _ _ h7) (fun m8 r9 h10 => ?_)
    refine kp_cal (ky_ChipMapModel_operate _ _ _ h10) (fun m11 r12 h13 => ?_)
    exact kp_some h13
  · skip
    exact kp_some h3
theorem ky_ChipMapModel_isPut {A : Mm} (M : Mm) (a1 : Int32) (a2 : Int32) (h : kY A M) : kp (kY A) (q_ChipMapModel_isPut M a1 a2) := by
  unfold q_ChipMapModel_isPut
  refine kp_cal (ky_ChipMapModel_isField _ _ h) (fun m1 r2 h3 => ?_)
  refine kp_if ?_ ?_
  · skip
    exact kp_some h3
  · skip
    refine kp_ix ?_
    refine kp_if ?_ ?_
    · skip
      exact kp_some h3
    · skip
      refine kp_ix ?_
      refine kp_if ?_ ?_
      · skip
        exact kp_some h3
      · skip
        refine kp_cal (ky_ChipMapModel_isFit _ _ _ h3) (fun m4 r5 h6 => ?_)
        refine kp_if ?_ ?_
        · skip
          exact kp_some h6
        · skip
          exact kp_some h6
theorem ky_ChipMapModel_doPut_19 {A : Mm} (M : Mm) (v1 : Int32) (v2 : Int32) (h : kY A M) : kp (kY A) (q_ChipMapModel_doPut_19 M v1 v2) := by
  unfold q_ChipMapModel_doPut_19
  refine kp_ix ?_
  refine kp_cal (ky_ChipMapModel_reach _ _ h) (fun m1 r2 h3 => ?_)
  refine kp_ix ?_
  refine kp_ix ?_
  refine kp_cal (ky_ChipMapModel_still _ _ h3) (fun m4 r5 h6 => ?_)
  refine kp_cal (ky_ChipMapModel_with _ _ _ _ h6) (fun m7 r8 h9 => ?_)
  refine kp_cal (ky_ChipMapModel_operate _ _ _ h9) (fun m10 r11 h12 => ?_)
  exact kp_some h12
theorem ky_ChipMapModel_doPut {A : Mm} (M : Mm) (a1 : Int32) (a2 : Int32) (h : kY A M) : kp (kY A) (q_ChipMapModel_doPut M a1 a2) := by
  unfold q_ChipMapModel_doPut
  refine kp_cal (ky_ChipMapModel_isStored _ _ h) (fun m1 r2 h3 => ?_)
  refine kp_if ?_ ?_
  · skip
    exact ky_ChipMapModel_doPut_19 _ _ _ h3
  · skip
    refine kp_ix ?_
    refine kp_if ?_ ?_
    · skip
      exact kp_some h3
    · skip
      exact ky_ChipMapModel_doPut_19 _ _ _ h3
theorem ky_ChipMapModel_isFetch {A : Mm} (M : Mm) (a1 : Int32) (h : kY A M) : kp (kY A) (q_ChipMapModel_isFetch M a1) := by
  unfold q_ChipMapModel_isFetch
  refine kp_cal (ky_ChipMapModel_isField _ _ h) (fun m1 r2 h3 => ?_)
  refine kp_if ?_ ?_
  · skip
    exact kp_some h3
  · skip
    refine kp_ix ?_
    refine kp_if ?_ ?_
    · skip
      exact kp_some h3
    · skip
      exact kp_some h3
theorem ky_ChipMapModel_doFetch {A : Mm} (M : Mm) (a1 : Int32) (h : kY A M) : kp (kY A) (q_ChipMapModel_doFetch M a1) := by
  unfold q_ChipMapModel_doFetch
  refine kp_ix ?_
  refine kp_st (kY.s0 h (by decide)) (fun m1 h2 => ?_)
  refine kp_ix ?_
  refine kp_if ?_ ?_
  · skip
    exact kp_some h2
  · skip
    refine kp_ix ?_
    refine kp_cal (ky_ChipMapModel_reach _ _ h2) (fun m3 r4 h5 => ?_)
    refine kp_if ?_ ?_
    · skip
      refine kp_ix ?_
      refine kp_st (kY.s0 h5 (by decide)) (fun m6 h7 => ?_)
      refine kp_ix ?_
      refine kp_cal (ky_ChipMapModel_read _ _ h7) (fun m8 r9 h10 => ?_)
      refine kp_ix ?_
      refine kp_if ?_ ?_
      · skip
        refine kp_ix ?_
        refine kp_st (kY.s0 h10 (by decide)) (fun m11 h12 => ?_)
        refine kp_ix ?_
        refine kp_st (kY.st h12 (by decide)) (fun m13 h14 => ?_)
        exact kp_some h14
      · skip
        exact kp_some h10
    · skip
      exact kp_some h5
theorem ky_ChipMapModel_begin_21 {A : Mm} : ∀ (n' : Nat) (M : Mm) (v1 : Int32), kY A M → kp (kY A) (q_ChipMapModel_begin_21 n' M v1) := by
  intro n'
  induction n' with
  | zero =>
    intro M v1 h
    rw [q_ChipMapModel_begin_21]
    exact kp_none
  | succ n' ih =>
    intro M v1 h
    rw [q_ChipMapModel_begin_21]
    refine kp_if ?_ ?_
    · skip
      exact kp_some h
    · skip
      refine kp_ix ?_
      refine kp_ix ?_
      refine kp_st (kY.st h (by decide)) (fun m1 h2 => ?_)
      refine kp_ix ?_
      refine kp_ix ?_
      refine kp_st (kY.st h2 (by decide)) (fun m3 h4 => ?_)
      refine kp_ix ?_
      refine kp_ix ?_
      refine kp_st (kY.st h4 (by decide)) (fun m5 h6 => ?_)
      exact ih _ _ h6
theorem ky_ChipMapModel_begin {A : Mm} (M : Mm) (h : kY A M) : kp (kY A) (q_ChipMapModel_begin M) := by
  unfold q_ChipMapModel_begin
  refine kp_st (kY.s0 h (by decide)) (fun m1 h2 => ?_)
  refine kp_cal (ky_ChipMapModel_copyDevice _ _ _ h2) (fun m3 r4 h5 => ?_)
  refine kp_st (kY.s0 h5 (by decide)) (fun m6 h7 => ?_)
  exact ky_ChipMapModel_begin_21 4000 _ _ h7
theorem ky_ChipMapModel_end_33 {A : Mm} : ∀ (n' : Nat) (M : Mm) (v1 : Int32), kY A M → kp (kY A) (q_ChipMapModel_end_33 n' M v1) := by
  intro n'
  induction n' with
  | zero =>
    intro M v1 h
    rw [q_ChipMapModel_end_33]
    exact kp_none
  | succ n' ih =>
    intro M v1 h
    rw [q_ChipMapModel_end_33]
    refine kp_if ?_ ?_
    · skip
      exact kp_some h
    · skip
      refine kp_ix ?_
      refine kp_ix ?_
      refine kp_st (kY.st h (by decide)) (fun m1 h2 => ?_)
      refine kp_ix ?_
      refine kp_ix ?_
      refine kp_st (kY.st h2 (by decide)) (fun m3 h4 => ?_)
      refine kp_ix ?_
      refine kp_ix ?_
      refine kp_st (kY.st h4 (by decide)) (fun m5 h6 => ?_)
      exact ih _ _ h6
theorem ky_ChipMapModel_end {A : Mm} (M : Mm) (h : kY A M) : kp (kY A) (q_ChipMapModel_end M) := by
  unfold q_ChipMapModel_end
  refine kp_if ?_ ?_
  · skip
    exact kp_some h
  · skip
    refine kp_cal (ky_ChipMapModel_copyDevice _ _ _ h) (fun m1 r2 h3 => ?_)
    refine kp_st (kY.s0 h3 (by decide)) (fun m4 h5 => ?_)
    exact ky_ChipMapModel_end_33 4000 _ _ h5
theorem ky_ChipMapModel_put {A : Mm} (M : Mm) (a1 : Int32) (a2 : Int32) (h : kY A M) : kp (kY A) (q_ChipMapModel_put M a1 a2) := by
  unfold q_ChipMapModel_put
  refine kp_st (kY.s0 h (by decide)) (fun m1 h2 => ?_)
  refine kp_cal (ky_ChipMapModel_isPut _ _ _ h2) (fun m3 r4 h5 => ?_)
  refine kp_if ?_ ?_
  · skip
    exact kp_some h5
  · skip
    refine kp_if ?_ ?_
    · skip
      refine kp_cal (ky_ChipMapModel_begin _ h5) (fun m6 r7 h8 => ?_)
      refine kp_cal (ky_ChipMapModel_doPut _ _ _ h8) (fun m9 r10 h11 => ?_)
      refine kp_cal (ky_ChipMapModel_end _ h11) (fun m12 r13 h14 => ?_)
      exact kp_some h14
    · skip
      exact kp_some h5
theorem ky_ChipMapModel_fetch_51 {A : Mm} (M : Mm) (t0 : Int32) (h : kY A M) : kp (kY A) (q_ChipMapModel_fetch_51 M t0) := by
  unfold q_ChipMapModel_fetch_51
  refine kp_st (kY.s0 h (by decide)) (fun m1 h2 => ?_)
  refine kp_if ?_ ?_
  · skip
    exact kp_some h2
  · skip
    exact kp_some h2
theorem ky_ChipMapModel_fetch {A : Mm} (M : Mm) (a1 : Int32) (h : kY A M) : kp (kY A) (q_ChipMapModel_fetch M a1) := by
  unfold q_ChipMapModel_fetch
  refine kp_cal (ky_ChipMapModel_isFetch _ _ h) (fun m1 r2 h3 => ?_)
  refine kp_if ?_ ?_
  · skip
    refine kp_cal (ky_ChipMapModel_raise _ _ h3) (fun m4 r5 h6 => ?_)
    exact kp_some h6
  · skip
    refine kp_if ?_ ?_
    · skip
      refine kp_cal (ky_ChipMapModel_begin _ h3) (fun m7 r8 h9 => ?_)
      refine kp_cal (ky_ChipMapModel_doFetch _ _ h9) (fun m10 r11 h12 => ?_)
      refine kp_cal (ky_ChipMapModel_end _ h12) (fun m13 r14 h15 => ?_)
      refine kp_if ?_ ?_
      · skip
        exact ky_ChipMapModel_fetch_51 _ _ h15
      · skip
        exact ky_ChipMapModel_fetch_51 _ _ h15
    · skip
      refine kp_cal (ky_ChipMapModel_raise _ _ h3) (fun m16 r17 h18 => ?_)
      exact kp_some h18
theorem ky_ChipMapModel_join {A : Mm} (M : Mm) (a1 : Int32) (a2 : Int32) (h : kY A M) : kp (kY A) (q_ChipMapModel_join M a1 a2) := by
  unfold q_ChipMapModel_join
  refine kp_st (kY.s0 h (by decide)) (fun m1 h2 => ?_)
  refine kp_cal (ky_ChipMapModel_isPut _ _ _ h2) (fun m3 r4 h5 => ?_)
  refine kp_if ?_ ?_
  · skip
    exact kp_some h5
  · skip
    refine kp_if ?_ ?_
    · skip
      exact kp_some h5
    · skip
      refine kp_ix ?_
      refine kp_st (kY.st h5 (by decide)) (fun m6 h7 => ?_)
      refine kp_ix ?_
      refine kp_st (kY.st h7 (by decide)) (fun m8 h9 => ?_)
      refine kp_st (kY.s0 h9 (by decide)) (fun m10 h11 => ?_)
      exact kp_some h11
theorem ky_ChipMapModel_flushRegister_200 {A : Mm} {kf126 : Mm → Int32 → Int32 → Int32 → Rs} (hk126 : ∀ (M : Mm) (b1 : Int32) (b2 : Int32) (b3 : Int32), kY A M → kp (kY A) (kf126 M b1 b2 b3)) (M : Mm) (v1 : Int32) (v3 : Int32) (v4 : Int32) (h : kY A M) : kp (kY A) (q_ChipMapModel_flushRegister_200 kf126 M v1 v3 v4) := by
  unfold q_ChipMapModel_flushRegister_200
  exact hk126 _ _ _ _ h
theorem ky_ChipMapModel_flushRegister_196 {A : Mm} {kf126 : Mm → Int32 → Int32 → Int32 → Rs} (hk126 : ∀ (M : Mm) (b1 : Int32) (b2 : Int32) (b3 : Int32), kY A M → kp (kY A) (kf126 M b1 b2 b3)) (M : Mm) (v1 : Int32) (v4 : Int32) (t0 : Int32) (t1 : Int32) (t2 : Int32) (h : kY A M) : kp (kY A) (q_ChipMapModel_flushRegister_196 kf126 M v1 v4 t0 t1 t2) := by
  unfold q_ChipMapModel_flushRegister_196
  refine kp_cal (ky_ChipMapModel_with _ _ _ _ h) (fun m1 r2 h3 => ?_)
  exact ky_ChipMapModel_flushRegister_200 hk126 _ _ _ _ h3
theorem ky_ChipMapModel_flushRegister_126 {A : Mm} : ∀ (n' : Nat) (M : Mm) (v1 : Int32) (v3 : Int32) (v4 : Int32), kY A M → kp (kY A) (q_ChipMapModel_flushRegister_126 n' M v1 v3 v4) := by
  intro n'
  induction n' with
  | zero =>
    intro M v1 v3 v4 h
    rw [q_ChipMapModel_flushRegister_126]
    exact kp_none
  | succ n' ih =>
    intro M v1 v3 v4 h
    rw [q_ChipMapModel_flushRegister_126]
    refine kp_if ?_ ?_
    · skip
      refine kp_cal (ky_ChipMapModel_operate _ _ _ h) (fun m1 r2 h3 => ?_)
      exact kp_some h3
    · skip
      refine kp_ix ?_
      refine kp_lv (fun x4 => ?_)
      refine kp_ix ?_
      refine kp_if ?_ ?_
      · skip
        refine kp_cal (ky_ChipMapModel_isStored _ _ h) (fun m5 r6 h7 => ?_)
        refine kp_if ?_ ?_
        · skip
          refine kp_cal (ky_ChipMapModel_part _ _ _ h7) (fun m8 r9 h10 => ?_)
          refine kp_ix ?_
          exact ky_ChipMapModel_flushRegister_196 ih _ _ _ _ _ _ h10
        · skip
          refine kp_ix ?_
          exact ky_ChipMapModel_flushRegister_196 ih _ _ _ _ _ _ h7
      · skip
        exact ky_ChipMapModel_flushRegister_200 ih _ _ _ _ h
theorem ky_ChipMapModel_flushRegister_101 {A : Mm} {kf4 : Mm → Int32 → Int32 → Int32 → Rs} (hk4 : ∀ (M : Mm) (b1 : Int32) (b2 : Int32) (b3 : Int32), kY A M → kp (kY A) (kf4 M b1 b2 b3)) (M : Mm) (v1 : Int32) (v2 : Int32) (v3 : Int32) (h : kY A M) : kp (kY A) (q_ChipMapModel_flushRegister_101 kf4 M v1 v2 v3) := by
  unfold q_ChipMapModel_flushRegister_101
  exact hk4 _ _ _ _ h
theorem ky_ChipMapModel_flushRegister_100 {A : Mm} {kf4 : Mm → Int32 → Int32 → Int32 → Rs} (hk4 : ∀ (M : Mm) (b1 : Int32) (b2 : Int32) (b3 : Int32), kY A M → kp (kY A) (kf4 M b1 b2 b3)) (M : Mm) (v1 : Int32) (v3 : Int32) (t0 : Int32) (h : kY A M) : kp (kY A) (q_ChipMapModel_flushRegister_100 kf4 M v1 v3 t0) := by
  unfold q_ChipMapModel_flushRegister_100
  exact ky_ChipMapModel_flushRegister_101 hk4 _ _ _ _ h
theorem ky_ChipMapModel_flushRegister_95 {A : Mm} {kf4 : Mm → Int32 → Int32 → Int32 → Rs} (hk4 : ∀ (M : Mm) (b1 : Int32) (b2 : Int32) (b3 : Int32), kY A M → kp (kY A) (kf4 M b1 b2 b3)) (M : Mm) (v1 : Int32) (v3 : Int32) (h : kY A M) : kp (kY A) (q_ChipMapModel_flushRegister_95 kf4 M v1 v3) := by
  unfold q_ChipMapModel_flushRegister_95
  exact ky_ChipMapModel_flushRegister_100 hk4 _ _ _ _ h
theorem ky_ChipMapModel_flushRegister_43 {A : Mm} {kf4 : Mm → Int32 → Int32 → Int32 → Rs} (hk4 : ∀ (M : Mm) (b1 : Int32) (b2 : Int32) (b3 : Int32), kY A M → kp (kY A) (kf4 M b1 b2 b3)) {kf16 : Mm → Int32 → Int32 → Int32 → Int32 → Int32 → Rs} (hk16 : ∀ (M : Mm) (b1 : Int32) (b2 : Int32) (b3 : Int32) (b4 : Int32) (b5 : Int32), kY A M → kp (kY A) (kf16 M b1 b2 b3 b4 b5)) (M : Mm) (v1 : Int32) (v2 : Int32) (v3 : Int32) (v5 : Int32) (t0 : Int32) (h : kY A M) : kp (kY A) (q_ChipMapModel_flushRegister_43 kf4 kf16 M v1 v2 v3 v5 t0) := by
  unfold q_ChipMapModel_flushRegister_43
  exact hk16 _ _ _ _ _ _ h
theorem ky_ChipMapModel_flushRegister_16 {A : Mm} {kf4 : Mm → Int32 → Int32 → Int32 → Rs} (hk4 : ∀ (M : Mm) (b1 : Int32) (b2 : Int32) (b3 : Int32), kY A M → kp (kY A) (kf4 M b1 b2 b3)) : ∀ (n' : Nat) (M : Mm) (v1 : Int32) (v2 : Int32) (v3 : Int32) (v4 : Int32) (v5 : Int32), kY A M → kp (kY A) (q_ChipMapModel_flushRegister_16 kf4 n' M v1 v2 v3 v4 v5) := by
  intro n'
  induction n' with
  | zero =>
    intro M v1 v2 v3 v4 v5 h
    rw [q_ChipMapModel_flushRegister_16]
    exact kp_none
  | succ n' ih =>
    intro M v1 v2 v3 v4 v5 h
    rw [q_ChipMapModel_flushRegister_16]
    refine kp_if ?_ ?_
    · skip
      refine kp_if ?_ ?_
      · skip
        exact ky_ChipMapModel_flushRegister_101 hk4 _ _ _ _ h
      · skip
        refine kp_ix ?_
        refine kp_if ?_ ?_
        · skip
          refine kp_if ?_ ?_
          · skip
            refine kp_cal (ky_ChipMapModel_isStored _ _ h) (fun m1 r2 h3 => ?_)
            refine kp_if ?_ ?_
            · skip
              exact ky_ChipMapModel_flushRegister_95 hk4 _ _ _ h3
            · skip
              refine kp_ix ?_
              refine kp_ix ?_
              refine kp_if ?_ ?_
              · skip
                exact ky_ChipMapModel_flushRegister_100 hk4 _ _ _ _ h3
              · skip
                exact ky_ChipMapModel_flushRegister_95 hk4 _ _ _ h3
          · skip
            exact ky_ChipMapModel_flushRegister_95 hk4 _ _ _ h
        · skip
          exact ky_ChipMapModel_flushRegister_101 hk4 _ _ _ _ h
    · skip
      refine kp_ix ?_
      refine kp_if ?_ ?_
      · skip
        exact ky_ChipMapModel_flushRegister_43 hk4 ih _ _ _ _ _ _ h
      · skip
        exact ky_ChipMapModel_flushRegister_43 hk4 ih _ _ _ _ _ _ h
theorem ky_ChipMapModel_flushRegister_4 {A : Mm} : ∀ (n' : Nat) (M : Mm) (v1 : Int32) (v2 : Int32) (v3 : Int32), kY A M → kp (kY A) (q_ChipMapModel_flushRegister_4 n' M v1 v2 v3) := by
  intro n'
  induction n' with
  | zero =>
    intro M v1 v2 v3 h
    rw [q_ChipMapModel_flushRegister_4]
    exact kp_none
  | succ n' ih =>
    intro M v1 v2 v3 h
    rw [q_ChipMapModel_flushRegister_4]
    refine kp_if ?_ ?_
    · skip
      refine kp_if ?_ ?_
      · skip
        exact kp_some h
      · skip
        refine kp_cal (ky_ChipMapModel_reach _ _ h) (fun m1 r2 h3 => ?_)
        refine kp_cal (ky_ChipMapModel_still _ _ h3) (fun m4 r5 h6 => ?_)
        exact ky_ChipMapModel_flushRegister_126 4000 _ _ _ _ h6
    · skip
      refine kp_lv (fun x7 => ?_)
      exact ky_ChipMapModel_flushRegister_16 ih 4000 _ _ _ _ _ _ h
theorem ky_ChipMapModel_flushRegister {A : Mm} (M : Mm) (a1 : Int32) (h : kY A M) : kp (kY A) (q_ChipMapModel_flushRegister M a1) := by
  unfold q_ChipMapModel_flushRegister
  exact ky_ChipMapModel_flushRegister_4 4000 _ _ _ _ h
theorem ky_ChipMapModel_flush_88 {A : Mm} {kf11 : Mm → Int32 → Rs} (hk11 : ∀ (M : Mm) (b1 : Int32), kY A M → kp (kY A) (kf11 M b1)) (M : Mm) (v1 : Int32) (h : kY A M) : kp (kY A) (q_ChipMapModel_flush_88 kf11 M v1) := by
  unfold q_ChipMapModel_flush_88
  exact hk11 _ _ h
theorem ky_ChipMapModel_flush_62 {A : Mm} {kf11 : Mm → Int32 → Rs} (hk11 : ∀ (M : Mm) (b1 : Int32), kY A M → kp (kY A) (kf11 M b1)) {kf23 : Mm → Int32 → Int32 → Int32 → Rs} (hk23 : ∀ (M : Mm) (b1 : Int32) (b2 : Int32) (b3 : Int32), kY A M → kp (kY A) (kf23 M b1 b2 b3)) (M : Mm) (v1 : Int32) (v3 : Int32) (t0 : Int32) (h : kY A M) : kp (kY A) (q_ChipMapModel_flush_62 kf11 kf23 M v1 v3 t0) := by
  unfold q_ChipMapModel_flush_62
  exact hk23 _ _ _ _ h
theorem ky_ChipMapModel_flush_57 {A : Mm} {kf11 : Mm → Int32 → Rs} (hk11 : ∀ (M : Mm) (b1 : Int32), kY A M → kp (kY A) (kf11 M b1)) {kf23 : Mm → Int32 → Int32 → Int32 → Rs} (hk23 : ∀ (M : Mm) (b1 : Int32) (b2 : Int32) (b3 : Int32), kY A M → kp (kY A) (kf23 M b1 b2 b3)) (M : Mm) (v1 : Int32) (v3 : Int32) (h : kY A M) : kp (kY A) (q_ChipMapModel_flush_57 kf11 kf23 M v1 v3) := by
  unfold q_ChipMapModel_flush_57
  exact ky_ChipMapModel_flush_62 hk11 hk23 _ _ _ _ h
theorem ky_ChipMapModel_flush_23 {A : Mm} {kf11 : Mm → Int32 → Rs} (hk11 : ∀ (M : Mm) (b1 : Int32), kY A M → kp (kY A) (kf11 M b1)) : ∀ (n' : Nat) (M : Mm) (v1 : Int32) (v2 : Int32) (v3 : Int32), kY A M → kp (kY A) (q_ChipMapModel_flush_23 kf11 n' M v1 v2 v3) := by
  intro n'
  induction n' with
  | zero =>
    intro M v1 v2 v3 h
    rw [q_ChipMapModel_flush_23]
    exact kp_none
  | succ n' ih =>
    intro M v1 v2 v3 h
    rw [q_ChipMapModel_flush_23]
    refine kp_if ?_ ?_
    · skip
      refine kp_if ?_ ?_
      · skip
        refine kp_ix ?_
        refine kp_ix ?_
        refine kp_cal (ky_ChipMapModel_flushRegister _ _ h) (fun m1 r2 h3 => ?_)
        exact ky_ChipMapModel_flush_88 hk11 _ _ h3
      · skip
        exact ky_ChipMapModel_flush_88 hk11 _ _ h
    · skip
      refine kp_if ?_ ?_
      · skip
        refine kp_ix ?_
        refine kp_ix ?_
        refine kp_ix ?_
        refine kp_ix ?_
        refine kp_if ?_ ?_
        · skip
          exact ky_ChipMapModel_flush_57 hk11 ih _ _ _ h
        · skip
          exact ky_ChipMapModel_flush_62 hk11 ih _ _ _ _ h
      · skip
        exact ky_ChipMapModel_flush_57 hk11 ih _ _ _ h
theorem ky_ChipMapModel_flush_11 {A : Mm} : ∀ (n' : Nat) (M : Mm) (v1 : Int32), kY A M → kp (kY A) (q_ChipMapModel_flush_11 n' M v1) := by
  intro n'
  induction n' with
  | zero =>
    intro M v1 h
    rw [q_ChipMapModel_flush_11]
    exact kp_none
  | succ n' ih =>
    intro M v1 h
    rw [q_ChipMapModel_flush_11]
    refine kp_if ?_ ?_
    · skip
      refine kp_cal (ky_ChipMapModel_end _ h) (fun m1 r2 h3 => ?_)
      refine kp_if ?_ ?_
      · skip
        exact kp_some h3
      · skip
        refine kp_st (kY.s0 h3 (by decide)) (fun m4 h5 => ?_)
        exact kp_some h5
    · skip
      exact ky_ChipMapModel_flush_23 ih 4000 _ _ _ _ h
theorem ky_ChipMapModel_flush {A : Mm} (M : Mm) (h : kY A M) : kp (kY A) (q_ChipMapModel_flush M) := by
  unfold q_ChipMapModel_flush
  refine kp_st (kY.s0 h (by decide)) (fun m1 h2 => ?_)
  refine kp_cal (ky_ChipMapModel_begin _ h2) (fun m3 r4 h5 => ?_)
  exact ky_ChipMapModel_flush_11 4000 _ _ h5
theorem ky_ChipMapModel_drop {A : Mm} (M : Mm) (h : kY A M) : kp (kY A) (q_ChipMapModel_drop M) := by
  unfold q_ChipMapModel_drop
  refine kp_st (kY.s0 h (by decide)) (fun m1 h2 => ?_)
  refine kp_lv (fun x3 => ?_)
  refine kp_st (kY.s0 h2 (by decide)) (fun m4 h5 => ?_)
  exact kp_some h5
theorem ky_ChipMapModel_trace_1 {A : Mm} (M : Mm) (a1 : Int32) (a2 : Int32) (h : kY A M) : kp (kY A) (q_ChipMapModel_trace_1 M a1 a2) := by
  unfold q_ChipMapModel_trace_1
  refine kp_st (kY.s0 h (by decide)) (fun m1 h2 => ?_)
  refine kp_if ?_ ?_
  · skip
    exact kp_some h2
  · skip
    refine kp_if ?_ ?_
    · skip
      exact kp_some h2
    · skip
      refine kp_if ?_ ?_
      · skip
        exact kp_some h2
      · skip
        refine kp_if ?_ ?_
        · skip
          exact kp_some h2
        · skip
          refine kp_if ?_ ?_
          · skip
            refine kp_lv (fun x3 => ?_)
            refine kp_if ?_ ?_
            · skip
              refine kp_ix ?_
              exact kp_some h2
            · skip
              refine kp_if ?_ ?_
              · skip
                refine kp_ix ?_
                exact kp_some h2
              · skip
                refine kp_ix ?_
                exact kp_some h2
          · skip
            exact kp_some h2
theorem ky_ChipMapModel_step_73 {A : Mm} (M : Mm) (v1 : Int32) (v2 : Int32) (v3 : Int32) (h : kY A M) : kp (kY A) (q_ChipMapModel_step_73 M v1 v2 v3) := by
  unfold q_ChipMapModel_step_73
  refine kp_ix ?_
  refine kp_st (kY.st h (by decide)) (fun m1 h2 => ?_)
  refine kp_ix ?_
  refine kp_st (kY.st h2 (by decide)) (fun m3 h4 => ?_)
  refine kp_ix ?_
  refine kp_st (kY.st h4 (by decide)) (fun m5 h6 => ?_)
  refine kp_st (kY.s0 h6 (by decide)) (fun m7 h8 => ?_)
  exact kp_some h8
theorem ky_ChipMapModel_step_56 {A : Mm} (M : Mm) (v1 : Int32) (v2 : Int32) (v3 : Int32) (h : kY A M) : kp (kY A) (q_ChipMapModel_step_56 M v1 v2 v3) := by
  unfold q_ChipMapModel_step_56
  refine kp_if ?_ ?_
  · skip
    refine kp_if ?_ ?_
    · skip
      exact kp_some h
    · skip
      refine kp_if ?_ ?_
      · skip
        exact ky_ChipMapModel_step_73 _ _ _ _ h
      · skip
        exact kp_some h
  · skip
    exact ky_ChipMapModel_step_73 _ _ _ _ h
theorem ky_ChipMapModel_step_43 {A : Mm} (M : Mm) (v1 : Int32) (v2 : Int32) (v3 : Int32) (h : kY A M) : kp (kY A) (q_ChipMapModel_step_43 M v1 v2 v3) := by
  unfold q_ChipMapModel_step_43
  refine kp_if ?_ ?_
  · skip
    refine kp_cal (ky_ChipMapModel_isFetch _ _ h) (fun m1 r2 h3 => ?_)
    refine kp_if ?_ ?_
    · skip
      exact kp_some h3
    · skip
      exact ky_ChipMapModel_step_56 _ _ _ _ h3
  · skip
    exact ky_ChipMapModel_step_56 _ _ _ _ h
theorem ky_ChipMapModel_step {A : Mm} (M : Mm) (a1 : Int32) (a2 : Int32) (a3 : Int32) (h : kY A M) : kp (kY A) (q_ChipMapModel_step M a1 a2 a3) := by
  unfold q_ChipMapModel_step
  refine kp_st (kY.s0 h (by decide)) (fun m1 h2 => ?_)
  refine kp_if ?_ ?_
  · skip
    exact kp_some h2
  · skip
    refine kp_if ?_ ?_
    · skip
      exact kp_some h2
    · skip
      refine kp_if ?_ ?_
      · skip
        exact kp_some h2
      · skip
        refine kp_if ?_ ?_
        · skip
          exact kp_some h2
        · skip
          refine kp_if ?_ ?_
          · skip
            refine kp_cal (ky_ChipMapModel_isPut _ _ _ h2) (fun m3 r4 h5 => ?_)
            refine kp_if ?_ ?_
            · skip
              exact kp_some h5
            · skip
              exact ky_ChipMapModel_step_43 _ _ _ _ h5
          · skip
            exact ky_ChipMapModel_step_43 _ _ _ _ h2
theorem ky_ChipMapModel_erase {A : Mm} (M : Mm) (h : kY A M) : kp (kY A) (q_ChipMapModel_erase M) := by
  unfold q_ChipMapModel_erase
  refine kp_st (kY.s0 h (by decide)) (fun m1 h2 => ?_)
  refine kp_lv (fun x3 => ?_)
  refine kp_st (kY.s0 h2 (by decide)) (fun m4 h5 => ?_)
  exact kp_some h5
theorem ky_ChipMapModel_memoryWord_29 {A : Mm} {kf4 : Mm → Int32 → Int32 → Rs} (hk4 : ∀ (M : Mm) (b1 : Int32) (b2 : Int32), kY A M → kp (kY A) (kf4 M b1 b2)) (M : Mm) (v2 : Int32) (t0 : Int32) (t1 : Int32) (h : kY A M) : kp (kY A) (q_ChipMapModel_memoryWord_29 kf4 M v2 t0 t1) := by
  unfold q_ChipMapModel_memoryWord_29
  refine kp_lv (fun x1 => ?_)
  exact hk4 _ _ _ h
theorem ky_ChipMapModel_memoryWord_4 {A : Mm} : ∀ (n' : Nat) (M : Mm) (v1 : Int32) (v2 : Int32), kY A M → kp (kY A) (q_ChipMapModel_memoryWord_4 n' M v1 v2) := by
  intro n'
  induction n' with
  | zero =>
    intro M v1 v2 h
    rw [q_ChipMapModel_memoryWord_4]
    exact kp_none
  | succ n' ih =>
    intro M v1 v2 h
    rw [q_ChipMapModel_memoryWord_4]
    refine kp_if ?_ ?_
    · skip
      exact kp_some h
    · skip
      refine kp_ix ?_
      refine kp_if ?_ ?_
      · skip
        exact ky_ChipMapModel_memoryWord_29 ih _ _ _ _ h
      · skip
        exact ky_ChipMapModel_memoryWord_29 ih _ _ _ _ h
theorem ky_ChipMapModel_memoryWord {A : Mm} (M : Mm) (h : kY A M) : kp (kY A) (q_ChipMapModel_memoryWord M) := by
  unfold q_ChipMapModel_memoryWord
  exact ky_ChipMapModel_memoryWord_4 4000 _ _ _ h
theorem ky_ChipMapModel_isSituation_72 {A : Mm} {kf27 : Mm → Int32 → Int32 → Rs} (hk27 : ∀ (M : Mm) (b1 : Int32) (b2 : Int32), kY A M → kp (kY A) (kf27 M b1 b2)) (M : Mm) (v1 : Int32) (v3 : Int32) (h : kY A M) : kp (kY A) (q_ChipMapModel_isSituation_72 kf27 M v1 v3) := by
  unfold q_ChipMapModel_isSituation_72
  exact hk27 _ _ _ h
theorem ky_ChipMapModel_isSituation_27 {A : Mm} : ∀ (n' : Nat) (M : Mm) (v1 : Int32) (v3 : Int32), kY A M → kp (kY A) (q_ChipMapModel_isSituation_27 n' M v1 v3) := by
  intro n'
  induction n' with
  | zero =>
    intro M v1 v3 h
    rw [q_ChipMapModel_isSituation_27]
    exact kp_none
  | succ n' ih =>
    intro M v1 v3 h
    rw [q_ChipMapModel_isSituation_27]
    refine kp_if ?_ ?_
    · skip
      exact kp_some h
    · skip
      refine kp_ix ?_
      refine kp_if ?_ ?_
      · skip
        exact ky_ChipMapModel_isSituation_72 ih _ _ _ h
      · skip
        refine kp_cal (ky_ChipMapModel_isStored _ _ h) (fun m1 r2 h3 => ?_)
        refine kp_if ?_ ?_
        · skip
          exact ky_ChipMapModel_isSituation_72 ih _ _ _ h3
        · skip
          refine kp_ix ?_
          refine kp_ix ?_
          refine kp_if ?_ ?_
          · skip
            exact ky_ChipMapModel_isSituation_72 ih _ _ _ h3
          · skip
            exact kp_some h3
theorem ky_ChipMapModel_isSituation {A : Mm} (M : Mm) (a1 : Int32) (a2 : Int32) (h : kY A M) : kp (kY A) (q_ChipMapModel_isSituation M a1 a2) := by
  unfold q_ChipMapModel_isSituation
  refine kp_ix ?_
  refine kp_if ?_ ?_
  · skip
    refine kp_ix ?_
    refine kp_cal (ky_ChipMapModel_memoryWord _ h) (fun m1 r2 h3 => ?_)
    refine kp_if ?_ ?_
    · skip
      exact ky_ChipMapModel_isSituation_27 4000 _ _ _ h3
    · skip
      exact kp_some h3
  · skip
    exact kp_some h
theorem ky_ChipMapModel_meet_82 {A : Mm} : ∀ (n' : Nat) (M : Mm) (v3 : Int32), kY A M → kp (kY A) (q_ChipMapModel_meet_82 n' M v3) := by
  intro n'
  induction n' with
  | zero =>
    intro M v3 h
    rw [q_ChipMapModel_meet_82]
    exact kp_none
  | succ n' ih =>
    intro M v3 h
    rw [q_ChipMapModel_meet_82]
    refine kp_if ?_ ?_
    · skip
      refine kp_st (kY.s0 h (by decide)) (fun m1 h2 => ?_)
      exact kp_some h2
    · skip
      refine kp_ix ?_
      refine kp_ix ?_
      refine kp_st (kY.st h (by decide)) (fun m3 h4 => ?_)
      exact ih _ _ h4
theorem ky_ChipMapModel_meet_17 {A : Mm} : ∀ (n' : Nat) (M : Mm) (v2 : Int32) (v3 : Int32), kY A M → kp (kY A) (q_ChipMapModel_meet_17 n' M v2 v3) := by
  intro n'
  induction n' with
  | zero =>
    intro M v2 v3 h
    rw [q_ChipMapModel_meet_17]
    exact kp_none
  | succ n' ih =>
    intro M v2 v3 h
    rw [q_ChipMapModel_meet_17]
    refine kp_if ?_ ?_
    · skip
      refine kp_if ?_ ?_
      · skip
        refine kp_st (kY.s0 h (by decide)) (fun m1 h2 => ?_)
        exact kp_some h2
      · skip
        refine kp_ix ?_
        refine kp_st (kY.st h (by decide)) (fun m3 h4 => ?_)
        refine kp_cal (ky_ChipMapModel_memoryWord _ h4) (fun m5 r6 h7 => ?_)
        refine kp_ix ?_
        refine kp_st (kY.st h7 (by decide)) (fun m8 h9 => ?_)
        exact ky_ChipMapModel_meet_82 4000 _ _ h9
    · skip
      refine kp_cal (ky_ChipMapModel_isSituation _ _ _ h) (fun m10 r11 h12 => ?_)
      refine kp_if ?_ ?_
      · skip
        exact ih _ _ _ h12
      · skip
        exact kp_some h12
theorem ky_ChipMapModel_meet_14 {A : Mm} (M : Mm) (t0 : Int32) (h : kY A M) : kp (kY A) (q_ChipMapModel_meet_14 M t0) := by
  unfold q_ChipMapModel_meet_14
  exact ky_ChipMapModel_meet_17 4000 _ _ _ h
theorem ky_ChipMapModel_meet {A : Mm} (M : Mm) (a1 : Int32) (h : kY A M) : kp (kY A) (q_ChipMapModel_meet M a1) := by
  unfold q_ChipMapModel_meet
  refine kp_if ?_ ?_
  · skip
    exact ky_ChipMapModel_meet_14 _ _ h
  · skip
    exact ky_ChipMapModel_meet_14 _ _ h
theorem ky_ChipMapModel_stand_65 {A : Mm} {kf33 : Mm → Int32 → Int32 → Rs} (hk33 : ∀ (M : Mm) (b1 : Int32) (b2 : Int32), kY A M → kp (kY A) (kf33 M b1 b2)) (M : Mm) (v1 : Int32) (v2 : Int32) (t0 : Int32) (t1 : Int32) (h : kY A M) : kp (kY A) (q_ChipMapModel_stand_65 kf33 M v1 v2 t0 t1) := by
  unfold q_ChipMapModel_stand_65
  refine kp_ix ?_
  refine kp_st (kY.st h (by decide)) (fun m1 h2 => ?_)
  exact hk33 _ _ _ h2
theorem ky_ChipMapModel_stand_33 {A : Mm} : ∀ (n' : Nat) (M : Mm) (v1 : Int32) (v2 : Int32), kY A M → kp (kY A) (q_ChipMapModel_stand_33 n' M v1 v2) := by
  intro n'
  induction n' with
  | zero =>
    intro M v1 v2 h
    rw [q_ChipMapModel_stand_33]
    exact kp_none
  | succ n' ih =>
    intro M v1 v2 h
    rw [q_ChipMapModel_stand_33]
    refine kp_if ?_ ?_
    · skip
      exact kp_some h
    · skip
      refine kp_ix ?_
      refine kp_if ?_ ?_
      · skip
        exact ky_ChipMapModel_stand_65 ih _ _ _ _ _ h
      · skip
        exact ky_ChipMapModel_stand_65 ih _ _ _ _ _ h
theorem ky_ChipMapModel_stand_2 {A : Mm} : ∀ (n' : Nat) (M : Mm) (v1 : Int32) (v2 : Int32), kY A M → kp (kY A) (q_ChipMapModel_stand_2 n' M v1 v2) := by
  intro n'
  induction n' with
  | zero =>
    intro M v1 v2 h
    rw [q_ChipMapModel_stand_2]
    exact kp_none
  | succ n' ih =>
    intro M v1 v2 h
    rw [q_ChipMapModel_stand_2]
    refine kp_if ?_ ?_
    · skip
      exact ky_ChipMapModel_stand_33 4000 _ _ _ h
    · skip
      refine kp_ix ?_
      refine kp_ix ?_
      refine kp_st (kY.st h (by decide)) (fun m1 h2 => ?_)
      exact ih _ _ _ h2
theorem ky_ChipMapModel_stand {A : Mm} (M : Mm) (a1 : Int32) (h : kY A M) : kp (kY A) (q_ChipMapModel_stand M a1) := by
  unfold q_ChipMapModel_stand
  exact ky_ChipMapModel_stand_2 4000 _ _ _ h
theorem ky_ChipMapModel_goOn_23 {A : Mm} (M : Mm) (v1 : Int32) (v2 : Int32) (h : kY A M) : kp (kY A) (q_ChipMapModel_goOn_23 M v1 v2) := by
  unfold q_ChipMapModel_goOn_23
  refine kp_cal (ky_ChipMapModel_stand _ _ h) (fun m1 r2 h3 => ?_)
  refine kp_if ?_ ?_
  · skip
    exact kp_some h3
  · skip
    refine kp_cal (ky_ChipMapModel_meet _ _ h3) (fun m4 r5 h6 => ?_)
    exact kp_some h6
theorem ky_ChipMapModel_goOn_171 {A : Mm} (M : Mm) (v2 : Int32) (h : kY A M) : kp (kY A) (q_ChipMapModel_goOn_171 M v2) := by
  unfold q_ChipMapModel_goOn_171
  refine kp_st (kY.s0 h (by decide)) (fun m1 h2 => ?_)
  refine kp_st (kY.s0 h2 (by decide)) (fun m3 h4 => ?_)
  exact kp_some h4
theorem ky_ChipMapModel_goOn_117 {A : Mm} (M : Mm) (v2 : Int32) (h : kY A M) : kp (kY A) (q_ChipMapModel_goOn_117 M v2) := by
  unfold q_ChipMapModel_goOn_117
  refine kp_if ?_ ?_
  · skip
    refine kp_cal (ky_ChipMapModel_meet _ _ h) (fun m1 r2 h3 => ?_)
    exact kp_some h3
  · skip
    refine kp_if ?_ ?_
    · skip
      exact ky_ChipMapModel_goOn_171 _ _ h
    · skip
      refine kp_if ?_ ?_
      · skip
        exact ky_ChipMapModel_goOn_171 _ _ h
      · skip
        refine kp_if ?_ ?_
        · skip
          refine kp_if ?_ ?_
          · skip
            exact kp_some h
          · skip
            exact ky_ChipMapModel_goOn_171 _ _ h
        · skip
          exact kp_some h
end
section
theorem ky_ChipMapModel_goOn {A : Mm} (M : Mm) (a1 : Int32) (h : kY A M) : kp (kY A) (q_ChipMapModel_goOn M a1) := by
  unfold q_ChipMapModel_goOn
  refine kp_ix ?_
  refine kp_lv (fun x1 => ?_)
  refine kp_if ?_ ?_
  · skip
    exact ky_ChipMapModel_goOn_23 _ _ _ h
  · skip
    refine kp_ix ?_
    refine kp_if ?_ ?_
    · skip
      exact ky_ChipMapModel_goOn_23 _ _ _ h
    · skip
      refine kp_cal (ky_ChipMapModel_stand _ _ h) (fun m2 r3 h4 => ?_)
      refine kp_ix ?_
      refine kp_if ?_ ?_
      · skip
        refine kp_ix ?_
        refine kp_cal (ky_ChipMapModel_meet _ _ h4) (fun m5 r6 h7 => ?_)
        refine kp_cal (ky_ChipMapModel_meet _ _ h7) (fun m8 r9 h10 => ?_)
        exact kp_some h10
      · skip
        refine kp_st (kY.s0 h4 (by decide)) (fun m11 h12 => ?_)
        refine kp_ix ?_
        refine kp_if ?_ ?_
        · skip
          refine kp_ix ?_
          refine kp_ix ?_
          refine kp_cal (ky_ChipMapModel_doPut _ _ _ h12) (fun m13 r14 h15 => ?_)
          exact ky_ChipMapModel_goOn_117 _ _ h15
        · skip
          refine kp_ix ?_
          refine kp_cal (ky_ChipMapModel_doFetch _ _ h12) (fun m16 r17 h18 => ?_)
          exact ky_ChipMapModel_goOn_117 _ _ h18
theorem ky_ChipMapModel_check_82 {A : Mm} (M : Mm) (h : kY A M) : kp (kY A) (q_ChipMapModel_check_82 M) := by
  unfold q_ChipMapModel_check_82
  refine kp_st (kY.s0 h (by decide)) (fun m1 h2 => ?_)
  refine kp_cal (ky_ChipMapModel_copyDevice _ _ _ h2) (fun m3 r4 h5 => ?_)
  refine kp_st (kY.s0 h5 (by decide)) (fun m6 h7 => ?_)
  refine kp_if ?_ ?_
  · skip
    exact kp_some h7
  · skip
    refine kp_st (kY.s0 h7 (by decide)) (fun m8 h9 => ?_)
    exact kp_some h9
theorem ky_ChipMapModel_check_56 {A : Mm} : ∀ (n' : Nat) (M : Mm) (v1 : Int32), kY A M → kp (kY A) (q_ChipMapModel_check_56 n' M v1) := by
  intro n'
  induction n' with
  | zero =>
    intro M v1 h
    rw [q_ChipMapModel_check_56]
    exact kp_none
  | succ n' ih =>
    intro M v1 h
    rw [q_ChipMapModel_check_56]
    refine kp_if ?_ ?_
    · skip
      exact ky_ChipMapModel_check_82 _ h
    · skip
      refine kp_if ?_ ?_
      · skip
        refine kp_cal (ky_ChipMapModel_goOn _ _ h) (fun m1 r2 h3 => ?_)
        exact ih _ _ h3
      · skip
        exact ky_ChipMapModel_check_82 _ h
theorem ky_ChipMapModel_check {A : Mm} (M : Mm) (h : kY A M) : kp (kY A) (q_ChipMapModel_check M) := by
  unfold q_ChipMapModel_check
  refine kp_st (kY.s0 h (by decide)) (fun m1 h2 => ?_)
  refine kp_if ?_ ?_
  · skip
    exact kp_some h2
  · skip
    refine kp_cal (ky_ChipMapModel_copyDevice _ _ _ h2) (fun m3 r4 h5 => ?_)
    refine kp_st (kY.s0 h5 (by decide)) (fun m6 h7 => ?_)
    refine kp_cal (ky_ChipMapModel_resetDevice _ h7) (fun m8 r9 h10 => ?_)
    refine kp_st (kY.s0 h10 (by decide)) (fun m11 h12 => ?_)
    refine kp_st (kY.s0 h12 (by decide)) (fun m13 h14 => ?_)
    refine kp_st (kY.s0 h14 (by decide)) (fun m15 h16 => ?_)
    refine kp_st (kY.s0 h16 (by decide)) (fun m17 h18 => ?_)
    refine kp_cal (ky_ChipMapModel_meet _ _ h18) (fun m19 r20 h21 => ?_)
    exact ky_ChipMapModel_check_56 4000 _ _ h21
theorem ky_ChipMapModel_found {A : Mm} (M : Mm) (a1 : Int32) (h : kY A M) : kp (kY A) (q_ChipMapModel_found M a1) := by
  unfold q_ChipMapModel_found
  refine kp_st (kY.s0 h (by decide)) (fun m1 h2 => ?_)
  refine kp_if ?_ ?_
  · skip
    exact kp_some h2
  · skip
    refine kp_if ?_ ?_
    · skip
      exact kp_some h2
    · skip
      exact kp_some h2
theorem ky_ChipMapModel_run_153 {A : Mm} {kf28 : Mm → Int32 → Int32 → Int32 → Int32 → Rs} (hk28 : ∀ (M : Mm) (b1 : Int32) (b2 : Int32) (b3 : Int32) (b4 : Int32), kY A M → kp (kY A) (kf28 M b1 b2 b3 b4)) (M : Mm) (v1 : Int32) (v2 : Int32) (v3 : Int32) (v4 : Int32) (h : kY A M) : kp (kY A) (q_ChipMapModel_run_153 kf28 M v1 v2 v3 v4) := by
  unfold q_ChipMapModel_run_153
  exact hk28 _ _ _ _ _ h
theorem ky_ChipMapModel_run_137 {A : Mm} {kf28 : Mm → Int32 → Int32 → Int32 → Int32 → Rs} (hk28 : ∀ (M : Mm) (b1 : Int32) (b2 : Int32) (b3 : Int32) (b4 : Int32), kY A M → kp (kY A) (kf28 M b1 b2 b3 b4)) (M : Mm) (v1 : Int32) (v2 : Int32) (v3 : Int32) (v4 : Int32) (h : kY A M) : kp (kY A) (q_ChipMapModel_run_137 kf28 M v1 v2 v3 v4) := by
  unfold q_ChipMapModel_run_137
  refine kp_cal (ky_ChipMapModel_end _ h) (fun m1 r2 h3 => ?_)
  refine kp_if ?_ ?_
  · skip
    exact kp_some h3
  · skip
    exact ky_ChipMapModel_run_153 hk28 _ _ _ _ _ h3
theorem ky_ChipMapModel_run_92 {A : Mm} {kf28 : Mm → Int32 → Int32 → Int32 → Int32 → Rs} (hk28 : ∀ (M : Mm) (b1 : Int32) (b2 : Int32) (b3 : Int32) (b4 : Int32), kY A M → kp (kY A) (kf28 M b1 b2 b3 b4)) (M : Mm) (v1 : Int32) (v3 : Int32) (v4 : Int32) (t0 : Int32) (h : kY A M) : kp (kY A) (q_ChipMapModel_run_92 kf28 M v1 v3 v4 t0) := by
  unfold q_ChipMapModel_run_92
  exact ky_ChipMapModel_run_153 hk28 _ _ _ _ _ h
theorem ky_ChipMapModel_run_28 {A : Mm} : ∀ (n' : Nat) (M : Mm) (v1 : Int32) (v2 : Int32) (v3 : Int32) (v4 : Int32), kY A M → kp (kY A) (q_ChipMapModel_run_28 n' M v1 v2 v3 v4) := by
  intro n'
  induction n' with
  | zero =>
    intro M v1 v2 v3 v4 h
    rw [q_ChipMapModel_run_28]
    exact kp_none
  | succ n' ih =>
    intro M v1 v2 v3 v4 h
    rw [q_ChipMapModel_run_28]
    refine kp_if ?_ ?_
    · skip
      refine kp_if ?_ ?_
      · skip
        exact kp_some h
      · skip
        exact kp_some h
    · skip
      refine kp_if ?_ ?_
      · skip
        refine kp_ix ?_
        refine kp_lv (fun x1 => ?_)
        refine kp_if ?_ ?_
        · skip
          exact kp_some h
        · skip
          refine kp_if ?_ ?_
          · skip
            refine kp_if ?_ ?_
            · skip
              refine kp_ix ?_
              exact ky_ChipMapModel_run_92 ih _ _ _ _ _ h
            · skip
              exact ky_ChipMapModel_run_92 ih _ _ _ _ _ h
          · skip
            refine kp_cal (ky_ChipMapModel_begin _ h) (fun m2 r3 h4 => ?_)
            refine kp_if ?_ ?_
            · skip
              refine kp_ix ?_
              refine kp_ix ?_
              refine kp_cal (ky_ChipMapModel_doPut _ _ _ h4) (fun m5 r6 h7 => ?_)
              exact ky_ChipMapModel_run_137 ih _ _ _ _ _ h7
            · skip
              refine kp_ix ?_
              refine kp_cal (ky_ChipMapModel_doFetch _ _ h4) (fun m8 r9 h10 => ?_)
              exact ky_ChipMapModel_run_137 ih _ _ _ _ _ h10
      · skip
        exact kp_some h
theorem ky_ChipMapModel_run {A : Mm} (M : Mm) (a1 : Int32) (h : kY A M) : kp (kY A) (q_ChipMapModel_run M a1) := by
  unfold q_ChipMapModel_run
  refine kp_st (kY.s0 h (by decide)) (fun m1 h2 => ?_)
  refine kp_if ?_ ?_
  · skip
    exact kp_some h2
  · skip
    refine kp_if ?_ ?_
    · skip
      exact ky_ChipMapModel_run_28 4000 _ _ _ _ _ h2
    · skip
      exact kp_some h2
theorem ky_ChipMapModel_state {A : Mm} (M : Mm) (a1 : Int32) (h : kY A M) : kp (kY A) (q_ChipMapModel_state M a1) := by
  unfold q_ChipMapModel_state
  refine kp_st (kY.s0 h (by decide)) (fun m1 h2 => ?_)
  refine kp_if ?_ ?_
  · skip
    exact kp_some h2
  · skip
    refine kp_if ?_ ?_
    · skip
      exact kp_some h2
    · skip
      refine kp_if ?_ ?_
      · skip
        exact kp_some h2
      · skip
        refine kp_if ?_ ?_
        · skip
          exact kp_some h2
        · skip
          refine kp_if ?_ ?_
          · skip
            exact kp_some h2
          · skip
            exact kp_some h2
end
section
theorem ks_Layout_isKnown {A : Mm} (M : Mm) (a1 : Int32) (h : kS A M) : kp (kS A) (q_Layout_isKnown M a1) := by
  unfold q_Layout_isKnown
  refine kp_ix ?_
  refine kp_if ?_ ?_
  · skip
    exact kp_some h
  · skip
    refine kp_ix ?_
    refine kp_if ?_ ?_
    · skip
      exact kp_some h
    · skip
      exact kp_some h
theorem ks_Mind_restart_2 {A : Mm} : ∀ (n' : Nat) (M : Mm) (v1 : Int32), kS A M → kp (kS A) (q_Mind_restart_2 n' M v1) := by
  intro n'
  induction n' with
  | zero =>
    intro M v1 h
    rw [q_Mind_restart_2]
    exact kp_none
  | succ n' ih =>
    intro M v1 h
    rw [q_Mind_restart_2]
    refine kp_if ?_ ?_
    · skip
      refine kp_st (kS.st h (by decide)) (fun m1 h2 => ?_)
      exact kp_some h2
    · skip
      refine kp_ix ?_
      refine kp_ix ?_
      refine kp_ix ?_
      refine kp_st (kS.st h (by decide)) (fun m3 h4 => ?_)
      exact ih _ _ h4
theorem ks_Mind_restart {A : Mm} (M : Mm) (h : kS A M) : kp (kS A) (q_Mind_restart M) := by
  unfold q_Mind_restart
  exact ks_Mind_restart_2 4000 _ _ h
theorem ks_Device_restart_9 {A : Mm} : ∀ (n' : Nat) (M : Mm) (v1 : Int32), kS A M → kp (kS A) (q_Device_restart_9 n' M v1) := by
  intro n'
  induction n' with
  | zero =>
    intro M v1 h
    rw [q_Device_restart_9]
    exact kp_none
  | succ n' ih =>
    intro M v1 h
    rw [q_Device_restart_9]
    refine kp_if ?_ ?_
    · skip
      refine kp_st (kS.st h (by decide)) (fun m1 h2 => ?_)
      refine kp_st (kS.st h2 (by decide)) (fun m3 h4 => ?_)
      refine kp_st (kS.st h4 (by decide)) (fun m5 h6 => ?_)
      refine kp_st (kS.st h6 (by decide)) (fun m7 h8 => ?_)
      exact kp_some h8
    · skip
      refine kp_ix ?_
      refine kp_ix ?_
      refine kp_ix ?_
      refine kp_st (kS.st h (by decide)) (fun m9 h10 => ?_)
      exact ih _ _ h10
theorem ks_Device_restart {A : Mm} (M : Mm) (h : kS A M) : kp (kS A) (q_Device_restart M) := by
  unfold q_Device_restart
  refine kp_cal (ks_Mind_restart _ h) (fun m1 r2 h3 => ?_)
  exact ks_Device_restart_9 4000 _ _ h3
theorem ks_ChipMap_startAgain {A : Mm} (M : Mm) (h : kS A M) : kp (kS A) (q_ChipMap_startAgain M) := by
  unfold q_ChipMap_startAgain
  refine kp_cal (ks_Device_restart _ h) (fun m1 r2 h3 => ?_)
  refine kp_st (kS.st h3 (by decide)) (fun m4 h5 => ?_)
  exact kp_some h5
theorem ks_ChipMap_fault {A : Mm} (M : Mm) (a1 : Int32) (h : kS A M) : kp (kS A) (q_ChipMap_fault M a1) := by
  unfold q_ChipMap_fault
  refine kp_if ?_ ?_
  · skip
    exact kp_some h
  · skip
    refine kp_if ?_ ?_
    · skip
      exact kp_some h
    · skip
      exact kp_some h
theorem ks_Layout_has {A : Mm} (M : Mm) (a1 : Int32) (h : kS A M) : kp (kS A) (q_Layout_has M a1) := by
  unfold q_Layout_has
  refine kp_if ?_ ?_
  · skip
    exact kp_some h
  · skip
    refine kp_if ?_ ?_
    · skip
      exact kp_some h
    · skip
      refine kp_ix ?_
      refine kp_if ?_ ?_
      · skip
        exact kp_some h
      · skip
        exact kp_some h
theorem ks_Layout_bitsOf {A : Mm} (M : Mm) (a1 : Int32) (a2 : Int32) (h : kS A M) : kp (kS A) (q_Layout_bitsOf M a1 a2) := by
  unfold q_Layout_bitsOf
  refine kp_ix ?_
  refine kp_ix ?_
  exact kp_some h
theorem ks_Device_valueOf {A : Mm} (M : Mm) (a1 : Int32) (h : kS A M) : kp (kS A) (q_Device_valueOf M a1) := by
  unfold q_Device_valueOf
  refine kp_ix ?_
  refine kp_lv (fun x1 => ?_)
  refine kp_ix ?_
  refine kp_ix ?_
  refine kp_cal (ks_Layout_bitsOf _ _ _ h) (fun m2 r3 h4 => ?_)
  exact kp_some h4
theorem ks_ChipMap_field {A : Mm} (M : Mm) (a1 : Int32) (a2 : Int32) (h : kS A M) : kp (kS A) (q_ChipMap_field M a1 a2) := by
  unfold q_ChipMap_field
  refine kp_cal (ks_Layout_has _ _ h) (fun m1 r2 h3 => ?_)
  refine kp_if ?_ ?_
  · skip
    exact kp_some h3
  · skip
    refine kp_if ?_ ?_
    · skip
      refine kp_ix ?_
      exact kp_some h3
    · skip
      refine kp_if ?_ ?_
      · skip
        refine kp_ix ?_
        exact kp_some h3
      · skip
        refine kp_if ?_ ?_
        · skip
          refine kp_ix ?_
          exact kp_some h3
        · skip
          refine kp_if ?_ ?_
          · skip
            refine kp_cal (ks_Device_valueOf _ _ h3) (fun m4 r5 h6 => ?_)
            exact kp_some h6
          · skip
            refine kp_if ?_ ?_
            · skip
              refine kp_ix ?_
              refine kp_ix ?_
              refine kp_cal (ks_Layout_bitsOf _ _ _ h3) (fun m7 r8 h9 => ?_)
              exact kp_some h9
            · skip
              exact kp_some h3
theorem ks_ChipMap_hasMap {A : Mm} (M : Mm) (h : kS A M) : kp (kS A) (q_ChipMap_hasMap M) := by
  unfold q_ChipMap_hasMap
  refine kp_if ?_ ?_
  · skip
    exact kp_some h
  · skip
    exact kp_some h
theorem ks_ChipMap_reset {A : Mm} (M : Mm) (h : kS A M) : kp (kS A) (q_ChipMap_reset M) := by
  unfold q_ChipMap_reset
  refine kp_cal (ks_ChipMap_hasMap _ h) (fun m1 r2 h3 => ?_)
  refine kp_if ?_ ?_
  · skip
    exact kp_some h3
  · skip
    refine kp_cal (ks_ChipMap_startAgain _ h3) (fun m4 r5 h6 => ?_)
    exact kp_some h6
theorem ks_Mind_knownValue {A : Mm} (M : Mm) (a1 : Int32) (h : kS A M) : kp (kS A) (q_Mind_knownValue M a1) := by
  unfold q_Mind_knownValue
  refine kp_ix ?_
  refine kp_ix ?_
  refine kp_ix ?_
  refine kp_ix ?_
  exact kp_some h
theorem ks_Mind_isThere {A : Mm} (M : Mm) (a1 : Int32) (h : kS A M) : kp (kS A) (q_Mind_isThere M a1) := by
  unfold q_Mind_isThere
  refine kp_ix ?_
  refine kp_lv (fun x1 => ?_)
  refine kp_if ?_ ?_
  · skip
    exact kp_some h
  · skip
    refine kp_cal (ks_Mind_knownValue _ _ h) (fun m2 r3 h4 => ?_)
    refine kp_ix ?_
    refine kp_if ?_ ?_
    · skip
      exact kp_some h4
    · skip
      exact kp_some h4
theorem ks_Device_registerAt_39 {A : Mm} {kf2 : Mm → Int32 → Int32 → Rs} (hk2 : ∀ (M : Mm) (b1 : Int32) (b2 : Int32), kS A M → kp (kS A) (kf2 M b1 b2)) (M : Mm) (v1 : Int32) (v2 : Int32) (h : kS A M) : kp (kS A) (q_Device_registerAt_39 kf2 M v1 v2) := by
  unfold q_Device_registerAt_39
  exact hk2 _ _ _ h
theorem ks_Device_registerAt_2 {A : Mm} : ∀ (n' : Nat) (M : Mm) (v1 : Int32) (v2 : Int32), kS A M → kp (kS A) (q_Device_registerAt_2 n' M v1 v2) := by
  intro n'
  induction n' with
  | zero =>
    intro M v1 v2 h
    rw [q_Device_registerAt_2]
    exact kp_none
  | succ n' ih =>
    intro M v1 v2 h
    rw [q_Device_registerAt_2]
    refine kp_if ?_ ?_
    · skip
      exact kp_some h
    · skip
      refine kp_ix ?_
      refine kp_if ?_ ?_
      · skip
        refine kp_cal (ks_Mind_isThere _ _ h) (fun m1 r2 h3 => ?_)
        refine kp_if ?_ ?_
        · skip
          exact ks_Device_registerAt_39 ih _ _ _ h3
        · skip
          exact kp_some h3
      · skip
        exact ks_Device_registerAt_39 ih _ _ _ h
theorem ks_Device_registerAt {A : Mm} (M : Mm) (a1 : Int32) (h : kS A M) : kp (kS A) (q_Device_registerAt M a1) := by
  unfold q_Device_registerAt
  exact ks_Device_registerAt_2 4000 _ _ _ h
theorem ks_Mind_isWritten {A : Mm} (M : Mm) (a1 : Int32) (a2 : Int32) (a3 : Int32) (h : kS A M) : kp (kS A) (q_Mind_isWritten M a1 a2 a3) := by
  unfold q_Mind_isWritten
  refine kp_ix ?_
  refine kp_if ?_ ?_
  · skip
    refine kp_ix ?_
    refine kp_ix ?_
    refine kp_if ?_ ?_
    · skip
      exact kp_some h
    · skip
      exact kp_some h
  · skip
    exact kp_some h
theorem ks_Mind_brokenBy_184 {A : Mm} {kf14 : Mm → Int32 → Int32 → Int32 → Int32 → Rs} (hk14 : ∀ (M : Mm) (b1 : Int32) (b2 : Int32) (b3 : Int32) (b4 : Int32), kS A M → kp (kS A) (kf14 M b1 b2 b3 b4)) (M : Mm) (v1 : Int32) (v2 : Int32) (v4 : Int32) (v5 : Int32) (h : kS A M) : kp (kS A) (q_Mind_brokenBy_184 kf14 M v1 v2 v4 v5) := by
  unfold q_Mind_brokenBy_184
  exact hk14 _ _ _ _ _ h
theorem ks_Mind_brokenBy_170 {A : Mm} {kf14 : Mm → Int32 → Int32 → Int32 → Int32 → Rs} (hk14 : ∀ (M : Mm) (b1 : Int32) (b2 : Int32) (b3 : Int32) (b4 : Int32), kS A M → kp (kS A) (kf14 M b1 b2 b3 b4)) (M : Mm) (v1 : Int32) (v2 : Int32) (v4 : Int32) (v5 : Int32) (v7 : Int32) (h : kS A M) : kp (kS A) (q_Mind_brokenBy_170 kf14 M v1 v2 v4 v5 v7) := by
  unfold q_Mind_brokenBy_170
  refine kp_if ?_ ?_
  · skip
    exact ks_Mind_brokenBy_184 hk14 _ _ _ _ _ h
  · skip
    refine kp_lv (fun x1 => ?_)
    exact ks_Mind_brokenBy_184 hk14 _ _ _ _ _ h
theorem ks_Mind_brokenBy_168 {A : Mm} {kf14 : Mm → Int32 → Int32 → Int32 → Int32 → Rs} (hk14 : ∀ (M : Mm) (b1 : Int32) (b2 : Int32) (b3 : Int32) (b4 : Int32), kS A M → kp (kS A) (kf14 M b1 b2 b3 b4)) (M : Mm) (v1 : Int32) (v2 : Int32) (v4 : Int32) (v5 : Int32) (t0 : Int32) (h : kS A M) : kp (kS A) (q_Mind_brokenBy_168 kf14 M v1 v2 v4 v5 t0) := by
  unfold q_Mind_brokenBy_168
  exact ks_Mind_brokenBy_170 hk14 _ _ _ _ _ _ h
theorem ks_Mind_brokenBy_167 {A : Mm} {kf14 : Mm → Int32 → Int32 → Int32 → Int32 → Rs} (hk14 : ∀ (M : Mm) (b1 : Int32) (b2 : Int32) (b3 : Int32) (b4 : Int32), kS A M → kp (kS A) (kf14 M b1 b2 b3 b4)) (M : Mm) (v1 : Int32) (v2 : Int32) (v4 : Int32) (v5 : Int32) (h : kS A M) : kp (kS A) (q_Mind_brokenBy_167 kf14 M v1 v2 v4 v5) := by
  unfold q_Mind_brokenBy_167
  exact ks_Mind_brokenBy_168 hk14 _ _ _ _ _ _ h
theorem ks_Mind_brokenBy_121 {A : Mm} {kf14 : Mm → Int32 → Int32 → Int32 → Int32 → Rs} (hk14 : ∀ (M : Mm) (b1 : Int32) (b2 : Int32) (b3 : Int32) (b4 : Int32), kS A M → kp (kS A) (kf14 M b1 b2 b3 b4)) (M : Mm) (v1 : Int32) (v2 : Int32) (v4 : Int32) (v5 : Int32) (t0 : Int32) (h : kS A M) : kp (kS A) (q_Mind_brokenBy_121 kf14 M v1 v2 v4 v5 t0) := by
  unfold q_Mind_brokenBy_121
  exact ks_Mind_brokenBy_170 hk14 _ _ _ _ _ _ h
theorem ks_Mind_brokenBy_120 {A : Mm} {kf14 : Mm → Int32 → Int32 → Int32 → Int32 → Rs} (hk14 : ∀ (M : Mm) (b1 : Int32) (b2 : Int32) (b3 : Int32) (b4 : Int32), kS A M → kp (kS A) (kf14 M b1 b2 b3 b4)) (M : Mm) (v1 : Int32) (v2 : Int32) (v4 : Int32) (v5 : Int32) (h : kS A M) : kp (kS A) (q_Mind_brokenBy_120 kf14 M v1 v2 v4 v5) := by
  unfold q_Mind_brokenBy_120
  exact ks_Mind_brokenBy_121 hk14 _ _ _ _ _ _ h
theorem ks_Mind_brokenBy_79 {A : Mm} {kf14 : Mm → Int32 → Int32 → Int32 → Int32 → Rs} (hk14 : ∀ (M : Mm) (b1 : Int32) (b2 : Int32) (b3 : Int32) (b4 : Int32), kS A M → kp (kS A) (kf14 M b1 b2 b3 b4)) (M : Mm) (v1 : Int32) (v2 : Int32) (v4 : Int32) (v5 : Int32) (t0 : Int32) (h : kS A M) : kp (kS A) (q_Mind_brokenBy_79 kf14 M v1 v2 v4 v5 t0) := by
  unfold q_Mind_brokenBy_79
  exact ks_Mind_brokenBy_170 hk14 _ _ _ _ _ _ h
theorem ks_Mind_brokenBy_78 {A : Mm} {kf14 : Mm → Int32 → Int32 → Int32 → Int32 → Rs} (hk14 : ∀ (M : Mm) (b1 : Int32) (b2 : Int32) (b3 : Int32) (b4 : Int32), kS A M → kp (kS A) (kf14 M b1 b2 b3 b4)) (M : Mm) (v1 : Int32) (v2 : Int32) (v4 : Int32) (v5 : Int32) (h : kS A M) : kp (kS A) (q_Mind_brokenBy_78 kf14 M v1 v2 v4 v5) := by
  unfold q_Mind_brokenBy_78
  exact ks_Mind_brokenBy_79 hk14 _ _ _ _ _ _ h
theorem ks_Mind_brokenBy_41 {A : Mm} {kf14 : Mm → Int32 → Int32 → Int32 → Int32 → Rs} (hk14 : ∀ (M : Mm) (b1 : Int32) (b2 : Int32) (b3 : Int32) (b4 : Int32), kS A M → kp (kS A) (kf14 M b1 b2 b3 b4)) (M : Mm) (v1 : Int32) (v2 : Int32) (v4 : Int32) (v5 : Int32) (t0 : Int32) (h : kS A M) : kp (kS A) (q_Mind_brokenBy_41 kf14 M v1 v2 v4 v5 t0) := by
  unfold q_Mind_brokenBy_41
  refine kp_ix ?_
  refine kp_if ?_ ?_
  · skip
    refine kp_if ?_ ?_
    · skip
      refine kp_ix ?_
      refine kp_cal (ks_Mind_isWritten _ _ _ _ h) (fun m1 r2 h3 => ?_)
      refine kp_if ?_ ?_
      · skip
        exact ks_Mind_brokenBy_78 hk14 _ _ _ _ _ h3
      · skip
        exact ks_Mind_brokenBy_79 hk14 _ _ _ _ _ _ h3
    · skip
      exact ks_Mind_brokenBy_78 hk14 _ _ _ _ _ h
  · skip
    refine kp_ix ?_
    refine kp_if ?_ ?_
    · skip
      refine kp_if ?_ ?_
      · skip
        exact ks_Mind_brokenBy_120 hk14 _ _ _ _ _ h
      · skip
        refine kp_ix ?_
        refine kp_cal (ks_Mind_isWritten _ _ _ _ h) (fun m4 r5 h6 => ?_)
        refine kp_if ?_ ?_
        · skip
          exact ks_Mind_brokenBy_120 hk14 _ _ _ _ _ h6
        · skip
          exact ks_Mind_brokenBy_121 hk14 _ _ _ _ _ _ h6
    · skip
      refine kp_ix ?_
      refine kp_cal (ks_Mind_isWritten _ _ _ _ h) (fun m7 r8 h9 => ?_)
      refine kp_if ?_ ?_
      · skip
        exact ks_Mind_brokenBy_167 hk14 _ _ _ _ _ h9
      · skip
        refine kp_ix ?_
        refine kp_cal (ks_Mind_knownValue _ _ h9) (fun m10 r11 h12 => ?_)
        refine kp_ix ?_
        refine kp_if ?_ ?_
        · skip
          exact ks_Mind_brokenBy_167 hk14 _ _ _ _ _ h12
        · skip
          exact ks_Mind_brokenBy_168 hk14 _ _ _ _ _ _ h12
theorem ks_Mind_brokenBy_14 {A : Mm} : ∀ (n' : Nat) (M : Mm) (v1 : Int32) (v2 : Int32) (v4 : Int32) (v5 : Int32), kS A M → kp (kS A) (q_Mind_brokenBy_14 n' M v1 v2 v4 v5) := by
  intro n'
  induction n' with
  | zero =>
    intro M v1 v2 v4 v5 h
    rw [q_Mind_brokenBy_14]
    exact kp_none
  | succ n' ih =>
    intro M v1 v2 v4 v5 h
    rw [q_Mind_brokenBy_14]
    refine kp_if ?_ ?_
    · skip
      exact kp_some h
    · skip
      refine kp_if ?_ ?_
      · skip
        exact ks_Mind_brokenBy_41 ih _ _ _ _ _ _ h
      · skip
        exact ks_Mind_brokenBy_41 ih _ _ _ _ _ _ h
theorem ks_Mind_brokenBy {A : Mm} (M : Mm) (a1 : Int32) (a2 : Int32) (h : kS A M) : kp (kS A) (q_Mind_brokenBy M a1 a2) := by
  unfold q_Mind_brokenBy
  exact ks_Mind_brokenBy_14 4000 _ _ _ _ _ h
theorem ks_Log_add {A : Mm} (M : Mm) (a1 : Int32) (a2 : Int32) (a3 : Int32) (h : kS A M) : kp (kS A) (q_Log_add M a1 a2 a3) := by
  unfold q_Log_add
  refine kp_lv (fun x1 => ?_)
  refine kp_ix ?_
  refine kp_st (kS.st h (by decide)) (fun m2 h3 => ?_)
  refine kp_ix ?_
  refine kp_st (kS.st h3 (by decide)) (fun m4 h5 => ?_)
  refine kp_ix ?_
  refine kp_st (kS.st h5 (by decide)) (fun m6 h7 => ?_)
  refine kp_st (kS.st h7 (by decide)) (fun m8 h9 => ?_)
  exact kp_some h9
theorem ks_Mind_write_136 {A : Mm} {kf11 : Mm → Int32 → Int32 → Int32 → Rs} (hk11 : ∀ (M : Mm) (b1 : Int32) (b2 : Int32) (b3 : Int32), kS A M → kp (kS A) (kf11 M b1 b2 b3)) (M : Mm) (v1 : Int32) (v2 : Int32) (v4 : Int32) (h : kS A M) : kp (kS A) (q_Mind_write_136 kf11 M v1 v2 v4) := by
  unfold q_Mind_write_136
  exact hk11 _ _ _ _ h
theorem ks_Mind_write_62 {A : Mm} {kf11 : Mm → Int32 → Int32 → Int32 → Rs} (hk11 : ∀ (M : Mm) (b1 : Int32) (b2 : Int32) (b3 : Int32), kS A M → kp (kS A) (kf11 M b1 b2 b3)) (M : Mm) (v1 : Int32) (v2 : Int32) (v4 : Int32) (h : kS A M) : kp (kS A) (q_Mind_write_62 kf11 M v1 v2 v4) := by
  unfold q_Mind_write_62
  refine kp_ix ?_
  refine kp_if ?_ ?_
  · skip
    refine kp_ix ?_
    refine kp_cal (ks_Mind_isWritten _ _ _ _ h) (fun m1 r2 h3 => ?_)
    refine kp_if ?_ ?_
    · skip
      refine kp_ix ?_
      refine kp_cal (ks_Mind_isWritten _ _ _ _ h3) (fun m4 r5 h6 => ?_)
      refine kp_if ?_ ?_
      · skip
        exact ks_Mind_write_136 hk11 _ _ _ _ h6
      · skip
        refine kp_st (kS.st h6 (by decide)) (fun m7 h8 => ?_)
        exact ks_Mind_write_136 hk11 _ _ _ _ h8
    · skip
      refine kp_st (kS.st h3 (by decide)) (fun m9 h10 => ?_)
      exact ks_Mind_write_136 hk11 _ _ _ _ h10
  · skip
    exact ks_Mind_write_136 hk11 _ _ _ _ h
theorem ks_Mind_write_11 {A : Mm} : ∀ (n' : Nat) (M : Mm) (v1 : Int32) (v2 : Int32) (v4 : Int32), kS A M → kp (kS A) (q_Mind_write_11 n' M v1 v2 v4) := by
  intro n'
  induction n' with
  | zero =>
    intro M v1 v2 v4 h
    rw [q_Mind_write_11]
    exact kp_none
  | succ n' ih =>
    intro M v1 v2 v4 h
    rw [q_Mind_write_11]
    refine kp_if ?_ ?_
    · skip
      refine kp_ix ?_
      refine kp_ix ?_
      refine kp_st (kS.st h (by decide)) (fun m1 h2 => ?_)
      exact kp_some h2
    · skip
      refine kp_ix ?_
      refine kp_if ?_ ?_
      · skip
        refine kp_ix ?_
        refine kp_cal (ks_Mind_isWritten _ _ _ _ h) (fun m3 r4 h5 => ?_)
        refine kp_if ?_ ?_
        · skip
          exact ks_Mind_write_62 ih _ _ _ _ h5
        · skip
          refine kp_st (kS.st h5 (by decide)) (fun m6 h7 => ?_)
          exact ks_Mind_write_136 ih _ _ _ _ h7
      · skip
        exact ks_Mind_write_62 ih _ _ _ _ h
theorem ks_Mind_write {A : Mm} (M : Mm) (a1 : Int32) (a2 : Int32) (h : kS A M) : kp (kS A) (q_Mind_write M a1 a2) := by
  unfold q_Mind_write
  exact ks_Mind_write_11 4000 _ _ _ _ h
theorem ks_Device_setLoose {A : Mm} (M : Mm) (a1 : Int32) (a2 : Int32) (h : kS A M) : kp (kS A) (q_Device_setLoose M a1 a2) := by
  unfold q_Device_setLoose
  refine kp_ix ?_
  refine kp_lv (fun x1 => ?_)
  refine kp_ix ?_
  refine kp_ix ?_
  refine kp_ix ?_
  refine kp_ix ?_
  refine kp_st (kS.st h (by decide)) (fun m2 h3 => ?_)
  exact kp_some h3
theorem ks_Device_startPulses_68 {A : Mm} {kf2 : Mm → Int32 → Int32 → Int32 → Rs} (hk2 : ∀ (M : Mm) (b1 : Int32) (b2 : Int32) (b3 : Int32), kS A M → kp (kS A) (kf2 M b1 b2 b3)) (M : Mm) (v1 : Int32) (v2 : Int32) (v3 : Int32) (h : kS A M) : kp (kS A) (q_Device_startPulses_68 kf2 M v1 v2 v3) := by
  unfold q_Device_startPulses_68
  exact hk2 _ _ _ _ h
theorem ks_Device_startPulses_2 {A : Mm} : ∀ (n' : Nat) (M : Mm) (v1 : Int32) (v2 : Int32) (v3 : Int32), kS A M → kp (kS A) (q_Device_startPulses_2 n' M v1 v2 v3) := by
  intro n'
  induction n' with
  | zero =>
    intro M v1 v2 v3 h
    rw [q_Device_startPulses_2]
    exact kp_none
  | succ n' ih =>
    intro M v1 v2 v3 h
    rw [q_Device_startPulses_2]
    refine kp_if ?_ ?_
    · skip
      exact kp_some h
    · skip
      refine kp_ix ?_
      refine kp_if ?_ ?_
      · skip
        refine kp_ix ?_
        refine kp_if ?_ ?_
        · skip
          refine kp_cal (ks_Layout_bitsOf _ _ _ h) (fun m1 r2 h3 => ?_)
          refine kp_if ?_ ?_
          · skip
            exact ks_Device_startPulses_68 ih _ _ _ _ h3
          · skip
            refine kp_cal (ks_Layout_bitsOf _ _ _ h3) (fun m4 r5 h6 => ?_)
            refine kp_cal (ks_Device_setLoose _ _ _ h6) (fun m7 r8 h9 => ?_)
            refine kp_ix ?_
            refine kp_st (kS.st h9 (by decide)) (fun m10 h11 => ?_)
            exact ks_Device_startPulses_68 ih _ _ _ _ h11
        · skip
          exact ks_Device_startPulses_68 ih _ _ _ _ h
      · skip
        exact ks_Device_startPulses_68 ih _ _ _ _ h
theorem ks_Device_startPulses {A : Mm} (M : Mm) (a1 : Int32) (a2 : Int32) (h : kS A M) : kp (kS A) (q_Device_startPulses M a1 a2) := by
  unfold q_Device_startPulses
  exact ks_Device_startPulses_2 4000 _ _ _ _ h
theorem ks_Device_write {A : Mm} (M : Mm) (a1 : Int32) (a2 : Int32) (h : kS A M) : kp (kS A) (q_Device_write M a1 a2) := by
  unfold q_Device_write
  refine kp_ix ?_
  refine kp_cal (ks_Log_add _ _ _ _ h) (fun m1 r2 h3 => ?_)
  refine kp_cal (ks_Mind_write _ _ _ h3) (fun m4 r5 h6 => ?_)
  refine kp_ix ?_
  refine kp_ix ?_
  refine kp_ix ?_
  refine kp_st (kS.st h6 (by decide)) (fun m7 h8 => ?_)
  refine kp_ix ?_
  refine kp_ix ?_
  refine kp_ix ?_
  refine kp_st (kS.st h8 (by decide)) (fun m9 h10 => ?_)
  refine kp_ix ?_
  refine kp_if ?_ ?_
  · skip
    exact kp_some h10
  · skip
    refine kp_cal (ks_Device_startPulses _ _ _ h10) (fun m11 r12 h13 => ?_)
    exact kp_some h13
theorem ks_Integer_bitCount {A : Mm} (M : Mm) (a0 : Int32) (h : kS A M) : kp (kS A) (q_Integer_bitCount M a0) := by
  unfold q_Integer_bitCount
  refine kp_lv (fun x1 => ?_)
  refine kp_lv (fun x2 => ?_)
  refine kp_lv (fun x3 => ?_)
  refine kp_lv (fun x4 => ?_)
  refine kp_lv (fun x5 => ?_)
  exact kp_some h
theorem ks_Integer_numberOfTrailingZeros_74 {A : Mm} (M : Mm) (v0 : Int32) (v1 : Int32) (h : kS A M) : kp (kS A) (q_Integer_numberOfTrailingZeros_74 M v0 v1) := by
  unfold q_Integer_numberOfTrailingZeros_74
  exact kp_some h
theorem ks_Integer_numberOfTrailingZeros_62 {A : Mm} (M : Mm) (v0 : Int32) (v1 : Int32) (h : kS A M) : kp (kS A) (q_Integer_numberOfTrailingZeros_62 M v0 v1) := by
  unfold q_Integer_numberOfTrailingZeros_62
  refine kp_if ?_ ?_
  · skip
    exact ks_Integer_numberOfTrailingZeros_74 _ _ _ h
  · skip
    refine kp_lv (fun x1 => ?_)
    exact ks_Integer_numberOfTrailingZeros_74 _ _ _ h
theorem ks_Integer_numberOfTrailingZeros_49 {A : Mm} (M : Mm) (v0 : Int32) (v1 : Int32) (h : kS A M) : kp (kS A) (q_Integer_numberOfTrailingZeros_49 M v0 v1) := by
  unfold q_Integer_numberOfTrailingZeros_49
  refine kp_if ?_ ?_
  · skip
    exact ks_Integer_numberOfTrailingZeros_62 _ _ _ h
  · skip
    refine kp_lv (fun x1 => ?_)
    exact ks_Integer_numberOfTrailingZeros_62 _ _ _ h
theorem ks_Integer_numberOfTrailingZeros_34 {A : Mm} (M : Mm) (v0 : Int32) (v1 : Int32) (h : kS A M) : kp (kS A) (q_Integer_numberOfTrailingZeros_34 M v0 v1) := by
  unfold q_Integer_numberOfTrailingZeros_34
  refine kp_if ?_ ?_
  · skip
    exact ks_Integer_numberOfTrailingZeros_49 _ _ _ h
  · skip
    refine kp_lv (fun x1 => ?_)
    exact ks_Integer_numberOfTrailingZeros_49 _ _ _ h
theorem ks_Integer_numberOfTrailingZeros {A : Mm} (M : Mm) (a0 : Int32) (h : kS A M) : kp (kS A) (q_Integer_numberOfTrailingZeros M a0) := by
  unfold q_Integer_numberOfTrailingZeros
  refine kp_lv (fun x1 => ?_)
  refine kp_if ?_ ?_
  · skip
    refine kp_if ?_ ?_
    · skip
      exact ks_Integer_numberOfTrailingZeros_34 _ _ _ h
    · skip
      refine kp_lv (fun x2 => ?_)
      exact ks_Integer_numberOfTrailingZeros_34 _ _ _ h
  · skip
    exact kp_some h
theorem ks_ChipMap_busWrite {A : Mm} (M : Mm) (a1 : Int32) (a2 : Int32) (h : kS A M) : kp (kS A) (q_ChipMap_busWrite M a1 a2) := by
  unfold q_ChipMap_busWrite
  refine kp_cal (ks_Device_registerAt _ _ h) (fun m1 r2 h3 => ?_)
  refine kp_if ?_ ?_
  · skip
    exact kp_some h3
  · skip
    refine kp_cal (ks_Mind_brokenBy _ _ _ h3) (fun m4 r5 h6 => ?_)
    refine kp_cal (ks_Device_write _ _ _ h6) (fun m7 r8 h9 => ?_)
    refine kp_cal (ks_Integer_bitCount _ _ h9) (fun m10 r11 h12 => ?_)
    refine kp_st (kS.st h12 (by decide)) (fun m13 h14 => ?_)
    refine kp_if ?_ ?_
    · skip
      exact kp_some h14
    · skip
      refine kp_cal (ks_Integer_numberOfTrailingZeros _ _ h14) (fun m15 r16 h17 => ?_)
      exact kp_some h17
theorem ks_Device_countPulses_55 {A : Mm} {kf2 : Mm → Int32 → Int32 → Rs} (hk2 : ∀ (M : Mm) (b1 : Int32) (b2 : Int32), kS A M → kp (kS A) (kf2 M b1 b2)) (M : Mm) (v1 : Int32) (v2 : Int32) (h : kS A M) : kp (kS A) (q_Device_countPulses_55 kf2 M v1 v2) := by
  unfold q_Device_countPulses_55
  exact hk2 _ _ _ h
theorem ks_Device_countPulses_2 {A : Mm} : ∀ (n' : Nat) (M : Mm) (v1 : Int32) (v2 : Int32), kS A M → kp (kS A) (q_Device_countPulses_2 n' M v1 v2) := by
  intro n'
  induction n' with
  | zero =>
    intro M v1 v2 h
    rw [q_Device_countPulses_2]
    exact kp_none
  | succ n' ih =>
    intro M v1 v2 h
    rw [q_Device_countPulses_2]
    refine kp_if ?_ ?_
    · skip
      exact kp_some h
    · skip
      refine kp_ix ?_
      refine kp_if ?_ ?_
      · skip
        refine kp_ix ?_
        refine kp_if ?_ ?_
        · skip
          exact ks_Device_countPulses_55 ih _ _ _ h
        · skip
          refine kp_ix ?_
          refine kp_ix ?_
          refine kp_st (kS.st h (by decide)) (fun m1 h2 => ?_)
          refine kp_ix ?_
          refine kp_if ?_ ?_
          · skip
            refine kp_cal (ks_Device_setLoose _ _ _ h2) (fun m3 r4 h5 => ?_)
            exact ks_Device_countPulses_55 ih _ _ _ h5
          · skip
            exact ks_Device_countPulses_55 ih _ _ _ h2
      · skip
        exact ks_Device_countPulses_55 ih _ _ _ h
theorem ks_Device_countPulses {A : Mm} (M : Mm) (a1 : Int32) (h : kS A M) : kp (kS A) (q_Device_countPulses M a1) := by
  unfold q_Device_countPulses
  exact ks_Device_countPulses_2 4000 _ _ _ h
theorem ks_Device_read {A : Mm} (M : Mm) (a1 : Int32) (h : kS A M) : kp (kS A) (q_Device_read M a1) := by
  unfold q_Device_read
  refine kp_ix ?_
  refine kp_ix ?_
  refine kp_ix ?_
  refine kp_lv (fun x1 => ?_)
  refine kp_ix ?_
  refine kp_cal (ks_Log_add _ _ _ _ h) (fun m2 r3 h4 => ?_)
  refine kp_ix ?_
  refine kp_ix ?_
  refine kp_ix ?_
  refine kp_ix ?_
  refine kp_st (kS.st h4 (by decide)) (fun m5 h6 => ?_)
  refine kp_ix ?_
  refine kp_ix ?_
  refine kp_ix ?_
  refine kp_st (kS.st h6 (by decide)) (fun m7 h8 => ?_)
  refine kp_ix ?_
  refine kp_if ?_ ?_
  · skip
    exact kp_some h8
  · skip
    refine kp_cal (ks_Device_countPulses _ _ h8) (fun m9 r10 h11 => ?_)
    exact kp_some h11
theorem ks_ChipMap_busRead {A : Mm} (M : Mm) (a1 : Int32) (h : kS A M) : kp (kS A) (q_ChipMap_busRead M a1) := by
  unfold q_ChipMap_busRead
  refine kp_cal (ks_Device_registerAt _ _ h) (fun m1 r2 h3 => ?_)
  refine kp_if ?_ ?_
  · skip
    exact kp_some h3
  · skip
    refine kp_cal (ks_Device_read _ _ h3) (fun m4 r5 h6 => ?_)
    exact kp_some h6
theorem ks_Layout_fits {A : Mm} (M : Mm) (a1 : Int32) (a2 : Int32) (h : kS A M) : kp (kS A) (q_Layout_fits M a1 a2) := by
  unfold q_Layout_fits
  refine kp_ix ?_
  refine kp_if ?_ ?_
  · skip
    exact kp_some h
  · skip
    exact kp_some h
theorem ks_ChipMap_poke_52 {A : Mm} (M : Mm) (v1 : Int32) (v2 : Int32) (h : kS A M) : kp (kS A) (q_ChipMap_poke_52 M v1 v2) := by
  unfold q_ChipMap_poke_52
  refine kp_cal (ks_Device_setLoose _ _ _ h) (fun m1 r2 h3 => ?_)
  exact kp_some h3
theorem ks_ChipMap_poke {A : Mm} (M : Mm) (a1 : Int32) (a2 : Int32) (h : kS A M) : kp (kS A) (q_ChipMap_poke M a1 a2) := by
  unfold q_ChipMap_poke
  refine kp_cal (ks_Layout_has _ _ h) (fun m1 r2 h3 => ?_)
  refine kp_if ?_ ?_
  · skip
    exact kp_some h3
  · skip
    refine kp_cal (ks_Layout_fits _ _ _ h3) (fun m4 r5 h6 => ?_)
    refine kp_if ?_ ?_
    · skip
      exact kp_some h6
    · skip
      refine kp_ix ?_
      refine kp_lv (fun x7 => ?_)
      refine kp_if ?_ ?_
      · skip
        exact ks_ChipMap_poke_52 _ _ _ h6
      · skip
        refine kp_if ?_ ?_
        · skip
          exact ks_ChipMap_poke_52 _ _ _ h6
        · skip
          refine kp_if ?_ ?_
          · skip
            exact ks_ChipMap_poke_52 _ _ _ h6
          · skip
            exact kp_some h6
theorem ks_Layout_canPut {A : Mm} (M : Mm) (a1 : Int32) (a2 : Int32) (h : kS A M) : kp (kS A) (q_Layout_canPut M a1 a2) := by
  unfold q_Layout_canPut
  refine kp_cal (ks_Layout_has _ _ h) (fun m1 r2 h3 => ?_)
  refine kp_if ?_ ?_
  · skip
    exact kp_some h3
  · skip
    refine kp_ix ?_
    refine kp_if ?_ ?_
    · skip
      exact kp_some h3
    · skip
      refine kp_ix ?_
      refine kp_if ?_ ?_
      · skip
        exact kp_some h3
      · skip
        refine kp_cal (ks_Layout_fits _ _ _ h3) (fun m4 r5 h6 => ?_)
        refine kp_if ?_ ?_
        · skip
          exact kp_some h6
        · skip
          exact kp_some h6
theorem ks_Mind_copy {A : Mm} (M : Mm) (h : kS A M) : kp (kS A) (q_Mind_copy M) := by
  unfold q_Mind_copy
  refine kp_cpk ?_
  refine kp_st (kS.st h (by decide)) (fun m1 h2 => ?_)
  refine kp_st (kS.st h2 (by decide)) (fun m3 h4 => ?_)
  exact kp_some h4
theorem ks_Plan_beginHere {A : Mm} (M : Mm) (h : kS A M) : kp (kS A) (q_Plan_beginHere M) := by
  unfold q_Plan_beginHere
  refine kp_st (kS.st h (by decide)) (fun m1 h2 => ?_)
  refine kp_st (kS.st h2 (by decide)) (fun m3 h4 => ?_)
  exact kp_some h4
theorem ks_Plan_begin {A : Mm} (M : Mm) (h : kS A M) : kp (kS A) (q_Plan_begin M) := by
  unfold q_Plan_begin
  refine kp_cal (ks_Mind_copy _ h) (fun m1 r2 h3 => ?_)
  refine kp_cal (ks_Plan_beginHere _ h3) (fun m4 r5 h6 => ?_)
  exact kp_some h6
theorem ks_Mind_knownValue_1 {A : Mm} (M : Mm) (a1 : Int32) (h : kS A M) : kp (kS A) (q_Mind_knownValue_1 M a1) := by
  unfold q_Mind_knownValue_1
  refine kp_ix ?_
  refine kp_ix ?_
  refine kp_ix ?_
  refine kp_ix ?_
  exact kp_some h
theorem ks_Mind_isThere_1 {A : Mm} (M : Mm) (a1 : Int32) (h : kS A M) : kp (kS A) (q_Mind_isThere_1 M a1) := by
  unfold q_Mind_isThere_1
  refine kp_ix ?_
  refine kp_lv (fun x1 => ?_)
  refine kp_if ?_ ?_
  · skip
    exact kp_some h
  · skip
    refine kp_cal (ks_Mind_knownValue_1 _ _ h) (fun m2 r3 h4 => ?_)
    refine kp_ix ?_
    refine kp_if ?_ ?_
    · skip
      exact kp_some h4
    · skip
      exact kp_some h4
theorem ks_Mind_isWritten_1 {A : Mm} (M : Mm) (a1 : Int32) (a2 : Int32) (a3 : Int32) (h : kS A M) : kp (kS A) (q_Mind_isWritten_1 M a1 a2 a3) := by
  unfold q_Mind_isWritten_1
  refine kp_ix ?_
  refine kp_if ?_ ?_
  · skip
    refine kp_ix ?_
    refine kp_ix ?_
    refine kp_if ?_ ?_
    · skip
      exact kp_some h
    · skip
      exact kp_some h
  · skip
    exact kp_some h
theorem ks_Mind_brokenBy_1_184 {A : Mm} {kf14 : Mm → Int32 → Int32 → Int32 → Int32 → Rs} (hk14 : ∀ (M : Mm) (b1 : Int32) (b2 : Int32) (b3 : Int32) (b4 : Int32), kS A M → kp (kS A) (kf14 M b1 b2 b3 b4)) (M : Mm) (v1 : Int32) (v2 : Int32) (v4 : Int32) (v5 : Int32) (h : kS A M) : kp (kS A) (q_Mind_brokenBy_1_184 kf14 M v1 v2 v4 v5) := by
  unfold q_Mind_brokenBy_1_184
  exact hk14 _ _ _ _ _ h
theorem ks_Mind_brokenBy_1_170 {A : Mm} {kf14 : Mm → Int32 → Int32 → Int32 → Int32 → Rs} (hk14 : ∀ (M : Mm) (b1 : Int32) (b2 : Int32) (b3 : Int32) (b4 : Int32), kS A M → kp (kS A) (kf14 M b1 b2 b3 b4)) (M : Mm) (v1 : Int32) (v2 : Int32) (v4 : Int32) (v5 : Int32) (v7 : Int32) (h : kS A M) : kp (kS A) (q_Mind_brokenBy_1_170 kf14 M v1 v2 v4 v5 v7) := by
  unfold q_Mind_brokenBy_1_170
  refine kp_if ?_ ?_
  · skip
    exact ks_Mind_brokenBy_1_184 hk14 _ _ _ _ _ h
  · skip
    refine kp_lv (fun x1 => ?_)
    exact ks_Mind_brokenBy_1_184 hk14 _ _ _ _ _ h
theorem ks_Mind_brokenBy_1_168 {A : Mm} {kf14 : Mm → Int32 → Int32 → Int32 → Int32 → Rs} (hk14 : ∀ (M : Mm) (b1 : Int32) (b2 : Int32) (b3 : Int32) (b4 : Int32), kS A M → kp (kS A) (kf14 M b1 b2 b3 b4)) (M : Mm) (v1 : Int32) (v2 : Int32) (v4 : Int32) (v5 : Int32) (t0 : Int32) (h : kS A M) : kp (kS A) (q_Mind_brokenBy_1_168 kf14 M v1 v2 v4 v5 t0) := by
  unfold q_Mind_brokenBy_1_168
  exact ks_Mind_brokenBy_1_170 hk14 _ _ _ _ _ _ h
theorem ks_Mind_brokenBy_1_167 {A : Mm} {kf14 : Mm → Int32 → Int32 → Int32 → Int32 → Rs} (hk14 : ∀ (M : Mm) (b1 : Int32) (b2 : Int32) (b3 : Int32) (b4 : Int32), kS A M → kp (kS A) (kf14 M b1 b2 b3 b4)) (M : Mm) (v1 : Int32) (v2 : Int32) (v4 : Int32) (v5 : Int32) (h : kS A M) : kp (kS A) (q_Mind_brokenBy_1_167 kf14 M v1 v2 v4 v5) := by
  unfold q_Mind_brokenBy_1_167
  exact ks_Mind_brokenBy_1_168 hk14 _ _ _ _ _ _ h
theorem ks_Mind_brokenBy_1_121 {A : Mm} {kf14 : Mm → Int32 → Int32 → Int32 → Int32 → Rs} (hk14 : ∀ (M : Mm) (b1 : Int32) (b2 : Int32) (b3 : Int32) (b4 : Int32), kS A M → kp (kS A) (kf14 M b1 b2 b3 b4)) (M : Mm) (v1 : Int32) (v2 : Int32) (v4 : Int32) (v5 : Int32) (t0 : Int32) (h : kS A M) : kp (kS A) (q_Mind_brokenBy_1_121 kf14 M v1 v2 v4 v5 t0) := by
  unfold q_Mind_brokenBy_1_121
  exact ks_Mind_brokenBy_1_170 hk14 _ _ _ _ _ _ h
theorem ks_Mind_brokenBy_1_120 {A : Mm} {kf14 : Mm → Int32 → Int32 → Int32 → Int32 → Rs} (hk14 : ∀ (M : Mm) (b1 : Int32) (b2 : Int32) (b3 : Int32) (b4 : Int32), kS A M → kp (kS A) (kf14 M b1 b2 b3 b4)) (M : Mm) (v1 : Int32) (v2 : Int32) (v4 : Int32) (v5 : Int32) (h : kS A M) : kp (kS A) (q_Mind_brokenBy_1_120 kf14 M v1 v2 v4 v5) := by
  unfold q_Mind_brokenBy_1_120
  exact ks_Mind_brokenBy_1_121 hk14 _ _ _ _ _ _ h
theorem ks_Mind_brokenBy_1_79 {A : Mm} {kf14 : Mm → Int32 → Int32 → Int32 → Int32 → Rs} (hk14 : ∀ (M : Mm) (b1 : Int32) (b2 : Int32) (b3 : Int32) (b4 : Int32), kS A M → kp (kS A) (kf14 M b1 b2 b3 b4)) (M : Mm) (v1 : Int32) (v2 : Int32) (v4 : Int32) (v5 : Int32) (t0 : Int32) (h : kS A M) : kp (kS A) (q_Mind_brokenBy_1_79 kf14 M v1 v2 v4 v5 t0) := by
  unfold q_Mind_brokenBy_1_79
  exact ks_Mind_brokenBy_1_170 hk14 _ _ _ _ _ _ h
theorem ks_Mind_brokenBy_1_78 {A : Mm} {kf14 : Mm → Int32 → Int32 → Int32 → Int32 → Rs} (hk14 : ∀ (M : Mm) (b1 : Int32) (b2 : Int32) (b3 : Int32) (b4 : Int32), kS A M → kp (kS A) (kf14 M b1 b2 b3 b4)) (M : Mm) (v1 : Int32) (v2 : Int32) (v4 : Int32) (v5 : Int32) (h : kS A M) : kp (kS A) (q_Mind_brokenBy_1_78 kf14 M v1 v2 v4 v5) := by
  unfold q_Mind_brokenBy_1_78
  exact ks_Mind_brokenBy_1_79 hk14 _ _ _ _ _ _ h
theorem ks_Mind_brokenBy_1_41 {A : Mm} {kf14 : Mm → Int32 → Int32 → Int32 → Int32 → Rs} (hk14 : ∀ (M : Mm) (b1 : Int32) (b2 : Int32) (b3 : Int32) (b4 : Int32), kS A M → kp (kS A) (kf14 M b1 b2 b3 b4)) (M : Mm) (v1 : Int32) (v2 : Int32) (v4 : Int32) (v5 : Int32) (t0 : Int32) (h : kS A M) : kp (kS A) (q_Mind_brokenBy_1_41 kf14 M v1 v2 v4 v5 t0) := by
  unfold q_Mind_brokenBy_1_41
  refine kp_ix ?_
  refine kp_if ?_ ?_
  · skip
    refine kp_if ?_ ?_
    · skip
      refine kp_ix ?_
      refine kp_cal (ks_Mind_isWritten_1 _ _ _ _ h) (fun m1 r2 h3 => ?_)
      refine kp_if ?_ ?_
      · skip
        exact ks_Mind_brokenBy_1_78 hk14 _ _ _ _ _ h3
      · skip
        exact ks_Mind_brokenBy_1_79 hk14 _ _ _ _ _ _ h3
    · skip
      exact ks_Mind_brokenBy_1_78 hk14 _ _ _ _ _ h
  · skip
    refine kp_ix ?_
    refine kp_if ?_ ?_
    · skip
      refine kp_if ?_ ?_
      · skip
        exact ks_Mind_brokenBy_1_120 hk14 _ _ _ _ _ h
      · skip
        refine kp_ix ?_
        refine kp_cal (ks_Mind_isWritten_1 _ _ _ _ h) (fun m4 r5 h6 => ?_)
        refine kp_if ?_ ?_
        · skip
          exact ks_Mind_brokenBy_1_120 hk14 _ _ _ _ _ h6
        · skip
          exact ks_Mind_brokenBy_1_121 hk14 _ _ _ _ _ _ h6
    · skip
      refine kp_ix ?_
      refine kp_cal (ks_Mind_isWritten_1 _ _ _ _ h) (fun m7 r8 h9 => ?_)
      refine kp_if ?_ ?_
      · skip
        exact ks_Mind_brokenBy_1_167 hk14 _ _ _ _ _ h9
      · skip
        refine kp_ix ?_
        refine kp_cal (ks_Mind_knownValue_1 _ _ h9) (fun m10 r11 h12 => ?_)
        refine kp_ix ?_
        refine kp_if ?_ ?_
        · skip
          exact ks_Mind_brokenBy_1_167 hk14 _ _ _ _ _ h12
        · skip
          exact ks_Mind_brokenBy_1_168 hk14 _ _ _ _ _ _ h12
theorem ks_Mind_brokenBy_1_14 {A : Mm} : ∀ (n' : Nat) (M : Mm) (v1 : Int32) (v2 : Int32) (v4 : Int32) (v5 : Int32), kS A M → kp (kS A) (q_Mind_brokenBy_1_14 n' M v1 v2 v4 v5) := by
  intro n'
  induction n' with
  | zero =>
    intro M v1 v2 v4 v5 h
    rw [q_Mind_brokenBy_1_14]
    exact kp_none
  | succ n' ih =>
    intro M v1 v2 v4 v5 h
    rw [q_Mind_brokenBy_1_14]
    refine kp_if ?_ ?_
    · skip
      exact kp_some h
    · skip
      refine kp_if ?_ ?_
      · skip
        exact ks_Mind_brokenBy_1_41 ih _ _ _ _ _ _ h
      · skip
        exact ks_Mind_brokenBy_1_41 ih _ _ _ _ _ _ h
theorem ks_Mind_brokenBy_1 {A : Mm} (M : Mm) (a1 : Int32) (a2 : Int32) (h : kS A M) : kp (kS A) (q_Mind_brokenBy_1 M a1 a2) := by
  unfold q_Mind_brokenBy_1
  exact ks_Mind_brokenBy_1_14 4000 _ _ _ _ _ h
theorem ks_Mind_write_1_136 {A : Mm} {kf11 : Mm → Int32 → Int32 → Int32 → Rs} (hk11 : ∀ (M : Mm) (b1 : Int32) (b2 : Int32) (b3 : Int32), kS A M → kp (kS A) (kf11 M b1 b2 b3)) (M : Mm) (v1 : Int32) (v2 : Int32) (v4 : Int32) (h : kS A M) : kp (kS A) (q_Mind_write_1_136 kf11 M v1 v2 v4) := by
  unfold q_Mind_write_1_136
  exact hk11 _ _ _ _ h
theorem ks_Mind_write_1_62 {A : Mm} {kf11 : Mm → Int32 → Int32 → Int32 → Rs} (hk11 : ∀ (M : Mm) (b1 : Int32) (b2 : Int32) (b3 : Int32), kS A M → kp (kS A) (kf11 M b1 b2 b3)) (M : Mm) (v1 : Int32) (v2 : Int32) (v4 : Int32) (h : kS A M) : kp (kS A) (q_Mind_write_1_62 kf11 M v1 v2 v4) := by
  unfold q_Mind_write_1_62
  refine kp_ix ?_
  refine kp_if ?_ ?_
  · skip
    refine kp_ix ?_
    refine kp_cal (ks_Mind_isWritten_1 _ _ _ _ h) (fun m1 r2 h3 => ?_)
    refine kp_if ?_ ?_
    · skip
      refine kp_ix ?_
      refine kp_cal (ks_Mind_isWritten_1 _ _ _ _ h3) (fun m4 r5 h6 => ?_)
      refine kp_if ?_ ?_
      · skip
        exact ks_Mind_write_1_136 hk11 _ _ _ _ h6
      · skip
        refine kp_st (kS.st h6 (by decide)) (fun m7 h8 => ?_)
        exact ks_Mind_write_1_136 hk11 _ _ _ _ h8
    · skip
      refine kp_st (kS.st h3 (by decide)) (fun m9 h10 => ?_)
      exact ks_Mind_write_1_136 hk11 _ _ _ _ h10
  · skip
    exact ks_Mind_write_1_136 hk11 _ _ _ _ h
theorem ks_Mind_write_1_11 {A : Mm} : ∀ (n' : Nat) (M : Mm) (v1 : Int32) (v2 : Int32) (v4 : Int32), kS A M → kp (kS A) (q_Mind_write_1_11 n' M v1 v2 v4) := by
  intro n'
  induction n' with
  | zero =>
    intro M v1 v2 v4 h
    rw [q_Mind_write_1_11]
    exact kp_none
  | succ n' ih =>
    intro M v1 v2 v4 h
    rw [q_Mind_write_1_11]
    refine kp_if ?_ ?_
    · skip
      refine kp_ix ?_
      refine kp_ix ?_
      refine kp_st (kS.st h (by decide)) (fun m1 h2 => ?_)
      exact kp_some h2
    · skip
      refine kp_ix ?_
      refine kp_if ?_ ?_
      · skip
        refine kp_ix ?_
        refine kp_cal (ks_Mind_isWritten_1 _ _ _ _ h) (fun m3 r4 h5 => ?_)
        refine kp_if ?_ ?_
        · skip
          exact ks_Mind_write_1_62 ih _ _ _ _ h5
        · skip
          refine kp_st (kS.st h5 (by decide)) (fun m6 h7 => ?_)
          exact ks_Mind_write_1_136 ih _ _ _ _ h7
      · skip
        exact ks_Mind_write_1_62 ih _ _ _ _ h
theorem ks_Mind_write_1 {A : Mm} (M : Mm) (a1 : Int32) (a2 : Int32) (h : kS A M) : kp (kS A) (q_Mind_write_1 M a1 a2) := by
  unfold q_Mind_write_1
  exact ks_Mind_write_1_11 4000 _ _ _ _ h
theorem ks_Plan_addTold {A : Mm} (M : Mm) (a1 : Int32) (a2 : Int32) (a3 : Int32) (h : kS A M) : kp (kS A) (q_Plan_addTold M a1 a2 a3) := by
  unfold q_Plan_addTold
  refine kp_if ?_ ?_
  · skip
    refine kp_if ?_ ?_
    · skip
      refine kp_ix ?_
      refine kp_lv (fun x1 => ?_)
      refine kp_cal (ks_Mind_brokenBy_1 _ _ _ h) (fun m2 r3 h4 => ?_)
      refine kp_if ?_ ?_
      · skip
        refine kp_cal (ks_Mind_write_1 _ _ _ h4) (fun m5 r6 h7 => ?_)
        refine kp_ix ?_
        refine kp_st (kS.st h7 (by decide)) (fun m8 h9 => ?_)
        refine kp_ix ?_
        refine kp_st (kS.st h9 (by decide)) (fun m10 h11 => ?_)
        refine kp_st (kS.st h11 (by decide)) (fun m12 h13 => ?_)
        exact kp_some h13
      · skip
        refine kp_cal (ks_Integer_numberOfTrailingZeros _ _ h4) (fun m14 r15 h16 => ?_)
        refine kp_st (kS.st h16 (by decide)) (fun m17 h18 => ?_)
        exact kp_some h18
    · skip
      exact kp_some h
  · skip
    exact kp_some h
theorem ks_Plan_addReach {A : Mm} (M : Mm) (a1 : Int32) (h : kS A M) : kp (kS A) (q_Plan_addReach M a1) := by
  unfold q_Plan_addReach
  refine kp_cal (ks_Mind_isThere_1 _ _ h) (fun m1 r2 h3 => ?_)
  refine kp_if ?_ ?_
  · skip
    refine kp_ix ?_
    refine kp_lv (fun x4 => ?_)
    refine kp_ix ?_
    refine kp_ix ?_
    refine kp_ix ?_
    refine kp_ix ?_
    refine kp_cal (ks_Plan_addTold _ _ _ _ h3) (fun m5 r6 h7 => ?_)
    exact kp_some h7
  · skip
    exact kp_some h3
theorem ks_Plan_addPut_24 {A : Mm} (M : Mm) (v1 : Int32) (v2 : Int32) (h : kS A M) : kp (kS A) (q_Plan_addPut_24 M v1 v2) := by
  unfold q_Plan_addPut_24
  refine kp_ix ?_
  refine kp_lv (fun x1 => ?_)
  refine kp_cal (ks_Plan_addReach _ _ h) (fun m2 r3 h4 => ?_)
  refine kp_ix ?_
  refine kp_ix ?_
  refine kp_cal (ks_Plan_addTold _ _ _ _ h4) (fun m5 r6 h7 => ?_)
  exact kp_some h7
theorem ks_Plan_addPut {A : Mm} (M : Mm) (a1 : Int32) (a2 : Int32) (h : kS A M) : kp (kS A) (q_Plan_addPut M a1 a2) := by
  unfold q_Plan_addPut
  refine kp_cal (ks_Layout_isKnown _ _ h) (fun m1 r2 h3 => ?_)
  refine kp_if ?_ ?_
  · skip
    exact ks_Plan_addPut_24 _ _ _ h3
  · skip
    refine kp_cal (ks_Mind_knownValue_1 _ _ h3) (fun m4 r5 h6 => ?_)
    refine kp_if ?_ ?_
    · skip
      exact kp_some h6
    · skip
      exact ks_Plan_addPut_24 _ _ _ h6
theorem ks_ChipMap_doWrites_15 {A : Mm} : ∀ (n' : Nat) (M : Mm) (v1 : Int32), kS A M → kp (kS A) (q_ChipMap_doWrites_15 n' M v1) := by
  intro n'
  induction n' with
  | zero =>
    intro M v1 h
    rw [q_ChipMap_doWrites_15]
    exact kp_none
  | succ n' ih =>
    intro M v1 h
    rw [q_ChipMap_doWrites_15]
    refine kp_if ?_ ?_
    · skip
      exact kp_some h
    · skip
      refine kp_ix ?_
      refine kp_ix ?_
      refine kp_cal (ks_Device_write _ _ _ h) (fun m1 r2 h3 => ?_)
      exact ih _ _ h3
theorem ks_ChipMap_doWrites {A : Mm} (M : Mm) (h : kS A M) : kp (kS A) (q_ChipMap_doWrites M) := by
  unfold q_ChipMap_doWrites
  refine kp_if ?_ ?_
  · skip
    exact ks_ChipMap_doWrites_15 4000 _ _ h
  · skip
    exact kp_some h
theorem ks_ChipMap_put {A : Mm} (M : Mm) (a1 : Int32) (a2 : Int32) (h : kS A M) : kp (kS A) (q_ChipMap_put M a1 a2) := by
  unfold q_ChipMap_put
  refine kp_cal (ks_Layout_canPut _ _ _ h) (fun m1 r2 h3 => ?_)
  refine kp_if ?_ ?_
  · skip
    exact kp_some h3
  · skip
    refine kp_if ?_ ?_
    · skip
      refine kp_cal (ks_Plan_begin _ h3) (fun m4 r5 h6 => ?_)
      refine kp_cal (ks_Plan_addPut _ _ _ h6) (fun m7 r8 h9 => ?_)
      refine kp_cal (ks_ChipMap_doWrites _ h9) (fun m10 r11 h12 => ?_)
      exact kp_some h12
    · skip
      exact kp_some h3
theorem ks_Layout_canFetch {A : Mm} (M : Mm) (a1 : Int32) (h : kS A M) : kp (kS A) (q_Layout_canFetch M a1) := by
  unfold q_Layout_canFetch
  refine kp_cal (ks_Layout_has _ _ h) (fun m1 r2 h3 => ?_)
  refine kp_if ?_ ?_
  · skip
    exact kp_some h3
  · skip
    refine kp_ix ?_
    refine kp_if ?_ ?_
    · skip
      exact kp_some h3
    · skip
      exact kp_some h3
theorem ks_Plan_addFetch {A : Mm} (M : Mm) (a1 : Int32) (h : kS A M) : kp (kS A) (q_Plan_addFetch M a1) := by
  unfold q_Plan_addFetch
  refine kp_ix ?_
  refine kp_if ?_ ?_
  · skip
    exact kp_some h
  · skip
    refine kp_ix ?_
    refine kp_cal (ks_Plan_addReach _ _ h) (fun m1 r2 h3 => ?_)
    exact kp_some h3
theorem ks_ChipMap_reachForFetch {A : Mm} (M : Mm) (a1 : Int32) (h : kS A M) : kp (kS A) (q_ChipMap_reachForFetch M a1) := by
  unfold q_ChipMap_reachForFetch
  refine kp_cal (ks_Plan_begin _ h) (fun m1 r2 h3 => ?_)
  refine kp_cal (ks_Plan_addFetch _ _ h3) (fun m4 r5 h6 => ?_)
  refine kp_cal (ks_ChipMap_doWrites _ h6) (fun m7 r8 h9 => ?_)
  refine kp_if ?_ ?_
  · skip
    exact kp_some h9
  · skip
    exact kp_some h9
theorem ks_Device_takeKept {A : Mm} (M : Mm) (a1 : Int32) (h : kS A M) : kp (kS A) (q_Device_takeKept M a1) := by
  unfold q_Device_takeKept
  refine kp_ix ?_
  refine kp_lv (fun x1 => ?_)
  refine kp_ix ?_
  refine kp_cal (ks_Layout_bitsOf _ _ _ h) (fun m2 r3 h4 => ?_)
  refine kp_ix ?_
  refine kp_ix ?_
  refine kp_ix ?_
  refine kp_st (kS.st h4 (by decide)) (fun m5 h6 => ?_)
  exact kp_some h6
theorem ks_ChipMap_readOut {A : Mm} (M : Mm) (a1 : Int32) (h : kS A M) : kp (kS A) (q_ChipMap_readOut M a1) := by
  unfold q_ChipMap_readOut
  refine kp_ix ?_
  refine kp_lv (fun x1 => ?_)
  refine kp_if ?_ ?_
  · skip
    refine kp_cal (ks_Device_valueOf _ _ h) (fun m2 r3 h4 => ?_)
    exact kp_some h4
  · skip
    refine kp_ix ?_
    refine kp_lv (fun x5 => ?_)
    refine kp_cal (ks_Device_read _ _ h) (fun m6 r7 h8 => ?_)
    refine kp_if ?_ ?_
    · skip
      refine kp_cal (ks_Device_takeKept _ _ h8) (fun m9 r10 h11 => ?_)
      exact kp_some h11
    · skip
      refine kp_cal (ks_Layout_bitsOf _ _ _ h8) (fun m12 r13 h14 => ?_)
      exact kp_some h14
theorem ks_ChipMap_fetch_37 {A : Mm} (M : Mm) (h : kS A M) : kp (kS A) (q_ChipMap_fetch_37 M) := by
  unfold q_ChipMap_fetch_37
  exact kp_none
theorem ks_ChipMap_fetch {A : Mm} (M : Mm) (a1 : Int32) (h : kS A M) : kp (kS A) (q_ChipMap_fetch M a1) := by
  unfold q_ChipMap_fetch
  refine kp_cal (ks_Layout_canFetch _ _ h) (fun m1 r2 h3 => ?_)
  refine kp_if ?_ ?_
  · skip
    exact kp_none
  · skip
    refine kp_if ?_ ?_
    · skip
      exact ks_ChipMap_fetch_37 _ h3
    · skip
      refine kp_cal (ks_ChipMap_reachForFetch _ _ h3) (fun m4 r5 h6 => ?_)
      refine kp_if ?_ ?_
      · skip
        exact ks_ChipMap_fetch_37 _ h6
      · skip
        refine kp_cal (ks_ChipMap_readOut _ _ h6) (fun m7 r8 h9 => ?_)
        exact kp_some h9
theorem ks_Steps_isFull {A : Mm} (M : Mm) (h : kS A M) : kp (kS A) (q_Steps_isFull M) := by
  unfold q_Steps_isFull
  refine kp_if ?_ ?_
  · skip
    exact kp_some h
  · skip
    exact kp_some h
theorem ks_Steps_append {A : Mm} (M : Mm) (a1 : Int32) (a2 : Int32) (a3 : Int32) (h : kS A M) : kp (kS A) (q_Steps_append M a1 a2 a3) := by
  unfold q_Steps_append
  refine kp_ix ?_
  refine kp_st (kS.st h (by decide)) (fun m1 h2 => ?_)
  refine kp_ix ?_
  refine kp_st (kS.st h2 (by decide)) (fun m3 h4 => ?_)
  refine kp_ix ?_
  refine kp_st (kS.st h4 (by decide)) (fun m5 h6 => ?_)
  refine kp_st (kS.st h6 (by decide)) (fun m7 h8 => ?_)
  exact kp_some h8
theorem ks_ChipMap_join {A : Mm} (M : Mm) (a1 : Int32) (a2 : Int32) (h : kS A M) : kp (kS A) (q_ChipMap_join M a1 a2) := by
  unfold q_ChipMap_join
  refine kp_cal (ks_Layout_canPut _ _ _ h) (fun m1 r2 h3 => ?_)
  refine kp_if ?_ ?_
  · skip
    exact kp_some h3
  · skip
    refine kp_cal (ks_Steps_isFull _ h3) (fun m4 r5 h6 => ?_)
    refine kp_if ?_ ?_
    · skip
      refine kp_cal (ks_Steps_append _ _ _ _ h6) (fun m7 r8 h9 => ?_)
      exact kp_some h9
    · skip
      exact kp_some h6
theorem ks_Plan_isFirstOfRegister_18 {A : Mm} : ∀ (n' : Nat) (M : Mm) (v2 : Int32) (v3 : Int32) (v4 : Int32), kS A M → kp (kS A) (q_Plan_isFirstOfRegister_18 n' M v2 v3 v4) := by
  intro n'
  induction n' with
  | zero =>
    intro M v2 v3 v4 h
    rw [q_Plan_isFirstOfRegister_18]
    exact kp_none
  | succ n' ih =>
    intro M v2 v3 v4 h
    rw [q_Plan_isFirstOfRegister_18]
    refine kp_if ?_ ?_
    · skip
      exact kp_some h
    · skip
      refine kp_ix ?_
      refine kp_ix ?_
      refine kp_if ?_ ?_
      · skip
        exact kp_some h
      · skip
        exact ih _ _ _ _ h
theorem ks_Plan_isFirstOfRegister {A : Mm} (M : Mm) (a2 : Int32) (h : kS A M) : kp (kS A) (q_Plan_isFirstOfRegister M a2) := by
  unfold q_Plan_isFirstOfRegister
  refine kp_ix ?_
  refine kp_ix ?_
  refine kp_lv (fun x1 => ?_)
  exact ks_Plan_isFirstOfRegister_18 4000 _ _ _ _ h
theorem ks_Plan_addRegister_155 {A : Mm} (M : Mm) (v2 : Int32) (v3 : Int32) (v4 : Int32) (h : kS A M) : kp (kS A) (q_Plan_addRegister_155 M v2 v3 v4) := by
  unfold q_Plan_addRegister_155
  refine kp_cal (ks_Plan_addReach _ _ h) (fun m1 r2 h3 => ?_)
  refine kp_cal (ks_Plan_addTold _ _ _ _ h3) (fun m4 r5 h6 => ?_)
  exact kp_some h6
theorem ks_Plan_addRegister_131 {A : Mm} (M : Mm) (v2 : Int32) (v3 : Int32) (v4 : Int32) (t0 : Int32) (h : kS A M) : kp (kS A) (q_Plan_addRegister_131 M v2 v3 v4 t0) := by
  unfold q_Plan_addRegister_131
  refine kp_if ?_ ?_
  · skip
    exact ks_Plan_addRegister_155 _ _ _ _ h
  · skip
    refine kp_ix ?_
    refine kp_if ?_ ?_
    · skip
      exact kp_some h
    · skip
      exact ks_Plan_addRegister_155 _ _ _ _ h
theorem ks_Plan_addRegister_104 {A : Mm} {kf8 : Mm → Int32 → Int32 → Int32 → Int32 → Rs} (hk8 : ∀ (M : Mm) (b1 : Int32) (b2 : Int32) (b3 : Int32) (b4 : Int32), kS A M → kp (kS A) (kf8 M b1 b2 b3 b4)) (M : Mm) (v2 : Int32) (v3 : Int32) (v4 : Int32) (v5 : Int32) (h : kS A M) : kp (kS A) (q_Plan_addRegister_104 kf8 M v2 v3 v4 v5) := by
  unfold q_Plan_addRegister_104
  exact hk8 _ _ _ _ _ h
theorem ks_Plan_addRegister_76 {A : Mm} {kf8 : Mm → Int32 → Int32 → Int32 → Int32 → Rs} (hk8 : ∀ (M : Mm) (b1 : Int32) (b2 : Int32) (b3 : Int32) (b4 : Int32), kS A M → kp (kS A) (kf8 M b1 b2 b3 b4)) (M : Mm) (v2 : Int32) (v3 : Int32) (v4 : Int32) (v5 : Int32) (v6 : Int32) (v7 : Int32) (h : kS A M) : kp (kS A) (q_Plan_addRegister_76 kf8 M v2 v3 v4 v5 v6 v7) := by
  unfold q_Plan_addRegister_76
  refine kp_lv (fun x1 => ?_)
  refine kp_ix ?_
  refine kp_ix ?_
  refine kp_lv (fun x2 => ?_)
  exact ks_Plan_addRegister_104 hk8 _ _ _ _ _ h
theorem ks_Plan_addRegister_8 {A : Mm} : ∀ (n' : Nat) (M : Mm) (v2 : Int32) (v3 : Int32) (v4 : Int32) (v5 : Int32), kS A M → kp (kS A) (q_Plan_addRegister_8 n' M v2 v3 v4 v5) := by
  intro n'
  induction n' with
  | zero =>
    intro M v2 v3 v4 v5 h
    rw [q_Plan_addRegister_8]
    exact kp_none
  | succ n' ih =>
    intro M v2 v3 v4 v5 h
    rw [q_Plan_addRegister_8]
    refine kp_if ?_ ?_
    · skip
      refine kp_ix ?_
      refine kp_if ?_ ?_
      · skip
        exact ks_Plan_addRegister_131 _ _ _ _ _ h
      · skip
        exact ks_Plan_addRegister_131 _ _ _ _ _ h
    · skip
      refine kp_ix ?_
      refine kp_lv (fun x1 => ?_)
      refine kp_ix ?_
      refine kp_if ?_ ?_
      · skip
        refine kp_ix ?_
        refine kp_lv (fun x2 => ?_)
        refine kp_cal (ks_Layout_isKnown _ _ h) (fun m3 r4 h5 => ?_)
        refine kp_if ?_ ?_
        · skip
          exact ks_Plan_addRegister_76 ih _ _ _ _ _ _ _ h5
        · skip
          refine kp_lv (fun x6 => ?_)
          exact ks_Plan_addRegister_76 ih _ _ _ _ _ _ _ h5
      · skip
        exact ks_Plan_addRegister_104 ih _ _ _ _ _ h
theorem ks_Plan_addRegister {A : Mm} (M : Mm) (a2 : Int32) (h : kS A M) : kp (kS A) (q_Plan_addRegister M a2) := by
  unfold q_Plan_addRegister
  exact ks_Plan_addRegister_8 4000 _ _ _ _ _ h
theorem ks_Plan_addJoined_38 {A : Mm} {kf2 : Mm → Int32 → Rs} (hk2 : ∀ (M : Mm) (b1 : Int32), kS A M → kp (kS A) (kf2 M b1)) (M : Mm) (v2 : Int32) (h : kS A M) : kp (kS A) (q_Plan_addJoined_38 kf2 M v2) := by
  unfold q_Plan_addJoined_38
  exact hk2 _ _ h
theorem ks_Plan_addJoined_2 {A : Mm} : ∀ (n' : Nat) (M : Mm) (v2 : Int32), kS A M → kp (kS A) (q_Plan_addJoined_2 n' M v2) := by
  intro n'
  induction n' with
  | zero =>
    intro M v2 h
    rw [q_Plan_addJoined_2]
    exact kp_none
  | succ n' ih =>
    intro M v2 h
    rw [q_Plan_addJoined_2]
    refine kp_if ?_ ?_
    · skip
      exact kp_some h
    · skip
      refine kp_cal (ks_Plan_isFirstOfRegister _ _ h) (fun m1 r2 h3 => ?_)
      refine kp_if ?_ ?_
      · skip
        exact ks_Plan_addJoined_38 ih _ _ h3
      · skip
        refine kp_ix ?_
        refine kp_ix ?_
        refine kp_cal (ks_Plan_addRegister _ _ h3) (fun m4 r5 h6 => ?_)
        exact ks_Plan_addJoined_38 ih _ _ h6
theorem ks_Plan_addJoined {A : Mm} (M : Mm) (h : kS A M) : kp (kS A) (q_Plan_addJoined M) := by
  unfold q_Plan_addJoined
  exact ks_Plan_addJoined_2 4000 _ _ h
theorem ks_ChipMap_flush {A : Mm} (M : Mm) (h : kS A M) : kp (kS A) (q_ChipMap_flush M) := by
  unfold q_ChipMap_flush
  refine kp_cal (ks_Plan_begin _ h) (fun m1 r2 h3 => ?_)
  refine kp_cal (ks_Plan_addJoined _ h3) (fun m4 r5 h6 => ?_)
  refine kp_cal (ks_ChipMap_doWrites _ h6) (fun m7 r8 h9 => ?_)
  refine kp_if ?_ ?_
  · skip
    exact kp_some h9
  · skip
    refine kp_st (kS.st h9 (by decide)) (fun m10 h11 => ?_)
    exact kp_some h11
theorem ks_Steps_empty {A : Mm} (M : Mm) (h : kS A M) : kp (kS A) (q_Steps_empty M) := by
  unfold q_Steps_empty
  refine kp_lv (fun x1 => ?_)
  refine kp_st (kS.st h (by decide)) (fun m2 h3 => ?_)
  exact kp_some h3
theorem ks_ChipMap_drop {A : Mm} (M : Mm) (h : kS A M) : kp (kS A) (q_ChipMap_drop M) := by
  unfold q_ChipMap_drop
  refine kp_cal (ks_Steps_empty _ h) (fun m1 r2 h3 => ?_)
  exact kp_some h3
theorem ks_Log_rowOf {A : Mm} (M : Mm) (a1 : Int32) (h : kS A M) : kp (kS A) (q_Log_rowOf M a1) := by
  unfold q_Log_rowOf
  refine kp_if ?_ ?_
  · skip
    exact kp_some h
  · skip
    refine kp_if ?_ ?_
    · skip
      exact kp_some h
    · skip
      refine kp_if ?_ ?_
      · skip
        exact kp_some h
      · skip
        exact kp_some h
theorem ks_ChipMap_trace {A : Mm} (M : Mm) (a1 : Int32) (a2 : Int32) (h : kS A M) : kp (kS A) (q_ChipMap_trace M a1 a2) := by
  unfold q_ChipMap_trace
  refine kp_cal (ks_Log_rowOf _ _ h) (fun m1 r2 h3 => ?_)
  refine kp_if ?_ ?_
  · skip
    exact kp_some h3
  · skip
    refine kp_if ?_ ?_
    · skip
      refine kp_ix ?_
      exact kp_some h3
    · skip
      refine kp_if ?_ ?_
      · skip
        refine kp_ix ?_
        exact kp_some h3
      · skip
        refine kp_if ?_ ?_
        · skip
          refine kp_ix ?_
          exact kp_some h3
        · skip
          exact kp_some h3
theorem ks_Mind_restart_1_2 {A : Mm} : ∀ (n' : Nat) (M : Mm) (v1 : Int32), kS A M → kp (kS A) (q_Mind_restart_1_2 n' M v1) := by
  intro n'
  induction n' with
  | zero =>
    intro M v1 h
    rw [q_Mind_restart_1_2]
    exact kp_none
  | succ n' ih =>
    intro M v1 h
    rw [q_Mind_restart_1_2]
    refine kp_if ?_ ?_
    · skip
      refine kp_st (kS.st h (by decide)) (fun m1 h2 => ?_)
      exact kp_some h2
    · skip
      refine kp_ix ?_
      refine kp_ix ?_
      refine kp_ix ?_
      refine kp_st (kS.st h (by decide)) (fun m3 h4 => ?_)
      exact ih _ _ h4
theorem ks_Mind_restart_1 {A : Mm} (M : Mm) (h : kS A M) : kp (kS A) (q_Mind_restart_1 M) := by
  unfold q_Mind_restart_1
  exact ks_Mind_restart_1_2 4000 _ _ h
theorem ks_Checker_makeKey_10 {A : Mm} : ∀ (n' : Nat) (M : Mm) (v1 : Int32) (v2 : Int32), kS A M → kp (kS A) (q_Checker_makeKey_10 n' M v1 v2) := by
  intro n'
  induction n' with
  | zero =>
    intro M v1 v2 h
    rw [q_Checker_makeKey_10]
    exact kp_none
  | succ n' ih =>
    intro M v1 v2 h
    rw [q_Checker_makeKey_10]
    refine kp_if ?_ ?_
    · skip
      refine kp_st (kS.sj h) (fun m1 h2 => ?_)
      exact kp_some h2
    · skip
      refine kp_ix ?_
      refine kp_ix ?_
      refine kp_ix ?_
      refine kp_st (kS.sj h) (fun m3 h4 => ?_)
      exact ih _ _ _ h4
theorem ks_Checker_makeKey {A : Mm} (M : Mm) (a1 : Int32) (h : kS A M) : kp (kS A) (q_Checker_makeKey M a1) := by
  unfold q_Checker_makeKey
  refine kp_st (kS.sj h) (fun m1 h2 => ?_)
  exact ks_Checker_makeKey_10 4000 _ _ _ h2
theorem ks_Checker_hashOfKey_4 {A : Mm} : ∀ (n' : Nat) (M : Mm) (v1 : Int64) (v3 : Int32), kS A M → kp (kS A) (q_Checker_hashOfKey_4 n' M v1 v3) := by
  intro n'
  induction n' with
  | zero =>
    intro M v1 v3 h
    rw [q_Checker_hashOfKey_4]
    exact kp_none
  | succ n' ih =>
    intro M v1 v3 h
    rw [q_Checker_hashOfKey_4]
    refine kp_if ?_ ?_
    · skip
      exact kp_some h
    · skip
      refine kp_ix ?_
      refine kp_lv (fun x1 => ?_)
      refine kp_lv (fun x2 => ?_)
      exact ih _ _ _ h
theorem ks_Checker_hashOfKey {A : Mm} (M : Mm) (h : kS A M) : kp (kS A) (q_Checker_hashOfKey M) := by
  unfold q_Checker_hashOfKey
  exact ks_Checker_hashOfKey_4 4000 _ _ _ h
theorem ks_Checker_isKey_2 {A : Mm} : ∀ (n' : Nat) (M : Mm) (v1 : Int32) (v2 : Int32), kS A M → kp (kS A) (q_Checker_isKey_2 n' M v1 v2) := by
  intro n'
  induction n' with
  | zero =>
    intro M v1 v2 h
    rw [q_Checker_isKey_2]
    exact kp_none
  | succ n' ih =>
    intro M v1 v2 h
    rw [q_Checker_isKey_2]
    refine kp_if ?_ ?_
    · skip
      exact kp_some h
    · skip
      refine kp_ix ?_
      refine kp_ix ?_
      refine kp_if ?_ ?_
      · skip
        exact ih _ _ _ h
      · skip
        exact kp_some h
theorem ks_Checker_isKey {A : Mm} (M : Mm) (a1 : Int32) (h : kS A M) : kp (kS A) (q_Checker_isKey M a1) := by
  unfold q_Checker_isKey
  exact ks_Checker_isKey_2 4000 _ _ _ h
theorem ks_Checker_add {A : Mm} (M : Mm) (a1 : Int32) (h : kS A M) : kp (kS A) (q_Checker_add M a1) := by
  unfold q_Checker_add
  refine kp_if ?_ ?_
  · skip
    refine kp_cpk ?_
    refine kp_st (kS.sj h) (fun m1 h2 => ?_)
    refine kp_st (kS.st h2 (by decide)) (fun m3 h4 => ?_)
    refine kp_ix ?_
    refine kp_st (kS.st h4 (by decide)) (fun m5 h6 => ?_)
    exact kp_some h6
  · skip
    refine kp_st (kS.st h (by decide)) (fun m7 h8 => ?_)
    exact kp_some h8
theorem ks_Checker_meet_22 {A : Mm} : ∀ (n' : Nat) (M : Mm) (v2 : Int32) (v3 : Int32), kS A M → kp (kS A) (q_Checker_meet_22 n' M v2 v3) := by
  intro n'
  induction n' with
  | zero =>
    intro M v2 v3 h
    rw [q_Checker_meet_22]
    exact kp_none
  | succ n' ih =>
    intro M v2 v3 h
    rw [q_Checker_meet_22]
    refine kp_if ?_ ?_
    · skip
      exact kp_some h
    · skip
      refine kp_lv (fun x1 => ?_)
      refine kp_ix ?_
      refine kp_if ?_ ?_
      · skip
        refine kp_cal (ks_Checker_add _ _ h) (fun m2 r3 h4 => ?_)
        exact kp_some h4
      · skip
        refine kp_ix ?_
        refine kp_cal (ks_Checker_isKey _ _ h) (fun m5 r6 h7 => ?_)
        refine kp_if ?_ ?_
        · skip
          exact ih _ _ _ h7
        · skip
          exact kp_some h7
theorem ks_Checker_meet {A : Mm} (M : Mm) (a1 : Int32) (h : kS A M) : kp (kS A) (q_Checker_meet M a1) := by
  unfold q_Checker_meet
  refine kp_lv (fun x1 => ?_)
  refine kp_cal (ks_Checker_makeKey _ _ h) (fun m2 r3 h4 => ?_)
  refine kp_cal (ks_Checker_hashOfKey _ h4) (fun m5 r6 h7 => ?_)
  exact ks_Checker_meet_22 4000 _ _ _ h7
theorem ks_Checker_begin {A : Mm} (M : Mm) (h : kS A M) : kp (kS A) (q_Checker_begin M) := by
  unfold q_Checker_begin
  refine kp_st (kS.st h (by decide)) (fun m1 h2 => ?_)
  refine kp_st (kS.st h2 (by decide)) (fun m3 h4 => ?_)
  refine kp_st (kS.st h4 (by decide)) (fun m5 h6 => ?_)
  refine kp_st (kS.st h6 (by decide)) (fun m7 h8 => ?_)
  refine kp_st (kS.st h8 (by decide)) (fun m9 h10 => ?_)
  refine kp_cal (ks_Mind_restart_1 _ h10) (fun m11 r12 h13 => ?_)
  refine kp_cal (ks_Checker_meet _ _ h13) (fun m14 r15 h16 => ?_)
  exact kp_some h16
theorem ks_Checker_load_6 {A : Mm} : ∀ (n' : Nat) (M : Mm) (v2 : Int32) (v3 : Int32), kS A M → kp (kS A) (q_Checker_load_6 n' M v2 v3) := by
  intro n'
  induction n' with
  | zero =>
    intro M v2 v3 h
    rw [q_Checker_load_6]
    exact kp_none
  | succ n' ih =>
    intro M v2 v3 h
    rw [q_Checker_load_6]
    refine kp_if ?_ ?_
    · skip
      refine kp_ix ?_
      refine kp_lv (fun x1 => ?_)
      refine kp_st (kS.st h (by decide)) (fun m2 h3 => ?_)
      exact kp_some h3
    · skip
      refine kp_ix ?_
      refine kp_ix ?_
      refine kp_st (kS.st h (by decide)) (fun m4 h5 => ?_)
      exact ih _ _ _ h5
theorem ks_Checker_load {A : Mm} (M : Mm) (a1 : Int32) (h : kS A M) : kp (kS A) (q_Checker_load M a1) := by
  unfold q_Checker_load
  refine kp_lv (fun x1 => ?_)
  exact ks_Checker_load_6 4000 _ _ _ h
theorem ks_Checker_tell_16 {A : Mm} (M : Mm) (v1 : Int32) (v2 : Int32) (h : kS A M) : kp (kS A) (q_Checker_tell_16 M v1 v2) := by
  unfold q_Checker_tell_16
  refine kp_st (kS.st h (by decide)) (fun m1 h2 => ?_)
  refine kp_st (kS.st h2 (by decide)) (fun m3 h4 => ?_)
  exact kp_some h4
theorem ks_Checker_tell {A : Mm} (M : Mm) (a1 : Int32) (a2 : Int32) (h : kS A M) : kp (kS A) (q_Checker_tell M a1 a2) := by
  unfold q_Checker_tell
  refine kp_if ?_ ?_
  · skip
    exact ks_Checker_tell_16 _ _ _ h
  · skip
    refine kp_if ?_ ?_
    · skip
      refine kp_if ?_ ?_
      · skip
        refine kp_if ?_ ?_
        · skip
          exact kp_some h
        · skip
          refine kp_st (kS.st h (by decide)) (fun m1 h2 => ?_)
          exact kp_some h2
      · skip
        exact kp_some h
    · skip
      exact ks_Checker_tell_16 _ _ _ h
theorem ks_Checker_visit_130 {A : Mm} (M : Mm) (v2 : Int32) (h : kS A M) : kp (kS A) (q_Checker_visit_130 M v2) := by
  unfold q_Checker_visit_130
  refine kp_if ?_ ?_
  · skip
    refine kp_cal (ks_Checker_meet _ _ h) (fun m1 r2 h3 => ?_)
    exact kp_some h3
  · skip
    refine kp_cal (ks_Checker_tell _ _ _ h) (fun m4 r5 h6 => ?_)
    exact kp_some h6
theorem ks_Checker_visit {A : Mm} (M : Mm) (a1 : Int32) (h : kS A M) : kp (kS A) (q_Checker_visit M a1) := by
  unfold q_Checker_visit
  refine kp_cal (ks_Checker_load _ _ h) (fun m1 r2 h3 => ?_)
  refine kp_if ?_ ?_
  · skip
    refine kp_ix ?_
    refine kp_lv (fun x4 => ?_)
    refine kp_if ?_ ?_
    · skip
      refine kp_cal (ks_Checker_meet _ _ h3) (fun m5 r6 h7 => ?_)
      exact kp_some h7
    · skip
      refine kp_if ?_ ?_
      · skip
        refine kp_cal (ks_Checker_meet _ _ h3) (fun m8 r9 h10 => ?_)
        refine kp_ix ?_
        refine kp_cal (ks_Checker_meet _ _ h10) (fun m11 r12 h13 => ?_)
        exact kp_some h13
      · skip
        refine kp_cal (ks_Plan_beginHere _ h3) (fun m14 r15 h16 => ?_)
        refine kp_if ?_ ?_
        · skip
          refine kp_ix ?_
          refine kp_ix ?_
          refine kp_cal (ks_Plan_addPut _ _ _ h16) (fun m17 r18 h19 => ?_)
          exact ks_Checker_visit_130 _ _ h19
        · skip
          refine kp_ix ?_
          refine kp_cal (ks_Plan_addFetch _ _ h16) (fun m20 r21 h22 => ?_)
          exact ks_Checker_visit_130 _ _ h22
  · skip
    exact kp_some h3
end
