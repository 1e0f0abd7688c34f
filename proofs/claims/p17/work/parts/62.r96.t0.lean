theorem kt_ChipMapModel_raise {A : Mm} (M : Mm) (a1 : Int32) (h : kT A M) : kp (kT A) (q_ChipMapModel_raise M a1) := by
  unfold q_ChipMapModel_raise
  refine kp_st (kT.s0 h (by decide)) (fun m1 h2 => ?_)
  exact kp_some h2
theorem kt_ChipMapModel_resetDevice_55 {A : Mm} : ∀ (n' : Nat) (M : Mm) (v1 : Int32), kT A M → kp (kT A) (q_ChipMapModel_resetDevice_55 n' M v1) := by
  intro n'
  induction n' with
  | zero =>
    intro M v1 h
    rw [q_ChipMapModel_resetDevice_55]
    exact kp_none
  | succ n' ih =>
    intro M v1 h
    rw [q_ChipMapModel_resetDevice_55]
    refine kp_if ?_ ?_
    · skip
      exact kp_some h
    · skip
      refine kp_ix ?_
      refine kp_st (kT.st h (by decide)) (fun m1 h2 => ?_)
      exact ih _ _ h2
theorem kt_ChipMapModel_resetDevice_32 {A : Mm} {kf2 : Mm → Int32 → Rs} (hk2 : ∀ (M : Mm) (b1 : Int32), kT A M → kp (kT A) (kf2 M b1)) (M : Mm) (v1 : Int32) (t0 : Int32) (t1 : Int32) (h : kT A M) : kp (kT A) (q_ChipMapModel_resetDevice_32 kf2 M v1 t0 t1) := by
  unfold q_ChipMapModel_resetDevice_32
  refine kp_ix ?_
  refine kp_st (kT.st h (by decide)) (fun m1 h2 => ?_)
  refine kp_ix ?_
  refine kp_st (kT.st h2 (by decide)) (fun m3 h4 => ?_)
  refine kp_ix ?_
  refine kp_st (kT.st h4 (by decide)) (fun m5 h6 => ?_)
  exact hk2 _ _ h6
theorem kt_ChipMapModel_resetDevice_2 {A : Mm} : ∀ (n' : Nat) (M : Mm) (v1 : Int32), kT A M → kp (kT A) (q_ChipMapModel_resetDevice_2 n' M v1) := by
  intro n'
  induction n' with
  | zero =>
    intro M v1 h
    rw [q_ChipMapModel_resetDevice_2]
    exact kp_none
  | succ n' ih =>
    intro M v1 h
    rw [q_ChipMapModel_resetDevice_2]
    refine kp_if ?_ ?_
    · skip
      exact kt_ChipMapModel_resetDevice_55 4000 _ _ h
    · skip
      refine kp_ix ?_
      refine kp_if ?_ ?_
      · skip
        exact kt_ChipMapModel_resetDevice_32 ih _ _ _ _ h
      · skip
        refine kp_ix ?_
        exact kt_ChipMapModel_resetDevice_32 ih _ _ _ _ h
theorem kt_ChipMapModel_resetDevice {A : Mm} (M : Mm) (h : kT A M) : kp (kT A) (q_ChipMapModel_resetDevice M) := by
  unfold q_ChipMapModel_resetDevice
  exact kt_ChipMapModel_resetDevice_2 4000 _ _ h
theorem kt_ChipMapModel_resetAll {A : Mm} (M : Mm) (h : kT A M) : kp (kT A) (q_ChipMapModel_resetAll M) := by
  unfold q_ChipMapModel_resetAll
  refine kp_cal (kt_ChipMapModel_resetDevice _ h) (fun m1 r2 h3 => ?_)
  refine kp_st (kT.s0 h3 (by decide)) (fun m4 h5 => ?_)
  refine kp_st (kT.s0 h5 (by decide)) (fun m6 h7 => ?_)
  refine kp_st (kT.s0 h7 (by decide)) (fun m8 h9 => ?_)
  exact kp_some h9
theorem kt_ChipMapModel_fault {A : Mm} (M : Mm) (a1 : Int32) (h : kT A M) : kp (kT A) (q_ChipMapModel_fault M a1) := by
  unfold q_ChipMapModel_fault
  refine kp_st (kT.s0 h (by decide)) (fun m1 h2 => ?_)
  refine kp_if ?_ ?_
  · skip
    exact kp_some h2
  · skip
    refine kp_if ?_ ?_
    · skip
      exact kp_some h2
    · skip
      exact kp_some h2
theorem kt_ChipMapModel_copyDevice_82 {A : Mm} : ∀ (n' : Nat) (M : Mm) (v1 : Int32) (v2 : Int32) (v3 : Int32), kT A M → kp (kT A) (q_ChipMapModel_copyDevice_82 n' M v1 v2 v3) := by
  intro n'
  induction n' with
  | zero =>
    intro M v1 v2 v3 h
    rw [q_ChipMapModel_copyDevice_82]
    exact kp_none
  | succ n' ih =>
    intro M v1 v2 v3 h
    rw [q_ChipMapModel_copyDevice_82]
    refine kp_if ?_ ?_
    · skip
      exact kp_some h
    · skip
      refine kp_ix ?_
      refine kp_ix ?_
      refine kp_st (kT.st h (by decide)) (fun m1 h2 => ?_)
      exact ih _ _ _ _ h2
theorem kt_ChipMapModel_copyDevice_2 {A : Mm} : ∀ (n' : Nat) (M : Mm) (v1 : Int32) (v2 : Int32) (v3 : Int32), kT A M → kp (kT A) (q_ChipMapModel_copyDevice_2 n' M v1 v2 v3) := by
  intro n'
  induction n' with
  | zero =>
    intro M v1 v2 v3 h
    rw [q_ChipMapModel_copyDevice_2]
    exact kp_none
  | succ n' ih =>
    intro M v1 v2 v3 h
    rw [q_ChipMapModel_copyDevice_2]
    refine kp_if ?_ ?_
    · skip
      exact kt_ChipMapModel_copyDevice_82 4000 _ _ _ _ h
    · skip
      refine kp_ix ?_
      refine kp_ix ?_
      refine kp_st (kT.st h (by decide)) (fun m1 h2 => ?_)
      refine kp_ix ?_
      refine kp_ix ?_
      refine kp_st (kT.st h2 (by decide)) (fun m3 h4 => ?_)
      refine kp_ix ?_
      refine kp_ix ?_
      refine kp_st (kT.st h4 (by decide)) (fun m5 h6 => ?_)
      exact ih _ _ _ _ h6
theorem kt_ChipMapModel_copyDevice {A : Mm} (M : Mm) (a1 : Int32) (a2 : Int32) (h : kT A M) : kp (kT A) (q_ChipMapModel_copyDevice M a1 a2) := by
  unfold q_ChipMapModel_copyDevice
  exact kt_ChipMapModel_copyDevice_2 4000 _ _ _ _ h
theorem kt_ChipMapModel_isIn {A : Mm} (M : Mm) (a1 : Int32) (a2 : Int32) (h : kT A M) : kp (kT A) (q_ChipMapModel_isIn M a1 a2) := by
  unfold q_ChipMapModel_isIn
  refine kp_ix ?_
  refine kp_if ?_ ?_
  · skip
    exact kp_some h
  · skip
    refine kp_ix ?_
    refine kp_if ?_ ?_
    · skip
      exact kp_some h
    · skip
      exact kp_some h
theorem kt_ChipMapModel_part {A : Mm} (M : Mm) (a1 : Int32) (a2 : Int32) (h : kT A M) : kp (kT A) (q_ChipMapModel_part M a1 a2) := by
  unfold q_ChipMapModel_part
  refine kp_ix ?_
  refine kp_ix ?_
  exact kp_some h
theorem kt_ChipMapModel_isStored {A : Mm} (M : Mm) (a1 : Int32) (h : kT A M) : kp (kT A) (q_ChipMapModel_isStored M a1) := by
  unfold q_ChipMapModel_isStored
  refine kp_ix ?_
  refine kp_if ?_ ?_
  · skip
    exact kp_some h
  · skip
    refine kp_ix ?_
    refine kp_if ?_ ?_
    · skip
      exact kp_some h
    · skip
      exact kp_some h
theorem kt_ChipMapModel_isWritten {A : Mm} (M : Mm) (a1 : Int32) (a2 : Int32) (a3 : Int32) (h : kT A M) : kp (kT A) (q_ChipMapModel_isWritten M a1 a2 a3) := by
  unfold q_ChipMapModel_isWritten
  refine kp_cal (kt_ChipMapModel_isIn _ _ _ h) (fun m1 r2 h3 => ?_)
  refine kp_if ?_ ?_
  · skip
    exact kp_some h3
  · skip
    refine kp_ix ?_
    refine kp_if ?_ ?_
    · skip
      exact kp_some h3
    · skip
      refine kp_ix ?_
      refine kp_if ?_ ?_
      · skip
        exact kp_some h3
      · skip
        refine kp_cal (kt_ChipMapModel_part _ _ _ h3) (fun m4 r5 h6 => ?_)
        refine kp_cal (kt_ChipMapModel_isStored _ _ h6) (fun m7 r8 h9 => ?_)
        refine kp_if ?_ ?_
        · skip
          refine kp_if ?_ ?_
          · skip
            exact kp_some h9
          · skip
            exact kp_some h9
        · skip
          refine kp_ix ?_
          refine kp_if ?_ ?_
          · skip
            exact kp_some h9
          · skip
            exact kp_some h9
theorem kt_ChipMapModel_breaks {A : Mm} (M : Mm) (a1 : Int32) (a2 : Int32) (a3 : Int32) (h : kT A M) : kp (kT A) (q_ChipMapModel_breaks M a1 a2 a3) := by
  unfold q_ChipMapModel_breaks
  refine kp_ix ?_
  refine kp_cal (kt_ChipMapModel_isWritten _ _ _ _ h) (fun m1 r2 h3 => ?_)
  refine kp_ix ?_
  refine kp_cal (kt_ChipMapModel_isWritten _ _ _ _ h3) (fun m4 r5 h6 => ?_)
  refine kp_ix ?_
  refine kp_if ?_ ?_
  · skip
    refine kp_if ?_ ?_
    · skip
      exact kp_some h6
    · skip
      refine kp_ix ?_
      refine kp_if ?_ ?_
      · skip
        exact kp_some h6
      · skip
        exact kp_some h6
  · skip
    refine kp_ix ?_
    refine kp_if ?_ ?_
    · skip
      refine kp_if ?_ ?_
      · skip
        exact kp_some h6
      · skip
        refine kp_ix ?_
        refine kp_ix ?_
        refine kp_ix ?_
        refine kp_if ?_ ?_
        · skip
          exact kp_some h6
        · skip
          exact kp_some h6
    · skip
      refine kp_if ?_ ?_
      · skip
        exact kp_some h6
      · skip
        refine kp_ix ?_
        refine kp_if ?_ ?_
        · skip
          exact kp_some h6
        · skip
          exact kp_some h6
theorem kt_ChipMapModel_firstBroken_2 {A : Mm} : ∀ (n' : Nat) (M : Mm) (v1 : Int32) (v2 : Int32) (v3 : Int32), kT A M → kp (kT A) (q_ChipMapModel_firstBroken_2 n' M v1 v2 v3) := by
  intro n'
  induction n' with
  | zero =>
    intro M v1 v2 v3 h
    rw [q_ChipMapModel_firstBroken_2]
    exact kp_none
  | succ n' ih =>
    intro M v1 v2 v3 h
    rw [q_ChipMapModel_firstBroken_2]
    refine kp_if ?_ ?_
    · skip
      exact kp_some h
    · skip
      refine kp_cal (kt_ChipMapModel_breaks _ _ _ _ h) (fun m1 r2 h3 => ?_)
      refine kp_if ?_ ?_
      · skip
        exact ih _ _ _ _ h3
      · skip
        exact kp_some h3
theorem kt_ChipMapModel_firstBroken {A : Mm} (M : Mm) (a1 : Int32) (a2 : Int32) (h : kT A M) : kp (kT A) (q_ChipMapModel_firstBroken M a1 a2) := by
  unfold q_ChipMapModel_firstBroken
  exact kt_ChipMapModel_firstBroken_2 4000 _ _ _ _ h
theorem kt_ChipMapModel_trace_32 {A : Mm} (M : Mm) (v2 : Int32) (v3 : Int32) (v4 : Int32) (t0 : Int32) (t1 : Int32) (h : kT A M) : kp (kT A) (q_ChipMapModel_trace_32 M v2 v3 v4 t0 t1) := by
  unfold q_ChipMapModel_trace_32
  refine kp_ix ?_
  refine kp_st (kT.st h (by decide)) (fun m1 h2 => ?_)
  refine kp_ix ?_
  refine kp_ix ?_
  refine kp_st (kT.st h2 (by decide)) (fun m3 h4 => ?_)
  refine kp_ix ?_
  refine kp_st (kT.st h4 (by decide)) (fun m5 h6 => ?_)
  refine kp_st (kT.s0 h6 (by decide)) (fun m7 h8 => ?_)
  exact kp_some h8
theorem kt_ChipMapModel_trace {A : Mm} (M : Mm) (a1 : Int32) (a2 : Int32) (a3 : Int32) (h : kT A M) : kp (kT A) (q_ChipMapModel_trace M a1 a2 a3) := by
  unfold q_ChipMapModel_trace
  refine kp_if ?_ ?_
  · skip
    refine kp_lv (fun x1 => ?_)
    refine kp_if ?_ ?_
    · skip
      exact kt_ChipMapModel_trace_32 _ _ _ _ _ _ h
    · skip
      exact kt_ChipMapModel_trace_32 _ _ _ _ _ _ h
  · skip
    exact kp_some h
theorem kt_ChipMapModel_write_255 {A : Mm} {kf136 : Mm → Int32 → Int32 → Int32 → Rs} (hk136 : ∀ (M : Mm) (b1 : Int32) (b2 : Int32) (b3 : Int32), kT A M → kp (kT A) (kf136 M b1 b2 b3)) (M : Mm) (v1 : Int32) (v2 : Int32) (v3 : Int32) (h : kT A M) : kp (kT A) (q_ChipMapModel_write_255 kf136 M v1 v2 v3) := by
  unfold q_ChipMapModel_write_255
  exact hk136 _ _ _ _ h
theorem kt_ChipMapModel_write_224 {A : Mm} {kf136 : Mm → Int32 → Int32 → Int32 → Rs} (hk136 : ∀ (M : Mm) (b1 : Int32) (b2 : Int32) (b3 : Int32), kT A M → kp (kT A) (kf136 M b1 b2 b3)) (M : Mm) (v1 : Int32) (v2 : Int32) (v3 : Int32) (v4 : Int32) (h : kT A M) : kp (kT A) (q_ChipMapModel_write_224 kf136 M v1 v2 v3 v4) := by
  unfold q_ChipMapModel_write_224
  refine kp_ix ?_
  refine kp_if ?_ ?_
  · skip
    refine kp_if ?_ ?_
    · skip
      exact kt_ChipMapModel_write_255 hk136 _ _ _ _ h
    · skip
      refine kp_ix ?_
      refine kp_st (kT.st h (by decide)) (fun m1 h2 => ?_)
      refine kp_ix ?_
      refine kp_st (kT.st h2 (by decide)) (fun m3 h4 => ?_)
      exact kt_ChipMapModel_write_255 hk136 _ _ _ _ h4
  · skip
    exact kt_ChipMapModel_write_255 hk136 _ _ _ _ h
theorem kt_ChipMapModel_write_202 {A : Mm} {kf136 : Mm → Int32 → Int32 → Int32 → Rs} (hk136 : ∀ (M : Mm) (b1 : Int32) (b2 : Int32) (b3 : Int32), kT A M → kp (kT A) (kf136 M b1 b2 b3)) (M : Mm) (v1 : Int32) (v2 : Int32) (v3 : Int32) (v4 : Int32) (h : kT A M) : kp (kT A) (q_ChipMapModel_write_202 kf136 M v1 v2 v3 v4) := by
  unfold q_ChipMapModel_write_202
  refine kp_ix ?_
  refine kp_if ?_ ?_
  · skip
    refine kp_ix ?_
    refine kp_ix ?_
    refine kp_st (kT.st h (by decide)) (fun m1 h2 => ?_)
    exact kt_ChipMapModel_write_224 hk136 _ _ _ _ _ h2
  · skip
    exact kt_ChipMapModel_write_224 hk136 _ _ _ _ _ h
theorem kt_ChipMapModel_write_178 {A : Mm} {kf136 : Mm → Int32 → Int32 → Int32 → Rs} (hk136 : ∀ (M : Mm) (b1 : Int32) (b2 : Int32) (b3 : Int32), kT A M → kp (kT A) (kf136 M b1 b2 b3)) (M : Mm) (v1 : Int32) (v2 : Int32) (v3 : Int32) (v4 : Int32) (h : kT A M) : kp (kT A) (q_ChipMapModel_write_178 kf136 M v1 v2 v3 v4) := by
  unfold q_ChipMapModel_write_178
  refine kp_ix ?_
  refine kp_if ?_ ?_
  · skip
    refine kp_ix ?_
    refine kp_ix ?_
    refine kp_st (kT.st h (by decide)) (fun m1 h2 => ?_)
    exact kt_ChipMapModel_write_202 hk136 _ _ _ _ _ h2
  · skip
    exact kt_ChipMapModel_write_202 hk136 _ _ _ _ _ h
theorem kt_ChipMapModel_write_136 {A : Mm} : ∀ (n' : Nat) (M : Mm) (v1 : Int32) (v2 : Int32) (v3 : Int32), kT A M → kp (kT A) (q_ChipMapModel_write_136 n' M v1 v2 v3) := by
  intro n'
  induction n' with
  | zero =>
    intro M v1 v2 v3 h
    rw [q_ChipMapModel_write_136]
    exact kp_none
  | succ n' ih =>
    intro M v1 v2 v3 h
    rw [q_ChipMapModel_write_136]
    refine kp_if ?_ ?_
    · skip
      refine kp_cal (kt_ChipMapModel_trace _ _ _ _ h) (fun m1 r2 h3 => ?_)
      exact kp_some h3
    · skip
      refine kp_cal (kt_ChipMapModel_isIn _ _ _ h) (fun m4 r5 h6 => ?_)
      refine kp_if ?_ ?_
      · skip
        exact kt_ChipMapModel_write_255 ih _ _ _ _ h6
      · skip
        refine kp_cal (kt_ChipMapModel_part _ _ _ h6) (fun m7 r8 h9 => ?_)
        refine kp_cal (kt_ChipMapModel_isStored _ _ h9) (fun m10 r11 h12 => ?_)
        refine kp_if ?_ ?_
        · skip
          exact kt_ChipMapModel_write_178 ih _ _ _ _ _ h12
        · skip
          refine kp_ix ?_
          refine kp_st (kT.st h12 (by decide)) (fun m13 h14 => ?_)
          exact kt_ChipMapModel_write_178 ih _ _ _ _ _ h14
theorem kt_ChipMapModel_write_128 {A : Mm} {kf2 : Mm → Int32 → Int32 → Int32 → Rs} (hk2 : ∀ (M : Mm) (b1 : Int32) (b2 : Int32) (b3 : Int32), kT A M → kp (kT A) (kf2 M b1 b2 b3)) (M : Mm) (v1 : Int32) (v2 : Int32) (v3 : Int32) (h : kT A M) : kp (kT A) (q_ChipMapModel_write_128 kf2 M v1 v2 v3) := by
  unfold q_ChipMapModel_write_128
  exact hk2 _ _ _ _ h
theorem kt_ChipMapModel_write_127 {A : Mm} {kf2 : Mm → Int32 → Int32 → Int32 → Rs} (hk2 : ∀ (M : Mm) (b1 : Int32) (b2 : Int32) (b3 : Int32), kT A M → kp (kT A) (kf2 M b1 b2 b3)) (M : Mm) (v1 : Int32) (v2 : Int32) (v3 : Int32) (t0 : Int32) (t1 : Int32) (h : kT A M) : kp (kT A) (q_ChipMapModel_write_127 kf2 M v1 v2 v3 t0 t1) := by
  unfold q_ChipMapModel_write_127
  refine kp_ix ?_
  refine kp_st (kT.st h (by decide)) (fun m1 h2 => ?_)
  exact kt_ChipMapModel_write_128 hk2 _ _ _ _ h2
theorem kt_ChipMapModel_write_126 {A : Mm} {kf2 : Mm → Int32 → Int32 → Int32 → Rs} (hk2 : ∀ (M : Mm) (b1 : Int32) (b2 : Int32) (b3 : Int32), kT A M → kp (kT A) (kf2 M b1 b2 b3)) (M : Mm) (v1 : Int32) (v2 : Int32) (v3 : Int32) (t0 : Int32) (h : kT A M) : kp (kT A) (q_ChipMapModel_write_126 kf2 M v1 v2 v3 t0) := by
  unfold q_ChipMapModel_write_126
  exact kt_ChipMapModel_write_127 hk2 _ _ _ _ _ _ h
theorem kt_ChipMapModel_write_74 {A : Mm} {kf2 : Mm → Int32 → Int32 → Int32 → Rs} (hk2 : ∀ (M : Mm) (b1 : Int32) (b2 : Int32) (b3 : Int32), kT A M → kp (kT A) (kf2 M b1 b2 b3)) (M : Mm) (v1 : Int32) (v2 : Int32) (v3 : Int32) (v4 : Int32) (v5 : Int32) (h : kT A M) : kp (kT A) (q_ChipMapModel_write_74 kf2 M v1 v2 v3 v4 v5) := by
  unfold q_ChipMapModel_write_74
  refine kp_ix ?_
  refine kp_if ?_ ?_
  · skip
    refine kp_if ?_ ?_
    · skip
      refine kp_ix ?_
      refine kp_if ?_ ?_
      · skip
        exact kt_ChipMapModel_write_126 hk2 _ _ _ _ _ h
      · skip
        refine kp_if ?_ ?_
        · skip
          exact kt_ChipMapModel_write_127 hk2 _ _ _ _ _ _ h
        · skip
          exact kt_ChipMapModel_write_126 hk2 _ _ _ _ _ h
    · skip
      refine kp_if ?_ ?_
      · skip
        exact kt_ChipMapModel_write_127 hk2 _ _ _ _ _ _ h
      · skip
        exact kt_ChipMapModel_write_127 hk2 _ _ _ _ _ _ h
  · skip
    exact kt_ChipMapModel_write_128 hk2 _ _ _ _ h
theorem kt_ChipMapModel_write_73 {A : Mm} {kf2 : Mm → Int32 → Int32 → Int32 → Rs} (hk2 : ∀ (M : Mm) (b1 : Int32) (b2 : Int32) (b3 : Int32), kT A M → kp (kT A) (kf2 M b1 b2 b3)) (M : Mm) (v1 : Int32) (v2 : Int32) (v3 : Int32) (v4 : Int32) (v5 : Int32) (t0 : Int32) (t1 : Int32) (h : kT A M) : kp (kT A) (q_ChipMapModel_write_73 kf2 M v1 v2 v3 v4 v5 t0 t1) := by
  unfold q_ChipMapModel_write_73
  refine kp_ix ?_
  refine kp_st (kT.st h (by decide)) (fun m1 h2 => ?_)
  exact kt_ChipMapModel_write_74 hk2 _ _ _ _ _ _ h2
theorem kt_ChipMapModel_write_68 {A : Mm} {kf2 : Mm → Int32 → Int32 → Int32 → Rs} (hk2 : ∀ (M : Mm) (b1 : Int32) (b2 : Int32) (b3 : Int32), kT A M → kp (kT A) (kf2 M b1 b2 b3)) (M : Mm) (v1 : Int32) (v2 : Int32) (v3 : Int32) (v4 : Int32) (v5 : Int32) (t0 : Int32) (h : kT A M) : kp (kT A) (q_ChipMapModel_write_68 kf2 M v1 v2 v3 v4 v5 t0) := by
  unfold q_ChipMapModel_write_68
  exact kt_ChipMapModel_write_73 hk2 _ _ _ _ _ _ _ _ h
theorem kt_ChipMapModel_write_2 {A : Mm} : ∀ (n' : Nat) (M : Mm) (v1 : Int32) (v2 : Int32) (v3 : Int32), kT A M → kp (kT A) (q_ChipMapModel_write_2 n' M v1 v2 v3) := by
  intro n'
  induction n' with
  | zero =>
    intro M v1 v2 v3 h
    rw [q_ChipMapModel_write_2]
    exact kp_none
  | succ n' ih =>
    intro M v1 v2 v3 h
    rw [q_ChipMapModel_write_2]
    refine kp_if ?_ ?_
    · skip
      exact kt_ChipMapModel_write_136 4000 _ _ _ _ h
    · skip
      refine kp_ix ?_
      refine kp_cal (kt_ChipMapModel_isWritten _ _ _ _ h) (fun m1 r2 h3 => ?_)
      refine kp_ix ?_
      refine kp_cal (kt_ChipMapModel_isWritten _ _ _ _ h3) (fun m4 r5 h6 => ?_)
      refine kp_ix ?_
      refine kp_if ?_ ?_
      · skip
        refine kp_ix ?_
        refine kp_if ?_ ?_
        · skip
          refine kp_if ?_ ?_
          · skip
            exact kt_ChipMapModel_write_73 ih _ _ _ _ _ _ _ _ h6
          · skip
            exact kt_ChipMapModel_write_68 ih _ _ _ _ _ _ _ h6
        · skip
          exact kt_ChipMapModel_write_68 ih _ _ _ _ _ _ _ h6
      · skip
        exact kt_ChipMapModel_write_74 ih _ _ _ _ _ _ h6
theorem kt_ChipMapModel_write {A : Mm} (M : Mm) (a1 : Int32) (a2 : Int32) (h : kT A M) : kp (kT A) (q_ChipMapModel_write M a1 a2) := by
  unfold q_ChipMapModel_write
  exact kt_ChipMapModel_write_2 4000 _ _ _ _ h
theorem kt_ChipMapModel_read_119 {A : Mm} {kf4 : Mm → Int32 → Int32 → Int32 → Rs} (hk4 : ∀ (M : Mm) (b1 : Int32) (b2 : Int32) (b3 : Int32), kT A M → kp (kT A) (kf4 M b1 b2 b3)) (M : Mm) (v1 : Int32) (v2 : Int32) (v3 : Int32) (h : kT A M) : kp (kT A) (q_ChipMapModel_read_119 kf4 M v1 v2 v3) := by
  unfold q_ChipMapModel_read_119
  exact hk4 _ _ _ _ h
theorem kt_ChipMapModel_read_82 {A : Mm} {kf4 : Mm → Int32 → Int32 → Int32 → Rs} (hk4 : ∀ (M : Mm) (b1 : Int32) (b2 : Int32) (b3 : Int32), kT A M → kp (kT A) (kf4 M b1 b2 b3)) (M : Mm) (v1 : Int32) (v2 : Int32) (v3 : Int32) (h : kT A M) : kp (kT A) (q_ChipMapModel_read_82 kf4 M v1 v2 v3) := by
  unfold q_ChipMapModel_read_82
  refine kp_ix ?_
  refine kp_if ?_ ?_
  · skip
    refine kp_ix ?_
    refine kp_ix ?_
    refine kp_st (kT.st h (by decide)) (fun m1 h2 => ?_)
    refine kp_ix ?_
    refine kp_if ?_ ?_
    · skip
      exact kt_ChipMapModel_read_119 hk4 _ _ _ _ h2
    · skip
      refine kp_ix ?_
      refine kp_st (kT.st h2 (by decide)) (fun m3 h4 => ?_)
      exact kt_ChipMapModel_read_119 hk4 _ _ _ _ h4
  · skip
    exact kt_ChipMapModel_read_119 hk4 _ _ _ _ h
theorem kt_ChipMapModel_read_4 {A : Mm} : ∀ (n' : Nat) (M : Mm) (v1 : Int32) (v2 : Int32) (v3 : Int32), kT A M → kp (kT A) (q_ChipMapModel_read_4 n' M v1 v2 v3) := by
  intro n'
  induction n' with
  | zero =>
    intro M v1 v2 v3 h
    rw [q_ChipMapModel_read_4]
    exact kp_none
  | succ n' ih =>
    intro M v1 v2 v3 h
    rw [q_ChipMapModel_read_4]
    refine kp_if ?_ ?_
    · skip
      refine kp_cal (kt_ChipMapModel_trace _ _ _ _ h) (fun m1 r2 h3 => ?_)
      exact kp_some h3
    · skip
      refine kp_cal (kt_ChipMapModel_isIn _ _ _ h) (fun m4 r5 h6 => ?_)
      refine kp_if ?_ ?_
      · skip
        exact kt_ChipMapModel_read_119 ih _ _ _ _ h6
      · skip
        refine kp_ix ?_
        refine kp_if ?_ ?_
        · skip
          exact kt_ChipMapModel_read_119 ih _ _ _ _ h6
        · skip
          refine kp_ix ?_
          refine kp_ix ?_
          refine kp_lv (fun x7 => ?_)
          refine kp_ix ?_
          refine kp_if ?_ ?_
          · skip
            refine kp_ix ?_
            refine kp_ix ?_
            refine kp_ix ?_
            refine kp_st (kT.st h6 (by decide)) (fun m8 h9 => ?_)
            refine kp_ix ?_
            refine kp_st (kT.st h9 (by decide)) (fun m10 h11 => ?_)
            exact kt_ChipMapModel_read_82 ih _ _ _ _ h11
          · skip
            exact kt_ChipMapModel_read_82 ih _ _ _ _ h6
theorem kt_ChipMapModel_read {A : Mm} (M : Mm) (a1 : Int32) (h : kT A M) : kp (kT A) (q_ChipMapModel_read M a1) := by
  unfold q_ChipMapModel_read
  exact kt_ChipMapModel_read_4 4000 _ _ _ _ h
theorem kt_ChipMapModel_isThere {A : Mm} (M : Mm) (a1 : Int32) (h : kT A M) : kp (kT A) (q_ChipMapModel_isThere M a1) := by
  unfold q_ChipMapModel_isThere
  refine kp_ix ?_
  refine kp_if ?_ ?_
  · skip
    exact kp_some h
  · skip
    refine kp_ix ?_
    refine kp_ix ?_
    refine kp_ix ?_
    refine kp_if ?_ ?_
    · skip
      exact kp_some h
    · skip
      exact kp_some h
theorem kt_ChipMapModel_registerAt_30 {A : Mm} {kf2 : Mm → Int32 → Int32 → Rs} (hk2 : ∀ (M : Mm) (b1 : Int32) (b2 : Int32), kT A M → kp (kT A) (kf2 M b1 b2)) (M : Mm) (v1 : Int32) (v2 : Int32) (h : kT A M) : kp (kT A) (q_ChipMapModel_registerAt_30 kf2 M v1 v2) := by
  unfold q_ChipMapModel_registerAt_30
  exact hk2 _ _ _ h
theorem kt_ChipMapModel_registerAt_2 {A : Mm} : ∀ (n' : Nat) (M : Mm) (v1 : Int32) (v2 : Int32), kT A M → kp (kT A) (q_ChipMapModel_registerAt_2 n' M v1 v2) := by
  intro n'
  induction n' with
  | zero =>
    intro M v1 v2 h
    rw [q_ChipMapModel_registerAt_2]
    exact kp_none
  | succ n' ih =>
    intro M v1 v2 h
    rw [q_ChipMapModel_registerAt_2]
    refine kp_if ?_ ?_
    · skip
      exact kp_some h
    · skip
      refine kp_ix ?_
      refine kp_if ?_ ?_
      · skip
        refine kp_cal (kt_ChipMapModel_isThere _ _ h) (fun m1 r2 h3 => ?_)
        refine kp_if ?_ ?_
        · skip
          exact kt_ChipMapModel_registerAt_30 ih _ _ _ h3
        · skip
          exact kp_some h3
      · skip
        exact kt_ChipMapModel_registerAt_30 ih _ _ _ h
theorem kt_ChipMapModel_registerAt {A : Mm} (M : Mm) (a1 : Int32) (h : kT A M) : kp (kT A) (q_ChipMapModel_registerAt M a1) := by
  unfold q_ChipMapModel_registerAt
  exact kt_ChipMapModel_registerAt_2 4000 _ _ _ h
theorem kt_ChipMapModel_isField {A : Mm} (M : Mm) (a1 : Int32) (h : kT A M) : kp (kT A) (q_ChipMapModel_isField M a1) := by
  unfold q_ChipMapModel_isField
  refine kp_if ?_ ?_
  · skip
    exact kp_some h
  · skip
    refine kp_if ?_ ?_
    · skip
      exact kp_some h
    · skip
      refine kp_if ?_ ?_
      · skip
        exact kp_some h
      · skip
        refine kp_ix ?_
        refine kp_if ?_ ?_
        · skip
          exact kp_some h
        · skip
          exact kp_some h
theorem kt_ChipMapModel_isFit {A : Mm} (M : Mm) (a1 : Int32) (a2 : Int32) (h : kT A M) : kp (kT A) (q_ChipMapModel_isFit M a1 a2) := by
  unfold q_ChipMapModel_isFit
  refine kp_if ?_ ?_
  · skip
    exact kp_some h
  · skip
    refine kp_ix ?_
    refine kp_if ?_ ?_
    · skip
      exact kp_some h
    · skip
      exact kp_some h
theorem kt_ChipMapModel_field {A : Mm} (M : Mm) (a1 : Int32) (a2 : Int32) (h : kT A M) : kp (kT A) (q_ChipMapModel_field M a1 a2) := by
  unfold q_ChipMapModel_field
  refine kp_st (kT.s0 h (by decide)) (fun m1 h2 => ?_)
  refine kp_cal (kt_ChipMapModel_isField _ _ h2) (fun m3 r4 h5 => ?_)
  refine kp_if ?_ ?_
  · skip
    exact kp_some h5
  · skip
    refine kp_if ?_ ?_
    · skip
      exact kp_some h5
    · skip
      refine kp_if ?_ ?_
      · skip
        refine kp_if ?_ ?_
        · skip
          refine kp_ix ?_
          exact kp_some h5
        · skip
          refine kp_if ?_ ?_
          · skip
            refine kp_ix ?_
            exact kp_some h5
          · skip
            refine kp_if ?_ ?_
            · skip
              refine kp_ix ?_
              exact kp_some h5
            · skip
              refine kp_if ?_ ?_
              · skip
                refine kp_ix ?_
                exact kp_some h5
              · skip
                refine kp_ix ?_
                exact kp_some h5
      · skip
        exact kp_some h5
theorem kt_ChipMapModel_reset {A : Mm} (M : Mm) (h : kT A M) : kp (kT A) (q_ChipMapModel_reset M) := by
  unfold q_ChipMapModel_reset
  refine kp_st (kT.s0 h (by decide)) (fun m1 h2 => ?_)
  refine kp_if ?_ ?_
  · skip
    exact kp_some h2
  · skip
    refine kp_cal (kt_ChipMapModel_resetAll _ h2) (fun m3 r4 h5 => ?_)
    exact kp_some h5
theorem kt_ChipMapModel_busWrite_79 {A : Mm} {kf48 : Mm → Int32 → Int32 → Int32 → Int32 → Rs} (hk48 : ∀ (M : Mm) (b1 : Int32) (b2 : Int32) (b3 : Int32) (b4 : Int32), kT A M → kp (kT A) (kf48 M b1 b2 b3 b4)) (M : Mm) (v3 : Int32) (v4 : Int32) (v5 : Int32) (v6 : Int32) (t0 : Int32) (t1 : Int32) (h : kT A M) : kp (kT A) (q_ChipMapModel_busWrite_79 kf48 M v3 v4 v5 v6 t0 t1) := by
  unfold q_ChipMapModel_busWrite_79
  refine kp_st (kT.s0 h (by decide)) (fun m1 h2 => ?_)
  exact hk48 _ _ _ _ _ h2
theorem kt_ChipMapModel_busWrite_48 {A : Mm} : ∀ (n' : Nat) (M : Mm) (v3 : Int32) (v4 : Int32) (v5 : Int32) (v6 : Int32), kT A M → kp (kT A) (q_ChipMapModel_busWrite_48 n' M v3 v4 v5 v6) := by
  intro n'
  induction n' with
  | zero =>
    intro M v3 v4 v5 v6 h
    rw [q_ChipMapModel_busWrite_48]
    exact kp_none
  | succ n' ih =>
    intro M v3 v4 v5 v6 h
    rw [q_ChipMapModel_busWrite_48]
    refine kp_if ?_ ?_
    · skip
      refine kp_cal (kt_ChipMapModel_write _ _ _ h) (fun m1 r2 h3 => ?_)
      exact kp_some h3
    · skip
      refine kp_cal (kt_ChipMapModel_breaks _ _ _ _ h) (fun m4 r5 h6 => ?_)
      refine kp_if ?_ ?_
      · skip
        exact kt_ChipMapModel_busWrite_79 ih _ _ _ _ _ _ _ h6
      · skip
        exact kt_ChipMapModel_busWrite_79 ih _ _ _ _ _ _ _ h6
theorem kt_ChipMapModel_busWrite_21 {A : Mm} (M : Mm) (v2 : Int32) (t0 : Int32) (h : kT A M) : kp (kT A) (q_ChipMapModel_busWrite_21 M v2 t0) := by
  unfold q_ChipMapModel_busWrite_21
  refine kp_if ?_ ?_
  · skip
    exact kp_some h
  · skip
    refine kp_lv (fun x1 => ?_)
    refine kp_cal (kt_ChipMapModel_firstBroken _ _ _ h) (fun m2 r3 h4 => ?_)
    exact kt_ChipMapModel_busWrite_48 4000 _ _ _ _ _ h4
theorem kt_ChipMapModel_busWrite {A : Mm} (M : Mm) (a1 : Int32) (a2 : Int32) (h : kT A M) : kp (kT A) (q_ChipMapModel_busWrite M a1 a2) := by
  unfold q_ChipMapModel_busWrite
  refine kp_st (kT.s0 h (by decide)) (fun m1 h2 => ?_)
  refine kp_if ?_ ?_
  · skip
    exact kt_ChipMapModel_busWrite_21 _ _ _ h2
  · skip
    refine kp_cal (kt_ChipMapModel_registerAt _ _ h2) (fun m3 r4 h5 => ?_)
    exact kt_ChipMapModel_busWrite_21 _ _ _ h5
theorem kt_ChipMapModel_busRead_21 {A : Mm} (M : Mm) (t0 : Int32) (h : kT A M) : kp (kT A) (q_ChipMapModel_busRead_21 M t0) := by
  unfold q_ChipMapModel_busRead_21
  refine kp_if ?_ ?_
  · skip
    exact kp_some h
  · skip
    refine kp_cal (kt_ChipMapModel_read _ _ h) (fun m1 r2 h3 => ?_)
    exact kp_some h3
theorem kt_ChipMapModel_busRead {A : Mm} (M : Mm) (a1 : Int32) (h : kT A M) : kp (kT A) (q_ChipMapModel_busRead M a1) := by
  unfold q_ChipMapModel_busRead
  refine kp_st (kT.s0 h (by decide)) (fun m1 h2 => ?_)
  refine kp_if ?_ ?_
  · skip
    exact kt_ChipMapModel_busRead_21 _ _ h2
  · skip
    refine kp_cal (kt_ChipMapModel_registerAt _ _ h2) (fun m3 r4 h5 => ?_)
    exact kt_ChipMapModel_busRead_21 _ _ h5
theorem kt_ChipMapModel_poke_46 {A : Mm} (M : Mm) (v1 : Int32) (v2 : Int32) (h : kT A M) : kp (kT A) (q_ChipMapModel_poke_46 M v1 v2) := by
  unfold q_ChipMapModel_poke_46
  refine kp_cal (kt_ChipMapModel_isFit _ _ _ h) (fun m1 r2 h3 => ?_)
  refine kp_if ?_ ?_
  · skip
    exact kp_some h3
  · skip
    refine kp_ix ?_
    refine kp_st (kT.st h3 (by decide)) (fun m4 h5 => ?_)
    exact kp_some h5
theorem kt_ChipMapModel_poke {A : Mm} (M : Mm) (a1 : Int32) (a2 : Int32) (h : kT A M) : kp (kT A) (q_ChipMapModel_poke M a1 a2) := by
  unfold q_ChipMapModel_poke
  refine kp_st (kT.s0 h (by decide)) (fun m1 h2 => ?_)
  refine kp_cal (kt_ChipMapModel_isField _ _ h2) (fun m3 r4 h5 => ?_)
  refine kp_if ?_ ?_
  · skip
    exact kp_some h5
  · skip
    refine kp_ix ?_
    refine kp_if ?_ ?_
    · skip
      exact kt_ChipMapModel_poke_46 _ _ _ h5
    · skip
      refine kp_ix ?_
      refine kp_if ?_ ?_
      · skip
        exact kt_ChipMapModel_poke_46 _ _ _ h5
      · skip
        refine kp_ix ?_
        refine kp_if ?_ ?_
        · skip
          exact kt_ChipMapModel_poke_46 _ _ _ h5
        · skip
          exact kp_some h5
theorem kt_ChipMapModel_still_45 {A : Mm} {kf4 : Mm → Int32 → Int32 → Int32 → Rs} (hk4 : ∀ (M : Mm) (b1 : Int32) (b2 : Int32) (b3 : Int32), kT A M → kp (kT A) (kf4 M b1 b2 b3)) (M : Mm) (v1 : Int32) (v3 : Int32) (t0 : Int32) (t1 : Int32) (h : kT A M) : kp (kT A) (q_ChipMapModel_still_45 kf4 M v1 v3 t0 t1) := by
  unfold q_ChipMapModel_still_45
  refine kp_lv (fun x1 => ?_)
  exact hk4 _ _ _ _ h
theorem kt_ChipMapModel_still_44 {A : Mm} {kf4 : Mm → Int32 → Int32 → Int32 → Rs} (hk4 : ∀ (M : Mm) (b1 : Int32) (b2 : Int32) (b3 : Int32), kT A M → kp (kT A) (kf4 M b1 b2 b3)) (M : Mm) (v1 : Int32) (v3 : Int32) (t0 : Int32) (h : kT A M) : kp (kT A) (q_ChipMapModel_still_44 kf4 M v1 v3 t0) := by
  unfold q_ChipMapModel_still_44
  exact kt_ChipMapModel_still_45 hk4 _ _ _ _ _ h
theorem kt_ChipMapModel_still_4 {A : Mm} : ∀ (n' : Nat) (M : Mm) (v1 : Int32) (v2 : Int32) (v3 : Int32), kT A M → kp (kT A) (q_ChipMapModel_still_4 n' M v1 v2 v3) := by
  intro n'
  induction n' with
  | zero =>
    intro M v1 v2 v3 h
    rw [q_ChipMapModel_still_4]
    exact kp_none
  | succ n' ih =>
    intro M v1 v2 v3 h
    rw [q_ChipMapModel_still_4]
    refine kp_if ?_ ?_
    · skip
      exact kp_some h
    · skip
      refine kp_cal (kt_ChipMapModel_isIn _ _ _ h) (fun m1 r2 h3 => ?_)
      refine kp_if ?_ ?_
      · skip
        exact kt_ChipMapModel_still_44 ih _ _ _ _ h3
      · skip
        refine kp_cal (kt_ChipMapModel_isStored _ _ h3) (fun m4 r5 h6 => ?_)
        refine kp_if ?_ ?_
        · skip
          exact kt_ChipMapModel_still_44 ih _ _ _ _ h6
        · skip
          refine kp_ix ?_
          refine kp_ix ?_
          exact kt_ChipMapModel_still_45 ih _ _ _ _ _ h6
theorem kt_ChipMapModel_still {A : Mm} (M : Mm) (a1 : Int32) (h : kT A M) : kp (kT A) (q_ChipMapModel_still M a1) := by
  unfold q_ChipMapModel_still
  exact kt_ChipMapModel_still_4 4000 _ _ _ _ h
theorem kt_ChipMapModel_with {A : Mm} (M : Mm) (a1 : Int32) (a2 : Int32) (a3 : Int32) (h : kT A M) : kp (kT A) (q_ChipMapModel_with M a1 a2 a3) := by
  unfold q_ChipMapModel_with
  refine kp_ix ?_
  refine kp_ix ?_
  refine kp_ix ?_
  exact kp_some h
theorem kt_ChipMapModel_operate {A : Mm} (M : Mm) (a1 : Int32) (a2 : Int32) (h : kT A M) : kp (kT A) (q_ChipMapModel_operate M a1 a2) := by
  unfold q_ChipMapModel_operate
  refine kp_if ?_ ?_
  · skip
    refine kp_cal (kt_ChipMapModel_firstBroken _ _ _ h) (fun m1 r2 h3 => ?_)
    refine kp_if ?_ ?_
    · skip
      refine kp_cal (kt_ChipMapModel_write _ _ _ h3) (fun m4 r5 h6 => ?_)
      exact kp_some h6
    · skip
      refine kp_st (kT.s0 h3 (by decide)) (fun m7 h8 => ?_)
      refine kp_st (kT.s0 h8 (by decide)) (fun m9 h10 => ?_)
      exact kp_some h10
  · skip
    exact kp_some h
theorem kt_ChipMapModel_reach {A : Mm} (M : Mm) (a1 : Int32) (h : kT A M) : kp (kT A) (q_ChipMapModel_reach M a1) := by
  unfold q_ChipMapModel_reach
  refine kp_cal (kt_ChipMapModel_isThere _ _ h) (fun m1 r2 h3 => ?_)
  refine kp_if ?_ ?_
  · skip
    refine kp_ix ?_
    refine kp_lv (fun x4 => ?_)
    refine kp_ix ?_
    refine kp_ix ?_
    refine kp_cal (kt_ChipMapModel_still _ _ h3) (fun m5 r6 h7 => ?_)
    refine kp_ix ?_
    refine kp_cal (kt_ChipMapModel_with _ _ _ _ h7) (fun m8 r9 h10 => ?_)
    refine kp_cal (kt_ChipMapModel_operate _ _ _ h10) (fun m11 r12 h13 => ?_)
    exact kp_some h13
  · skip
    exact kp_some h3
theorem kt_ChipMapModel_isPut {A : Mm} (M : Mm) (a1 : Int32) (a2 : Int32) (h : kT A M) : kp (kT A) (q_ChipMapModel_isPut M a1 a2) := by
  unfold q_ChipMapModel_isPut
  refine kp_cal (kt_ChipMapModel_isField _ _ h) (fun m1 r2 h3 => ?_)
  refine kp_if ?_ ?_
  · skip
    exact kp_some h3
  · skip
    refine kp_ix ?_
    refine kp_if ?_ ?_
    · skip
      exact kp_some h3
    · skip
      refine kp_ix ?_
      refine kp_if ?_ ?_
      · skip
        exact kp_some h3
      · skip
        refine kp_cal (kt_ChipMapModel_isFit _ _ _ h3) (fun m4 r5 h6 => ?_)
        refine kp_if ?_ ?_
        · skip
          exact kp_some h6
        · skip
          exact kp_some h6
theorem kt_ChipMapModel_doPut_19 {A : Mm} (M : Mm) (v1 : Int32) (v2 : Int32) (h : kT A M) : kp (kT A) (q_ChipMapModel_doPut_19 M v1 v2) := by
  unfold q_ChipMapModel_doPut_19
  refine kp_ix ?_
  refine kp_cal (kt_ChipMapModel_reach _ _ h) (fun m1 r2 h3 => ?_)
  refine kp_ix ?_
  refine kp_ix ?_
  refine kp_cal (kt_ChipMapModel_still _ _ h3) (fun m4 r5 h6 => ?_)
  refine kp_cal (kt_ChipMapModel_with _ _ _ _ h6) (fun m7 r8 h9 => ?_)
  refine kp_cal (kt_ChipMapModel_operate _ _ _ h9) (fun m10 r11 h12 => ?_)
  exact kp_some h12
theorem kt_ChipMapModel_doPut {A : Mm} (M : Mm) (a1 : Int32) (a2 : Int32) (h : kT A M) : kp (kT A) (q_ChipMapModel_doPut M a1 a2) := by
  unfold q_ChipMapModel_doPut
  refine kp_cal (kt_ChipMapModel_isStored _ _ h) (fun m1 r2 h3 => ?_)
  refine kp_if ?_ ?_
  · skip
    exact kt_ChipMapModel_doPut_19 _ _ _ h3
  · skip
    refine kp_ix ?_
    refine kp_if ?_ ?_
    · skip
      exact kp_some h3
    · skip
      exact kt_ChipMapModel_doPut_19 _ _ _ h3
theorem kt_ChipMapModel_isFetch {A : Mm} (M : Mm) (a1 : Int32) (h : kT A M) : kp (kT A) (q_ChipMapModel_isFetch M a1) := by
  unfold q_ChipMapModel_isFetch
  refine kp_cal (kt_ChipMapModel_isField _ _ h) (fun m1 r2 h3 => ?_)
  refine kp_if ?_ ?_
  · skip
    exact kp_some h3
  · skip
    refine kp_ix ?_
    refine kp_if ?_ ?_
    · skip
      exact kp_some h3
    · skip
      exact kp_some h3
theorem kt_ChipMapModel_doFetch {A : Mm} (M : Mm) (a1 : Int32) (h : kT A M) : kp (kT A) (q_ChipMapModel_doFetch M a1) := by
  unfold q_ChipMapModel_doFetch
  refine kp_ix ?_
  refine kp_st (kT.s0 h (by decide)) (fun m1 h2 => ?_)
  refine kp_ix ?_
  refine kp_if ?_ ?_
  · skip
    exact kp_some h2
  · skip
    refine kp_ix ?_
    refine kp_cal (kt_ChipMapModel_reach _ _ h2) (fun m3 r4 h5 => ?_)
    refine kp_if ?_ ?_
    · skip
      refine kp_ix ?_
      refine kp_st (kT.s0 h5 (by decide)) (fun m6 h7 => ?_)
      refine kp_ix ?_
      refine kp_cal (kt_ChipMapModel_read _ _ h7) (fun m8 r9 h10 => ?_)
      refine kp_ix ?_
      refine kp_if ?_ ?_
      · skip
        refine kp_ix ?_
        refine kp_st (kT.s0 h10 (by decide)) (fun m11 h12 => ?_)
        refine kp_ix ?_
        refine kp_st (kT.st h12 (by decide)) (fun m13 h14 => ?_)
        exact kp_some h14
      · skip
        exact kp_some h10
    · skip
      exact kp_some h5
theorem kt_ChipMapModel_begin_21 {A : Mm} : ∀ (n' : Nat) (M : Mm) (v1 : Int32), kT A M → kp (kT A) (q_ChipMapModel_begin_21 n' M v1) := by
  intro n'
  induction n' with
  | zero =>
    intro M v1 h
    rw [q_ChipMapModel_begin_21]
    exact kp_none
  | succ n' ih =>
    intro M v1 h
    rw [q_ChipMapModel_begin_21]
    refine kp_if ?_ ?_
    · skip
      exact kp_some h
    · skip
      refine kp_ix ?_
      refine kp_ix ?_
      refine kp_st (kT.st h (by decide)) (fun m1 h2 => ?_)
      refine kp_ix ?_
      refine kp_ix ?_
      refine kp_st (kT.st h2 (by decide)) (fun m3 h4 => ?_)
      refine kp_ix ?_
      refine kp_ix ?_
      refine kp_st (kT.st h4 (by decide)) (fun m5 h6 => ?_)
      exact ih _ _ h6
theorem kt_ChipMapModel_begin {A : Mm} (M : Mm) (h : kT A M) : kp (kT A) (q_ChipMapModel_begin M) := by
  unfold q_ChipMapModel_begin
  refine kp_st (kT.s0 h (by decide)) (fun m1 h2 => ?_)
  refine kp_cal (kt_ChipMapModel_copyDevice _ _ _ h2) (fun m3 r4 h5 => ?_)
  refine kp_st (kT.s0 h5 (by decide)) (fun m6 h7 => ?_)
  exact kt_ChipMapModel_begin_21 4000 _ _ h7
theorem kt_ChipMapModel_end_33 {A : Mm} : ∀ (n' : Nat) (M : Mm) (v1 : Int32), kT A M → kp (kT A) (q_ChipMapModel_end_33 n' M v1) := by
  intro n'
  induction n' with
  | zero =>
    intro M v1 h
    rw [q_ChipMapModel_end_33]
    exact kp_none
  | succ n' ih =>
    intro M v1 h
    rw [q_ChipMapModel_end_33]
    refine kp_if ?_ ?_
    · skip
      exact kp_some h
    · skip
      refine kp_ix ?_
      refine kp_ix ?_
      refine kp_st (kT.st h (by decide)) (fun m1 h2 => ?_)
      refine kp_ix ?_
      refine kp_ix ?_
      refine kp_st (kT.st h2 (by decide)) (fun m3 h4 => ?_)
      refine kp_ix ?_
      refine kp_ix ?_
      refine kp_st (kT.st h4 (by decide)) (fun m5 h6 => ?_)
      exact ih _ _ h6
theorem kt_ChipMapModel_end {A : Mm} (M : Mm) (h : kT A M) : kp (kT A) (q_ChipMapModel_end M) := by
  unfold q_ChipMapModel_end
  refine kp_if ?_ ?_
  · skip
    exact kp_some h
  · skip
    refine kp_cal (kt_ChipMapModel_copyDevice _ _ _ h) (fun m1 r2 h3 => ?_)
    refine kp_st (kT.s0 h3 (by decide)) (fun m4 h5 => ?_)
    exact kt_ChipMapModel_end_33 4000 _ _ h5
theorem kt_ChipMapModel_put {A : Mm} (M : Mm) (a1 : Int32) (a2 : Int32) (h : kT A M) : kp (kT A) (q_ChipMapModel_put M a1 a2) := by
  unfold q_ChipMapModel_put
  refine kp_st (kT.s0 h (by decide)) (fun m1 h2 => ?_)
  refine kp_cal (kt_ChipMapModel_isPut _ _ _ h2) (fun m3 r4 h5 => ?_)
  refine kp_if ?_ ?_
  · skip
    exact kp_some h5
  · skip
    refine kp_if ?_ ?_
    · skip
      refine kp_cal (kt_ChipMapModel_begin _ h5) (fun m6 r7 h8 => ?_)
      refine kp_cal (kt_ChipMapModel_doPut _ _ _ h8) (fun m9 r10 h11 => ?_)
      refine kp_cal (kt_ChipMapModel_end _ h11) (fun m12 r13 h14 => ?_)
      exact kp_some h14
    · skip
      exact kp_some h5
theorem kt_ChipMapModel_fetch_51 {A : Mm} (M : Mm) (t0 : Int32) (h : kT A M) : kp (kT A) (q_ChipMapModel_fetch_51 M t0) := by
  unfold q_ChipMapModel_fetch_51
  refine kp_st (kT.s0 h (by decide)) (fun m1 h2 => ?_)
  refine kp_if ?_ ?_
  · skip
    exact kp_some h2
  · skip
    exact kp_some h2
theorem kt_ChipMapModel_fetch {A : Mm} (M : Mm) (a1 : Int32) (h : kT A M) : kp (kT A) (q_ChipMapModel_fetch M a1) := by
  unfold q_ChipMapModel_fetch
  refine kp_cal (kt_ChipMapModel_isFetch _ _ h) (fun m1 r2 h3 => ?_)
  refine kp_if ?_ ?_
  · skip
    refine kp_cal (kt_ChipMapModel_raise _ _ h3) (fun m4 r5 h6 => ?_)
    exact kp_some h6
  · skip
    refine kp_if ?_ ?_
    · skip
      refine kp_cal (kt_ChipMapModel_begin _ h3) (fun m7 r8 h9 => ?_)
      refine kp_cal (kt_ChipMapModel_doFetch _ _ h9) (fun m10 r11 h12 => ?_)
      refine kp_cal (kt_ChipMapModel_end _ h12) (fun m13 r14 h15 => ?_)
      refine kp_if ?_ ?_
      · skip
        exact kt_ChipMapModel_fetch_51 _ _ h15
      · skip
        exact kt_ChipMapModel_fetch_51 _ _ h15
    · skip
      refine kp_cal (kt_ChipMapModel_raise _ _ h3) (fun m16 r17 h18 => ?_)
      exact kp_some h18
theorem kt_ChipMapModel_join {A : Mm} (M : Mm) (a1 : Int32) (a2 : Int32) (h : kT A M) : kp (kT A) (q_ChipMapModel_join M a1 a2) := by
  unfold q_ChipMapModel_join
  refine kp_st (kT.s0 h (by decide)) (fun m1 h2 => ?_)
  refine kp_cal (kt_ChipMapModel_isPut _ _ _ h2) (fun m3 r4 h5 => ?_)
  refine kp_if ?_ ?_
  · skip
    exact kp_some h5
  · skip
    refine kp_if ?_ ?_
    · skip
      exact kp_some h5
    · skip
      refine kp_ix ?_
      refine kp_st (kT.st h5 (by decide)) (fun m6 h7 => ?_)
      refine kp_ix ?_
      refine kp_st (kT.st h7 (by decide)) (fun m8 h9 => ?_)
      refine kp_st (kT.s0 h9 (by decide)) (fun m10 h11 => ?_)
      exact kp_some h11
theorem kt_ChipMapModel_flushRegister_200 {A : Mm} {kf126 : Mm → Int32 → Int32 → Int32 → Rs} (hk126 : ∀ (M : Mm) (b1 : Int32) (b2 : Int32) (b3 : Int32), kT A M → kp (kT A) (kf126 M b1 b2 b3)) (M : Mm) (v1 : Int32) (v3 : Int32) (v4 : Int32) (h : kT A M) : kp (kT A) (q_ChipMapModel_flushRegister_200 kf126 M v1 v3 v4) := by
  unfold q_ChipMapModel_flushRegister_200
  exact hk126 _ _ _ _ h
theorem kt_ChipMapModel_flushRegister_196 {A : Mm} {kf126 : Mm → Int32 → Int32 → Int32 → Rs} (hk126 : ∀ (M : Mm) (b1 : Int32) (b2 : Int32) (b3 : Int32), kT A M → kp (kT A) (kf126 M b1 b2 b3)) (M : Mm) (v1 : Int32) (v4 : Int32) (t0 : Int32) (t1 : Int32) (t2 : Int32) (h : kT A M) : kp (kT A) (q_ChipMapModel_flushRegister_196 kf126 M v1 v4 t0 t1 t2) := by
  unfold q_ChipMapModel_flushRegister_196
  refine kp_cal (kt_ChipMapModel_with _ _ _ _ h) (fun m1 r2 h3 => ?_)
  exact kt_ChipMapModel_flushRegister_200 hk126 _ _ _ _ h3
theorem kt_ChipMapModel_flushRegister_126 {A : Mm} : ∀ (n' : Nat) (M : Mm) (v1 : Int32) (v3 : Int32) (v4 : Int32), kT A M → kp (kT A) (q_ChipMapModel_flushRegister_126 n' M v1 v3 v4) := by
  intro n'
  induction n' with
  | zero =>
    intro M v1 v3 v4 h
    rw [q_ChipMapModel_flushRegister_126]
    exact kp_none
  | succ n' ih =>
    intro M v1 v3 v4 h
    rw [q_ChipMapModel_flushRegister_126]
    refine kp_if ?_ ?_
    · skip
      refine kp_cal (kt_ChipMapModel_operate _ _ _ h) (fun m1 r2 h3 => ?_)
      exact kp_some h3
    · skip
      refine kp_ix ?_
      refine kp_lv (fun x4 => ?_)
      refine kp_ix ?_
      refine kp_if ?_ ?_
      · skip
        refine kp_cal (kt_ChipMapModel_isStored _ _ h) (fun m5 r6 h7 => ?_)
        refine kp_if ?_ ?_
        · skip
          refine kp_cal (kt_ChipMapModel_part _ _ _ h7) (fun m8 r9 h10 => ?_)
          refine kp_ix ?_
          exact kt_ChipMapModel_flushRegister_196 ih _ _ _ _ _ _ h10
        · skip
          refine kp_ix ?_
          exact kt_ChipMapModel_flushRegister_196 ih _ _ _ _ _ _ h7
      · skip
        exact kt_ChipMapModel_flushRegister_200 ih _ _ _ _ h
theorem kt_ChipMapModel_flushRegister_101 {A : Mm} {kf4 : Mm → Int32 → Int32 → Int32 → Rs} (hk4 : ∀ (M : Mm) (b1 : Int32) (b2 : Int32) (b3 : Int32), kT A M → kp (kT A) (kf4 M b1 b2 b3)) (M : Mm) (v1 : Int32) (v2 : Int32) (v3 : Int32) (h : kT A M) : kp (kT A) (q_ChipMapModel_flushRegister_101 kf4 M v1 v2 v3) := by
  unfold q_ChipMapModel_flushRegister_101
  exact hk4 _ _ _ _ h
theorem kt_ChipMapModel_flushRegister_100 {A : Mm} {kf4 : Mm → Int32 → Int32 → Int32 → Rs} (hk4 : ∀ (M : Mm) (b1 : Int32) (b2 : Int32) (b3 : Int32), kT A M → kp (kT A) (kf4 M b1 b2 b3)) (M : Mm) (v1 : Int32) (v3 : Int32) (t0 : Int32) (h : kT A M) : kp (kT A) (q_ChipMapModel_flushRegister_100 kf4 M v1 v3 t0) := by
  unfold q_ChipMapModel_flushRegister_100
  exact kt_ChipMapModel_flushRegister_101 hk4 _ _ _ _ h
theorem kt_ChipMapModel_flushRegister_95 {A : Mm} {kf4 : Mm → Int32 → Int32 → Int32 → Rs} (hk4 : ∀ (M : Mm) (b1 : Int32) (b2 : Int32) (b3 : Int32), kT A M → kp (kT A) (kf4 M b1 b2 b3)) (M : Mm) (v1 : Int32) (v3 : Int32) (h : kT A M) : kp (kT A) (q_ChipMapModel_flushRegister_95 kf4 M v1 v3) := by
  unfold q_ChipMapModel_flushRegister_95
  exact kt_ChipMapModel_flushRegister_100 hk4 _ _ _ _ h
theorem kt_ChipMapModel_flushRegister_43 {A : Mm} {kf4 : Mm → Int32 → Int32 → Int32 → Rs} (hk4 : ∀ (M : Mm) (b1 : Int32) (b2 : Int32) (b3 : Int32), kT A M → kp (kT A) (kf4 M b1 b2 b3)) {kf16 : Mm → Int32 → Int32 → Int32 → Int32 → Int32 → Rs} (hk16 : ∀ (M : Mm) (b1 : Int32) (b2 : Int32) (b3 : Int32) (b4 : Int32) (b5 : Int32), kT A M → kp (kT A) (kf16 M b1 b2 b3 b4 b5)) (M : Mm) (v1 : Int32) (v2 : Int32) (v3 : Int32) (v5 : Int32) (t0 : Int32) (h : kT A M) : kp (kT A) (q_ChipMapModel_flushRegister_43 kf4 kf16 M v1 v2 v3 v5 t0) := by
  unfold q_ChipMapModel_flushRegister_43
  exact hk16 _ _ _ _ _ _ h
theorem kt_ChipMapModel_flushRegister_16 {A : Mm} {kf4 : Mm → Int32 → Int32 → Int32 → Rs} (hk4 : ∀ (M : Mm) (b1 : Int32) (b2 : Int32) (b3 : Int32), kT A M → kp (kT A) (kf4 M b1 b2 b3)) : ∀ (n' : Nat) (M : Mm) (v1 : Int32) (v2 : Int32) (v3 : Int32) (v4 : Int32) (v5 : Int32), kT A M → kp (kT A) (q_ChipMapModel_flushRegister_16 kf4 n' M v1 v2 v3 v4 v5) := by
  intro n'
  induction n' with
  | zero =>
    intro M v1 v2 v3 v4 v5 h
    rw [q_ChipMapModel_flushRegister_16]
    exact kp_none
  | succ n' ih =>
    intro M v1 v2 v3 v4 v5 h
    rw [q_ChipMapModel_flushRegister_16]
    refine kp_if ?_ ?_
    · skip
      refine kp_if ?_ ?_
      · skip
        exact kt_ChipMapModel_flushRegister_101 hk4 _ _ _ _ h
      · skip
        refine kp_ix ?_
        refine kp_if ?_ ?_
        · skip
          refine kp_if ?_ ?_
          · skip
            refine kp_cal (kt_ChipMapModel_isStored _ _ h) (fun m1 r2 h3 => ?_)
            refine kp_if ?_ ?_
            · skip
              exact kt_ChipMapModel_flushRegister_95 hk4 _ _ _ h3
            · skip
              refine kp_ix ?_
              refine kp_ix ?_
              refine kp_if ?_ ?_
              · skip
                exact kt_ChipMapModel_flushRegister_100 hk4 _ _ _ _ h3
              · skip
                exact kt_ChipMapModel_flushRegister_95 hk4 _ _ _ h3
          · skip
            exact kt_ChipMapModel_flushRegister_95 hk4 _ _ _ h
        · skip
          exact kt_ChipMapModel_flushRegister_101 hk4 _ _ _ _ h
    · skip
      refine kp_ix ?_
      refine kp_if ?_ ?_
      · skip
        exact kt_ChipMapModel_flushRegister_43 hk4 ih _ _ _ _ _ _ h
      · skip
        exact kt_ChipMapModel_flushRegister_43 hk4 ih _ _ _ _ _ _ h
theorem kt_ChipMapModel_flushRegister_4 {A : Mm} : ∀ (n' : Nat) (M : Mm) (v1 : Int32) (v2 : Int32) (v3 : Int32), kT A M → kp (kT A) (q_ChipMapModel_flushRegister_4 n' M v1 v2 v3) := by
  intro n'
  induction n' with
  | zero =>
    intro M v1 v2 v3 h
    rw [q_ChipMapModel_flushRegister_4]
    exact kp_none
  | succ n' ih =>
    intro M v1 v2 v3 h
    rw [q_ChipMapModel_flushRegister_4]
    refine kp_if ?_ ?_
    · skip
      refine kp_if ?_ ?_
      · skip
        exact kp_some h
      · skip
        refine kp_cal (kt_ChipMapModel_reach _ _ h) (fun m1 r2 h3 => ?_)
        refine kp_cal (kt_ChipMapModel_still _ _ h3) (fun m4 r5 h6 => ?_)
        exact kt_ChipMapModel_flushRegister_126 4000 _ _ _ _ h6
    · skip
      refine kp_lv (fun x7 => ?_)
      exact kt_ChipMapModel_flushRegister_16 ih 4000 _ _ _ _ _ _ h
theorem kt_ChipMapModel_flushRegister {A : Mm} (M : Mm) (a1 : Int32) (h : kT A M) : kp (kT A) (q_ChipMapModel_flushRegister M a1) := by
  unfold q_ChipMapModel_flushRegister
  exact kt_ChipMapModel_flushRegister_4 4000 _ _ _ _ h
theorem kt_ChipMapModel_flush_88 {A : Mm} {kf11 : Mm → Int32 → Rs} (hk11 : ∀ (M : Mm) (b1 : Int32), kT A M → kp (kT A) (kf11 M b1)) (M : Mm) (v1 : Int32) (h : kT A M) : kp (kT A) (q_ChipMapModel_flush_88 kf11 M v1) := by
  unfold q_ChipMapModel_flush_88
  exact hk11 _ _ h
theorem kt_ChipMapModel_flush_62 {A : Mm} {kf11 : Mm → Int32 → Rs} (hk11 : ∀ (M : Mm) (b1 : Int32), kT A M → kp (kT A) (kf11 M b1)) {kf23 : Mm → Int32 → Int32 → Int32 → Rs} (hk23 : ∀ (M : Mm) (b1 : Int32) (b2 : Int32) (b3 : Int32), kT A M → kp (kT A) (kf23 M b1 b2 b3)) (M : Mm) (v1 : Int32) (v3 : Int32) (t0 : Int32) (h : kT A M) : kp (kT A) (q_ChipMapModel_flush_62 kf11 kf23 M v1 v3 t0) := by
  unfold q_ChipMapModel_flush_62
  exact hk23 _ _ _ _ h
theorem kt_ChipMapModel_flush_57 {A : Mm} {kf11 : Mm → Int32 → Rs} (hk11 : ∀ (M : Mm) (b1 : Int32), kT A M → kp (kT A) (kf11 M b1)) {kf23 : Mm → Int32 → Int32 → Int32 → Rs} (hk23 : ∀ (M : Mm) (b1 : Int32) (b2 : Int32) (b3 : Int32), kT A M → kp (kT A) (kf23 M b1 b2 b3)) (M : Mm) (v1 : Int32) (v3 : Int32) (h : kT A M) : kp (kT A) (q_ChipMapModel_flush_57 kf11 kf23 M v1 v3) := by
  unfold q_ChipMapModel_flush_57
  exact kt_ChipMapModel_flush_62 hk11 hk23 _ _ _ _ h
theorem kt_ChipMapModel_flush_23 {A : Mm} {kf11 : Mm → Int32 → Rs} (hk11 : ∀ (M : Mm) (b1 : Int32), kT A M → kp (kT A) (kf11 M b1)) : ∀ (n' : Nat) (M : Mm) (v1 : Int32) (v2 : Int32) (v3 : Int32), kT A M → kp (kT A) (q_ChipMapModel_flush_23 kf11 n' M v1 v2 v3) := by
  intro n'
  induction n' with
  | zero =>
    intro M v1 v2 v3 h
    rw [q_ChipMapModel_flush_23]
    exact kp_none
  | succ n' ih =>
    intro M v1 v2 v3 h
    rw [q_ChipMapModel_flush_23]
    refine kp_if ?_ ?_
    · skip
      refine kp_if ?_ ?_
      · skip
        refine kp_ix ?_
        refine kp_ix ?_
        refine kp_cal (kt_ChipMapModel_flushRegister _ _ h) (fun m1 r2 h3 => ?_)
        exact kt_ChipMapModel_flush_88 hk11 _ _ h3
      · skip
        exact kt_ChipMapModel_flush_88 hk11 _ _ h
    · skip
      refine kp_if ?_ ?_
      · skip
        refine kp_ix ?_
        refine kp_ix ?_
        refine kp_ix ?_
        refine kp_ix ?_
        refine kp_if ?_ ?_
        · skip
          exact kt_ChipMapModel_flush_57 hk11 ih _ _ _ h
        · skip
          exact kt_ChipMapModel_flush_62 hk11 ih _ _ _ _ h
      · skip
        exact kt_ChipMapModel_flush_57 hk11 ih _ _ _ h
theorem kt_ChipMapModel_flush_11 {A : Mm} : ∀ (n' : Nat) (M : Mm) (v1 : Int32), kT A M → kp (kT A) (q_ChipMapModel_flush_11 n' M v1) := by
  intro n'
  induction n' with
  | zero =>
    intro M v1 h
    rw [q_ChipMapModel_flush_11]
    exact kp_none
  | succ n' ih =>
    intro M v1 h
    rw [q_ChipMapModel_flush_11]
    refine kp_if ?_ ?_
    · skip
      refine kp_cal (kt_ChipMapModel_end _ h) (fun m1 r2 h3 => ?_)
      refine kp_if ?_ ?_
      · skip
        exact kp_some h3
      · skip
        refine kp_st (kT.s0 h3 (by decide)) (fun m4 h5 => ?_)
        exact kp_some h5
    · skip
      exact kt_ChipMapModel_flush_23 ih 4000 _ _ _ _ h
theorem kt_ChipMapModel_flush {A : Mm} (M : Mm) (h : kT A M) : kp (kT A) (q_ChipMapModel_flush M) := by
  unfold q_ChipMapModel_flush
  refine kp_st (kT.s0 h (by decide)) (fun m1 h2 => ?_)
  refine kp_cal (kt_ChipMapModel_begin _ h2) (fun m3 r4 h5 => ?_)
  exact kt_ChipMapModel_flush_11 4000 _ _ h5
theorem kt_ChipMapModel_drop {A : Mm} (M : Mm) (h : kT A M) : kp (kT A) (q_ChipMapModel_drop M) := by
  unfold q_ChipMapModel_drop
  refine kp_st (kT.s0 h (by decide)) (fun m1 h2 => ?_)
  refine kp_lv (fun x3 => ?_)
  refine kp_st (kT.s0 h2 (by decide)) (fun m4 h5 => ?_)
  exact kp_some h5
theorem kt_ChipMapModel_trace_1 {A : Mm} (M : Mm) (a1 : Int32) (a2 : Int32) (h : kT A M) : kp (kT A) (q_ChipMapModel_trace_1 M a1 a2) := by
  unfold q_ChipMapModel_trace_1
  refine kp_st (kT.s0 h (by decide)) (fun m1 h2 => ?_)
  refine kp_if ?_ ?_
  · skip
    exact kp_some h2
  · skip
    refine kp_if ?_ ?_
    · skip
      exact kp_some h2
    · skip
      refine kp_if ?_ ?_
      · skip
        exact kp_some h2
      · skip
        refine kp_if ?_ ?_
        · skip
          exact kp_some h2
        · skip
          refine kp_if ?_ ?_
          · skip
            refine kp_lv (fun x3 => ?_)
            refine kp_if ?_ ?_
            · skip
              refine kp_ix ?_
              exact kp_some h2
            · skip
              refine kp_if ?_ ?_
              · skip
                refine kp_ix ?_
                exact kp_some h2
              · skip
                refine kp_ix ?_
                exact kp_some h2
          · skip
            exact kp_some h2
theorem kt_ChipMapModel_memoryWord_29 {A : Mm} {kf4 : Mm → Int32 → Int32 → Rs} (hk4 : ∀ (M : Mm) (b1 : Int32) (b2 : Int32), kT A M → kp (kT A) (kf4 M b1 b2)) (M : Mm) (v2 : Int32) (t0 : Int32) (t1 : Int32) (h : kT A M) : kp (kT A) (q_ChipMapModel_memoryWord_29 kf4 M v2 t0 t1) := by
  unfold q_ChipMapModel_memoryWord_29
  refine kp_lv (fun x1 => ?_)
  exact hk4 _ _ _ h
theorem kt_ChipMapModel_memoryWord_4 {A : Mm} : ∀ (n' : Nat) (M : Mm) (v1 : Int32) (v2 : Int32), kT A M → kp (kT A) (q_ChipMapModel_memoryWord_4 n' M v1 v2) := by
  intro n'
  induction n' with
  | zero =>
    intro M v1 v2 h
    rw [q_ChipMapModel_memoryWord_4]
    exact kp_none
  | succ n' ih =>
    intro M v1 v2 h
    rw [q_ChipMapModel_memoryWord_4]
    refine kp_if ?_ ?_
    · skip
      exact kp_some h
    · skip
      refine kp_ix ?_
      refine kp_if ?_ ?_
      · skip
        exact kt_ChipMapModel_memoryWord_29 ih _ _ _ _ h
      · skip
        exact kt_ChipMapModel_memoryWord_29 ih _ _ _ _ h
theorem kt_ChipMapModel_memoryWord {A : Mm} (M : Mm) (h : kT A M) : kp (kT A) (q_ChipMapModel_memoryWord M) := by
  unfold q_ChipMapModel_memoryWord
  exact kt_ChipMapModel_memoryWord_4 4000 _ _ _ h
theorem kt_ChipMapModel_isSituation_72 {A : Mm} {kf27 : Mm → Int32 → Int32 → Rs} (hk27 : ∀ (M : Mm) (b1 : Int32) (b2 : Int32), kT A M → kp (kT A) (kf27 M b1 b2)) (M : Mm) (v1 : Int32) (v3 : Int32) (h : kT A M) : kp (kT A) (q_ChipMapModel_isSituation_72 kf27 M v1 v3) := by
  unfold q_ChipMapModel_isSituation_72
  exact hk27 _ _ _ h
theorem kt_ChipMapModel_isSituation_27 {A : Mm} : ∀ (n' : Nat) (M : Mm) (v1 : Int32) (v3 : Int32), kT A M → kp (kT A) (q_ChipMapModel_isSituation_27 n' M v1 v3) := by
  intro n'
  induction n' with
  | zero =>
    intro M v1 v3 h
    rw [q_ChipMapModel_isSituation_27]
    exact kp_none
  | succ n' ih =>
    intro M v1 v3 h
    rw [q_ChipMapModel_isSituation_27]
    refine kp_if ?_ ?_
    · skip
      exact kp_some h
    · skip
      refine kp_ix ?_
      refine kp_if ?_ ?_
      · skip
        exact kt_ChipMapModel_isSituation_72 ih _ _ _ h
      · skip
        refine kp_cal (kt_ChipMapModel_isStored _ _ h) (fun m1 r2 h3 => ?_)
        refine kp_if ?_ ?_
        · skip
          exact kt_ChipMapModel_isSituation_72 ih _ _ _ h3
        · skip
          refine kp_ix ?_
          refine kp_ix ?_
          refine kp_if ?_ ?_
          · skip
            exact kt_ChipMapModel_isSituation_72 ih _ _ _ h3
          · skip
            exact kp_some h3
theorem kt_ChipMapModel_isSituation {A : Mm} (M : Mm) (a1 : Int32) (a2 : Int32) (h : kT A M) : kp (kT A) (q_ChipMapModel_isSituation M a1 a2) := by
  unfold q_ChipMapModel_isSituation
  refine kp_ix ?_
  refine kp_if ?_ ?_
  · skip
    refine kp_ix ?_
    refine kp_cal (kt_ChipMapModel_memoryWord _ h) (fun m1 r2 h3 => ?_)
    refine kp_if ?_ ?_
    · skip
      exact kt_ChipMapModel_isSituation_27 4000 _ _ _ h3
    · skip
      exact kp_some h3
  · skip
    exact kp_some h
theorem kt_ChipMapModel_meet_82 {A : Mm} : ∀ (n' : Nat) (M : Mm) (v3 : Int32), kT A M → kp (kT A) (q_ChipMapModel_meet_82 n' M v3) := by
  intro n'
  induction n' with
  | zero =>
    intro M v3 h
    rw [q_ChipMapModel_meet_82]
    exact kp_none
  | succ n' ih =>
    intro M v3 h
    rw [q_ChipMapModel_meet_82]
    refine kp_if ?_ ?_
    · skip
      refine kp_st (kT.s0 h (by decide)) (fun m1 h2 => ?_)
      exact kp_some h2
    · skip
      refine kp_ix ?_
      refine kp_ix ?_
      refine kp_st (kT.st h (by decide)) (fun m3 h4 => ?_)
      exact ih _ _ h4
theorem kt_ChipMapModel_meet_17 {A : Mm} : ∀ (n' : Nat) (M : Mm) (v2 : Int32) (v3 : Int32), kT A M → kp (kT A) (q_ChipMapModel_meet_17 n' M v2 v3) := by
  intro n'
  induction n' with
  | zero =>
    intro M v2 v3 h
    rw [q_ChipMapModel_meet_17]
    exact kp_none
  | succ n' ih =>
    intro M v2 v3 h
    rw [q_ChipMapModel_meet_17]
    refine kp_if ?_ ?_
    · skip
      refine kp_if ?_ ?_
      · skip
        refine kp_st (kT.s0 h (by decide)) (fun m1 h2 => ?_)
        exact kp_some h2
      · skip
        refine kp_ix ?_
        refine kp_st (kT.st h (by decide)) (fun m3 h4 => ?_)
        refine kp_cal (kt_ChipMapModel_memoryWord _ h4) (fun m5 r6 h7 => ?_)
        refine kp_ix ?_
        refine kp_st (kT.st h7 (by decide)) (fun m8 h9 => ?_)
        exact kt_ChipMapModel_meet_82 4000 _ _ h9
    · skip
      refine kp_cal (kt_ChipMapModel_isSituation _ _ _ h) (fun m10 r11 h12 => ?_)
      refine kp_if ?_ ?_
      · skip
        exact ih _ _ _ h12
      · skip
        exact kp_some h12
theorem kt_ChipMapModel_meet_14 {A : Mm} (M : Mm) (t0 : Int32) (h : kT A M) : kp (kT A) (q_ChipMapModel_meet_14 M t0) := by
  unfold q_ChipMapModel_meet_14
  exact kt_ChipMapModel_meet_17 4000 _ _ _ h
theorem kt_ChipMapModel_meet {A : Mm} (M : Mm) (a1 : Int32) (h : kT A M) : kp (kT A) (q_ChipMapModel_meet M a1) := by
  unfold q_ChipMapModel_meet
  refine kp_if ?_ ?_
  · skip
    exact kt_ChipMapModel_meet_14 _ _ h
  · skip
    exact kt_ChipMapModel_meet_14 _ _ h
theorem kt_ChipMapModel_stand_65 {A : Mm} {kf33 : Mm → Int32 → Int32 → Rs} (hk33 : ∀ (M : Mm) (b1 : Int32) (b2 : Int32), kT A M → kp (kT A) (kf33 M b1 b2)) (M : Mm) (v1 : Int32) (v2 : Int32) (t0 : Int32) (t1 : Int32) (h : kT A M) : kp (kT A) (q_ChipMapModel_stand_65 kf33 M v1 v2 t0 t1) := by
  unfold q_ChipMapModel_stand_65
  refine kp_ix ?_
  refine kp_st (kT.st h (by decide)) (fun m1 h2 => ?_)
  exact hk33 _ _ _ h2
theorem kt_ChipMapModel_stand_33 {A : Mm} : ∀ (n' : Nat) (M : Mm) (v1 : Int32) (v2 : Int32), kT A M → kp (kT A) (q_ChipMapModel_stand_33 n' M v1 v2) := by
  intro n'
  induction n' with
  | zero =>
    intro M v1 v2 h
    rw [q_ChipMapModel_stand_33]
    exact kp_none
  | succ n' ih =>
    intro M v1 v2 h
    rw [q_ChipMapModel_stand_33]
    refine kp_if ?_ ?_
    · skip
      exact kp_some h
    · skip
      refine kp_ix ?_
      refine kp_if ?_ ?_
      · skip
        exact kt_ChipMapModel_stand_65 ih _ _ _ _ _ h
      · skip
        exact kt_ChipMapModel_stand_65 ih _ _ _ _ _ h
theorem kt_ChipMapModel_stand_2 {A : Mm} : ∀ (n' : Nat) (M : Mm) (v1 : Int32) (v2 : Int32), kT A M → kp (kT A) (q_ChipMapModel_stand_2 n' M v1 v2) := by
  intro n'
  induction n' with
  | zero =>
    intro M v1 v2 h
    rw [q_ChipMapModel_stand_2]
    exact kp_none
  | succ n' ih =>
    intro M v1 v2 h
    rw [q_ChipMapModel_stand_2]
    refine kp_if ?_ ?_
    · skip
      exact kt_ChipMapModel_stand_33 4000 _ _ _ h
    · skip
      refine kp_ix ?_
      refine kp_ix ?_
      refine kp_st (kT.st h (by decide)) (fun m1 h2 => ?_)
      exact ih _ _ _ h2
theorem kt_ChipMapModel_stand {A : Mm} (M : Mm) (a1 : Int32) (h : kT A M) : kp (kT A) (q_ChipMapModel_stand M a1) := by
  unfold q_ChipMapModel_stand
  exact kt_ChipMapModel_stand_2 4000 _ _ _ h
theorem kt_ChipMapModel_goOn_23 {A : Mm} (M : Mm) (v1 : Int32) (v2 : Int32) (h : kT A M) : kp (kT A) (q_ChipMapModel_goOn_23 M v1 v2) := by
  unfold q_ChipMapModel_goOn_23
  refine kp_cal (kt_ChipMapModel_stand _ _ h) (fun m1 r2 h3 => ?_)
  refine kp_if ?_ ?_
  · skip
    exact kp_some h3
  · skip
    refine kp_cal (kt_ChipMapModel_meet _ _ h3) (fun m4 r5 h6 => ?_)
    exact kp_some h6
theorem kt_ChipMapModel_goOn_171 {A : Mm} (M : Mm) (v2 : Int32) (h : kT A M) : kp (kT A) (q_ChipMapModel_goOn_171 M v2) := by
  unfold q_ChipMapModel_goOn_171
  refine kp_st (kT.s0 h (by decide)) (fun m1 h2 => ?_)
  refine kp_st (kT.s0 h2 (by decide)) (fun m3 h4 => ?_)
  exact kp_some h4
theorem kt_ChipMapModel_goOn_117 {A : Mm} (M : Mm) (v2 : Int32) (h : kT A M) : kp (kT A) (q_ChipMapModel_goOn_117 M v2) := by
  unfold q_ChipMapModel_goOn_117
  refine kp_if ?_ ?_
  · skip
    refine kp_cal (kt_ChipMapModel_meet _ _ h) (fun m1 r2 h3 => ?_)
    exact kp_some h3
  · skip
    refine kp_if ?_ ?_
    · skip
      exact kt_ChipMapModel_goOn_171 _ _ h
    · skip
      refine kp_if ?_ ?_
      · skip
        exact kt_ChipMapModel_goOn_171 _ _ h
      · skip
        refine kp_if ?_ ?_
        · skip
          refine kp_if ?_ ?_
          · skip
            exact kp_some h
          · skip
            exact kt_ChipMapModel_goOn_171 _ _ h
        · skip
          exact kp_some h
theorem kt_ChipMapModel_goOn {A : Mm} (M : Mm) (a1 : Int32) (h : kT A M) : kp (kT A) (q_ChipMapModel_goOn M a1) := by
  unfold q_ChipMapModel_goOn
  refine kp_ix ?_
  refine kp_lv (fun x1 => ?_)
  refine kp_if ?_ ?_
  · skip
    exact kt_ChipMapModel_goOn_23 _ _ _ h
  · skip
    refine kp_ix ?_
    refine kp_if ?_ ?_
    · skip
      exact kt_ChipMapModel_goOn_23 _ _ _ h
    · skip
      refine kp_cal (kt_ChipMapModel_stand _ _ h) (fun m2 r3 h4 => ?_)
      refine kp_ix ?_
      refine kp_if ?_ ?_
      · skip
        refine kp_ix ?_
        refine kp_cal (kt_ChipMapModel_meet _ _ h4) (fun m5 r6 h7 => ?_)
        refine kp_cal (kt_ChipMapModel_meet _ _ h7) (fun m8 r9 h10 => ?_)
        exact kp_some h10
      · skip
        refine kp_st (kT.s0 h4 (by decide)) (fun m11 h12 => ?_)
        refine kp_ix ?_
        refine kp_if ?_ ?_
        · skip
          refine kp_ix ?_
          refine kp_ix ?_
          refine kp_cal (kt_ChipMapModel_doPut _ _ _ h12) (fun m13 r14 h15 => ?_)
          exact kt_ChipMapModel_goOn_117 _ _ h15
        · skip
          refine kp_ix ?_
          refine kp_cal (kt_ChipMapModel_doFetch _ _ h12) (fun m16 r17 h18 => ?_)
          exact kt_ChipMapModel_goOn_117 _ _ h18
theorem kt_ChipMapModel_check_82 {A : Mm} (M : Mm) (h : kT A M) : kp (kT A) (q_ChipMapModel_check_82 M) := by
  unfold q_ChipMapModel_check_82
  refine kp_st (kT.s0 h (by decide)) (fun m1 h2 => ?_)
  refine kp_cal (kt_ChipMapModel_copyDevice _ _ _ h2) (fun m3 r4 h5 => ?_)
  refine kp_st (kT.s0 h5 (by decide)) (fun m6 h7 => ?_)
  refine kp_if ?_ ?_
  · skip
    exact kp_some h7
  · skip
    refine kp_st (kT.s0 h7 (by decide)) (fun m8 h9 => ?_)
    exact kp_some h9
theorem kt_ChipMapModel_check_56 {A : Mm} : ∀ (n' : Nat) (M : Mm) (v1 : Int32), kT A M → kp (kT A) (q_ChipMapModel_check_56 n' M v1) := by
  intro n'
  induction n' with
  | zero =>
    intro M v1 h
    rw [q_ChipMapModel_check_56]
    exact kp_none
  | succ n' ih =>
    intro M v1 h
    rw [q_ChipMapModel_check_56]
    refine kp_if ?_ ?_
    · skip
      exact kt_ChipMapModel_check_82 _ h
    · skip
      refine kp_if ?_ ?_
      · skip
        refine kp_cal (kt_ChipMapModel_goOn _ _ h) (fun m1 r2 h3 => ?_)
        exact ih _ _ h3
      · skip
        exact kt_ChipMapModel_check_82 _ h
