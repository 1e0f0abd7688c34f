section
theorem ks_ChipMap_check_63 {A : Mm} (M : Mm) (h : kS A M) : kp (kS A) (q_ChipMap_check_63 M) := by
  unfold q_ChipMap_check_63
  refine kp_if ?_ ?_
  · skip
    exact kp_some h
  · skip
    exact kp_some h
theorem ks_ChipMap_check_18 {A : Mm} : ∀ (n' : Nat) (M : Mm) (v1 : Int32), kS A M → kp (kS A) (q_ChipMap_check_18 n' M v1) := by
  intro n'
  induction n' with
  | zero =>
    intro M v1 h
    rw [q_ChipMap_check_18]
    exact kp_none
  | succ n' ih =>
    intro M v1 h
    rw [q_ChipMap_check_18]
    refine kp_if ?_ ?_
    · skip
      exact ks_ChipMap_check_63 _ h
    · skip
      refine kp_if ?_ ?_
      · skip
        exact ks_ChipMap_check_63 _ h
      · skip
        refine kp_if ?_ ?_
        · skip
          refine kp_cal (ks_Checker_visit _ _ h) (fun m1 r2 h3 => ?_)
          exact ih _ _ h3
        · skip
          exact ks_ChipMap_check_63 _ h
theorem ks_ChipMap_check {A : Mm} (M : Mm) (h : kS A M) : kp (kS A) (q_ChipMap_check M) := by
  unfold q_ChipMap_check
  refine kp_cal (ks_ChipMap_hasMap _ h) (fun m1 r2 h3 => ?_)
  refine kp_if ?_ ?_
  · skip
    exact kp_some h3
  · skip
    refine kp_cal (ks_Checker_begin _ h3) (fun m4 r5 h6 => ?_)
    exact ks_ChipMap_check_18 4000 _ _ h6
theorem ks_ChipMap_found {A : Mm} (M : Mm) (a1 : Int32) (h : kS A M) : kp (kS A) (q_ChipMap_found M a1) := by
  unfold q_ChipMap_found
  refine kp_if ?_ ?_
  · skip
    exact kp_some h
  · skip
    refine kp_if ?_ ?_
    · skip
      refine kp_if ?_ ?_
      · skip
        exact kp_some h
      · skip
        exact kp_some h
    · skip
      exact kp_some h
theorem ks_ChipMap_doStep {A : Mm} (M : Mm) (a1 : Int32) (h : kS A M) : kp (kS A) (q_ChipMap_doStep M a1) := by
  unfold q_ChipMap_doStep
  refine kp_ix ?_
  refine kp_lv (fun x1 => ?_)
  refine kp_ix ?_
  refine kp_if ?_ ?_
  · skip
    refine kp_cal (ks_ChipMap_reachForFetch _ _ h) (fun m2 r3 h4 => ?_)
    refine kp_if ?_ ?_
    · skip
      exact kp_some h4
    · skip
      refine kp_cal (ks_ChipMap_readOut _ _ h4) (fun m5 r6 h7 => ?_)
      exact kp_some h7
  · skip
    refine kp_cal (ks_Plan_begin _ h) (fun m8 r9 h10 => ?_)
    refine kp_ix ?_
    refine kp_cal (ks_Plan_addPut _ _ _ h10) (fun m11 r12 h13 => ?_)
    refine kp_cal (ks_ChipMap_doWrites _ h13) (fun m14 r15 h16 => ?_)
    refine kp_if ?_ ?_
    · skip
      exact kp_some h16
    · skip
      exact kp_some h16
theorem ks_ChipMap_run_137 {A : Mm} {kf26 : Mm → Int32 → Int32 → Int32 → Int32 → Rs} (hk26 : ∀ (M : Mm) (b1 : Int32) (b2 : Int32) (b3 : Int32) (b4 : Int32), kS A M → kp (kS A) (kf26 M b1 b2 b3 b4)) (M : Mm) (v1 : Int32) (v2 : Int32) (v3 : Int32) (v4 : Int32) (h : kS A M) : kp (kS A) (q_ChipMap_run_137 kf26 M v1 v2 v3 v4) := by
  unfold q_ChipMap_run_137
  exact hk26 _ _ _ _ _ h
theorem ks_ChipMap_run_115 {A : Mm} {kf26 : Mm → Int32 → Int32 → Int32 → Int32 → Rs} (hk26 : ∀ (M : Mm) (b1 : Int32) (b2 : Int32) (b3 : Int32) (b4 : Int32), kS A M → kp (kS A) (kf26 M b1 b2 b3 b4)) (M : Mm) (v1 : Int32) (v3 : Int32) (v4 : Int32) (t0 : Int32) (h : kS A M) : kp (kS A) (q_ChipMap_run_115 kf26 M v1 v3 v4 t0) := by
  unfold q_ChipMap_run_115
  exact ks_ChipMap_run_137 hk26 _ _ _ _ _ h
theorem ks_ChipMap_run_90 {A : Mm} {kf26 : Mm → Int32 → Int32 → Int32 → Int32 → Rs} (hk26 : ∀ (M : Mm) (b1 : Int32) (b2 : Int32) (b3 : Int32) (b4 : Int32), kS A M → kp (kS A) (kf26 M b1 b2 b3 b4)) (M : Mm) (v1 : Int32) (v2 : Int32) (v3 : Int32) (v4 : Int32) (t0 : Int32) (h : kS A M) : kp (kS A) (q_ChipMap_run_90 kf26 M v1 v2 v3 v4 t0) := by
  unfold q_ChipMap_run_90
  refine kp_if ?_ ?_
  · skip
    exact ks_ChipMap_run_115 hk26 _ _ _ _ _ h
  · skip
    refine kp_ix ?_
    exact ks_ChipMap_run_115 hk26 _ _ _ _ _ h
theorem ks_ChipMap_run_26 {A : Mm} : ∀ (n' : Nat) (M : Mm) (v1 : Int32) (v2 : Int32) (v3 : Int32) (v4 : Int32), kS A M → kp (kS A) (q_ChipMap_run_26 n' M v1 v2 v3 v4) := by
  intro n'
  induction n' with
  | zero =>
    intro M v1 v2 v3 v4 h
    rw [q_ChipMap_run_26]
    exact kp_none
  | succ n' ih =>
    intro M v1 v2 v3 v4 h
    rw [q_ChipMap_run_26]
    refine kp_if ?_ ?_
    · skip
      refine kp_if ?_ ?_
      · skip
        exact kp_some h
      · skip
        exact kp_some h
    · skip
      refine kp_if ?_ ?_
      · skip
        exact kp_some h
      · skip
        refine kp_ix ?_
        refine kp_if ?_ ?_
        · skip
          exact kp_some h
        · skip
          refine kp_ix ?_
          refine kp_if ?_ ?_
          · skip
            refine kp_if ?_ ?_
            · skip
              exact ks_ChipMap_run_90 ih _ _ _ _ _ _ h
            · skip
              exact ks_ChipMap_run_90 ih _ _ _ _ _ _ h
          · skip
            refine kp_cal (ks_ChipMap_doStep _ _ h) (fun m1 r2 h3 => ?_)
            refine kp_if ?_ ?_
            · skip
              exact kp_some h3
            · skip
              exact ks_ChipMap_run_137 ih _ _ _ _ _ h3
theorem ks_ChipMap_run {A : Mm} (M : Mm) (a1 : Int32) (h : kS A M) : kp (kS A) (q_ChipMap_run M a1) := by
  unfold q_ChipMap_run
  refine kp_cal (ks_ChipMap_hasMap _ h) (fun m1 r2 h3 => ?_)
  refine kp_if ?_ ?_
  · skip
    exact kp_some h3
  · skip
    refine kp_if ?_ ?_
    · skip
      exact ks_ChipMap_run_26 4000 _ _ _ _ _ h3
    · skip
      exact kp_some h3
theorem ks_ChipMap_state {A : Mm} (M : Mm) (a1 : Int32) (h : kS A M) : kp (kS A) (q_ChipMap_state M a1) := by
  unfold q_ChipMap_state
  refine kp_if ?_ ?_
  · skip
    exact kp_some h
  · skip
    refine kp_if ?_ ?_
    · skip
      exact kp_some h
    · skip
      refine kp_if ?_ ?_
      · skip
        exact kp_some h
      · skip
        refine kp_if ?_ ?_
        · skip
          exact kp_some h
        · skip
          refine kp_if ?_ ?_
          · skip
            exact kp_some h
          · skip
            exact kp_some h
theorem ks_t_ChipMap_fetch_37 {A : Mm} (M : Mm) (h : kS A M) : kp (kS A) (qt_ChipMap_fetch_37 M) := by
  unfold qt_ChipMap_fetch_37
  exact kp_some h
theorem ks_t_ChipMap_fetch {A : Mm} (M : Mm) (a1 : Int32) (h : kS A M) : kp (kS A) (qt_ChipMap_fetch M a1) := by
  unfold qt_ChipMap_fetch
  refine kp_cal (ks_Layout_canFetch _ _ h) (fun m1 r2 h3 => ?_)
  refine kp_if ?_ ?_
  · skip
    exact kp_some h3
  · skip
    refine kp_if ?_ ?_
    · skip
      exact ks_t_ChipMap_fetch_37 _ h3
    · skip
      refine kp_cal (ks_ChipMap_reachForFetch _ _ h3) (fun m4 r5 h6 => ?_)
      refine kp_if ?_ ?_
      · skip
        exact ks_t_ChipMap_fetch_37 _ h6
      · skip
        refine kp_cal (ks_ChipMap_readOut _ _ h6) (fun m7 r8 h9 => ?_)
        exact kp_none
end
section
theorem kt_ChipMapModel_raise {A : Mm} (M : Mm) (a1 : Int32) (h : kT A M) : kp (kT A) (q_ChipMapModel_raise M a1) := by
  unfold q_ChipMapModel_raise
  refine kp_st (kT.s0 h (by decide)) (fun m1 h2 => ?_)
  exact kp_some h2
theorem kt_ChipMapModel_resetDevice_55 {A : Mm} : ∀ (n' : Nat) (M : Mm) (v1 : Int32), kT A M → kp (kT A) (q_ChipMapModel_resetDevice_55 n' M v1) := by
  intro n'
  induction n' with
  | zero =>
    intro M v1 h
    rw [q_ChipMapModel_resetDevice_55]
    exact kp_none
  | succ n' ih =>
    intro M v1 h
    rw [q_ChipMapModel_resetDevice_55]
    refine kp_if ?_ ?_
    · skip
      exact kp_some h
    · skip
      refine kp_ix ?_
      refine kp_st (kT.st h (by decide)) (fun m1 h2 => ?_)
      exact ih _ _ h2
theorem kt_ChipMapModel_resetDevice_32 {A : Mm} {kf2 : Mm → Int32 → Rs} (hk2 : ∀ (M : Mm) (b1 : Int32), kT A M → kp (kT A) (kf2 M b1)) (M : Mm) (v1 : Int32) (t0 : Int32) (t1 : Int32) (h : kT A M) : kp (kT A) (q_ChipMapModel_resetDevice_32 kf2 M v1 t0 t1) := by
  unfold q_ChipMapModel_resetDevice_32
  refine kp_ix ?_
  refine kp_st (kT.st h (by decide)) (fun m1 h2 => ?_)
  refine kp_ix ?_
  refine kp_st (kT.st h2 (by decide)) (fun m3 h4 => ?_)
  refine kp_ix ?_
  refine kp_st (kT.st h4 (by decide)) (fun m5 h6 => ?_)
  exact hk2 _ _ h6
theorem kt_ChipMapModel_resetDevice_2 {A : Mm} : ∀ (n' : Nat) (M : Mm) (v1 : Int32), kT A M → kp (kT A) (q_ChipMapModel_resetDevice_2 n' M v1) := by
  intro n'
  induction n' with
  | zero =>
    intro M v1 h
    rw [q_ChipMapModel_resetDevice_2]
    exact kp_none
  | succ n' ih =>
    intro M v1 h
    rw [q_ChipMapModel_resetDevice_2]
    refine kp_if ?_ ?_
    · skip
      exact kt_ChipMapModel_resetDevice_55 4000 _ _ h
    · skip
      refine kp_ix ?_
      refine kp_if ?_ ?_
      · skip
        exact kt_ChipMapModel_resetDevice_32 ih _ _ _ _ h
      · skip
        refine kp_ix ?_
        exact kt_ChipMapModel_resetDevice_32 ih _ _ _ _ h
theorem kt_ChipMapModel_resetDevice {A : Mm} (M : Mm) (h : kT A M) : kp (kT A) (q_ChipMapModel_resetDevice M) := by
  unfold q_ChipMapModel_resetDevice
  exact kt_ChipMapModel_resetDevice_2 4000 _ _ h
theorem kt_ChipMapModel_resetAll {A : Mm} (M : Mm) (h : kT A M) : kp (kT A) (q_ChipMapModel_resetAll M) := by
  unfold q_ChipMapModel_resetAll
  refine kp_cal (kt_ChipMapModel_resetDevice _ h) (fun m1 r2 h3 => ?_)
  refine kp_st (kT.s0 h3 (by decide)) (fun m4 h5 => ?_)
  refine kp_st (kT.s0 h5 (by decide)) (fun m6 h7 => ?_)
  refine kp_st (kT.s0 h7 (by decide)) (fun m8 h9 => ?_)
  exact kp_some h9
theorem kt_ChipMapModel_fault {A : Mm} (M : Mm) (a1 : Int32) (h : kT A M) : kp (kT A) (q_ChipMapModel_fault M a1) := by
  unfold q_ChipMapModel_fault
  refine kp_st (kT.s0 h (by decide)) (fun m1 h2 => ?_)
  refine kp_if ?_ ?_
  · skip
    exact kp_some h2
  · skip
    refine kp_if ?_ ?_
    · skip
      exact kp_some h2
    · skip
      exact kp_some h2
theorem kt_ChipMapModel_copyDevice_82 {A : Mm} : ∀ (n' : Nat) (M : Mm) (v1 : Int32) (v2 : Int32) (v3 : Int32), kT A M → kp (kT A) (q_ChipMapModel_copyDevice_82 n' M v1 v2 v3) := by
  intro n'
  induction n' with
  | zero =>
    intro M v1 v2 v3 h
    rw [q_ChipMapModel_copyDevice_82]
    exact kp_none
  | succ n' ih =>
    intro M v1 v2 v3 h
    rw [q_ChipMapModel_copyDevice_82]
    refine kp_if ?_ ?_
    · skip
      exact kp_some h
    · skip
      refine kp_ix ?_
      refine kp_ix ?_
      refine kp_st (kT.st h (by decide)) (fun m1 h2 => ?_)
      exact ih _ _ _ _ h2
theorem kt_ChipMapModel_copyDevice_2 {A : Mm} : ∀ (n' : Nat) (M : Mm) (v1 : Int32) (v2 : Int32) (v3 : Int32), kT A M → kp (kT A) (q_ChipMapModel_copyDevice_2 n' M v1 v2 v3) := by
  intro n'
  induction n' with
  | zero =>
    intro M v1 v2 v3 h
    rw [q_ChipMapModel_copyDevice_2]
    exact kp_none
  | succ n' ih =>
    intro M v1 v2 v3 h
    rw [q_ChipMapModel_copyDevice_2]
    refine kp_if ?_ ?_
    · skip
      exact kt_ChipMapModel_copyDevice_82 4000 _ _ _ _ h
    · skip
      refine kp_ix ?_
      refine kp_ix ?_
      refine kp_st (kT.st h (by decide)) (fun m1 h2 => ?_)
      refine kp_ix ?_
      refine kp_ix ?_
      refine kp_st (kT.st h2 (by decide)) (fun m3 h4 => ?_)
      refine kp_ix ?_
      refine kp_ix ?_
      refine kp_st (kT.st h4 (by decide)) (fun m5 h6 => ?_)
      exact ih _ _ _ _ h6
theorem kt_ChipMapModel_copyDevice {A : Mm} (M : Mm) (a1 : Int32) (a2 : Int32) (h : kT A M) : kp (kT A) (q_ChipMapModel_copyDevice M a1 a2) := by
  unfold q_ChipMapModel_copyDevice
  exact kt_ChipMapModel_copyDevice_2 4000 _ _ _ _ h
theorem kt_ChipMapModel_isIn {A : Mm} (M : Mm) (a1 : Int32) (a2 : Int32) (h : kT A M) : kp (kT A) (q_ChipMapModel_isIn M a1 a2) := by
  unfold q_ChipMapModel_isIn
  refine kp_ix ?_
  refine kp_if ?_ ?_
  · skip
    exact kp_some h
  · skip
    refine kp_ix ?_
    refine kp_if ?_ ?_
    · skip
      exact kp_some h
    · skip
      exact kp_some h
theorem kt_ChipMapModel_part {A : Mm} (M : Mm) (a1 : Int32) (a2 : Int32) (h : kT A M) : kp (kT A) (q_ChipMapModel_part M a1 a2) := by
  unfold q_ChipMapModel_part
  refine kp_ix ?_
  refine kp_ix ?_
  exact kp_some h
theorem kt_ChipMapModel_isStored {A : Mm} (M : Mm) (a1 : Int32) (h : kT A M) : kp (kT A) (q_ChipMapModel_isStored M a1) := by
  unfold q_ChipMapModel_isStored
  refine kp_ix ?_
  refine kp_if ?_ ?_
  · skip
    exact kp_some h
  · skip
    refine kp_ix ?_
    refine kp_if ?_ ?_
    · skip
      exact kp_some h
    · skip
      exact kp_some h
theorem kt_ChipMapModel_isWritten {A : Mm} (M : Mm) (a1 : Int32) (a2 : Int32) (a3 : Int32) (h : kT A M) : kp (kT A) (q_ChipMapModel_isWritten M a1 a2 a3) := by
  unfold q_ChipMapModel_isWritten
  refine kp_cal (kt_ChipMapModel_isIn _ _ _ h) (fun m1 r2 h3 => ?_)
  refine kp_if ?_ ?_
  · skip
    exact kp_some h3
  · skip
    refine kp_ix ?_
    refine kp_if ?_ ?_
    · skip
      exact kp_some h3
    · skip
      refine kp_ix ?_
      refine kp_if ?_ ?_
      · skip
        exact kp_some h3
      · skip
        refine kp_cal (kt_ChipMapModel_part _ _ _ h3) (fun m4 r5 h6 => ?_)
        refine kp_cal (kt_ChipMapModel_isStored _ _ h6) (fun m7 r8 h9 => ?_)
        refine kp_if ?_ ?_
        · skip
          refine kp_if ?_ ?_
          · skip
            exact kp_some h9
          · skip
            exact kp_some h9
        · skip
          refine kp_ix ?_
          refine kp_if ?_ ?_
          · skip
            exact kp_some h9
          · skip
            exact kp_some h9
theorem kt_ChipMapModel_breaks {A : Mm} (M : Mm) (a1 : Int32) (a2 : Int32) (a3 : Int32) (h : kT A M) : kp (kT A) (q_ChipMapModel_breaks M a1 a2 a3) := by
  unfold q_ChipMapModel_breaks
  refine kp_ix ?_
  refine kp_cal (kt_ChipMapModel_isWritten _ _ _ _ h) (fun m1 r2 h3 => ?_)
  refine kp_ix ?_
  refine kp_cal (kt_ChipMapModel_isWritten _ _ _ _ h3) (fun m4 r5 h6 => ?_)
  refine kp_ix ?_
  refine kp_if ?_ ?_
  · skip
    refine kp_if ?_ ?_
    · skip
      exact kp_some h6
    · skip
      refine kp_ix ?_
      refine kp_if ?_ ?_
      · skip
        exact kp_some h6
      · skip
        exact kp_some h6
  · skip
    refine kp_ix ?_
    refine kp_if ?_ ?_
    · skip
      refine kp_if ?_ ?_
      · skip
        exact kp_some h6
      · skip
        refine kp_ix ?_
        refine kp_ix ?_
        refine kp_ix ?_
        refine kp_if ?_ ?_
        · skip
          exact kp_some h6
        · skip
          exact kp_some h6
    · skip
      refine kp_if ?_ ?_
      · skip
        exact kp_some h6
      · skip
        refine kp_ix ?_
        refine kp_if ?_ ?_
        · skip
          exact kp_some h6
        · skip
          exact kp_some h6
theorem kt_ChipMapModel_firstBroken_2 {A : Mm} : ∀ (n' : Nat) (M : Mm) (v1 : Int32) (v2 : Int32) (v3 : Int32), kT A M → kp (kT A) (q_ChipMapModel_firstBroken_2 n' M v1 v2 v3) := by
  intro n'
  induction n' with
  | zero =>
    intro M v1 v2 v3 h
    rw [q_ChipMapModel_firstBroken_2]
    exact kp_none
  | succ n' ih =>
    intro M v1 v2 v3 h
    rw [q_ChipMapModel_firstBroken_2]
    refine kp_if ?_ ?_
    · skip
      exact kp_some h
    · skip
      refine kp_cal (kt_ChipMapModel_breaks _ _ _ _ h) (fun m1 r2 h3 => ?_)
      refine kp_if ?_ ?_
      · skip
        exact ih _ _ _ _ h3
      · skip
        exact kp_some h3
theorem kt_ChipMapModel_firstBroken {A : Mm} (M : Mm) (a1 : Int32) (a2 : Int32) (h : kT A M) : kp (kT A) (q_ChipMapModel_firstBroken M a1 a2) := by
  unfold q_ChipMapModel_firstBroken
  exact kt_ChipMapModel_firstBroken_2 4000 _ _ _ _ h
theorem kt_ChipMapModel_trace_32 {A : Mm} (M : Mm) (v2 : Int32) (v3 : Int32) (v4 : Int32) (t0 : Int32) (t1 : Int32) (h : kT A M) : kp (kT A) (q_ChipMapModel_trace_32 M v2 v3 v4 t0 t1) := by
  unfold q_ChipMapModel_trace_32
  refine kp_ix ?_
  refine kp_st (kT.st h (by decide)) (fun m1 h2 => ?_)
  refine kp_ix ?_
  refine kp_ix ?_
  refine kp_st (kT.st h2 (by decide)) (fun m3 h4 => ?_)
  refine kp_ix ?_
  refine kp_st (kT.st h4 (by decide)) (fun m5 h6 => ?_)
  refine kp_st (kT.s0 h6 (by decide)) (fun m7 h8 => ?_)
  exact kp_some h8
theorem kt_ChipMapModel_trace {A : Mm} (M : Mm) (a1 : Int32) (a2 : Int32) (a3 : Int32) (h : kT A M) : kp (kT A) (q_ChipMapModel_trace M a1 a2 a3) := by
  unfold q_ChipMapModel_trace
  refine kp_if ?_ ?_
  · skip
    refine kp_lv (fun x1 => ?_)
    refine kp_if ?_ ?_
    · skip
      exact kt_ChipMapModel_trace_32 _ _ _ _ _ _ h
    · skip
      exact kt_ChipMapModel_trace_32 _ _ _ _ _ _ h
  · skip
    exact kp_some h
theorem kt_ChipMapModel_write_255 {A : Mm} {kf136 : Mm → Int32 → Int32 → Int32 → Rs} (hk136 : ∀ (M : Mm) (b1 : Int32) (b2 : Int32) (b3 : Int32), kT A M → kp (kT A) (kf136 M b1 b2 b3)) (M : Mm) (v1 : Int32) (v2 : Int32) (v3 : Int32) (h : kT A M) : kp (kT A) (q_ChipMapModel_write_255 kf136 M v1 v2 v3) := by
  unfold q_ChipMapModel_write_255
  exact hk136 _ _ _ _ h
theorem kt_ChipMapModel_write_224 {A : Mm} {kf136 : Mm → Int32 → Int32 → Int32 → Rs} (hk136 : ∀ (M : Mm) (b1 : Int32) (b2 : Int32) (b3 : Int32), kT A M → kp (kT A) (kf136 M b1 b2 b3)) (M : Mm) (v1 : Int32) (v2 : Int32) (v3 : Int32) (v4 : Int32) (h : kT A M) : kp (kT A) (q_ChipMapModel_write_224 kf136 M v1 v2 v3 v4) := by
  unfold q_ChipMapModel_write_224
  refine kp_ix ?_
  refine kp_if ?_ ?_
  · skip
    refine kp_if ?_ ?_
    · skip
      exact kt_ChipMapModel_write_255 hk136 _ _ _ _ h
    · skip
      refine kp_ix ?_
      refine kp_st (kT.st h (by decide)) (fun m1 h2 => ?_)
      refine kp_ix ?_
      refine kp_st (kT.st h2 (by decide)) (fun m3 h4 => ?_)
      exact kt_ChipMapModel_write_255 hk136 _ _ _ _ h4
  · skip
    exact kt_ChipMapModel_write_255 hk136 _ _ _ _ h
theorem kt_ChipMapModel_write_202 {A : Mm} {kf136 : Mm → Int32 → Int32 → Int32 → Rs} (hk136 : ∀ (M : Mm) (b1 : Int32) (b2 : Int32) (b3 : Int32), kT A M → kp (kT A) (kf136 M b1 b2 b3)) (M : Mm) (v1 : Int32) (v2 : Int32) (v3 : Int32) (v4 : Int32) (h : kT A M) : kp (kT A) (q_ChipMapModel_write_202 kf136 M v1 v2 v3 v4) := by
  unfold q_ChipMapModel_write_202
  refine kp_ix ?_
  refine kp_if ?_ ?_
  · skip
    refine kp_ix ?_
    refine kp_ix ?_
    refine kp_st (kT.st h (by decide)) (fun m1 h2 => ?_)
    exact kt_ChipMapModel_write_224 hk136 _ _ _ _ _ h2
  · skip
    exact kt_ChipMapModel_write_224 hk136 _ _ _ _ _ h
theorem kt_ChipMapModel_write_178 {A : Mm} {kf136 : Mm → Int32 → Int32 → Int32 → Rs} (hk136 : ∀ (M : Mm) (b1 : Int32) (b2 : Int32) (b3 : Int32), kT A M → kp (kT A) (kf136 M b1 b2 b3)) (M : Mm) (v1 : Int32) (v2 : Int32) (v3 : Int32) (v4 : Int32) (h : kT A M) : kp (kT A) (q_ChipMapModel_write_178 kf136 M v1 v2 v3 v4) := by
  unfold q_ChipMapModel_write_178
  refine kp_ix ?_
  refine kp_if ?_ ?_
  · skip
    refine kp_ix ?_
    refine kp_ix ?_
    refine kp_st (kT.st h (by decide)) (fun m1 h2 => ?_)
    exact kt_ChipMapModel_write_202 hk136 _ _ _ _ _ h2
  · skip
    exact kt_ChipMapModel_write_202 hk136 _ _ _ _ _ h
theorem kt_ChipMapModel_write_136 {A : Mm} : ∀ (n' : Nat) (M : Mm) (v1 : Int32) (v2 : Int32) (v3 : Int32), kT A M → kp (kT A) (q_ChipMapModel_write_136 n' M v1 v2 v3) := by
  intro n'
  induction n' with
  | zero =>
    intro M v1 v2 v3 h
    rw [q_ChipMapModel_write_136]
    exact kp_none
  | succ n' ih =>
    intro M v1 v2 v3 h
    rw [q_ChipMapModel_write_136]
    refine kp_if ?_ ?_
    · skip
      refine kp_cal (kt_ChipMapModel_trace _ _ _ _ h) (fun m1 r2 h3 => ?_)
      exact kp_some h3
    · skip
      refine kp_cal (kt_ChipMapModel_isIn _ _ _ h) (fun m4 r5 h6 => ?_)
      refine kp_if ?_ ?_
      · skip
        exact kt_ChipMapModel_write_255 ih _ _ _ _ h6
      · skip
        refine kp_cal (kt_ChipMapModel_part _ _ _ h6) (fun m7 r8 h9 => ?_)
        refine kp_cal (kt_ChipMapModel_isStored _ _ h9) (fun m10 r11 h12 => ?_)
        refine kp_if ?_ ?_
        · skip
          exact kt_ChipMapModel_write_178 ih _ _ _ _ _ h12
        · skip
          refine kp_ix ?_
          refine kp_st (kT.st h12 (by decide)) (fun m13 h14 => ?_)
          exact kt_ChipMapModel_write_178 ih _ _ _ _ _ h14
theorem kt_ChipMapModel_write_128 {A : Mm} {kf2 : Mm → Int32 → Int32 → Int32 → Rs} (hk2 : ∀ (M : Mm) (b1 : Int32) (b2 : Int32) (b3 : Int32), kT A M → kp (kT A) (kf2 M b1 b2 b3)) (M : Mm) (v1 : Int32) (v2 : Int32) (v3 : Int32) (h : kT A M) : kp (kT A) (q_ChipMapModel_write_128 kf2 M v1 v2 v3) := by
  unfold q_ChipMapModel_write_128
  exact hk2 _ _ _ _ h
theorem kt_ChipMapModel_write_127 {A : Mm} {kf2 : Mm → Int32 → Int32 → Int32 → Rs} (hk2 : ∀ (M : Mm) (b1 : Int32) (b2 : Int32) (b3 : Int32), kT A M → kp (kT A) (kf2 M b1 b2 b3)) (M : Mm) (v1 : Int32) (v2 : Int32) (v3 : Int32) (t0 : Int32) (t1 : Int32) (h : kT A M) : kp (kT A) (q_ChipMapModel_write_127 kf2 M v1 v2 v3 t0 t1) := by
  unfold q_ChipMapModel_write_127
  refine kp_ix ?_
  refine kp_st (kT.st h (by decide)) (fun m1 h2 => ?_)
  exact kt_ChipMapModel_write_128 hk2 _ _ _ _ h2
theorem kt_ChipMapModel_write_126 {A : Mm} {kf2 : Mm → Int32 → Int32 → Int32 → Rs} (hk2 : ∀ (M : Mm) (b1 : Int32) (b2 : Int32) (b3 : Int32), kT A M → kp (kT A) (kf2 M b1 b2 b3)) (M : Mm) (v1 : Int32) (v2 : Int32) (v3 : Int32) (t0 : Int32) (h : kT A M) : kp (kT A) (q_ChipMapModel_write_126 kf2 M v1 v2 v3 t0) := by
  unfold q_ChipMapModel_write_126
  exact kt_ChipMapModel_write_127 hk2 _ _ _ _ _ _ h
theorem kt_ChipMapModel_write_74 {A : Mm} {kf2 : Mm → Int32 → Int32 → Int32 → Rs} (hk2 : ∀ (M : Mm) (b1 : Int32) (b2 : Int32) (b3 : Int32), kT A M → kp (kT A) (kf2 M b1 b2 b3)) (M : Mm) (v1 : Int32) (v2 : Int32) (v3 : Int32) (v4 : Int32) (v5 : Int32) (h : kT A M) : kp (kT A) (q_ChipMapModel_write_74 kf2 M v1 v2 v3 v4 v5) := by
  unfold q_ChipMapModel_write_74
  refine kp_ix ?_
  refine kp_if ?_ ?_
  · skip
    refine kp_if ?_ ?_
    · skip
      refine kp_ix ?_
      refine kp_if ?_ ?_
      · skip
        exact kt_ChipMapModel_write_126 hk2 _ _ _ _ _ h
      · skip
        refine kp_if ?_ ?_
        · skip
          exact kt_ChipMapModel_write_127 hk2 _ _ _ _ _ _ h
        · skip
          exact kt_ChipMapModel_write_126 hk2 _ _ _ _ _ h
    · skip
      refine kp_if ?_ ?_
      · skip
        exact kt_ChipMapModel_write_127 hk2 _ _ _ _ _ _ h
      · skip
        exact kt_ChipMapModel_write_127 hk2 _ _ _ _ _ _ h
  · skip
    exact kt_ChipMapModel_write_128 hk2 _ _ _ _ h
theorem kt_ChipMapModel_write_73 {A : Mm} {kf2 : Mm → Int32 → Int32 → Int32 → Rs} (hk2 : ∀ (M : Mm) (b1 : Int32) (b2 : Int32) (b3 : Int32), kT A M → kp (kT A) (kf2 M b1 b2 b3)) (M : Mm) (v1 : Int32) (v2 : Int32) (v3 : Int32) (v4 : Int32) (v5 : Int32) (t0 : Int32) (t1 : Int32) (h : kT A M) : kp (kT A) (q_ChipMapModel_write_73 kf2 M v1 v2 v3 v4 v5 t0 t1) := by
  unfold q_ChipMapModel_write_73
  refine kp_ix ?_
  refine kp_st (kT.st h (by decide)) (fun m1 h2 => ?_)
  exact kt_ChipMapModel_write_74 hk2 _ _ _ _ _ _ h2
theorem kt_ChipMapModel_write_68 {A : Mm} {kf2 : Mm → Int32 → Int32 → Int32 → Rs} (hk2 : ∀ (M : Mm) (b1 : Int32) (b2 : Int32) (b3 : Int32), kT A M → kp (kT A) (kf2 M b1 b2 b3)) (M : Mm) (v1 : Int32) (v2 : Int32) (v3 : Int32) (v4 : Int32) (v5 : Int32) (t0 : Int32) (h : kT A M) : kp (kT A) (q_ChipMapModel_write_68 kf2 M v1 v2 v3 v4 v5 t0) := by
  unfold q_ChipMapModel_write_68
  exact kt_ChipMapModel_write_73 hk2 _ _ _ _ _ _ _ _ h
theorem kt_ChipMapModel_write_2 {A : Mm} : ∀ (n' : Nat) (M : Mm) (v1 : Int32) (v2 : Int32) (v3 : Int32), kT A M → kp (kT A) (q_ChipMapModel_write_2 n' M v1 v2 v3) := by
  intro n'
  induction n' with
  | zero =>
    intro M v1 v2 v3 h
    rw [q_ChipMapModel_write_2]
    exact kp_none
  | succ n' ih =>
    intro M v1 v2 v3 h
    rw [q_ChipMapModel_write_2]
    refine kp_if ?_ ?_
    · skip
      exact kt_ChipMapModel_write_136 4000 _ _ _ _ h
    · skip
      refine kp_ix ?_
      refine kp_cal (kt_ChipMapModel_isWritten _ _ _ _ h) (fun m1 r2 h3 => ?_)
      refine kp_ix ?_
      refine kp_cal (kt_ChipMapModel_isWritten _ _ _ _ h3) (fun m4 r5 h6 => ?_)
      refine kp_ix ?_
      refine kp_if ?_ ?_
      · skip
        refine kp_ix ?_
        refine kp_if ?_ ?_
        · skip
          refine kp_if ?_ ?_
          · skip
            exact kt_ChipMapModel_write_73 ih _ _ _ _ _ _ _ _ h6
          · skip
            exact kt_ChipMapModel_write_68 ih _ _ _ _ _ _ _ h6
        · skip
          exact kt_ChipMapModel_write_68 ih _ _ _ _ _ _ _ h6
      · skip
        exact kt_ChipMapModel_write_74 ih _ _ _ _ _ _ h6
theorem kt_ChipMapModel_write {A : Mm} (M : Mm) (a1 : Int32) (a2 : Int32) (h : kT A M) : kp (kT A) (q_ChipMapModel_write M a1 a2) := by
  unfold q_ChipMapModel_write
  exact kt_ChipMapModel_write_2 4000 _ _ _ _ h
theorem kt_ChipMapModel_read_119 {A : Mm} {kf4 : Mm → Int32 → Int32 → Int32 → Rs} (hk4 : ∀ (M : Mm) (b1 : Int32) (b2 : Int32) (b3 : Int32), kT A M → kp (kT A) (kf4 M b1 b2 b3)) (M : Mm) (v1 : Int32) (v2 : Int32) (v3 : Int32) (h : kT A M) : kp (kT A) (q_ChipMapModel_read_119 kf4 M v1 v2 v3) := by
  unfold q_ChipMapModel_read_119
  exact hk4 _ _ _ _ h
theorem kt_ChipMapModel_read_82 {A : Mm} {kf4 : Mm → Int32 → Int32 → Int32 → Rs} (hk4 : ∀ (M : Mm) (b1 : Int32) (b2 : Int32) (b3 : Int32), kT A M → kp (kT A) (kf4 M b1 b2 b3)) (M : Mm) (v1 : Int32) (v2 : Int32) (v3 : Int32) (h : kT A M) : kp (kT A) (q_ChipMapModel_read_82 kf4 M v1 v2 v3) := by
  unfold q_ChipMapModel_read_82
  refine kp_ix ?_
  refine kp_if ?_ ?_
  · skip
    refine kp_ix ?_
    refine kp_ix ?_
    refine kp_st (kT.st h (by decide)) (fun m1 h2 => ?_)
    refine kp_ix ?_
    refine kp_if ?_ ?_
    · skip
      exact kt_ChipMapModel_read_119 hk4 _ _ _ _ h2
    · skip
      refine kp_ix ?_
      refine kp_st (kT.st h2 (by decide)) (fun m3 h4 => ?_)
      exact kt_ChipMapModel_read_119 hk4 _ _ _ _ h4
  · skip
    exact kt_ChipMapModel_read_119 hk4 _ _ _ _ h
theorem kt_ChipMapModel_read_4 {A : Mm} : ∀ (n' : Nat) (M : Mm) (v1 : Int32) (v2 : Int32) (v3 : Int32), kT A M → kp (kT A) (q_ChipMapModel_read_4 n' M v1 v2 v3) := by
  intro n'
  induction n' with
  | zero =>
    intro M v1 v2 v3 h
    rw [q_ChipMapModel_read_4]
    exact kp_none
  | succ n' ih =>
    intro M v1 v2 v3 h
    rw [q_ChipMapModel_read_4]
    refine kp_if ?_ ?_
    · skip
      refine kp_cal (kt_ChipMapModel_trace _ _ _ _ h) (fun m1 r2 h3 => ?_)
      exact kp_some h3
    · skip
      refine kp_cal (kt_ChipMapModel_isIn _ _ _ h) (fun m4 r5 h6 => ?_)
      refine kp_if ?_ ?_
      · skip
        exact kt_ChipMapModel_read_119 ih _ _ _ _ h6
      · skip
        refine kp_ix ?_
        refine kp_if ?_ ?_
        · skip
          exact kt_ChipMapModel_read_119 ih _ _ _ _ h6
        · skip
          refine kp_ix ?_
          refine kp_ix ?_
          refine kp_lv (fun x7 => ?_)
          refine kp_ix ?_
          refine kp_if ?_ ?_
          · skip
            refine kp_ix ?_
            refine kp_ix ?_
            refine kp_ix ?_
            refine kp_st (kT.st h6 (by decide)) (fun m8 h9 => ?_)
            refine kp_ix ?_
            refine kp_st (kT.st h9 (by decide)) (fun m10 h11 => ?_)
            exact kt_ChipMapModel_read_82 ih _ _ _ _ h11
          · skip
            exact kt_ChipMapModel_read_82 ih _ _ _ _ h6
theorem kt_ChipMapModel_read {A : Mm} (M : Mm) (a1 : Int32) (h : kT A M) : kp (kT A) (q_ChipMapModel_read M a1) := by
  unfold q_ChipMapModel_read
  exact kt_ChipMapModel_read_4 4000 _ _ _ _ h
theorem kt_ChipMapModel_isThere {A : Mm} (M : Mm) (a1 : Int32) (h : kT A M) : kp (kT A) (q_ChipMapModel_isThere M a1) := by
  unfold q_ChipMapModel_isThere
  refine kp_ix ?_
  refine kp_if ?_ ?_
  · skip
    exact kp_some h
  · skip
    refine kp_ix ?_
    refine kp_ix ?_
    refine kp_ix ?_
    refine kp_if ?_ ?_
    · skip
      exact kp_some h
    · skip
      exact kp_some h
theorem kt_ChipMapModel_registerAt_30 {A : Mm} {kf2 : Mm → Int32 → Int32 → Rs} (hk2 : ∀ (M : Mm) (b1 : Int32) (b2 : Int32), kT A M → kp (kT A) (kf2 M b1 b2)) (M : Mm) (v1 : Int32) (v2 : Int32) (h : kT A M) : kp (kT A) (q_ChipMapModel_registerAt_30 kf2 M v1 v2) := by
  unfold q_ChipMapModel_registerAt_30
  exact hk2 _ _ _ h
theorem kt_ChipMapModel_registerAt_2 {A : Mm} : ∀ (n' : Nat) (M : Mm) (v1 : Int32) (v2 : Int32), kT A M → kp (kT A) (q_ChipMapModel_registerAt_2 n' M v1 v2) := by
  intro n'
  induction n' with
  | zero =>
    intro M v1 v2 h
    rw [q_ChipMapModel_registerAt_2]
    exact kp_none
  | succ n' ih =>
    intro M v1 v2 h
    rw [q_ChipMapModel_registerAt_2]
    refine kp_if ?_ ?_
    · skip
      exact kp_some h
    · skip
      refine kp_ix ?_
      refine kp_if ?_ ?_
      · skip
        refine kp_cal (kt_ChipMapModel_isThere _ _ h) (fun m1 r2 h3 => ?_)
        refine kp_if ?_ ?_
        · skip
          exact kt_ChipMapModel_registerAt_30 ih _ _ _ h3
        · skip
          exact kp_some h3
      · skip
        exact kt_ChipMapModel_registerAt_30 ih _ _ _ h
theorem kt_ChipMapModel_registerAt {A : Mm} (M : Mm) (a1 : Int32) (h : kT A M) : kp (kT A) (q_ChipMapModel_registerAt M a1) := by
  unfold q_ChipMapModel_registerAt
  exact kt_ChipMapModel_registerAt_2 4000 _ _ _ h
theorem kt_ChipMapModel_isField {A : Mm} (M : Mm) (a1 : Int32) (h : kT A M) : kp (kT A) (q_ChipMapModel_isField M a1) := by
  unfold q_ChipMapModel_isField
  refine kp_if ?_ ?_
  · skip
    exact kp_some h
  · skip
    refine kp_if ?_ ?_
    · skip
      exact kp_some h
    · skip
      refine kp_if ?_ ?_
      · skip
        exact kp_some h
      · skip
        refine kp_ix ?_
        refine kp_if ?_ ?_
        · skip
          exact kp_some h
        · skip
          exact kp_some h
theorem kt_ChipMapModel_isFit {A : Mm} (M : Mm) (a1 : Int32) (a2 : Int32) (h : kT A M) : kp (kT A) (q_ChipMapModel_isFit M a1 a2) := by
  unfold q_ChipMapModel_isFit
  refine kp_if ?_ ?_
  · skip
    exact kp_some h
  · skip
    refine kp_ix ?_
    refine kp_if ?_ ?_
    · skip
      exact kp_some h
    · skip
      exact kp_some h
theorem kt_ChipMapModel_field {A : Mm} (M : Mm) (a1 : Int32) (a2 : Int32) (h : kT A M) : kp (kT A) (q_ChipMapModel_field M a1 a2) := by
  unfold q_ChipMapModel_field
  refine kp_st (kT.s0 h (by decide)) (fun m1 h2 => ?_)
  refine kp_cal (kt_ChipMapModel_isField _ _ h2) (fun m3 r4 h5 => ?_)
  refine kp_if ?_ ?_
  · skip
    exact kp_some h5
  · skip
    refine kp_if ?_ ?_
    · skip
      exact kp_some h5
    · skip
      refine kp_if ?_ ?_
      · skip
        refine kp_if ?_ ?_
        · skip
          refine kp_ix ?_
          exact kp_some h5
        · skip
          refine kp_if ?_ ?_
          · skip
            refine kp_ix ?_
            exact kp_some h5
          · skip
            refine kp_if ?_ ?_
            · skip
              refine kp_ix ?_
              exact kp_some h5
            · skip
              refine kp_if ?_ ?_
              · skip
                refine kp_ix ?_
                exact kp_some h5
              · skip
                refine kp_ix ?_
                exact kp_some h5
      · skip
        exact kp_some h5
theorem kt_ChipMapModel_reset {A : Mm} (M : Mm) (h : kT A M) : kp (kT A) (q_ChipMapModel_reset M) := by
  unfold q_ChipMapModel_reset
  refine kp_st (kT.s0 h (by decide)) (fun m1 h2 => ?_)
  refine kp_if ?_ ?_
  · skip
    exact kp_some h2
  · skip
    refine kp_cal (kt_ChipMapModel_resetAll _ h2) (fun m3 r4 h5 => ?_)
    exact kp_some h5
theorem kt_ChipMapModel_busWrite_79 {A : Mm} {kf48 : Mm → Int32 → Int32 → Int32 → Int32 → Rs} (hk48 : ∀ (M : Mm) (b1 : Int32) (b2 : Int32) (b3 : Int32) (b4 : Int32), kT A M → kp (kT A) (kf48 M b1 b2 b3 b4)) (M : Mm) (v3 : Int32) (v4 : Int32) (v5 : Int32) (v6 : Int32) (t0 : Int32) (t1 : Int32) (h : kT A M) : kp (kT A) (q_ChipMapModel_busWrite_79 kf48 M v3 v4 v5 v6 t0 t1) := by
  unfold q_ChipMapModel_busWrite_79
  refine kp_st (kT.s0 h (by decide)) (fun m1 h2 => ?_)
  exact hk48 _ _ _ _ _ h2
theorem kt_ChipMapModel_busWrite_48 {A : Mm} : ∀ (n' : Nat) (M : Mm) (v3 : Int32) (v4 : Int32) (v5 : Int32) (v6 : Int32), kT A M → kp (kT A) (q_ChipMapModel_busWrite_48 n' M v3 v4 v5 v6) := by
  intro n'
  induction n' with
  | zero =>
    intro M v3 v4 v5 v6 h
    rw [q_ChipMapModel_busWrite_48]
    exact kp_none
  | succ n' ih =>
    intro M v3 v4 v5 v6 h
    rw [q_ChipMapModel_busWrite_48]
    refine kp_if ?_ ?_
    · skip
      refine kp_cal (kt_ChipMapModel_write _ _ _ h) (fun m1 r2 h3 => ?_)
      exact kp_some h3
    · skip
      refine kp_cal (kt_ChipMapModel_breaks _ _ _ _ h) (fun m4 r5 h6 => ?_)
      refine kp_if ?_ ?_
      · skip
        exact kt_ChipMapModel_busWrite_79 ih _ _ _ _ _ _ _ h6
      · skip
        exact kt_ChipMapModel_busWrite_79 ih _ _ _ _ _ _ _ h6
theorem kt_ChipMapModel_busWrite_21 {A : Mm} (M : Mm) (v2 : Int32) (t0 : Int32) (h : kT A M) : kp (kT A) (q_ChipMapModel_busWrite_21 M v2 t0) := by
  unfold q_ChipMapModel_busWrite_21
  refine kp_if ?_ ?_
  · skip
    exact kp_some h
  · skip
    refine kp_lv (fun x1 => ?_)
    refine kp_cal (kt_ChipMapModel_firstBroken _ _ _ h) (fun m2 r3 h4 => ?_)
    exact kt_ChipMapModel_busWrite_48 4000 _ _ _ _ _ h4
theorem kt_ChipMapModel_busWrite {A : Mm} (M : Mm) (a1 : Int32) (a2 : Int32) (h : kT A M) : kp (kT A) (q_ChipMapModel_busWrite M a1 a2) := by
  unfold q_ChipMapModel_busWrite
  refine kp_st (kT.s0 h (by decide)) (fun m1 h2 => ?_)
  refine kp_if ?_ ?_
  · skip
    exact kt_ChipMapModel_busWrite_21 _ _ _ h2
  · skip
    refine kp_cal (kt_ChipMapModel_registerAt _ _ h2) (fun m3 r4 h5 => ?_)
    exact kt_ChipMapModel_busWrite_21 _ _ _ h5
theorem kt_ChipMapModel_busRead_21 {A : Mm} (M : Mm) (t0 : Int32) (h : kT A M) : kp (kT A) (q_ChipMapModel_busRead_21 M t0) := by
  unfold q_ChipMapModel_busRead_21
  refine kp_if ?_ ?_
  · skip
    exact kp_some h
  · skip
    refine kp_cal (kt_ChipMapModel_read _ _ h) (fun m1 r2 h3 => ?_)
    exact kp_some h3
theorem kt_ChipMapModel_busRead {A : Mm} (M : Mm) (a1 : Int32) (h : kT A M) : kp (kT A) (q_ChipMapModel_busRead M a1) := by
  unfold q_ChipMapModel_busRead
  refine kp_st (kT.s0 h (by decide)) (fun m1 h2 => ?_)
  refine kp_if ?_ ?_
  · skip
    exact kt_ChipMapModel_busRead_21 _ _ h2
  · skip
    refine kp_cal (kt_ChipMapModel_registerAt _ _ h2) (fun m3 r4 h5 => ?_)
    exact kt_ChipMapModel_busRead_21 _ _ h5
theorem kt_ChipMapModel_poke_46 {A : Mm} (M : Mm) (v1 : Int32) (v2 : Int32) (h : kT A M) : kp (kT A) (q_ChipMapModel_poke_46 M v1 v2) := by
  unfold q_ChipMapModel_poke_46
  refine kp_cal (kt_ChipMapModel_isFit _ _ _ h) (fun m1 r2 h3 => ?_)
  refine kp_if ?_ ?_
  · skip
    exact kp_some h3
  · skip
    refine kp_ix ?_
    refine kp_st (kT.st h3 (by decide)) (fun m4 h5 => ?_)
    exact kp_some h5
theorem kt_ChipMapModel_poke {A : Mm} (M : Mm) (a1 : Int32) (a2 : Int32) (h : kT A M) : kp (kT A) (q_ChipMapModel_poke M a1 a2) := by
  unfold q_ChipMapModel_poke
  refine kp_st (kT.s0 h (by decide)) (fun m1 h2 => ?_)
  refine kp_cal (kt_ChipMapModel_isField _ _ h2) (fun m3 r4 h5 => ?_)
  refine kp_if ?_ ?_
  · skip
    exact kp_some h5
  · skip
    refine kp_ix ?_
    refine kp_if ?_ ?_
    · skip
      exact kt_ChipMapModel_poke_46 _ _ _ h5
    · skip
      refine kp_ix ?_
      refine kp_if ?_ ?_
      · skip
        exact kt_ChipMapModel_poke_46 _ _ _ h5
      · skip
        refine kp_ix ?_
        refine kp_if ?_ ?_
        · skip
          exact kt_ChipMapModel_poke_46 _ _ _ h5
        · skip
          exact kp_some h5
theorem kt_ChipMapModel_still_45 {A : Mm} {kf4 : Mm → Int32 → Int32 → Int32 → Rs} (hk4 : ∀ (M : Mm) (b1 : Int32) (b2 : Int32) (b3 : Int32), kT A M → kp (kT A) (kf4 M b1 b2 b3)) (M : Mm) (v1 : Int32) (v3 : Int32) (t0 : Int32) (t1 : Int32) (h : kT A M) : kp (kT A) (q_ChipMapModel_still_45 kf4 M v1 v3 t0 t1) := by
  unfold q_ChipMapModel_still_45
  refine kp_lv (fun x1 => ?_)
  exact hk4 _ _ _ _ h
theorem kt_ChipMapModel_still_44 {A : Mm} {kf4 : Mm → Int32 → Int32 → Int32 → Rs} (hk4 : ∀ (M : Mm) (b1 : Int32) (b2 : Int32) (b3 : Int32), kT A M → kp (kT A) (kf4 M b1 b2 b3)) (M : Mm) (v1 : Int32) (v3 : Int32) (t0 : Int32) (h : kT A M) : kp (kT A) (q_ChipMapModel_still_44 kf4 M v1 v3 t0) := by
  unfold q_ChipMapModel_still_44
  exact kt_ChipMapModel_still_45 hk4 _ _ _ _ _ h
theorem kt_ChipMapModel_still_4 {A : Mm} : ∀ (n' : Nat) (M : Mm) (v1 : Int32) (v2 : Int32) (v3 : Int32), kT A M → kp (kT A) (q_ChipMapModel_still_4 n' M v1 v2 v3) := by
  intro n'
  induction n' with
  | zero =>
    intro M v1 v2 v3 h
    rw [q_ChipMapModel_still_4]
    exact kp_none
  | succ n' ih =>
    intro M v1 v2 v3 h
    rw [q_ChipMapModel_still_4]
    refine kp_if ?_ ?_
    · skip
      exact kp_some h
    · skip
      refine kp_cal (kt_ChipMapModel_isIn _ _ _ h) (fun m1 r2 h3 => ?_)
      refine kp_if ?_ ?_
      · skip
        exact kt_ChipMapModel_still_44 ih _ _ _ _ h3
      · skip
        refine kp_cal (kt_ChipMapModel_isStored _ _ h3) (fun m4 r5 h6 => ?_)
        refine kp_if ?_ ?_
        · skip
          exact kt_ChipMapModel_still_44 ih _ _ _ _ h6
        · skip
          refine kp_ix ?_
          refine kp_ix ?_
          exact kt_ChipMapModel_still_45 ih _ _ _ _ _ h6
theorem kt_ChipMapModel_still {A : Mm} (M : Mm) (a1 : Int32) (h : kT A M) : kp (kT A) (q_ChipMapModel_still M a1) := by
  unfold q_ChipMapModel_still
  exact kt_ChipMapModel_still_4 4000 _ _ _ _ h
theorem kt_ChipMapModel_with {A : Mm} (M : Mm) (a1 : Int32) (a2 : Int32) (a3 : Int32) (h : kT A M) : kp (kT A) (q_ChipMapModel_with M a1 a2 a3) := by
  unfold q_ChipMapModel_with
  refine kp_ix ?_
  refine kp_ix ?_
  refine kp_ix ?_
  exact kp_some h
theorem kt_ChipMapModel_operate {A : Mm} (M : Mm) (a1 : Int32) (a2 : Int32) (h : kT A M) : kp (kT A) (q_ChipMapModel_operate M a1 a2) := by
  unfold q_ChipMapModel_operate
  refine kp_if ?_ ?_
  · skip
    refine kp_cal (kt_ChipMapModel_firstBroken _ _ _ h) (fun m1 r2 h3 => ?_)
    refine kp_if ?_ ?_
    · skip
      refine kp_cal (kt_ChipMapModel_write _ _ _ h3) (fun m4 r5 h6 => ?_)
      exact kp_some h6
    · skip
      refine kp_st (kT.s0 h3 (by decide)) (fun m7 h8 => ?_)
      refine kp_st (kT.s0 h8 (by decide)) (fun m9 h10 => ?_)
      exact kp_some h10
  · skip
    exact kp_some h
theorem kt_ChipMapModel_reach {A : Mm} (M : Mm) (a1 : Int32) (h : kT A M) : kp (kT A) (q_ChipMapModel_reach M a1) := by
  unfold q_ChipMapModel_reach
  refine kp_cal (kt_ChipMapModel_isThere _ _ h) (fun m1 r2 h3 => ?_)
  refine kp_if ?_ ?_
  · skip
    refine kp_ix ?_
    refine kp_lv (fun x4 => ?_)
    refine kp_ix ?_
    refine kp_ix ?_
    refine kp_cal (kt_ChipMapModel_still _ _ h3) (fun m5 r6 h7 => ?_)
    refine kp_ix ?_
    refine kp_cal (kt_ChipMapModel_with _ _ _ _ h7) (fun m8 r9 h10 => ?_)
    refine kp_cal (kt_ChipMapModel_operate _ _ _ h10) (fun m11 r12 h13 => ?_)
    exact kp_some h13
  · skip
    exact kp_some h3
theorem kt_ChipMapModel_isPut {A : Mm} (M : Mm) (a1 : Int32) (a2 : Int32) (h : kT A M) : kp (kT A) (q_ChipMapModel_isPut M a1 a2) := by
  unfold q_ChipMapModel_isPut
  refine kp_cal (kt_ChipMapModel_isField _ _ h) (fun m1 r2 h3 => ?_)
  refine kp_if ?_ ?_
  · skip
    exact kp_some h3
  · skip
    refine kp_ix ?_
    refine kp_if ?_ ?_
    · skip
      exact kp_some h3
    · skip
      refine kp_ix ?_
      refine kp_if ?_ ?_
      · skip
        exact kp_some h3
      · skip
        refine kp_cal (kt_ChipMapModel_isFit _ _ _ h3) (fun m4 r5 h6 => ?_)
        refine kp_if ?_ ?_
        · skip
          exact kp_some h6
        · skip
          exact kp_some h6
theorem kt_ChipMapModel_doPut_19 {A : Mm} (M : Mm) (v1 : Int32) (v2 : Int32) (h : kT A M) : kp (kT A) (q_ChipMapModel_doPut_19 M v1 v2) := by
  unfold q_ChipMapModel_doPut_19
  refine kp_ix ?_
  refine kp_cal (kt_ChipMapModel_reach _ _ h) (fun m1 r2 h3 => ?_)
  refine kp_ix ?_
  refine kp_ix ?_
  refine kp_cal (kt_ChipMapModel_still _ _ h3) (fun m4 r5 h6 => ?_)
  refine kp_cal (kt_ChipMapModel_with _ _ _ _ h6) (fun m7 r8 h9 => ?_)
  refine kp_cal (kt_ChipMapModel_operate _ _ _ h9) (fun m10 r11 h12 => ?_)
  exact kp_some h12
theorem kt_ChipMapModel_doPut {A : Mm} (M : Mm) (a1 : Int32) (a2 : Int32) (h : kT A M) : kp (kT A) (q_ChipMapModel_doPut M a1 a2) := by
  unfold q_ChipMapModel_doPut
  refine kp_cal (kt_ChipMapModel_isStored _ _ h) (fun m1 r2 h3 => ?_)
  refine kp_if ?_ ?_
  · skip
    exact kt_ChipMapModel_doPut_19 _ _ _ h3
  · skip
    refine kp_ix ?_
    refine kp_if ?_ ?_
    · skip
      exact kp_some h3
    · skip
      exact kt_ChipMapModel_doPut_19 _ _ _ h3
theorem kt_ChipMapModel_isFetch {A : Mm} (M : Mm) (a1 : Int32) (h : kT A M) : kp (kT A) (q_ChipMapModel_isFetch M a1) := by
  unfold q_ChipMapModel_isFetch
  refine kp_cal (kt_ChipMapModel_isField _ _ h) (fun m1 r2 h3 => ?_)
  refine kp_if ?_ ?_
  · skip
    exact kp_some h3
  · skip
    refine kp_ix ?_
    refine kp_if ?_ ?_
    · skip
      exact kp_some h3
    · skip
      exact kp_some h3
theorem kt_ChipMapModel_doFetch {A : Mm} (M : Mm) (a1 : Int32) (h : kT A M) : kp (kT A) (q_ChipMapModel_doFetch M a1) := by
  unfold q_ChipMapModel_doFetch
  refine kp_ix ?_
  refine kp_st (kT.s0 h (by decide)) (fun m1 h2 => ?_)
  refine kp_ix ?_
  refine kp_if ?_ ?_
  · skip
    exact kp_some h2
  · skip
    refine kp_ix ?_
    refine kp_cal (kt_ChipMapModel_reach _ _ h2) (fun m3 r4 h5 => ?_)
    refine kp_if ?_ ?_
    · skip
      refine kp_ix ?_
      refine kp_st (kT.s0 h5 (by decide)) (fun m6 h7 => ?_)
      refine kp_ix ?_
      refine kp_cal (kt_ChipMapModel_read _ _ h7) (fun m8 r9 h10 => ?_)
      refine kp_ix ?_
      refine kp_if ?_ ?_
      · skip
        refine kp_ix ?_
        refine kp_st (kT.s0 h10 (by decide)) (fun m11 h12 => ?_)
        refine kp_ix ?_
        refine kp_st (kT.st h12 (by decide)) (fun m13 h14 => ?_)
        exact kp_some h14
      · skip
        exact kp_some h10
    · skip
      exact kp_some h5
theorem kt_ChipMapModel_begin_21 {A : Mm} : ∀ (n' : Nat) (M : Mm) (v1 : Int32), kT A M → kp (kT A) (q_ChipMapModel_begin_21 n' M v1) := by
  intro n'
  induction n' with
  | zero =>
    intro M v1 h
    rw [q_ChipMapModel_begin_21]
    exact kp_none
  | succ n' ih =>
    intro M v1 h
    rw [q_ChipMapModel_begin_21]
    refine kp_if ?_ ?_
    · skip
      exact kp_some h
    · skip
      refine kp_ix ?_
      refine kp_ix ?_
      refine kp_st (kT.st h (by decide)) (fun m1 h2 => ?_)
      refine kp_ix ?_
      refine kp_ix ?_
      refine kp_st (kT.st h2 (by decide)) (fun m3 h4 => ?_)
      refine kp_ix ?_
      refine kp_ix ?_
      refine kp_st (kT.st h4 (by decide)) (fun m5 h6 => ?_)
      exact ih _ _ h6
theorem kt_ChipMapModel_begin {A : Mm} (M : Mm) (h : kT A M) : kp (kT A) (q_ChipMapModel_begin M) := by
  unfold q_ChipMapModel_begin
  refine kp_st (kT.s0 h (by decide)) (fun m1 h2 => ?_)
  refine kp_cal (kt_ChipMapModel_copyDevice _ _ _ h2) (fun m3 r4 h5 => ?_)
  refine kp_st (kT.s0 h5 (by decide)) (fun m6 h7 => ?_)
  exact kt_ChipMapModel_begin_21 4000 _ _ h7
theorem kt_ChipMapModel_end_33 {A : Mm} : ∀ (n' : Nat) (M : Mm) (v1 : Int32), kT A M → kp (kT A) (q_ChipMapModel_end_33 n' M v1) := by
  intro n'
  induction n' with
  | zero =>
    intro M v1 h
    rw [q_ChipMapModel_end_33]
    exact kp_none
  | succ n' ih =>
    intro M v1 h
    rw [q_ChipMapModel_end_33]
    refine kp_if ?_ ?_
    · skip
      exact kp_some h
    · skip
      refine kp_ix ?_
      refine kp_ix ?_
      refine kp_st (kT.st h (by decide)) (fun m1 h2 => ?_)
      refine kp_ix ?_
      refine kp_ix ?_
      refine kp_st (kT.st h2 (by decide)) (fun m3 h4 => ?_)
      refine kp_ix ?_
      refine kp_ix ?_
      refine kp_st (kT.st h4 (by decide)) (fun m5 h6 => ?_)
      exact ih _ _ h6
theorem kt_ChipMapModel_end {A : Mm} (M : Mm) (h : kT A M) : kp (kT A) (q_ChipMapModel_end M) := by
  unfold q_ChipMapModel_end
  refine kp_if ?_ ?_
  · skip
    exact kp_some h
  · skip
    refine kp_cal (kt_ChipMapModel_copyDevice _ _ _ h) (fun m1 r2 h3 => ?_)
    refine kp_st (kT.s0 h3 (by decide)) (fun m4 h5 => ?_)
    exact kt_ChipMapModel_end_33 4000 _ _ h5
theorem kt_ChipMapModel_put {A : Mm} (M : Mm) (a1 : Int32) (a2 : Int32) (h : kT A M) : kp (kT A) (q_ChipMapModel_put M a1 a2) := by
  unfold q_ChipMapModel_put
  refine kp_st (kT.s0 h (by decide)) (fun m1 h2 => ?_)
  refine kp_cal (kt_ChipMapModel_isPut _ _ _ h2) (fun m3 r4 h5 => ?_)
  refine kp_if ?_ ?_
  · skip
    exact kp_some h5
  · skip
    refine kp_if ?_ ?_
    · skip
      refine kp_cal (kt_ChipMapModel_begin _ h5) (fun m6 r7 h8 => ?_)
      refine kp_cal (kt_ChipMapModel_doPut _ _ _ h8) (fun m9 r10 h11 => ?_)
      refine kp_cal (kt_ChipMapModel_end _ h11) (fun m12 r13 h14 => ?_)
      exact kp_some h14
    · skip
      exact kp_some h5
theorem kt_ChipMapModel_fetch_51 {A : Mm} (M : Mm) (t0 : Int32) (h : kT A M) : kp (kT A) (q_ChipMapModel_fetch_51 M t0) := by
  unfold q_ChipMapModel_fetch_51
  refine kp_st (kT.s0 h (by decide)) (fun m1 h2 => ?_)
  refine kp_if ?_ ?_
  · skip
    exact kp_some h2
  · skip
    exact kp_some h2
theorem kt_ChipMapModel_fetch {A : Mm} (M : Mm) (a1 : Int32) (h : kT A M) : kp (kT A) (q_ChipMapModel_fetch M a1) := by
  unfold q_ChipMapModel_fetch
  refine kp_cal (kt_ChipMapModel_isFetch _ _ h) (fun m1 r2 h3 => ?_)
  refine kp_if ?_ ?_
  · skip
    refine kp_cal (kt_ChipMapModel_raise _ _ h3) (fun m4 r5 h6 => ?_)
    exact kp_some h6
  · skip
    refine kp_if ?_ ?_
    · skip
      refine kp_cal (kt_ChipMapModel_begin _ h3) (fun m7 r8 h9 => ?_)
      refine kp_cal (kt_ChipMapModel_doFetch _ _ h9) (fun m10 r11 h12 => ?_)
      refine kp_cal (kt_ChipMapModel_end _ h12) (fun m13 r14 h15 => ?_)
      refine kp_if ?_ ?_
      · skip
        exact kt_ChipMapModel_fetch_51 _ _ h15
      · skip
        exact kt_ChipMapModel_fetch_51 _ _ h15
    · skip
      refine kp_cal (kt_ChipMapModel_raise _ _ h3) (fun m16 r17 h18 => ?_)
      exact kp_some h18
theorem kt_ChipMapModel_join {A : Mm} (M : Mm) (a1 : Int32) (a2 : Int32) (h : kT A M) : kp (kT A) (q_ChipMapModel_join M a1 a2) := by
  unfold q_ChipMapModel_join
  refine kp_st (kT.s0 h (by decide)) (fun m1 h2 => ?_)
  refine kp_cal (kt_ChipMapModel_isPut _ _ _ h2) (fun m3 r4 h5 => ?_)
  refine kp_if ?_ ?_
  · skip
    exact kp_some h5
  · skip
    refine kp_if ?_ ?_
    · skip
      exact kp_some h5
    · skip
      refine kp_ix ?_
      refine kp_st (kT.st h5 (by decide)) (fun m6 h7 => ?_)
      refine kp_ix ?_
      refine kp_st (kT.st h7 (by decide)) (fun m8 h9 => ?_)
      refine kp_st (kT.s0 h9 (by decide)) (fun m10 h11 => ?_)
      exact kp_some h11
theorem kt_ChipMapModel_flushRegister_200 {A : Mm} {kf126 : Mm → Int32 → Int32 → Int32 → Rs} (hk126 : ∀ (M : Mm) (b1 : Int32) (b2 : Int32) (b3 : Int32), kT A M → kp (kT A) (kf126 M b1 b2 b3)) (M : Mm) (v1 : Int32) (v3 : Int32) (v4 : Int32) (h : kT A M) : kp (kT A) (q_ChipMapModel_flushRegister_200 kf126 M v1 v3 v4) := by
  unfold q_ChipMapModel_flushRegister_200
  exact hk126 _ _ _ _ h
theorem kt_ChipMapModel_flushRegister_196 {A : Mm} {kf126 : Mm → Int32 → Int32 → Int32 → Rs} (hk126 : ∀ (M : Mm) (b1 : Int32) (b2 : Int32) (b3 : Int32), kT A M → kp (kT A) (kf126 M b1 b2 b3)) (M : Mm) (v1 : Int32) (v4 : Int32) (t0 : Int32) (t1 : Int32) (t2 : Int32) (h : kT A M) : kp (kT A) (q_ChipMapModel_flushRegister_196 kf126 M v1 v4 t0 t1 t2) := by
  unfold q_ChipMapModel_flushRegister_196
  refine kp_cal (kt_ChipMapModel_with _ _ _ _ h) (fun m1 r2 h3 => ?_)
  exact kt_ChipMapModel_flushRegister_200 hk126 _ _ _ _ h3
theorem kt_ChipMapModel_flushRegister_126 {A : Mm} : ∀ (n' : Nat) (M : Mm) (v1 : Int32) (v3 : Int32) (v4 : Int32), kT A M → kp (kT A) (q_ChipMapModel_flushRegister_126 n' M v1 v3 v4) := by
  intro n'
  induction n' with
  | zero =>
    intro M v1 v3 v4 h
    rw [q_ChipMapModel_flushRegister_126]
    exact kp_none
  | succ n' ih =>
    intro M v1 v3 v4 h
    rw [q_ChipMapModel_flushRegister_126]
    refine kp_if ?_ ?_
    · skip
      refine kp_cal (kt_ChipMapModel_operate _ _ _ h) (fun m1 r2 h3 => ?_)
      exact kp_some h3
    · skip
      refine kp_ix ?_
      refine kp_lv (fun x4 => ?_)
      refine kp_ix ?_
      refine kp_if ?_ ?_
      · skip
        refine kp_cal (kt_ChipMapModel_isStored _ _ h) (fun m5 r6 h7 => ?_)
        refine kp_if ?_ ?_
        · skip
          refine kp_cal (kt_ChipMapModel_part _ _ _ h7) (fun m8 r9 h10 => ?_)
          refine kp_ix ?_
          exact kt_ChipMapModel_flushRegister_196 ih _ _ _ _ _ _ h10
        · skip
          refine kp_ix ?_
          exact kt_ChipMapModel_flushRegister_196 ih _ _ _ _ _ _ h7
      · skip
        exact kt_ChipMapModel_flushRegister_200 ih _ _ _ _ h
theorem kt_ChipMapModel_flushRegister_101 {A : Mm} {kf4 : Mm → Int32 → Int32 → Int32 → Rs} (hk4 : ∀ (M : Mm) (b1 : Int32) (b2 : Int32) (b3 : Int32), kT A M → kp (kT A) (kf4 M b1 b2 b3)) (M : Mm) (v1 : Int32) (v2 : Int32) (v3 : Int32) (h : kT A M) : kp (kT A) (q_ChipMapModel_flushRegister_101 kf4 M v1 v2 v3) := by
  unfold q_ChipMapModel_flushRegister_101
  exact hk4 _ _ _ _ h
theorem kt_ChipMapModel_flushRegister_100 {A : Mm} {kf4 : Mm → Int32 → Int32 → Int32 → Rs} (hk4 : ∀ (M : Mm) (b1 : Int32) (b2 : Int32) (b3 : Int32), kT A M → kp (kT A) (kf4 M b1 b2 b3)) (M : Mm) (v1 : Int32) (v3 : Int32) (t0 : Int32) (h : kT A M) : kp (kT A) (q_ChipMapModel_flushRegister_100 kf4 M v1 v3 t0) := by
  unfold q_ChipMapModel_flushRegister_100
  exact kt_ChipMapModel_flushRegister_101 hk4 _ _ _ _ h
theorem kt_ChipMapModel_flushRegister_95 {A : Mm} {kf4 : Mm → Int32 → Int32 → Int32 → Rs} (hk4 : ∀ (M : Mm) (b1 : Int32) (b2 : Int32) (b3 : Int32), kT A M → kp (kT A) (kf4 M b1 b2 b3)) (M : Mm) (v1 : Int32) (v3 : Int32) (h : kT A M) : kp (kT A) (q_ChipMapModel_flushRegister_95 kf4 M v1 v3) := by
  unfold q_ChipMapModel_flushRegister_95
  exact kt_ChipMapModel_flushRegister_100 hk4 _ _ _ _ h
theorem kt_ChipMapModel_flushRegister_43 {A : Mm} {kf4 : Mm → Int32 → Int32 → Int32 → Rs} (hk4 : ∀ (M : Mm) (b1 : Int32) (b2 : Int32) (b3 : Int32), kT A M → kp (kT A) (kf4 M b1 b2 b3)) {kf16 : Mm → Int32 → Int32 → Int32 → Int32 → Int32 → Rs} (hk16 : ∀ (M : Mm) (b1 : Int32) (b2 : Int32) (b3 : Int32) (b4 : Int32) (b5 : Int32), kT A M → kp (kT A) (kf16 M b1 b2 b3 b4 b5)) (M : Mm) (v1 : Int32) (v2 : Int32) (v3 : Int32) (v5 : Int32) (t0 : Int32) (h : kT A M) : kp (kT A) (q_ChipMapModel_flushRegister_43 kf4 kf16 M v1 v2 v3 v5 t0) := by
  unfold q_ChipMapModel_flushRegister_43
  exact hk16 _ _ _ _ _ _ h
theorem kt_ChipMapModel_flushRegister_16 {A : Mm} {kf4 : Mm → Int32 → Int32 → Int32 → Rs} (hk4 : ∀ (M : Mm) (b1 : Int32) (b2 : Int32) (b3 : Int32), kT A M → kp (kT A) (kf4 M b1 b2 b3)) : ∀ (n' : Nat) (M : Mm) (v1 : Int32) (v2 : Int32) (v3 : Int32) (v4 : Int32) (v5 : Int32), kT A M → kp (kT A) (q_ChipMapModel_flushRegister_16 kf4 n' M v1 v2 v3 v4 v5) := by
  intro n'
  induction n' with
  | zero =>
    intro M v1 v2 v3 v4 v5 h
    rw [q_ChipMapModel_flushRegister_16]
    exact kp_none
  | succ n' ih =>
    intro M v1 v2 v3 v4 v5 h
    rw [q_ChipMapModel_flushRegister_16]
    refine kp_if ?_ ?_
    · skip
      refine kp_if ?_ ?_
      · skip
        exact kt_ChipMapModel_flushRegister_101 hk4 _ _ _ _ h
      · skip
        refine kp_ix ?_
        refine kp_if ?_ ?_
        · skip
          refine kp_if ?_ ?_
          · skip
            refine kp_cal (kt_ChipMapModel_isStored _ _ h) (fun m1 r2 h3 => ?_)
            refine kp_if ?_ ?_
            · skip
              exact kt_ChipMapModel_flushRegister_95 hk4 _ _ _ h3
            · skip
              refine kp_ix ?_
              refine kp_ix ?_
              refine kp_if ?_ ?_
              · skip
                exact kt_ChipMapModel_flushRegister_100 hk4 _ _ _ _ h3
              · skip
                exact kt_ChipMapModel_flushRegister_95 hk4 _ _ _ h3
          · skip
            exact kt_ChipMapModel_flushRegister_95 hk4 _ _ _ h
        · skip
          exact kt_ChipMapModel_flushRegister_101 hk4 _ _ _ _ h
    · skip
      refine kp_ix ?_
      refine kp_if ?_ ?_
      · skip
        exact kt_ChipMapModel_flushRegister_43 hk4 ih _ _ _ _ _ _ h
      · skip
        exact kt_ChipMapModel_flushRegister_43 hk4 ih _ _ _ _ _ _ h
theorem kt_ChipMapModel_flushRegister_4 {A : Mm} : ∀ (n' : Nat) (M : Mm) (v1 : Int32) (v2 : Int32) (v3 : Int32), kT A M → kp (kT A) (q_ChipMapModel_flushRegister_4 n' M v1 v2 v3) := by
  intro n'
  induction n' with
  | zero =>
    intro M v1 v2 v3 h
    rw [q_ChipMapModel_flushRegister_4]
    exact kp_none
  | succ n' ih =>
    intro M v1 v2 v3 h
    rw [q_ChipMapModel_flushRegister_4]
    refine kp_if ?_ ?_
    · skip
      refine kp_if ?_ ?_
      · skip
        exact kp_some h
      · skip
        refine kp_cal (kt_ChipMapModel_reach _ _ h) (fun m1 r2 h3 => ?_)
        refine kp_cal (kt_ChipMapModel_still _ _ h3) (fun m4 r5 h6 => ?_)
        exact kt_ChipMapModel_flushRegister_126 4000 _ _ _ _ h6
    · skip
      refine kp_lv (fun x7 => ?_)
      exact kt_ChipMapModel_flushRegister_16 ih 4000 _ _ _ _ _ _ h
theorem kt_ChipMapModel_flushRegister {A : Mm} (M : Mm) (a1 : Int32) (h : kT A M) : kp (kT A) (q_ChipMapModel_flushRegister M a1) := by
  unfold q_ChipMapModel_flushRegister
  exact kt_ChipMapModel_flushRegister_4 4000 _ _ _ _ h
theorem kt_ChipMapModel_flush_88 {A : Mm} {kf11 : Mm → Int32 → Rs} (hk11 : ∀ (M : Mm) (b1 : Int32), kT A M → kp (kT A) (kf11 M b1)) (M : Mm) (v1 : Int32) (h : kT A M) : kp (kT A) (q_ChipMapModel_flush_88 kf11 M v1) := by
  unfold q_ChipMapModel_flush_88
  exact hk11 _ _ h
theorem kt_ChipMapModel_flush_62 {A : Mm} {kf11 : Mm → Int32 → Rs} (hk11 : ∀ (M : Mm) (b1 : Int32), kT A M → kp (kT A) (kf11 M b1)) {kf23 : Mm → Int32 → Int32 → Int32 → Rs} (hk23 : ∀ (M : Mm) (b1 : Int32) (b2 : Int32) (b3 : Int32), kT A M → kp (kT A) (kf23 M b1 b2 b3)) (M : Mm) (v1 : Int32) (v3 : Int32) (t0 : Int32) (h : kT A M) : kp (kT A) (q_ChipMapModel_flush_62 kf11 kf23 M v1 v3 t0) := by
  unfold q_ChipMapModel_flush_62
  exact hk23 _ _ _ _ h
theorem kt_ChipMapModel_flush_57 {A : Mm} {kf11 : Mm → Int32 → Rs} (hk11 : ∀ (M : Mm) (b1 : Int32), kT A M → kp (kT A) (kf11 M b1)) {kf23 : Mm → Int32 → Int32 → Int32 → Rs} (hk23 : ∀ (M : Mm) (b1 : Int32) (b2 : Int32) (b3 : Int32), kT A M → kp (kT A) (kf23 M b1 b2 b3)) (M : Mm) (v1 : Int32) (v3 : Int32) (h : kT A M) : kp (kT A) (q_ChipMapModel_flush_57 kf11 kf23 M v1 v3) := by
  unfold q_ChipMapModel_flush_57
  exact kt_ChipMapModel_flush_62 hk11 hk23 _ _ _ _ h
theorem kt_ChipMapModel_flush_23 {A : Mm} {kf11 : Mm → Int32 → Rs} (hk11 : ∀ (M : Mm) (b1 : Int32), kT A M → kp (kT A) (kf11 M b1)) : ∀ (n' : Nat) (M : Mm) (v1 : Int32) (v2 : Int32) (v3 : Int32), kT A M → kp (kT A) (q_ChipMapModel_flush_23 kf11 n' M v1 v2 v3) := by
  intro n'
  induction n' with
  | zero =>
    intro M v1 v2 v3 h
    rw [q_ChipMapModel_flush_23]
    exact kp_none
  | succ n' ih =>
    intro M v1 v2 v3 h
    rw [q_ChipMapModel_flush_23]
    refine kp_if ?_ ?_
    · skip
      refine kp_if ?_ ?_
      · skip
        refine kp_ix ?_
        refine kp_ix ?_
        refine kp_cal (kt_ChipMapModel_flushRegister _ _ h) (fun m1 r2 h3 => ?_)
        exact kt_ChipMapModel_flush_88 hk11 _ _ h3
      · skip
        exact kt_ChipMapModel_flush_88 hk11 _ _ h
    · skip
      refine kp_if ?_ ?_
      · skip
        refine kp_ix ?_
        refine kp_ix ?_
        refine kp_ix ?_
        refine kp_ix ?_
        refine kp_if ?_ ?_
        · skip
          exact kt_ChipMapModel_flush_57 hk11 ih _ _ _ h
        · skip
          exact kt_ChipMapModel_flush_62 hk11 ih _ _ _ _ h
      · skip
        exact kt_ChipMapModel_flush_57 hk11 ih _ _ _ h
theorem kt_ChipMapModel_flush_11 {A : Mm} : ∀ (n' : Nat) (M : Mm) (v1 : Int32), kT A M → kp (kT A) (q_ChipMapModel_flush_11 n' M v1) := by
  intro n'
  induction n' with
  | zero =>
    intro M v1 h
    rw [q_ChipMapModel_flush_11]
    exact kp_none
  | succ n' ih =>
    intro M v1 h
    rw [q_ChipMapModel_flush_11]
    refine kp_if ?_ ?_
    · skip
      refine kp_cal (kt_ChipMapModel_end _ h) (fun m1 r2 h3 => ?_)
      refine kp_if ?_ ?_
      · skip
        exact kp_some h3
      · skip
        refine kp_st (kT.s0 h3 (by decide)) (fun m4 h5 => ?_)
        exact kp_some h5
    · skip
      exact kt_ChipMapModel_flush_23 ih 4000 _ _ _ _ h
theorem kt_ChipMapModel_flush {A : Mm} (M : Mm) (h : kT A M) : kp (kT A) (q_ChipMapModel_flush M) := by
  unfold q_ChipMapModel_flush
  refine kp_st (kT.s0 h (by decide)) (fun m1 h2 => ?_)
  refine kp_cal (kt_ChipMapModel_begin _ h2) (fun m3 r4 h5 => ?_)
  exact kt_ChipMapModel_flush_11 4000 _ _ h5
theorem kt_ChipMapModel_drop {A : Mm} (M : Mm) (h : kT A M) : kp (kT A) (q_ChipMapModel_drop M) := by
  unfold q_ChipMapModel_drop
  refine kp_st (kT.s0 h (by decide)) (fun m1 h2 => ?_)
  refine kp_lv (fun x3 => ?_)
  refine kp_st (kT.s0 h2 (by decide)) (fun m4 h5 => ?_)
  exact kp_some h5
theorem kt_ChipMapModel_trace_1 {A : Mm} (M : Mm) (a1 : Int32) (a2 : Int32) (h : kT A M) : kp (kT A) (q_ChipMapModel_trace_1 M a1 a2) := by
  unfold q_ChipMapModel_trace_1
  refine kp_st (kT.s0 h (by decide)) (fun m1 h2 => ?_)
  refine kp_if ?_ ?_
  · skip
    exact kp_some h2
  · skip
    refine kp_if ?_ ?_
    · skip
      exact kp_some h2
    · skip
      refine kp_if ?_ ?_
      · skip
        exact kp_some h2
      · skip
        refine kp_if ?_ ?_
        · skip
          exact kp_some h2
        · skip
          refine kp_if ?_ ?_
          · skip
            refine kp_lv (fun x3 => ?_)
            refine kp_if ?_ ?_
            · skip
              refine kp_ix ?_
              exact kp_some h2
            · skip
              refine kp_if ?_ ?_
              · skip
                refine kp_ix ?_
                exact kp_some h2
              · skip
                refine kp_ix ?_
                exact kp_some h2
          · skip
            exact kp_some h2
theorem kt_ChipMapModel_memoryWord_29 {A : Mm} {kf4 : Mm → Int32 → Int32 → Rs} (hk4 : ∀ (M : Mm) (b1 : Int32) (b2 : Int32), kT A M → kp (kT A) (kf4 M b1 b2)) (M : Mm) (v2 : Int32) (t0 : Int32) (t1 : Int32) (h : kT A M) : kp (kT A) (q_ChipMapModel_memoryWord_29 kf4 M v2 t0 t1) := by
  unfold q_ChipMapModel_memoryWord_29
  refine kp_lv (fun x1 => ?_)
  exact hk4 _ _ _ h
theorem kt_ChipMapModel_memoryWord_4 {A : Mm} : ∀ (n' : Nat) (M : Mm) (v1 : Int32) (v2 : Int32), kT A M → kp (kT A) (q_ChipMapModel_memoryWord_4 n' M v1 v2) := by
  intro n'
  induction n' with
  | zero =>
    intro M v1 v2 h
    rw [q_ChipMapModel_memoryWord_4]
    exact kp_none
  | succ n' ih =>
    intro M v1 v2 h
    rw [q_ChipMapModel_memoryWord_4]
    refine kp_if ?_ ?_
    · skip
      exact kp_some h
    · skip
      refine kp_ix ?_
      refine kp_if ?_ ?_
      · skip
        exact kt_ChipMapModel_memoryWord_29 ih _ _ _ _ h
      · skip
        exact kt_ChipMapModel_memoryWord_29 ih _ _ _ _ h
theorem kt_ChipMapModel_memoryWord {A : Mm} (M : Mm) (h : kT A M) : kp (kT A) (q_ChipMapModel_memoryWord M) := by
  unfold q_ChipMapModel_memoryWord
  exact kt_ChipMapModel_memoryWord_4 4000 _ _ _ h
theorem kt_ChipMapModel_isSituation_72 {A : Mm} {kf27 : Mm → Int32 → Int32 → Rs} (hk27 : ∀ (M : Mm) (b1 : Int32) (b2 : Int32), kT A M → kp (kT A) (kf27 M b1 b2)) (M : Mm) (v1 : Int32) (v3 : Int32) (h : kT A M) : kp (kT A) (q_ChipMapModel_isSituation_72 kf27 M v1 v3) := by
  unfold q_ChipMapModel_isSituation_72
  exact hk27 _ _ _ h
theorem kt_ChipMapModel_isSituation_27 {A : Mm} : ∀ (n' : Nat) (M : Mm) (v1 : Int32) (v3 : Int32), kT A M → kp (kT A) (q_ChipMapModel_isSituation_27 n' M v1 v3) := by
  intro n'
  induction n' with
  | zero =>
    intro M v1 v3 h
    rw [q_ChipMapModel_isSituation_27]
    exact kp_none
  | succ n' ih =>
    intro M v1 v3 h
    rw [q_ChipMapModel_isSituation_27]
    refine kp_if ?_ ?_
    · skip
      exact kp_some h
    · skip
      refine kp_ix ?_
      refine kp_if ?_ ?_
      · skip
        exact kt_ChipMapModel_isSituation_72 ih _ _ _ h
      · skip
        refine kp_cal (kt_ChipMapModel_isStored _ _ h) (fun m1 r2 h3 => ?_)
        refine kp_if ?_ ?_
        · skip
          exact kt_ChipMapModel_isSituation_72 ih _ _ _ h3
        · skip
          refine kp_ix ?_
          refine kp_ix ?_
          refine kp_if ?_ ?_
          · skip
            exact kt_ChipMapModel_isSituation_72 ih _ _ _ h3
          · skip
            exact kp_some h3
theorem kt_ChipMapModel_isSituation {A : Mm} (M : Mm) (a1 : Int32) (a2 : Int32) (h : kT A M) : kp (kT A) (q_ChipMapModel_isSituation M a1 a2) := by
  unfold q_ChipMapModel_isSituation
  refine kp_ix ?_
  refine kp_if ?_ ?_
  · skip
    refine kp_ix ?_
    refine kp_cal (kt_ChipMapModel_memoryWord _ h) (fun m1 r2 h3 => ?_)
    refine kp_if ?_ ?_
    · skip
      exact kt_ChipMapModel_isSituation_27 4000 _ _ _ h3
    · skip
      exact kp_some h3
  · skip
    exact kp_some h
theorem kt_ChipMapModel_meet_82 {A : Mm} : ∀ (n' : Nat) (M : Mm) (v3 : Int32), kT A M → kp (kT A) (q_ChipMapModel_meet_82 n' M v3) := by
  intro n'
  induction n' with
  | zero =>
    intro M v3 h
    rw [q_ChipMapModel_meet_82]
    exact kp_none
  | succ n' ih =>
    intro M v3 h
    rw [q_ChipMapModel_meet_82]
    refine kp_if ?_ ?_
    · skip
      refine kp_st (kT.s0 h (by decide)) (fun m1 h2 => ?_)
      exact kp_some h2
    · skip
      refine kp_ix ?_
      refine kp_ix ?_
      refine kp_st (kT.st h (by decide)) (fun m3 h4 => ?_)
      exact ih _ _ h4
theorem kt_ChipMapModel_meet_17 {A : Mm} : ∀ (n' : Nat) (M : Mm) (v2 : Int32) (v3 : Int32), kT A M → kp (kT A) (q_ChipMapModel_meet_17 n' M v2 v3) := by
  intro n'
  induction n' with
  | zero =>
    intro M v2 v3 h
    rw [q_ChipMapModel_meet_17]
    exact kp_none
  | succ n' ih =>
    intro M v2 v3 h
    rw [q_ChipMapModel_meet_17]
    refine kp_if ?_ ?_
    · skip
      refine kp_if ?_ ?_
      · skip
        refine kp_st (kT.s0 h (by decide)) (fun m1 h2 => ?_)
        exact kp_some h2
      · skip
        refine kp_ix ?_
        refine kp_st (kT.st h (by decide)) (fun m3 h4 => ?_)
        refine kp_cal (kt_ChipMapModel_memoryWord _ h4) (fun m5 r6 h7 => ?_)
        refine kp_ix ?_
        refine kp_st (kT.st h7 (by decide)) (fun m8 h9 => ?_)
        exact kt_ChipMapModel_meet_82 4000 _ _ h9
    · skip
      refine kp_cal (kt_ChipMapModel_isSituation _ _ _ h) (fun m10 r11 h12 => ?_)
      refine kp_if ?_ ?_
      · skip
        exact ih _ _ _ h12
      · skip
        exact kp_some h12
theorem kt_ChipMapModel_meet_14 {A : Mm} (M : Mm) (t0 : Int32) (h : kT A M) : kp (kT A) (q_ChipMapModel_meet_14 M t0) := by
  unfold q_ChipMapModel_meet_14
  exact kt_ChipMapModel_meet_17 4000 _ _ _ h
theorem kt_ChipMapModel_meet {A : Mm} (M : Mm) (a1 : Int32) (h : kT A M) : kp (kT A) (q_ChipMapModel_meet M a1) := by
  unfold q_ChipMapModel_meet
  refine kp_if ?_ ?_
  · skip
    exact kt_ChipMapModel_meet_14 _ _ h
  · skip
    exact kt_ChipMapModel_meet_14 _ _ h
theorem kt_ChipMapModel_stand_65 {A : Mm} {kf33 : Mm → Int32 → Int32 → Rs} (hk33 : ∀ (M : Mm) (b1 : Int32) (b2 : Int32), kT A M → kp (kT A) (kf33 M b1 b2)) (M : Mm) (v1 : Int32) (v2 : Int32) (t0 : Int32) (t1 : Int32) (h : kT A M) : kp (kT A) (q_ChipMapModel_stand_65 kf33 M v1 v2 t0 t1) := by
  unfold q_ChipMapModel_stand_65
  refine kp_ix ?_
  refine kp_st (kT.st h (by decide)) (fun m1 h2 => ?_)
  exact hk33 _ _ _ h2
theorem kt_ChipMapModel_stand_33 {A : Mm} : ∀ (n' : Nat) (M : Mm) (v1 : Int32) (v2 : Int32), kT A M → kp (kT A) (q_ChipMapModel_stand_33 n' M v1 v2) := by
  intro n'
  induction n' with
  | zero =>
    intro M v1 v2 h
    rw [q_ChipMapModel_stand_33]
    exact kp_none
  | succ n' ih =>
    intro M v1 v2 h
    rw [q_ChipMapModel_stand_33]
    refine kp_if ?_ ?_
    · skip
      exact kp_some h
    · skip
      refine kp_ix ?_
      refine kp_if ?_ ?_
      · skip
        exact kt_ChipMapModel_stand_65 ih _ _ _ _ _ h
      · skip
        exact kt_ChipMapModel_stand_65 ih _ _ _ _ _ h
theorem kt_ChipMapModel_stand_2 {A : Mm} : ∀ (n' : Nat) (M : Mm) (v1 : Int32) (v2 : Int32), kT A M → kp (kT A) (q_ChipMapModel_stand_2 n' M v1 v2) := by
  intro n'
  induction n' with
  | zero =>
    intro M v1 v2 h
    rw [q_ChipMapModel_stand_2]
    exact kp_none
  | succ n' ih =>
    intro M v1 v2 h
    rw [q_ChipMapModel_stand_2]
    refine kp_if ?_ ?_
    · skip
      exact kt_ChipMapModel_stand_33 4000 _ _ _ h
    · skip
      refine kp_ix ?_
      refine kp_ix ?_
      refine kp_st (kT.st h (by decide)) (fun m1 h2 => ?_)
      exact ih _ _ _ h2
theorem kt_ChipMapModel_stand {A : Mm} (M : Mm) (a1 : Int32) (h : kT A M) : kp (kT A) (q_ChipMapModel_stand M a1) := by
  unfold q_ChipMapModel_stand
  exact kt_ChipMapModel_stand_2 4000 _ _ _ h
theorem kt_ChipMapModel_goOn_23 {A : Mm} (M : Mm) (v1 : Int32) (v2 : Int32) (h : kT A M) : kp (kT A) (q_ChipMapModel_goOn_23 M v1 v2) := by
  unfold q_ChipMapModel_goOn_23
  refine kp_cal (kt_ChipMapModel_stand _ _ h) (fun m1 r2 h3 => ?_)
  refine kp_if ?_ ?_
  · skip
    exact kp_some h3
  · skip
    refine kp_cal (kt_ChipMapModel_meet _ _ h3) (fun m4 r5 h6 => ?_)
    exact kp_some h6
theorem kt_ChipMapModel_goOn_171 {A : Mm} (M : Mm) (v2 : Int32) (h : kT A M) : kp (kT A) (q_ChipMapModel_goOn_171 M v2) := by
  unfold q_ChipMapModel_goOn_171
  refine kp_st (kT.s0 h (by decide)) (fun m1 h2 => ?_)
  refine kp_st (kT.s0 h2 (by decide)) (fun m3 h4 => ?_)
  exact kp_some h4
theorem kt_ChipMapModel_goOn_117 {A : Mm} (M : Mm) (v2 : Int32) (h : kT A M) : kp (kT A) (q_ChipMapModel_goOn_117 M v2) := by
  unfold q_ChipMapModel_goOn_117
  refine kp_if ?_ ?_
  · skip
    refine kp_cal (kt_ChipMapModel_meet _ _ h) (fun m1 r2 h3 => ?_)
    exact kp_some h3
  · skip
    refine kp_if ?_ ?_
    · skip
      exact kt_ChipMapModel_goOn_171 _ _ h
    · skip
      refine kp_if ?_ ?_
      · skip
        exact kt_ChipMapModel_goOn_171 _ _ h
      · skip
        refine kp_if ?_ ?_
        · skip
          refine kp_if ?_ ?_
          · skip
            exact kp_some h
          · skip
            exact kt_ChipMapModel_goOn_171 _ _ h
        · skip
          exact kp_some h
theorem kt_ChipMapModel_goOn {A : Mm} (M : Mm) (a1 : Int32) (h : kT A M) : kp (kT A) (q_ChipMapModel_goOn M a1) := by
  unfold q_ChipMapModel_goOn
  refine kp_ix ?_
  refine kp_lv (fun x1 => ?_)
  refine kp_if ?_ ?_
  · skip
    exact kt_ChipMapModel_goOn_23 _ _ _ h
  · skip
    refine kp_ix ?_
    refine kp_if ?_ ?_
    · skip
      exact kt_ChipMapModel_goOn_23 _ _ _ h
    · skip
      refine kp_cal (kt_ChipMapModel_stand _ _ h) (fun m2 r3 h4 => ?_)
      refine kp_ix ?_
      refine kp_if ?_ ?_
      · skip
        refine kp_ix ?_
        refine kp_cal (kt_ChipMapModel_meet _ _ h4) (fun m5 r6 h7 => ?_)
        refine kp_cal (kt_ChipMapModel_meet _ _ h7) (fun m8 r9 h10 => ?_)
        exact kp_some h10
      · skip
        refine kp_st (kT.s0 h4 (by decide)) (fun m11 h12 => ?_)
        refine kp_ix ?_
        refine kp_if ?_ ?_
        · skip
          refine kp_ix ?_
          refine kp_ix ?_
          refine kp_cal (kt_ChipMapModel_doPut _ _ _ h12) (fun m13 r14 h15 => ?_)
          exact kt_ChipMapModel_goOn_117 _ _ h15
        · skip
          refine kp_ix ?_
          refine kp_cal (kt_ChipMapModel_doFetch _ _ h12) (fun m16 r17 h18 => ?_)
          exact kt_ChipMapModel_goOn_117 _ _ h18
theorem kt_ChipMapModel_check_82 {A : Mm} (M : Mm) (h : kT A M) : kp (kT A) (q_ChipMapModel_check_82 M) := by
  unfold q_ChipMapModel_check_82
  refine kp_st (kT.s0 h (by decide)) (fun m1 h2 => ?_)
  refine kp_cal (kt_ChipMapModel_copyDevice _ _ _ h2) (fun m3 r4 h5 => ?_)
  refine kp_st (kT.s0 h5 (by decide)) (fun m6 h7 => ?_)
  refine kp_if ?_ ?_
  · skip
    exact kp_some h7
  · skip
    refine kp_st (kT.s0 h7 (by decide)) (fun m8 h9 => ?_)
    exact kp_some h9
theorem kt_ChipMapModel_check_56 {A : Mm} : ∀ (n' : Nat) (M : Mm) (v1 : Int32), kT A M → kp (kT A) (q_ChipMapModel_check_56 n' M v1) := by
  intro n'
  induction n' with
  | zero =>
    intro M v1 h
    rw [q_ChipMapModel_check_56]
    exact kp_none
  | succ n' ih =>
    intro M v1 h
    rw [q_ChipMapModel_check_56]
    refine kp_if ?_ ?_
    · skip
      exact kt_ChipMapModel_check_82 _ h
    · skip
      refine kp_if ?_ ?_
      · skip
        refine kp_cal (kt_ChipMapModel_goOn _ _ h) (fun m1 r2 h3 => ?_)
        exact ih _ _ h3
      · skip
        exact kt_ChipMapModel_check_82 _ h
end
section
theorem kt_ChipMapModel_check {A : Mm} (M : Mm) (h : kT A M) : kp (kT A) (q_ChipMapModel_check M) := by
  unfold q_ChipMapModel_check
  refine kp_st (kT.s0 h (by decide)) (fun m1 h2 => ?_)
  refine kp_if ?_ ?_
  · skip
    exact kp_some h2
  · skip
    refine kp_cal (kt_ChipMapModel_copyDevice _ _ _ h2) (fun m3 r4 h5 => ?_)
    refine kp_st (kT.s0 h5 (by decide)) (fun m6 h7 => ?_)
    refine kp_cal (kt_ChipMapModel_resetDevice _ h7) (fun m8 r9 h10 => ?_)
    refine kp_st (kT.s0 h10 (by decide)) (fun m11 h12 => ?_)
    refine kp_st (kT.s0 h12 (by decide)) (fun m13 h14 => ?_)
    refine kp_st (kT.s0 h14 (by decide)) (fun m15 h16 => ?_)
    refine kp_st (kT.s0 h16 (by decide)) (fun m17 h18 => ?_)
    refine kp_cal (kt_ChipMapModel_meet _ _ h18) (fun m19 r20 h21 => ?_)
    exact kt_ChipMapModel_check_56 4000 _ _ h21
theorem kt_ChipMapModel_found {A : Mm} (M : Mm) (a1 : Int32) (h : kT A M) : kp (kT A) (q_ChipMapModel_found M a1) := by
  unfold q_ChipMapModel_found
  refine kp_st (kT.s0 h (by decide)) (fun m1 h2 => ?_)
  refine kp_if ?_ ?_
  · skip
    exact kp_some h2
  · skip
    refine kp_if ?_ ?_
    · skip
      exact kp_some h2
    · skip
      exact kp_some h2
theorem kt_ChipMapModel_run_153 {A : Mm} {kf28 : Mm → Int32 → Int32 → Int32 → Int32 → Rs} (hk28 : ∀ (M : Mm) (b1 : Int32) (b2 : Int32) (b3 : Int32) (b4 : Int32), kT A M → kp (kT A) (kf28 M b1 b2 b3 b4)) (M : Mm) (v1 : Int32) (v2 : Int32) (v3 : Int32) (v4 : Int32) (h : kT A M) : kp (kT A) (q_ChipMapModel_run_153 kf28 M v1 v2 v3 v4) := by
  unfold q_ChipMapModel_run_153
  exact hk28 _ _ _ _ _ h
theorem kt_ChipMapModel_run_137 {A : Mm} {kf28 : Mm → Int32 → Int32 → Int32 → Int32 → Rs} (hk28 : ∀ (M : Mm) (b1 : Int32) (b2 : Int32) (b3 : Int32) (b4 : Int32), kT A M → kp (kT A) (kf28 M b1 b2 b3 b4)) (M : Mm) (v1 : Int32) (v2 : Int32) (v3 : Int32) (v4 : Int32) (h : kT A M) : kp (kT A) (q_ChipMapModel_run_137 kf28 M v1 v2 v3 v4) := by
  unfold q_ChipMapModel_run_137
  refine kp_cal (kt_ChipMapModel_end _ h) (fun m1 r2 h3 => ?_)
  refine kp_if ?_ ?_
  · skip
    exact kp_some h3
  · skip
    exact kt_ChipMapModel_run_153 hk28 _ _ _ _ _ h3
theorem kt_ChipMapModel_run_92 {A : Mm} {kf28 : Mm → Int32 → Int32 → Int32 → Int32 → Rs} (hk28 : ∀ (M : Mm) (b1 : Int32) (b2 : Int32) (b3 : Int32) (b4 : Int32), kT A M → kp (kT A) (kf28 M b1 b2 b3 b4)) (M : Mm) (v1 : Int32) (v3 : Int32) (v4 : Int32) (t0 : Int32) (h : kT A M) : kp (kT A) (q_ChipMapModel_run_92 kf28 M v1 v3 v4 t0) := by
  unfold q_ChipMapModel_run_92
  exact kt_ChipMapModel_run_153 hk28 _ _ _ _ _ h
theorem kt_ChipMapModel_run_28 {A : Mm} : ∀ (n' : Nat) (M : Mm) (v1 : Int32) (v2 : Int32) (v3 : Int32) (v4 : Int32), kT A M → kp (kT A) (q_ChipMapModel_run_28 n' M v1 v2 v3 v4) := by
  intro n'
  induction n' with
  | zero =>
    intro M v1 v2 v3 v4 h
    rw [q_ChipMapModel_run_28]
    exact kp_none
  | succ n' ih =>
    intro M v1 v2 v3 v4 h
    rw [q_ChipMapModel_run_28]
    refine kp_if ?_ ?_
    · skip
      refine kp_if ?_ ?_
      · skip
        exact kp_some h
      · skip
        exact kp_some h
    · skip
      refine kp_if ?_ ?_
      · skip
        refine kp_ix ?_
        refine kp_lv (fun x1 => ?_)
        refine kp_if ?_ ?_
        · skip
          exact kp_some h
        · skip
          refine kp_if ?_ ?_
          · skip
            refine kp_if ?_ ?_
            · skip
              refine kp_ix ?_
              exact kt_ChipMapModel_run_92 ih _ _ _ _ _ h
            · skip
              exact kt_ChipMapModel_run_92 ih _ _ _ _ _ h
          · skip
            refine kp_cal (kt_ChipMapModel_begin _ h) (fun m2 r3 h4 => ?_)
            refine kp_if ?_ ?_
            · skip
              refine kp_ix ?_
              refine kp_ix ?_
              refine kp_cal (kt_ChipMapModel_doPut _ _ _ h4) (fun m5 r6 h7 => ?_)
              exact kt_ChipMapModel_run_137 ih _ _ _ _ _ h7
            · skip
              refine kp_ix ?_
              refine kp_cal (kt_ChipMapModel_doFetch _ _ h4) (fun m8 r9 h10 => ?_)
              exact kt_ChipMapModel_run_137 ih _ _ _ _ _ h10
      · skip
        exact kp_some h
theorem kt_ChipMapModel_run {A : Mm} (M : Mm) (a1 : Int32) (h : kT A M) : kp (kT A) (q_ChipMapModel_run M a1) := by
  unfold q_ChipMapModel_run
  refine kp_st (kT.s0 h (by decide)) (fun m1 h2 => ?_)
  refine kp_if ?_ ?_
  · skip
    exact kp_some h2
  · skip
    refine kp_if ?_ ?_
    · skip
      exact kt_ChipMapModel_run_28 4000 _ _ _ _ _ h2
    · skip
      exact kp_some h2
theorem kt_ChipMapModel_state {A : Mm} (M : Mm) (a1 : Int32) (h : kT A M) : kp (kT A) (q_ChipMapModel_state M a1) := by
  unfold q_ChipMapModel_state
  refine kp_st (kT.s0 h (by decide)) (fun m1 h2 => ?_)
  refine kp_if ?_ ?_
  · skip
    exact kp_some h2
  · skip
    refine kp_if ?_ ?_
    · skip
      exact kp_some h2
    · skip
      refine kp_if ?_ ?_
      · skip
        exact kp_some h2
      · skip
        refine kp_if ?_ ?_
        · skip
          exact kp_some h2
        · skip
          refine kp_if ?_ ?_
          · skip
            exact kp_some h2
          · skip
            exact kp_some h2
end
section
-- compile() of both sides, in step
theorem kX.rf (A : Mm) : kX A A := fun _ _ => rfl
theorem kR.rf (A : Mm) : kR A A := fun _ _ => rfl
theorem kY.rf (A : Mm) : kY A A := ⟨fun _ _ _ => rfl, fun _ _ _ => rfl⟩
theorem kM.rf (A : Mm) : kM A A := ⟨fun _ _ => rfl, fun _ _ _ => rfl⟩
theorem kW.rf (A : Mm) : kW A A := ⟨fun _ _ _ => rfl, fun _ _ => rfl⟩
/-- what both sides hold in common: the tape's letters, the fault, whether there is a map -/
def RQ (M N : Mm) : Prop := (∀ j : Nat, (j : Int) < (M.1 21 2).toInt → M.1 22 j = N.1 1 j) ∧ M.1 23 1 = N.1 0 4 ∧ M.1 23 2 = N.1 0 5 ∧ (((M.1 24 0).toInt = 0 ∧ N.1 0 27 = 0) ∨ (1 ≤ (M.1 24 0).toInt ∧ N.1 0 27 = 1))
theorem RQ.kp {M N M' N' : Mm} (h : RQ M N) (hx : kX M M') (hy : kY N N') : RQ M' N' := by
  unfold RQ
  rw [hx 21 (by decide), hx 22 (by decide), hx 23 (by decide), hx 24 (by decide), hy.1 1 (by decide) (by decide), hy.2 4 (by decide) (by decide), hy.2 5 (by decide) (by decide), hy.2 27 (by decide) (by decide)]
  exact h
def n2 (N : Mm) : Mm := stI (stI N 0 (upd (N.1 0) 4 0)) 0 (upd ((stI N 0 (upd (N.1 0) 4 0)).1 0) 5 0)
def n5 (N : Mm) : Mm := stI N 0 (upd (N.1 0) 2 0)
def n6 (N : Mm) : Mm := stI (n5 N) 0 (upd ((n5 N).1 0) 0 1)
def n7 (N : Mm) : Mm := stI (stI (n5 N) 0 (upd ((n5 N).1 0) 0 0)) 0 (upd ((stI (n5 N) 0 (upd ((n5 N).1 0) 0 0)).1 0) 27 1)
def n8 (N : Mm) : Mm := stI (n7 N) 0 (upd ((n7 N).1 0) 28 ((n7 N).1 0 6))
theorem cp_0 {N N3 : Mm} (h : q_ChipMapModel_readAll (n2 N) = some (N3, 0)) : q_ChipMapModel_compile N = some (n6 N3, 0) := by
  unfold q_ChipMapModel_compile
  rw [lq_s, lq_s]
  show cal (q_ChipMapModel_readAll (n2 N)) _ = _
  rw [h, cal_s, lq_s, if_pos rfl]
  unfold q_ChipMapModel_raise
  rw [lq_s, cal_s]
  rfl
theorem cp_1 {N N3 : Mm} (h : q_ChipMapModel_readAll (n2 N) = some (N3, 1)) : q_ChipMapModel_compile N = q_ChipMapModel_compile_50 4000 (n8 N3) 0 := by
  unfold q_ChipMapModel_compile
  rw [lq_s, lq_s]
  show cal (q_ChipMapModel_readAll (n2 N)) _ = _
  rw [h, cal_s, lq_s, if_neg (by decide), lq_s, lq_s, lq_s]
  rfl
def kq (t : Rs) : Prop := ∀ (M : Mm) (r : Int32), t = some (M, r) → r = M.1 0 28
theorem kq_none : kq none := fun M r e => by cases e
theorem kq_some {M : Mm} : kq (some (M, M.1 0 28)) := fun M' r e => by
  obtain ⟨rfl, rfl⟩ := rs_e e
  rfl
theorem kq_lt {α : Type} {x : α} {k : α → Rs} (h : kq (k x)) : kq (lt' x k) := h
theorem kq_ix {i : Int32} {n : Nat} {k : Rs} (h : kq k) : kq (ix i n k) := fun M r e => h M r (ix_r e)
theorem kq_cal {t : Rs} {k : Mm → Int32 → Rs} (h : ∀ M r, kq (k M r)) : kq (cal t k) := fun M r e => by
  obtain ⟨M1, r1, e1, e2⟩ := cal_o e
  exact h M1 r1 M r e2
theorem kq_if {c : Prop} [Decidable c] {a b : Rs} (ha : kq a) (hb : kq b) : kq (if c then a else b) := by
  by_cases hc : c
  · rw [if_pos hc]; exact ha
  · rw [if_neg hc]; exact hb
theorem c230_a : ∀ (n' : Nat) (M : Mm) (v : Int32), kq (q_ChipMapModel_compile_230 n' M v) := by
  intro n'
  induction n' with
  | zero =>
    intro M v
    rw [q_ChipMapModel_compile_230]
    exact kq_none
  | succ n' ih =>
    intro M v
    rw [q_ChipMapModel_compile_230]
    exact kq_if (kq_lt (kq_lt (kq_lt (kq_cal (fun _ _ => kq_some))))) (kq_ix (kq_ix (kq_lt (kq_ix (kq_ix (kq_lt (kq_ix (kq_ix (kq_lt (kq_ix (kq_ix (kq_lt (ih _ _)))))))))))))
theorem c123_a : ∀ (n' : Nat) (M : Mm) (v : Int32), kq (q_ChipMapModel_compile_123 n' M v) := by
  intro n'
  induction n' with
  | zero =>
    intro M v
    rw [q_ChipMapModel_compile_123]
    exact kq_none
  | succ n' ih =>
    intro M v
    rw [q_ChipMapModel_compile_123]
    refine kq_if (kq_lt (c230_a _ _ _)) ?_
    refine kq_ix (kq_lt (kq_ix (kq_lt (kq_ix (kq_ix (kq_lt (kq_ix (kq_ix (kq_lt (kq_ix (kq_ix (kq_lt ?_))))))))))))
    exact kq_ix (kq_ix (kq_ix (kq_lt (kq_ix (kq_ix (kq_lt (ih _ _)))))))
theorem c102_a : ∀ (n' : Nat) (M : Mm) (v : Int32), kq (q_ChipMapModel_compile_102 n' M v) := by
  intro n'
  induction n' with
  | zero =>
    intro M v
    rw [q_ChipMapModel_compile_102]
    exact kq_none
  | succ n' ih =>
    intro M v
    rw [q_ChipMapModel_compile_102]
    exact kq_if (c123_a _ _ _) (kq_ix (kq_lt (ih _ _)))
theorem c50_a : ∀ (n' : Nat) (M : Mm) (v : Int32), kq (q_ChipMapModel_compile_50 n' M v) := by
  intro n'
  induction n' with
  | zero =>
    intro M v
    rw [q_ChipMapModel_compile_50]
    exact kq_none
  | succ n' ih =>
    intro M v
    rw [q_ChipMapModel_compile_50]
    exact kq_if (c102_a _ _ _) (kq_ix (kq_ix (kq_lt (kq_ix (kq_ix (kq_lt (kq_ix (kq_ix (kq_lt (ih _ _))))))))))
theorem DS.d {M N : Mm} (h : dR M N) : DS M := by
  obtain ⟨-, -, -, hb, -, -, -, -, hs, -⟩ := h
  intro j hj
  have e := tnc hb.1
  exact (hs.1 j (by omega)).2
/-- compile() of both sides: the class answers as the reference and the reference throws nothing, or the class throws and the reference says so -/
theorem cmp_rel {L : Nat} {K : Int} {M N : Mm} (hx : JX (nI L) K M) (hy : JY (nI L) K N) (hK : K + 5100 ≤ 2000000000) (h : RQ M N) : ∃ (M' N' : Mm) (b : Int32), q_ChipMapModel_compile N = some (N', b) ∧ JX 0 (K + 5100) M' ∧ JY 0 (K + 5100) N' ∧ RQ M' N' ∧ ((q_ChipMap_compile M = some (M', b) ∧ N'.1 0 0 = 0) ∨ (qt_ChipMap_compile M = some (M', 1) ∧ N'.1 0 0 = 1)) := by
  obtain ⟨N', b, qy, jy⟩ := jy_compile hy hK
  obtain ⟨Gx', ex, ix⟩ := hx
  obtain ⟨Gy', ey, iy⟩ := hy
  obtain ⟨M1, M3, r1, r3, q1, q3, i3, hk⟩ := compile_x ix
  have z3 : (M3.1 21 2).toInt = 0 := by
    have e := i3.LE
    rw [e]
    rfl
  have lx : M.1 21 2 = N.1 0 2 := by rw [ix.LE, ex, iy.LE, ey]
  have lr : 0 ≤ (M.1 21 2).toInt ∧ (M.1 21 2).toInt ≤ 480 := by
    rw [ix.LE]
    exact ix.LR
  have ht : tpR M (n2 N) := ⟨lx, h.1, lr, ix.tapeC⟩
  have hz : nf (n2 N) := ⟨rfl, rfl⟩
  have k1 : M1.1 24 = M.1 24 := kr_Reader_readAll M (kR.rf M) M1 r1 q1 24 (by decide)
  have nil : ∀ (A B : Mm), (A.1 21 2).toInt = 0 → ∀ j : Nat, (j : Int) < (A.1 21 2).toInt → A.1 22 j = B.1 1 j := by
    intro A B hA j hj
    omega
  rcases all_rel ht hz with ⟨M1', N3, e1, e2, e3, e4⟩ | ⟨M1', N3, e1, e2, e3, e4⟩
  · rw [q1] at e1
    obtain ⟨rfl, rfl⟩ := rs_e e1
    obtain ⟨M3', d1, d2, d3, d4⟩ := dec_0 M1 (M1.1 21 3)
    rw [q3] at d1
    obtain ⟨rfl, rfl⟩ := rs_e d1
    have qx : qt_ChipMap_compile M = some (M3, 1) := by
      unfold qt_ChipMap_compile
      rw [q1, cal_s, q3, cal_s, if_neg (by rw [d2]; decide)]
    have km : N3.1 0 27 = N.1 0 27 := (km_ChipMapModel_readAll (n2 N) (kM.rf (n2 N)) N3 0 e2).2 27 (by decide) (by decide)
    have k3 : M3.1 24 = M.1 24 := (d4 24 (by decide)).trans k1
    rw [cp_0 e2] at qy
    obtain ⟨rfl, rfl⟩ := rs_e qy
    refine ⟨M3, n6 N3, 0, cp_0 e2, ⟨Gx'.l0, rfl, i3.mono (by omega)⟩, jy, ⟨nil _ _ z3, d2.trans e4.1.symm, ?_, ?_⟩, Or.inr ⟨qx, rfl⟩⟩
    · show M3.1 23 2 = N3.1 0 5
      rw [d3, e3, e4.2]
    · show ((M3.1 24 0).toInt = 0 ∧ N3.1 0 27 = 0) ∨ (1 ≤ (M3.1 24 0).toInt ∧ N3.1 0 27 = 1)
      rw [k3, km]
      exact h.2.2.2
  · rw [q1] at e1
    obtain ⟨rfl, rfl⟩ := rs_e e1
    obtain ⟨M3', N4, r, s, d1, d2, f1, f2, f3, f4⟩ := dec_r e3 e4 (M1.1 21 3)
    rw [q3] at d1
    obtain ⟨rfl, rfl⟩ := rs_e d1
    rw [d2] at e2
    have km : N4.1 0 27 = N.1 0 27 := (km_ChipMapModel_readAll (n2 N) (kM.rf (n2 N)) N4 s e2).2 27 (by decide) (by decide)
    have k3 : M3.1 24 = M.1 24 := (f4 24 (by decide)).trans k1
    rcases f3 with ⟨rfl, k0, eN⟩ | ⟨rfl, k0, -⟩
    · obtain ⟨M', r', q5, G', eL, i5⟩ := hk (by rw [k0]; rfl)
      have q5' := q5
      unfold q_ChipMap_compile at q5'
      rw [q1, cal_s, q3, cal_s, if_pos k0] at q5'
      obtain ⟨M5, r6, q6, q7⟩ := cal_o q5'
      rw [lq_s] at q7
      obtain ⟨M8, r9, q8, q9⟩ := cal_o q7
      obtain ⟨rfl, rfl⟩ := rs_e q9
      have ds3 : DS M3 := DS.of (f4 1 (by decide)) (f4 9 (by decide)) (DS.d e3)
      obtain ⟨M5', r6', q6', g1, g2, -⟩ := w_Layout_follow (Dr.mk' i3 ds3)
      rw [q6] at q6'
      obtain ⟨rfl, rfl⟩ := rs_e q6'
      have kx : kX M5 M8 := kx_ChipMap_startAgain (A := M5) _ (kX.st (kX.rf M5) (by decide)) M8 r9 q8
      have qy' := qy
      rw [cp_1 e2] at qy'
      have kw : kW (n8 N4) N' := kw_ChipMapModel_compile_50 4000 _ _ (kW.rf (n8 N4)) N' b qy'
      have ea : b = N'.1 0 28 := c50_a 4000 _ _ N' b qy'
      have w0 : N'.1 0 0 = 0 := kw.2 0 (by decide)
      have w4 : N'.1 0 4 = N4.1 0 4 := kw.2 4 (by decide)
      have w5 : N'.1 0 5 = N4.1 0 5 := kw.2 5 (by decide)
      have w27 : N'.1 0 27 = 1 := kw.2 27 (by decide)
      have w28 : N'.1 0 28 = N4.1 0 6 := kw.2 28 (by decide)
      have x24 : M8.1 24 0 = M1.1 1 0 := by rw [kx 24 (by decide), g2, f4 1 (by decide)]
      have x23 : M8.1 23 = M3.1 23 := by rw [kx 23 (by decide), g1 23 (Or.inl (by decide))]
      have eb : M8.1 24 0 = b := by rw [x24, ea, w28, eN, e3.1]
      have z8 : (M8.1 21 2).toInt = 0 := by
        rw [i5.LE, eL]
        rfl
      refine ⟨M8, N', b, qy, ⟨G', eL, i5.mono (by omega)⟩, jy, ⟨nil _ _ z8, ?_, ?_, Or.inr ⟨?_, w27⟩⟩, Or.inl ⟨?_, w0⟩⟩
      · rw [x23, f1, w4]
      · rw [x23, f2, w5]
      · rw [x24]
        exact e3.2.1.1
      · rw [← eb]
        exact q5
    · have qx : qt_ChipMap_compile M = some (M3, 1) := by
        unfold qt_ChipMap_compile
        rw [q1, cal_s, q3, cal_s, if_neg k0]
      rw [cp_0 e2] at qy
      obtain ⟨rfl, rfl⟩ := rs_e qy
      refine ⟨M3, n6 N4, 0, cp_0 e2, ⟨Gx'.l0, rfl, i3.mono (by omega)⟩, jy, ⟨nil _ _ z3, f1, f2, ?_⟩, Or.inr ⟨qx, rfl⟩⟩
      show ((M3.1 24 0).toInt = 0 ∧ N4.1 0 27 = 0) ∨ (1 ≤ (M3.1 24 0).toInt ∧ N4.1 0 27 = 1)
      rw [k3, km]
      exact h.2.2.2
end
section
-- widths: what the judge of the fields lets through
theorem shr_i (a : Int32) (k : Fin 32) : (a >>> (Int32.ofNat k.val &&& 31)).toInt = a.toInt / ((2 ^ k.val : Nat) : Int) := by
  have e : (Int32.ofNat k.val &&& 31).toBitVec.smod 32#32 = BitVec.ofNat 32 k.val := (by decide : ∀ k : Fin 32, (Int32.ofNat k.val &&& 31).toBitVec.smod 32#32 = BitVec.ofNat 32 k.val) k
  show (BitVec.sshiftRight' a.toBitVec ((Int32.ofNat k.val &&& 31).toBitVec.smod 32#32)).toInt = _
  have hk : k.val % 2 ^ 32 = k.val := Nat.mod_eq_of_lt (by have := k.isLt; omega)
  rw [e, BitVec.toInt_sshiftRight', BitVec.toNat_ofNat, hk, Int.shiftRight_eq_div_pow]
  rfl
theorem shl_1 : ∀ k : Fin 17, ((1 : Int32) <<< (Int32.ofNat k.val &&& 31)).toInt = ((2 ^ k.val : Nat) : Int) := by decide
theorem fit_i {a w : Int32} (hw : 1 ≤ w.toInt ∧ w.toInt ≤ 16) : (a >>> (w &&& 31) = 0) ↔ (¬ a < 0 ∧ ¬ ((1 : Int32) <<< (w &&& 31)) ≤ a) := by
  have e1 := shr_i a ⟨w.toInt.toNat, by omega⟩
  have e2 := shl_1 ⟨w.toInt.toNat, by omega⟩
  have e3 : Int32.ofNat w.toInt.toNat = w := (of_i (by omega)).symm
  have z0 : (0 : Int32).toInt = 0 := rfl
  rw [show (⟨w.toInt.toNat, by omega⟩ : Fin 32).val = w.toInt.toNat from rfl, e3] at e1
  rw [show (⟨w.toInt.toNat, by omega⟩ : Fin 17).val = w.toInt.toNat from rfl, e3] at e2
  have hp : (0 : Int) < ((2 ^ w.toInt.toNat : Nat) : Int) := by
    have := Nat.two_pow_pos w.toInt.toNat
    omega
  generalize ((2 ^ w.toInt.toNat : Nat) : Int) = P at e1 e2 hp
  constructor
  · intro h
    rw [h, z0] at e1
    have a0 : 0 ≤ a.toInt := by
      by_cases c : 0 ≤ a.toInt
      · exact c
      · have := Int.ediv_neg_of_neg_of_pos (show a.toInt < 0 by omega) hp
        omega
    refine ⟨fun c => ?_, fun c => ?_⟩
    · have := Int32.lt_iff_toInt_lt.mp c
      omega
    · have := Int32.le_iff_toInt_le.mp c
      have h2 : 1 ≤ a.toInt / P := (Int.le_ediv_iff_mul_le hp).mpr (by omega)
      omega
  · intro ⟨h1, h2⟩
    have a0 : 0 ≤ a.toInt := by
      by_cases c : 0 ≤ a.toInt
      · exact c
      · exact absurd (Int32.lt_iff_toInt_lt.mpr (by omega)) h1
    have a1 : a.toInt < P := by
      by_cases c : P ≤ a.toInt
      · exact absurd (Int32.le_iff_toInt_le.mpr (by omega)) h2
      · omega
    apply Int32.toInt_inj.mp
    rw [e1, z0]
    exact Int.ediv_eq_zero_of_lt a0 a1
def wdR (M : Mm) : Prop := ∀ j : Nat, (j : Int) < (M.1 1 6).toInt → 0 ≤ (M.1 12 j).toInt ∧ (M.1 12 j).toInt ≤ (M.1 11 j).toInt ∧ (M.1 11 j).toInt ≤ 15
theorem bf_117 {M M' : Mm} {v : Int32} (h : q_Judge_badField_117 M v = some (M', -1)) (h8 : 0 ≤ (M.1 8 v.toNatClampNeg).toInt) : False := by
  unfold q_Judge_badField_117 at h
  have h := ix_r h
  obtain ⟨-, e⟩ := rs_e h
  rw [e] at h8
  exact absurd h8 (by decide)
theorem bf_44 {M M' : Mm} {kf : Mm → Int32 → Int32 → Rs} {v1 v2 : Int32} (h8 : 0 ≤ (M.1 8 v2.toNatClampNeg).toInt) (hr : ∀ r M1, q_Draft_rowOf M (M.1 7 v2.toNatClampNeg) = some (M1, r) → M1 = M) (hf : ∀ r M1, q_Draft_fits M v2 (M.1 13 v2.toNatClampNeg) = some (M1, r) → M1 = M) (h : q_Judge_badField_44 kf M v1 v2 = some (M', -1)) : (M.1 12 v2.toNatClampNeg).toInt ≤ (M.1 11 v2.toNatClampNeg).toInt ∧ (M.1 11 v2.toNatClampNeg).toInt ≤ 15 ∧ ∃ x, kf M x (v2 + 1) = some (M', -1) := by
  unfold q_Judge_badField_44 at h
  have h := ix_r h
  rw [lq_s] at h
  have h := ix_r h
  rw [lq_s] at h
  have h := ix_r h
  obtain ⟨M3, r4, p, h⟩ := cal_o h
  obtain rfl := hr r4 M3 p
  by_cases c1 : r4 < v2
  · rw [if_pos c1] at h
    exact (bf_117 h h8).elim
  rw [if_neg c1] at h
  by_cases c2 : 16 ≤ M3.1 11 v2.toNatClampNeg
  · rw [if_pos c2] at h
    exact (bf_117 h h8).elim
  rw [if_neg c2] at h
  by_cases c3 : M3.1 11 v2.toNatClampNeg < M3.1 12 v2.toNatClampNeg
  · rw [if_pos c3] at h
    exact (bf_117 h h8).elim
  rw [if_neg c3] at h
  have h := ix_r h
  obtain ⟨M5, r6, p, h⟩ := cal_o h
  obtain rfl := hf r6 M5 p
  by_cases c4 : r6 = 0
  · rw [if_pos c4] at h
    exact (bf_117 h h8).elim
  rw [if_neg c4, lq_s] at h
  have e16 : (16 : Int32).toInt = 16 := rfl
  have g2 : (M5.1 11 v2.toNatClampNeg).toInt ≤ 15 := by
    by_cases z : 16 ≤ (M5.1 11 v2.toNatClampNeg).toInt
    · exact absurd (Int32.le_iff_toInt_le.mpr (by omega)) c2
    · omega
  have g3 : (M5.1 12 v2.toNatClampNeg).toInt ≤ (M5.1 11 v2.toNatClampNeg).toInt := by
    by_cases z : (M5.1 11 v2.toNatClampNeg).toInt < (M5.1 12 v2.toNatClampNeg).toInt
    · exact absurd (Int32.lt_iff_toInt_lt.mpr z) c3
    · omega
  refine ⟨g3, g2, ?_⟩
  split at h
  · rw [lq_s] at h
    exact ⟨_, h⟩
  · have h := ix_r h
    obtain ⟨-, e⟩ := rs_e h
    rw [e] at h8
    exact absurd h8 (by decide)
theorem ro_M {t : Rs} {M : Mm} {P : Int32 → Prop} (h : wpR t (fun M' r => M = M' ∧ P r)) (r : Int32) (M1 : Mm) (e : t = some (M1, r)) : M1 = M := by
  obtain ⟨M2, r2, e2, rfl, -⟩ := h
  rw [e] at e2
  exact (rs_e e2).1
theorem bf_w {G : Gx} {K : Int} {M N : Mm} (hI : IX G K M) (h : dR M N) : ∀ (k n : Nat) (v1 v2 : Int32) (M' : Mm), 0 ≤ v2.toInt → v2.toInt + (k : Int) = (M.1 1 6).toInt → q_Judge_badField_4 n M v1 v2 = some (M', -1) → ∀ j : Nat, v2.toInt ≤ (j : Int) → (j : Int) < (M.1 1 6).toInt → 0 ≤ (M.1 12 j).toInt ∧ (M.1 12 j).toInt ≤ (M.1 11 j).toInt ∧ (M.1 11 j).toInt ≤ 15 := by
  obtain ⟨-, -, -, hb, -, -, ⟨-, -, -, -, -, -, -, -, t8, -, t12, -⟩, -, -, -⟩ := h
  have tr := tnc hb.1
  intro k
  induction k with
  | zero =>
    intro n v1 v2 M' hv hk q j h1 h2
    omega
  | succ k ih =>
    intro n v1 v2 M' hv hk q j h1 h2
    obtain ⟨n, rfl⟩ : ∃ m, n = m + 1 := by
      cases n with
      | zero => rw [q_Judge_badField_4] at q; cases q
      | succ m => exact ⟨m, rfl⟩
    have c : ¬ M.1 1 6 ≤ v2 := fun c => by
      have := Int32.le_iff_toInt_le.mp c
      omega
    have t := tnc hv
    have ez : (v2 + 1).toInt = v2.toInt + 1 := iadd rfl (rfl : (1 : Int32).toInt = 1) (by omega) (by omega)
    have h8 := (t8 v2.toNatClampNeg (by omega)).1
    have h12 := (t12 v2.toNatClampNeg (by omega)).1
    rw [q_Judge_badField_4, if_neg c] at q
    have key : ∀ x, q_Judge_badField_44 (q_Judge_badField_4 n) M x v2 = some (M', -1) → 0 ≤ (M.1 12 j).toInt ∧ (M.1 12 j).toInt ≤ (M.1 11 j).toInt ∧ (M.1 11 j).toInt ≤ 15 := by
      intro x qx
      obtain ⟨g1, g2, y, qy⟩ := bf_44 h8 (fun r M1 e => ro_M (w_Draft_rowOf hI _) r M1 e) (fun r M1 e => ro_M (w_Draft_fits hI _ _ (by omega)) r M1 e) qx
      by_cases cj : (j : Int) = v2.toInt
      · have ej : j = v2.toNatClampNeg := by omega
        rw [ej]
        exact ⟨h12, g1, g2⟩
      · exact ih n y (v2 + 1) M' (by omega) (by omega) qy j (by omega) h2
    by_cases c0 : v2 = 0
    · rw [if_pos c0] at q
      exact key 0 q
    · rw [if_neg c0] at q
      have q := ix_r (ix_r q)
      split at q
      · exact key _ q
      · exact key 0 q
-- the layout that compile() leaves: the fields' names, homes, accesses, widths of both sides
def lf (M N : Mm) (f : Nat) : Prop := (M.1 38 f = -1 ∧ N.1 23 f = 0) ∨ (N.1 23 f = 1 ∧ M.1 38 f = N.1 25 f ∧ 0 ≤ (M.1 38 f).toInt ∧ (0 ≤ (M.1 39 f).toInt ∧ (M.1 39 f).toInt < 7) ∧ sB 0 (M.1 39 f).toNatClampNeg = N.1 24 f ∧ M.1 40 f = N.1 26 f ∧ M.1 41 f = N.1 27 f ∧ 1 ≤ (M.1 41 f).toInt ∧ (M.1 41 f).toInt ≤ 16)
def LF (M N : Mm) : Prop := ∀ f, f < 26 → lf M N f
theorem LF.cg {M N M' N' : Mm} (h : LF M N) (e38 : M'.1 38 = M.1 38) (e39 : M'.1 39 = M.1 39) (e40 : M'.1 40 = M.1 40) (e41 : M'.1 41 = M.1 41) (e23 : N'.1 23 = N.1 23) (e24 : N'.1 24 = N.1 24) (e25 : N'.1 25 = N.1 25) (e26 : N'.1 26 = N.1 26) (e27 : N'.1 27 = N.1 27) : LF M' N' := by
  unfold LF lf
  rw [e38, e39, e40, e41, e23, e24, e25, e26, e27]
  exact h
theorem LF.kp {M N M' N' : Mm} (h : LF M N) (hx : kX M M') (hy : kY N N') : LF M' N' := h.cg (hx 38 (by decide)) (hx 39 (by decide)) (hx 40 (by decide)) (hx 41 (by decide)) (hy.1 23 (by decide) (by decide)) (hy.1 24 (by decide) (by decide)) (hy.1 25 (by decide) (by decide)) (hy.1 26 (by decide) (by decide)) (hy.1 27 (by decide) (by decide))
theorem add_x {M : Mm} (a2 : Int32) (h2 : 0 ≤ a2.toInt ∧ a2.toInt ≤ 127) (hn : 0 ≤ (M.1 7 a2.toNatClampNeg).toInt ∧ (M.1 7 a2.toNatClampNeg).toInt ≤ 25) (hh : 0 ≤ (M.1 9 a2.toNatClampNeg).toInt ∧ (M.1 9 a2.toNatClampNeg).toInt ≤ 15) (ha : 0 ≤ (M.1 10 a2.toNatClampNeg).toInt ∧ (M.1 10 a2.toNatClampNeg).toInt ≤ 6) : wpR (q_Layout_addField M a2) (fun M' _ => frL M M' ∧ M'.1 38 = upd (M.1 38) (M.1 7 a2.toNatClampNeg).toNatClampNeg (M.1 9 a2.toNatClampNeg) ∧ M'.1 39 = upd (M.1 39) (M.1 7 a2.toNatClampNeg).toNatClampNeg (M.1 10 a2.toNatClampNeg) ∧ M'.1 40 = upd (M.1 40) (M.1 7 a2.toNatClampNeg).toNatClampNeg (M.1 12 a2.toNatClampNeg) ∧ M'.1 41 = upd (M.1 41) (M.1 7 a2.toNatClampNeg).toNatClampNeg (M.1 11 a2.toNatClampNeg - M.1 12 a2.toNatClampNeg + 1)) := by
  unfold q_Layout_addField
  have k2 : vp_in a2 128 := vI (by omega)
  have k7 : vp_in (M.1 7 a2.toNatClampNeg) 26 := vI (by omega)
  have k9 : vp_in (M.1 9 a2.toNatClampNeg) 16 := vI (by omega)
  refine wpR_ix k2 (wpR_lt (wpR_ix k2 (wpR_lt (wpR_ix k7 (wpR_ltv (fun M3 e3 => ?_))))))
  have f3 : frL M M3 := (frL.rf M).st e3 (by omega)
  refine wpR_ix k2 (wpR_ix k7 (wpR_ltv (fun M4 e4 => ?_)))
  have f4 : frL M M4 := f3.st e4 (by omega)
  refine wpR_ix k2 (wpR_ix k7 (wpR_ltv (fun M5 e5 => ?_)))
  have f5 : frL M M5 := f4.st e5 (by omega)
  refine wpR_ix k2 (wpR_ix k2 (wpR_ix k7 (wpR_ltv (fun M6 e6 => ?_))))
  have f6 : frL M M6 := f5.st e6 (by omega)
  have g38 : M6.1 38 = upd (M.1 38) (M.1 7 a2.toNatClampNeg).toNatClampNeg (M.1 9 a2.toNatClampNeg) := by rw [st_o e6 (by decide), st_o e5 (by decide), st_o e4 (by decide), e3, stI_at]
  have g39 : M6.1 39 = upd (M.1 39) (M.1 7 a2.toNatClampNeg).toNatClampNeg (M.1 10 a2.toNatClampNeg) := by rw [st_o e6 (by decide), st_o e5 (by decide), e4, stI_at, st_o e3 (by decide), f3 10 (by omega)]
  have g40 : M6.1 40 = upd (M.1 40) (M.1 7 a2.toNatClampNeg).toNatClampNeg (M.1 12 a2.toNatClampNeg) := by rw [st_o e6 (by decide), e5, stI_at, st_o e4 (by decide), st_o e3 (by decide), f4 12 (by omega)]
  have g41 : M6.1 41 = upd (M.1 41) (M.1 7 a2.toNatClampNeg).toNatClampNeg (M.1 11 a2.toNatClampNeg - M.1 12 a2.toNatClampNeg + 1) := by rw [e6, stI_at, st_o e5 (by decide), st_o e4 (by decide), st_o e3 (by decide), f5 11 (by omega), f5 12 (by omega)]
  refine wpR_ix k7 (wpR_ix k7 (wpR_ix k7 (wpR_ltv (fun M7 e7 => ?_))))
  have f7 : frL M M7 := f6.st e7 (by omega)
  refine wpR_ix k9 (wpR_ix k2 (wpR_ix k7 (wpR_ix k9 (wpR_ltv (fun M8 e8 => ?_)))))
  have f8 : frL M M8 := f7.st e8 (by omega)
  have a8 : M8.1 39 (M.1 7 a2.toNatClampNeg).toNatClampNeg = M.1 10 a2.toNatClampNeg := by rw [st_o e8 (by decide), st_o e7 (by decide), g39, updS]
  have ka : vp_in (M8.1 39 (M.1 7 a2.toNatClampNeg).toNatClampNeg) 7 := by rw [a8]; exact vI (by omega)
  have kt : (M8.1 39 (M.1 7 a2.toNatClampNeg).toNatClampNeg).toNatClampNeg < 7 := by
    rw [a8]
    have := tnc (i := M.1 10 a2.toNatClampNeg) ha.1
    omega
  refine wpR_ix k7 (wpR_ix ka (wpR_ix k9 (wpR_ix k7 (wpR_ix k9 (wpR_ltv (fun M9 e9 => ?_))))))
  have f9 : frL M M9 := f8.st e9 (by omega)
  have b9 : ∀ j, 38 ≤ j → j ≤ 41 → M9.1 j = M6.1 j := fun j h1 h2 => by rw [st_o e9 (by omega), st_o e8 (by omega), st_o e7 (by omega)]
  refine wpR_ro (w0_isKnown _ (by omega)) (fun r11 _ => ?_)
  refine wpR_if (fun _ => wpR_some ⟨f9, ?_, ?_, ?_, ?_⟩) (fun _ => ?_)
  · rw [b9 38 (by decide) (by decide)]; exact g38
  · rw [b9 39 (by decide) (by decide)]; exact g39
  · rw [b9 40 (by decide) (by decide)]; exact g40
  · rw [b9 41 (by decide) (by decide)]; exact g41
  refine wpR_ix k9 (wpR_ix k7 (wpR_ix k9 (wpR_ltv (fun M12 e12 => wpR_some ⟨f9.st e12 (by omega), ?_, ?_, ?_, ?_⟩))))
  · rw [st_o e12 (by decide), b9 38 (by decide) (by decide)]; exact g38
  · rw [st_o e12 (by decide), b9 39 (by decide) (by decide)]; exact g39
  · rw [st_o e12 (by decide), b9 40 (by decide) (by decide)]; exact g40
  · rw [st_o e12 (by decide), b9 41 (by decide) (by decide)]; exact g41
theorem LF.up {M N M' N' : Mm} {x : Nat} {h a l b : Int32} {c : Int32} (g : LF M N) (h0 : 0 ≤ h.toInt) (ha : 0 ≤ a.toInt ∧ a.toInt < 7) (hc : sB 0 a.toNatClampNeg = c) (hb : 1 ≤ b.toInt ∧ b.toInt ≤ 16) (e38 : M'.1 38 = upd (M.1 38) x h) (e39 : M'.1 39 = upd (M.1 39) x a) (e40 : M'.1 40 = upd (M.1 40) x l) (e41 : M'.1 41 = upd (M.1 41) x b) (e23 : N'.1 23 = upd (N.1 23) x 1) (e24 : N'.1 24 = upd (N.1 24) x c) (e25 : N'.1 25 = upd (N.1 25) x h) (e26 : N'.1 26 = upd (N.1 26) x l) (e27 : N'.1 27 = upd (N.1 27) x b) : LF M' N' := by
  intro f hf
  unfold lf
  rw [e38, e39, e40, e41, e23, e24, e25, e26, e27]
  by_cases c1 : f = x
  · subst c1
    rw [updS, updS, updS, updS, updS, updS, updS, updS, updS]
    exact Or.inr ⟨rfl, rfl, h0, ha, hc, rfl, rfl, hb⟩
  · rw [updN c1, updN c1, updN c1, updN c1, updN c1, updN c1, updN c1, updN c1, updN c1]
    exact g f hf
/-- the two loops over the fields, in step; behind its loop the reference copies the rules -/
theorem lay_loop {A B : Mm} (hA : Dr A) (hR : fR (A.1 1 6).toNatClampNeg A B) (e12 : B.1 0 12 = A.1 1 6) (hW : wdR A) : ∀ (k n1 n2 : Nat) (M N : Mm) (v : Int32), 0 ≤ v.toInt → v.toInt + (k : Int) = (A.1 1 6).toInt → frL A M → kW B N → LF M N → ∀ (M' N' : Mm) (r s : Int32), q_Layout_follow_117 n1 M v = some (M', r) → q_ChipMapModel_compile_123 n2 N v = some (N', s) → ∃ N1 : Mm, LF M' N1 ∧ q_ChipMapModel_compile_230 4000 (stI N1 0 (upd (N1.1 0) 38 (N1.1 0 20))) 0 = some (N', s) := by
  obtain ⟨t7, t8, t9, t10, t11, t12, t13, -, -, -, -, -⟩ := hR
  have rows := hA.rows
  have tr := tnc rows.1
  intro k
  induction k with
  | zero =>
    intro n1 n2 M N v hv hk hf hw h M' N' r s q1 q2
    obtain ⟨n1, rfl⟩ : ∃ m, n1 = m + 1 := by
      cases n1 with
      | zero => rw [q_Layout_follow_117] at q1; cases q1
      | succ m => exact ⟨m, rfl⟩
    obtain ⟨n2, rfl⟩ : ∃ m, n2 = m + 1 := by
      cases n2 with
      | zero => rw [q_ChipMapModel_compile_123] at q2; cases q2
      | succ m => exact ⟨m, rfl⟩
    have c1 : M.1 1 6 ≤ v := Int32.le_iff_toInt_le.mpr (by rw [hf 1 (by omega)]; omega)
    have c2 : N.1 0 12 ≤ v := Int32.le_iff_toInt_le.mpr (by rw [hw.2 12 (by omega), e12]; omega)
    rw [q_Layout_follow_117, if_pos c1] at q1
    rw [q_ChipMapModel_compile_123, if_pos c2, lq_s] at q2
    obtain ⟨rfl, -⟩ := rs_e q1
    exact ⟨N, h, q2⟩
  | succ k ih =>
    intro n1 n2 M N v hv hk hf hw h M' N' r s q1 q2
    obtain ⟨n1, rfl⟩ : ∃ m, n1 = m + 1 := by
      cases n1 with
      | zero => rw [q_Layout_follow_117] at q1; cases q1
      | succ m => exact ⟨m, rfl⟩
    obtain ⟨n2, rfl⟩ : ∃ m, n2 = m + 1 := by
      cases n2 with
      | zero => rw [q_ChipMapModel_compile_123] at q2; cases q2
      | succ m => exact ⟨m, rfl⟩
    have c1 : ¬ M.1 1 6 ≤ v := fun c => by
      have := Int32.le_iff_toInt_le.mp c
      rw [hf 1 (by omega)] at this
      omega
    have c2 : ¬ N.1 0 12 ≤ v := fun c => by
      have := Int32.le_iff_toInt_le.mp c
      rw [hw.2 12 (by omega), e12] at this
      omega
    have t := tnc hv
    have hvn : v.toNatClampNeg < (A.1 1 6).toNatClampNeg := by omega
    have ez : (v + 1).toInt = v.toInt + 1 := iadd rfl (rfl : (1 : Int32).toInt = 1) (by omega) (by omega)
    have m1 := hA.nm v.toNatClampNeg (by omega)
    have m2 := hA.ac v.toNatClampNeg (by omega)
    have m3 := hA.ho v.toNatClampNeg (by omega)
    have m4 := hA.regs
    have x7 : M.1 7 = A.1 7 := hf 7 (by omega)
    have x9 : M.1 9 = A.1 9 := hf 9 (by omega)
    have x10 : M.1 10 = A.1 10 := hf 10 (by omega)
    have x11 : M.1 11 = A.1 11 := hf 11 (by omega)
    have x12 : M.1 12 = A.1 12 := hf 12 (by omega)
    rw [q_Layout_follow_117, if_neg c1] at q1
    obtain ⟨M1, r1, p1, q1⟩ := cal_o q1
    obtain ⟨M1', r1', p1', f1, g38, g39, g40, g41⟩ := add_x (M := M) v (by omega) (by rw [x7]; exact m1) (by rw [x9]; omega) (by rw [x10]; exact m2)
    rw [p1] at p1'
    obtain ⟨rfl, -⟩ := rs_e p1'
    rw [x7] at g38 g39 g40 g41
    rw [x9] at g38
    rw [x10] at g39
    rw [x12] at g40 g41
    rw [x11] at g41
    rw [q_ChipMapModel_compile_123, if_neg c2] at q2
    have q2 := ix_r q2
    rw [lq_s] at q2
    have q2 := ix_r q2
    rw [lq_s] at q2
    have q2 := ix_r (ix_r q2)
    rw [lq_s] at q2
    have q2 := ix_r (ix_r q2)
    rw [lq_s] at q2
    have q2 := ix_r (ix_r q2)
    rw [lq_s] at q2
    have q2 := ix_r (ix_r (ix_r q2))
    rw [lq_s] at q2
    have q2 := ix_r (ix_r q2)
    rw [lq_s] at q2
    have y7 : N.1 7 v.toNatClampNeg = A.1 7 v.toNatClampNeg := by rw [hw.1 7 (by decide) (by decide)]; exact (t7 _ hvn).symm
    have y8 := t10 _ hvn
    rw [← hw.1 8 (by decide) (by decide)] at y8
    have y9 : N.1 9 v.toNatClampNeg = A.1 11 v.toNatClampNeg := by rw [hw.1 9 (by decide) (by decide)]; exact (t11 _ hvn).symm
    have y10 : N.1 10 v.toNatClampNeg = A.1 12 v.toNatClampNeg := by rw [hw.1 10 (by decide) (by decide)]; exact (t12 _ hvn).symm
    have y12 : N.1 12 v.toNatClampNeg = A.1 9 v.toNatClampNeg := by rw [hw.1 12 (by decide) (by decide)]; exact (t9 _ hvn).symm
    refine ih n1 n2 M1 _ (v + 1) (by omega) (by omega) (hf.tr f1) ?_ ?_ M' N' r s q1 q2
    · exact (((((kW.st hw (by decide)).st (by decide)).st (by decide)).st (by decide)).st (by decide)).st (by decide)
    · have w1 := hW v.toNatClampNeg (by omega)
      have w2 : (A.1 11 v.toNatClampNeg - A.1 12 v.toNatClampNeg).toInt = (A.1 11 v.toNatClampNeg).toInt - (A.1 12 v.toNatClampNeg).toInt := isub rfl rfl (by omega) (by omega)
      have w3 : (A.1 11 v.toNatClampNeg - A.1 12 v.toNatClampNeg + 1).toInt = (A.1 11 v.toNatClampNeg).toInt - (A.1 12 v.toNatClampNeg).toInt + 1 := iadd w2 (rfl : (1 : Int32).toInt = 1) (by omega) (by omega)
      refine LF.up h m3.1 ⟨m2.1, by omega⟩ y8.2 (by omega) g38 g39 g40 g41 ?_ ?_ ?_ ?_ ?_
      · rw [← y7]; rfl
      · rw [← y7]; rfl
      · rw [← y7, ← y12]; rfl
      · rw [← y7, ← y10]; rfl
      · rw [← y7, ← y10, ← y9]; rfl
theorem c102_rel : ∀ (k n2 : Nat) (N : Mm) (v : Int32), 0 ≤ v.toInt → v.toInt + (k : Int) = 26 → (∀ f : Nat, (f : Int) < v.toInt → N.1 23 f = 0) → ∀ (N' : Mm) (s : Int32), q_ChipMapModel_compile_102 n2 N v = some (N', s) → ∃ N1 : Mm, (∀ f : Nat, f < 26 → N1.1 23 f = 0) ∧ (∀ p, p ≠ 23 → N1.1 p = N.1 p) ∧ q_ChipMapModel_compile_123 4000 N1 0 = some (N', s) := by
  intro k
  induction k with
  | zero =>
    intro n2 N v hv hk h N' s q2
    obtain ⟨n2, rfl⟩ : ∃ m, n2 = m + 1 := by
      cases n2 with
      | zero => rw [q_ChipMapModel_compile_102] at q2; cases q2
      | succ m => exact ⟨m, rfl⟩
    have c : (26 : Int32) ≤ v := Int32.le_iff_toInt_le.mpr (by have e : (26 : Int32).toInt = 26 := rfl; omega)
    rw [q_ChipMapModel_compile_102, if_pos c] at q2
    exact ⟨N, fun f hf => h f (by omega), fun _ _ => rfl, q2⟩
  | succ k ih =>
    intro n2 N v hv hk h N' s q2
    obtain ⟨n2, rfl⟩ : ∃ m, n2 = m + 1 := by
      cases n2 with
      | zero => rw [q_ChipMapModel_compile_102] at q2; cases q2
      | succ m => exact ⟨m, rfl⟩
    have c : ¬ (26 : Int32) ≤ v := fun c => by
      have := Int32.le_iff_toInt_le.mp c
      have e : (26 : Int32).toInt = 26 := rfl
      omega
    have t := tnc hv
    have ez : (v + 1).toInt = v.toInt + 1 := iadd rfl (rfl : (1 : Int32).toInt = 1) (by omega) (by omega)
    rw [q_ChipMapModel_compile_102, if_neg c] at q2
    have q2 := ix_r q2
    rw [lq_s] at q2
    have hz : ∀ f : Nat, (f : Int) < (v + 1).toInt → (stI N 23 (upd (N.1 23) v.toNatClampNeg (vp_nar .boolean 0))).1 23 f = 0 := fun f hf => by
      show upd (N.1 23) v.toNatClampNeg (vp_nar .boolean 0) f = 0
      by_cases cf : f = v.toNatClampNeg
      · rw [cf, updS]; rfl
      · rw [updN cf]
        exact h f (by omega)
    obtain ⟨N1, g1, g2, g3⟩ := ih n2 _ (v + 1) (by omega) (by omega) hz N' s q2
    exact ⟨N1, g1, fun p hp => by rw [g2 p hp, stI_ne _ _ hp], g3⟩
theorem c50_rel : ∀ (n2 : Nat) (N : Mm) (v : Int32) (N' : Mm) (s : Int32), q_ChipMapModel_compile_50 n2 N v = some (N', s) → ∃ N1 : Mm, kW N N1 ∧ q_ChipMapModel_compile_102 4000 N1 0 = some (N', s) := by
  intro n2
  induction n2 with
  | zero =>
    intro N v N' s q2
    rw [q_ChipMapModel_compile_50] at q2
    cases q2
  | succ n2 ih =>
    intro N v N' s q2
    rw [q_ChipMapModel_compile_50] at q2
    by_cases c : N.1 0 28 ≤ v
    · rw [if_pos c] at q2
      exact ⟨N, kW.rf N, q2⟩
    · rw [if_neg c] at q2
      have q2 := ix_r (ix_r q2)
      rw [lq_s] at q2
      have q2 := ix_r (ix_r q2)
      rw [lq_s] at q2
      have q2 := ix_r (ix_r q2)
      rw [lq_s] at q2
      obtain ⟨N1, g1, g2⟩ := ih _ _ N' s q2
      refine ⟨N1, ⟨fun p h0 hp => ?_, fun j hj => ?_⟩, g2⟩
      · rw [g1.1 p h0 hp, stI_ne _ _ (by omega), stI_ne _ _ (by omega), stI_ne _ _ (by omega)]
      · rw [g1.2 j hj, stI_ne _ _ (by omega), stI_ne _ _ (by omega), stI_ne _ _ (by omega)]
theorem f82_rel : ∀ (n1 : Nat) (M : Mm) (v : Int32), 0 ≤ v.toInt → ∀ (M' : Mm) (r : Int32), q_Layout_follow_82 n1 M v = some (M', r) → ∃ M1 : Mm, frL M M1 ∧ M1.1 38 = (fun _ => -1) ∧ q_Layout_follow_117 4000 M1 0 = some (M', r) := by
  intro n1
  induction n1 with
  | zero =>
    intro M v hv M' r q1
    rw [q_Layout_follow_82] at q1
    cases q1
  | succ n1 ih =>
    intro M v hv M' r q1
    rw [q_Layout_follow_82] at q1
    by_cases c : (7 : Int32) ≤ v
    · rw [if_pos c, lq_s] at q1
      exact ⟨_, fun p hp => stI_ne _ _ (by omega), stI_at _ _ _, q1⟩
    · rw [if_neg c] at q1
      have q1 := ix_r q1
      rw [lq_s] at q1
      have t := tnc hv
      have e7 : (7 : Int32).toInt = 7 := rfl
      have c' : v.toInt < 7 := by
        by_cases z : 7 ≤ v.toInt
        · exact absurd (Int32.le_iff_toInt_le.mpr (by omega)) c
        · omega
      have ez : (v + 1).toInt = v.toInt + 1 := iadd rfl (rfl : (1 : Int32).toInt = 1) (by omega) (by omega)
      obtain ⟨M1, g1, g2, g3⟩ := ih _ (v + 1) (by omega) M' r q1
      exact ⟨M1, fun p hp => by rw [g1 p hp, stI_ne _ _ (by omega)], g2, g3⟩
/-- what the class's layout and the reference's hold behind compile(): the same fields -/
theorem lay_rel {A B : Mm} (hA : Dr A) (hR : fR (A.1 1 6).toNatClampNeg A B) (e12 : B.1 0 12 = A.1 1 6) (hW : wdR A) {M' N' N : Mm} {r s : Int32} (hw : kW B N) (q1 : q_Layout_follow A = some (M', r)) (q2 : q_ChipMapModel_compile_50 4000 N 0 = some (N', s)) : LF M' N' := by
  unfold q_Layout_follow at q1
  rw [lq_s] at q1
  obtain ⟨M1, eM1⟩ : ∃ z, z = stI A 24 (upd (A.1 24) 0 (A.1 1 0)) := ⟨_, rfl⟩
  rw [← eM1] at q1
  have cpo : cp_ok 0 0 16 16 16 := by unfold cp_ok; decide
  have cpe : ∀ k : Rs, cpk 0 0 16 16 16 k = k := fun k => by
    unfold cpk
    unfold cp_ok at cpo
    rw [if_pos cpo]
  rw [cpe, lq_s] at q1
  obtain ⟨M2, eM2⟩ : ∃ z, z = stI M1 25 (va_cpy (M1.1 3) (M1.1 25) (0 : Int32).toNatClampNeg (0 : Int32).toNatClampNeg (16 : Int32).toNatClampNeg) := ⟨_, rfl⟩
  rw [← eM2, cpe, lq_s] at q1
  obtain ⟨M3, eM3⟩ : ∃ z, z = stI M2 26 (va_cpy (M2.1 4) (M2.1 26) (0 : Int32).toNatClampNeg (0 : Int32).toNatClampNeg (16 : Int32).toNatClampNeg) := ⟨_, rfl⟩
  rw [← eM3, cpe, lq_s] at q1
  obtain ⟨M4, eM4⟩ : ∃ z, z = stI M3 27 (va_cpy (M3.1 6) (M3.1 27) (0 : Int32).toNatClampNeg (0 : Int32).toNatClampNeg (16 : Int32).toNatClampNeg) := ⟨_, rfl⟩
  rw [← eM4] at q1
  obtain ⟨M5, r5, p5, q1⟩ := cal_o q1
  obtain ⟨M5', r5', p5', f5, -, -⟩ := w_Rules_copy (M := M4)
  rw [p5] at p5'
  obtain ⟨rfl, -⟩ := rs_e p5'
  rw [lq_s, lq_s] at q1
  have o4 : ∀ p, p < 24 → M4.1 p = A.1 p := fun p hp => by rw [st_o eM4 (by omega), st_o eM3 (by omega), st_o eM2 (by omega), st_o eM1 (by omega)]
  obtain ⟨M6, g1, g2, g3⟩ := f82_rel 4000 _ 0 (by decide) M' r q1
  have o6 : ∀ p, p < 24 → M6.1 p = A.1 p := fun p hp => by
    rw [g1 p (by omega), stI_ne _ _ (by omega), stI_ne _ _ (by omega), f5 p (by omega)]
    exact o4 p hp
  obtain ⟨N1, w1, q2⟩ := c50_rel 4000 N 0 N' s q2
  obtain ⟨N2, z1, z2, q2⟩ := c102_rel 26 4000 N1 0 (by decide) (by decide) (fun f hf => absurd hf (by have e : (0 : Int32).toInt = 0 := rfl; omega)) N' s q2
  have hB6 : Dr M6 := by
    have x1 := o6 1 (by omega)
    have x7 := o6 7 (by omega)
    have x9 := o6 9 (by omega)
    have x10 := o6 10 (by omega)
    refine ⟨?_, ?_, ?_, ?_, ?_⟩
    · rw [x1]; exact hA.rows
    · rw [x1]; exact hA.regs
    · rw [x1, x7]; exact hA.nm
    · rw [x1, x10]; exact hA.ac
    · rw [x1, x9]; exact hA.ho
  have hR6 : fR (M6.1 1 6).toNatClampNeg M6 B := by
    rw [o6 1 (by omega)]
    exact hR.cg (fun p h1 h2 => o6 p (by omega)) (fun _ _ _ => rfl)
  have w2 : kW B N2 := ⟨fun p h0 hp => by rw [z2 p (by omega), w1.1 p h0 hp, hw.1 p h0 hp], fun j hj => by rw [z2 0 (by decide), w1.2 j hj, hw.2 j hj]⟩
  have rows := hA.rows
  have h0 : LF M6 N2 := fun f hf => Or.inl ⟨by rw [g2], z1 f hf⟩
  have hW6 : wdR M6 := by
    unfold wdR
    rw [o6 1 (by omega), o6 11 (by omega), o6 12 (by omega)]
    exact hW
  obtain ⟨N3, l3, q3⟩ := lay_loop hB6 hR6 (by rw [e12, o6 1 (by omega)]) hW6 (M6.1 1 6).toInt.toNat 4000 4000 M6 N2 0 (by decide) (by have e : (0 : Int32).toInt = 0 := rfl; have := hB6.rows; omega) (frL.rf M6) w2 h0 M' N' r s g3 q2
  have kv : kV (stI N3 0 (upd (N3.1 0) 38 (N3.1 0 20))) N' := kv_ChipMapModel_compile_230 4000 _ _ (kV.rf _) N' s q3
  exact l3.cg rfl rfl rfl rfl (kv 23 (by decide) (by decide)) (kv 24 (by decide) (by decide)) (kv 25 (by decide) (by decide)) (kv 26 (by decide) (by decide)) (kv 27 (by decide) (by decide))
end
