theorem kt_ChipMapModel_check {A : Mm} (M : Mm) (h : kT A M) : kp (kT A) (q_ChipMapModel_check M) := by
  unfold q_ChipMapModel_check
  refine kp_st (kT.s0 h (by decide)) (fun m1 h2 => ?_)
  refine kp_if ?_ ?_
  · skip
    exact kp_some h2
  · skip
    refine kp_cal (kt_ChipMapModel_copyDevice _ _ _ h2) (fun m3 r4 h5 => ?_)
    refine kp_st (kT.s0 h5 (by decide)) (fun m6 h7 => ?_)
    refine kp_cal (kt_ChipMapModel_resetDevice _ h7) (fun m8 r9 h10 => ?_)
    refine kp_st (kT.s0 h10 (by decide)) (fun m11 h12 => ?_)
    refine kp_st (kT.s0 h12 (by decide)) (fun m13 h14 => ?_)
    refine kp_st (kT.s0 h14 (by decide)) (fun m15 h16 => ?_)
    refine kp_st (kT.s0 h16 (by decide)) (fun m17 h18 => ?_)
    refine kp_cal (kt_ChipMapModel_meet _ _ h18) (fun m19 r20 h21 => ?_)
    exact kt_ChipMapModel_check_56 4000 _ _ h21
theorem kt_ChipMapModel_found {A : Mm} (M : Mm) (a1 : Int32) (h : kT A M) : kp (kT A) (q_ChipMapModel_found M a1) := by
  unfold q_ChipMapModel_found
  refine kp_st (kT.s0 h (by decide)) (fun m1 h2 => ?_)
  refine kp_if ?_ ?_
  · skip
    exact kp_some h2
  · skip
    refine kp_if ?_ ?_
    · skip
      exact kp_some h2
    · skip
      exact kp_some h2
theorem kt_ChipMapModel_run_153 {A : Mm} {kf28 : Mm → Int32 → Int32 → Int32 → Int32 → Rs} (hk28 : ∀ (M : Mm) (b1 : Int32) (b2 : Int32) (b3 : Int32) (b4 : Int32), kT A M → kp (kT A) (kf28 M b1 b2 b3 b4)) (M : Mm) (v1 : Int32) (v2 : Int32) (v3 : Int32) (v4 : Int32) (h : kT A M) : kp (kT A) (q_ChipMapModel_run_153 kf28 M v1 v2 v3 v4) := by
  unfold q_ChipMapModel_run_153
  exact hk28 _ _ _ _ _ h
theorem kt_ChipMapModel_run_137 {A : Mm} {kf28 : Mm → Int32 → Int32 → Int32 → Int32 → Rs} (hk28 : ∀ (M : Mm) (b1 : Int32) (b2 : Int32) (b3 : Int32) (b4 : Int32), kT A M → kp (kT A) (kf28 M b1 b2 b3 b4)) (M : Mm) (v1 : Int32) (v2 : Int32) (v3 : Int32) (v4 : Int32) (h : kT A M) : kp (kT A) (q_ChipMapModel_run_137 kf28 M v1 v2 v3 v4) := by
  unfold q_ChipMapModel_run_137
  refine kp_cal (kt_ChipMapModel_end _ h) (fun m1 r2 h3 => ?_)
  refine kp_if ?_ ?_
  · skip
    exact kp_some h3
  · skip
    exact kt_ChipMapModel_run_153 hk28 _ _ _ _ _ h3
theorem kt_ChipMapModel_run_92 {A : Mm} {kf28 : Mm → Int32 → Int32 → Int32 → Int32 → Rs} (hk28 : ∀ (M : Mm) (b1 : Int32) (b2 : Int32) (b3 : Int32) (b4 : Int32), kT A M → kp (kT A) (kf28 M b1 b2 b3 b4)) (M : Mm) (v1 : Int32) (v3 : Int32) (v4 : Int32) (t0 : Int32) (h : kT A M) : kp (kT A) (q_ChipMapModel_run_92 kf28 M v1 v3 v4 t0) := by
  unfold q_ChipMapModel_run_92
  exact kt_ChipMapModel_run_153 hk28 _ _ _ _ _ h
theorem kt_ChipMapModel_run_28 {A : Mm} : ∀ (n' : Nat) (M : Mm) (v1 : Int32) (v2 : Int32) (v3 : Int32) (v4 : Int32), kT A M → kp (kT A) (q_ChipMapModel_run_28 n' M v1 v2 v3 v4) := by
  intro n'
  induction n' with
  | zero =>
    intro M v1 v2 v3 v4 h
    rw [q_ChipMapModel_run_28]
    exact kp_none
  | succ n' ih =>
    intro M v1 v2 v3 v4 h
    rw [q_ChipMapModel_run_28]
    refine kp_if ?_ ?_
    · skip
      refine kp_if ?_ ?_
      · skip
        exact kp_some h
      · skip
        exact kp_some h
    · skip
      refine kp_if ?_ ?_
      · skip
        refine kp_ix ?_
        refine kp_lv (fun x1 => ?_)
        refine kp_if ?_ ?_
        · skip
          exact kp_some h
        · skip
          refine kp_if ?_ ?_
          · skip
            refine kp_if ?_ ?_
            · skip
              refine kp_ix ?_
              exact kt_ChipMapModel_run_92 ih _ _ _ _ _ h
            · skip
              exact kt_ChipMapModel_run_92 ih _ _ _ _ _ h
          · skip
            refine kp_cal (kt_ChipMapModel_begin _ h) (fun m2 r3 h4 => ?_)
            refine kp_if ?_ ?_
            · skip
              refine kp_ix ?_
              refine kp_ix ?_
              refine kp_cal (kt_ChipMapModel_doPut _ _ _ h4) (fun m5 r6 h7 => ?_)
              exact kt_ChipMapModel_run_137 ih _ _ _ _ _ h7
            · skip
              refine kp_ix ?_
              refine kp_cal (kt_ChipMapModel_doFetch _ _ h4) (fun m8 r9 h10 => ?_)
              exact kt_ChipMapModel_run_137 ih _ _ _ _ _ h10
      · skip
        exact kp_some h
theorem kt_ChipMapModel_run {A : Mm} (M : Mm) (a1 : Int32) (h : kT A M) : kp (kT A) (q_ChipMapModel_run M a1) := by
  unfold q_ChipMapModel_run
  refine kp_st (kT.s0 h (by decide)) (fun m1 h2 => ?_)
  refine kp_if ?_ ?_
  · skip
    exact kp_some h2
  · skip
    refine kp_if ?_ ?_
    · skip
      exact kt_ChipMapModel_run_28 4000 _ _ _ _ _ h2
    · skip
      exact kp_some h2
theorem kt_ChipMapModel_state {A : Mm} (M : Mm) (a1 : Int32) (h : kT A M) : kp (kT A) (q_ChipMapModel_state M a1) := by
  unfold q_ChipMapModel_state
  refine kp_st (kT.s0 h (by decide)) (fun m1 h2 => ?_)
  refine kp_if ?_ ?_
  · skip
    exact kp_some h2
  · skip
    refine kp_if ?_ ?_
    · skip
      exact kp_some h2
    · skip
      refine kp_if ?_ ?_
      · skip
        exact kp_some h2
      · skip
        refine kp_if ?_ ?_
        · skip
          exact kp_some h2
        · skip
          refine kp_if ?_ ?_
          · skip
            exact kp_some h2
          · skip
            exact kp_some h2
