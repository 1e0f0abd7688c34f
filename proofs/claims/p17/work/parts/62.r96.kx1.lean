theorem kx_Checker_load {A : Mm} (M : Mm) (a1 : Int32) (h : kX A M) : kp (kX A) (q_Checker_load M a1) := by
  unfold q_Checker_load
  refine kp_lv (fun x1 => ?_)
  exact kx_Checker_load_6 4000 _ _ _ h
theorem kx_Checker_tell_16 {A : Mm} (M : Mm) (v1 : Int32) (v2 : Int32) (h : kX A M) : kp (kX A) (q_Checker_tell_16 M v1 v2) := by
  unfold q_Checker_tell_16
  refine kp_st (kX.st h (by decide)) (fun m1 h2 => ?_)
  refine kp_st (kX.st h2 (by decide)) (fun m3 h4 => ?_)
  exact kp_some h4
theorem kx_Checker_tell {A : Mm} (M : Mm) (a1 : Int32) (a2 : Int32) (h : kX A M) : kp (kX A) (q_Checker_tell M a1 a2) := by
  unfold q_Checker_tell
  refine kp_if ?_ ?_
  · skip
    exact kx_Checker_tell_16 _ _ _ h
  · skip
    refine kp_if ?_ ?_
    · skip
      refine kp_if ?_ ?_
      · skip
        refine kp_if ?_ ?_
        · skip
          exact kp_some h
        · skip
          refine kp_st (kX.st h (by decide)) (fun m1 h2 => ?_)
          exact kp_some h2
      · skip
        exact kp_some h
    · skip
      exact kx_Checker_tell_16 _ _ _ h
theorem kx_Checker_visit_130 {A : Mm} (M : Mm) (v2 : Int32) (h : kX A M) : kp (kX A) (q_Checker_visit_130 M v2) := by
  unfold q_Checker_visit_130
  refine kp_if ?_ ?_
  · skip
    refine kp_cal (kx_Checker_meet _ _ h) (fun m1 r2 h3 => ?_)
    exact kp_some h3
  · skip
    refine kp_cal (kx_Checker_tell _ _ _ h) (fun m4 r5 h6 => ?_)
    exact kp_some h6
theorem kx_Checker_visit {A : Mm} (M : Mm) (a1 : Int32) (h : kX A M) : kp (kX A) (q_Checker_visit M a1) := by
  unfold q_Checker_visit
  refine kp_cal (kx_Checker_load _ _ h) (fun m1 r2 h3 => ?_)
  refine kp_if ?_ ?_
  · skip
    refine kp_ix ?_
    refine kp_lv (fun x4 => ?_)
    refine kp_if ?_ ?_
    · skip
      refine kp_cal (kx_Checker_meet _ _ h3) (fun m5 r6 h7 => ?_)
      exact kp_some h7
    · skip
      refine kp_if ?_ ?_
      · skip
        refine kp_cal (kx_Checker_meet _ _ h3) (fun m8 r9 h10 => ?_)
        refine kp_ix ?_
        refine kp_cal (kx_Checker_meet _ _ h10) (fun m11 r12 h13 => ?_)
        exact kp_some h13
      · skip
        refine kp_cal (kx_Plan_beginHere _ h3) (fun m14 r15 h16 => ?_)
        refine kp_if ?_ ?_
        · skip
          refine kp_ix ?_
          refine kp_ix ?_
          refine kp_cal (kx_Plan_addPut _ _ _ h16) (fun m17 r18 h19 => ?_)
          exact kx_Checker_visit_130 _ _ h19
        · skip
          refine kp_ix ?_
          refine kp_cal (kx_Plan_addFetch _ _ h16) (fun m20 r21 h22 => ?_)
          exact kx_Checker_visit_130 _ _ h22
  · skip
    exact kp_some h3
theorem kx_ChipMap_check_63 {A : Mm} (M : Mm) (h : kX A M) : kp (kX A) (q_ChipMap_check_63 M) := by
  unfold q_ChipMap_check_63
  refine kp_if ?_ ?_
  · skip
    exact kp_some h
  · skip
    exact kp_some h
theorem kx_ChipMap_check_18 {A : Mm} : ∀ (n' : Nat) (M : Mm) (v1 : Int32), kX A M → kp (kX A) (q_ChipMap_check_18 n' M v1) := by
  intro n'
  induction n' with
  | zero =>
    intro M v1 h
    rw [q_ChipMap_check_18]
    exact kp_none
  | succ n' ih =>
    intro M v1 h
    rw [q_ChipMap_check_18]
    refine kp_if ?_ ?_
    · skip
      exact kx_ChipMap_check_63 _ h
    · skip
      refine kp_if ?_ ?_
      · skip
        exact kx_ChipMap_check_63 _ h
      · skip
        refine kp_if ?_ ?_
        · skip
          refine kp_cal (kx_Checker_visit _ _ h) (fun m1 r2 h3 => ?_)
          exact ih _ _ h3
        · skip
          exact kx_ChipMap_check_63 _ h
theorem kx_ChipMap_check {A : Mm} (M : Mm) (h : kX A M) : kp (kX A) (q_ChipMap_check M) := by
  unfold q_ChipMap_check
  refine kp_cal (kx_ChipMap_hasMap _ h) (fun m1 r2 h3 => ?_)
  refine kp_if ?_ ?_
  · skip
    exact kp_some h3
  · skip
    refine kp_cal (kx_Checker_begin _ h3) (fun m4 r5 h6 => ?_)
    exact kx_ChipMap_check_18 4000 _ _ h6
theorem kx_ChipMap_found {A : Mm} (M : Mm) (a1 : Int32) (h : kX A M) : kp (kX A) (q_ChipMap_found M a1) := by
  unfold q_ChipMap_found
  refine kp_if ?_ ?_
  · skip
    exact kp_some h
  · skip
    refine kp_if ?_ ?_
    · skip
      refine kp_if ?_ ?_
      · skip
        exact kp_some h
      · skip
        exact kp_some h
    · skip
      exact kp_some h
theorem kx_ChipMap_doStep {A : Mm} (M : Mm) (a1 : Int32) (h : kX A M) : kp (kX A) (q_ChipMap_doStep M a1) := by
  unfold q_ChipMap_doStep
  refine kp_ix ?_
  refine kp_lv (fun x1 => ?_)
  refine kp_ix ?_
  refine kp_if ?_ ?_
  · skip
    refine kp_cal (kx_ChipMap_reachForFetch _ _ h) (fun m2 r3 h4 => ?_)
    refine kp_if ?_ ?_
    · skip
      exact kp_some h4
    · skip
      refine kp_cal (kx_ChipMap_readOut _ _ h4) (fun m5 r6 h7 => ?_)
      exact kp_some h7
  · skip
    refine kp_cal (kx_Plan_begin _ h) (fun m8 r9 h10 => ?_)
    refine kp_ix ?_
    refine kp_cal (kx_Plan_addPut _ _ _ h10) (fun m11 r12 h13 => ?_)
    refine kp_cal (kx_ChipMap_doWrites _ h13) (fun m14 r15 h16 => ?_)
    refine kp_if ?_ ?_
    · skip
      exact kp_some h16
    · skip
      exact kp_some h16
theorem kx_ChipMap_run_137 {A : Mm} {kf26 : Mm → Int32 → Int32 → Int32 → Int32 → Rs} (hk26 : ∀ (M : Mm) (b1 : Int32) (b2 : Int32) (b3 : Int32) (b4 : Int32), kX A M → kp (kX A) (kf26 M b1 b2 b3 b4)) (M : Mm) (v1 : Int32) (v2 : Int32) (v3 : Int32) (v4 : Int32) (h : kX A M) : kp (kX A) (q_ChipMap_run_137 kf26 M v1 v2 v3 v4) := by
  unfold q_ChipMap_run_137
  exact hk26 _ _ _ _ _ h
theorem kx_ChipMap_run_115 {A : Mm} {kf26 : Mm → Int32 → Int32 → Int32 → Int32 → Rs} (hk26 : ∀ (M : Mm) (b1 : Int32) (b2 : Int32) (b3 : Int32) (b4 : Int32), kX A M → kp (kX A) (kf26 M b1 b2 b3 b4)) (M : Mm) (v1 : Int32) (v3 : Int32) (v4 : Int32) (t0 : Int32) (h : kX A M) : kp (kX A) (q_ChipMap_run_115 kf26 M v1 v3 v4 t0) := by
  unfold q_ChipMap_run_115
  exact kx_ChipMap_run_137 hk26 _ _ _ _ _ h
theorem kx_ChipMap_run_90 {A : Mm} {kf26 : Mm → Int32 → Int32 → Int32 → Int32 → Rs} (hk26 : ∀ (M : Mm) (b1 : Int32) (b2 : Int32) (b3 : Int32) (b4 : Int32), kX A M → kp (kX A) (kf26 M b1 b2 b3 b4)) (M : Mm) (v1 : Int32) (v2 : Int32) (v3 : Int32) (v4 : Int32) (t0 : Int32) (h : kX A M) : kp (kX A) (q_ChipMap_run_90 kf26 M v1 v2 v3 v4 t0) := by
  unfold q_ChipMap_run_90
  refine kp_if ?_ ?_
  · skip
    exact kx_ChipMap_run_115 hk26 _ _ _ _ _ h
  · skip
    refine kp_ix ?_
    exact kx_ChipMap_run_115 hk26 _ _ _ _ _ h
theorem kx_ChipMap_run_26 {A : Mm} : ∀ (n' : Nat) (M : Mm) (v1 : Int32) (v2 : Int32) (v3 : Int32) (v4 : Int32), kX A M → kp (kX A) (q_ChipMap_run_26 n' M v1 v2 v3 v4) := by
  intro n'
  induction n' with
  | zero =>
    intro M v1 v2 v3 v4 h
    rw [q_ChipMap_run_26]
    exact kp_none
  | succ n' ih =>
    intro M v1 v2 v3 v4 h
    rw [q_ChipMap_run_26]
    refine kp_if ?_ ?_
    · skip
      refine kp_if ?_ ?_
      · skip
        exact kp_some h
      · skip
        exact kp_some h
    · skip
      refine kp_if ?_ ?_
      · skip
        exact kp_some h
      · skip
        refine kp_ix ?_
        refine kp_if ?_ ?_
        · skip
          exact kp_some h
        · skip
          refine kp_ix ?_
          refine kp_if ?_ ?_
          · skip
            refine kp_if ?_ ?_
            · skip
              exact kx_ChipMap_run_90 ih _ _ _ _ _ _ h
            · skip
              exact kx_ChipMap_run_90 ih _ _ _ _ _ _ h
          · skip
            refine kp_cal (kx_ChipMap_doStep _ _ h) (fun m1 r2 h3 => ?_)
            refine kp_if ?_ ?_
            · skip
              exact kp_some h3
            · skip
              exact kx_ChipMap_run_137 ih _ _ _ _ _ h3
theorem kx_ChipMap_run {A : Mm} (M : Mm) (a1 : Int32) (h : kX A M) : kp (kX A) (q_ChipMap_run M a1) := by
  unfold q_ChipMap_run
  refine kp_cal (kx_ChipMap_hasMap _ h) (fun m1 r2 h3 => ?_)
  refine kp_if ?_ ?_
  · skip
    exact kp_some h3
  · skip
    refine kp_if ?_ ?_
    · skip
      exact kx_ChipMap_run_26 4000 _ _ _ _ _ h3
    · skip
      exact kp_some h3
theorem kx_ChipMap_state {A : Mm} (M : Mm) (a1 : Int32) (h : kX A M) : kp (kX A) (q_ChipMap_state M a1) := by
  unfold q_ChipMap_state
  refine kp_if ?_ ?_
  · skip
    exact kp_some h
  · skip
    refine kp_if ?_ ?_
    · skip
      exact kp_some h
    · skip
      refine kp_if ?_ ?_
      · skip
        exact kp_some h
      · skip
        refine kp_if ?_ ?_
        · skip
          exact kp_some h
        · skip
          refine kp_if ?_ ?_
          · skip
            exact kp_some h
          · skip
            exact kp_some h
theorem kx_t_ChipMap_fetch_37 {A : Mm} (M : Mm) (h : kX A M) : kp (kX A) (qt_ChipMap_fetch_37 M) := by
  unfold qt_ChipMap_fetch_37
  exact kp_some h
theorem kx_t_ChipMap_fetch {A : Mm} (M : Mm) (a1 : Int32) (h : kX A M) : kp (kX A) (qt_ChipMap_fetch M a1) := by
  unfold qt_ChipMap_fetch
  refine kp_cal (kx_Layout_canFetch _ _ h) (fun m1 r2 h3 => ?_)
  refine kp_if ?_ ?_
  · skip
    exact kp_some h3
  · skip
    refine kp_if ?_ ?_
    · skip
      exact kx_t_ChipMap_fetch_37 _ h3
    · skip
      refine kp_cal (kx_ChipMap_reachForFetch _ _ h3) (fun m4 r5 h6 => ?_)
      refine kp_if ?_ ?_
      · skip
        exact kx_t_ChipMap_fetch_37 _ h6
      · skip
        refine kp_cal (kx_ChipMap_readOut _ _ h6) (fun m7 r8 h9 => ?_)
        exact kp_none
