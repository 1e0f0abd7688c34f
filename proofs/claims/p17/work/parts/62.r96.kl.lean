theorem kl_Layout_bitsOf {A : Mm} (M : Mm) (a1 : Int32) (a2 : Int32) (h : kP A M) : kp (kP A) (q_Layout_bitsOf M a1 a2) := by
  unfold q_Layout_bitsOf
  refine kp_ix ?_
  refine kp_ix ?_
  exact kp_some h
theorem kl_Device_setLoose {A : Mm} (M : Mm) (a1 : Int32) (a2 : Int32) (h : kP A M) : kp (kP A) (q_Device_setLoose M a1 a2) := by
  unfold q_Device_setLoose
  refine kp_ix ?_
  refine kp_lv (fun x1 => ?_)
  refine kp_ix ?_
  refine kp_ix ?_
  refine kp_ix ?_
  refine kp_ix ?_
  refine kp_st (kP.st h (by decide)) (fun m2 h3 => ?_)
  exact kp_some h3
theorem kl_Device_startPulses_68 {A : Mm} {kf2 : Mm → Int32 → Int32 → Int32 → Rs} (hk2 : ∀ (M : Mm) (b1 : Int32) (b2 : Int32) (b3 : Int32), kP A M → kp (kP A) (kf2 M b1 b2 b3)) (M : Mm) (v1 : Int32) (v2 : Int32) (v3 : Int32) (h : kP A M) : kp (kP A) (q_Device_startPulses_68 kf2 M v1 v2 v3) := by
  unfold q_Device_startPulses_68
  exact hk2 _ _ _ _ h
theorem kl_Device_startPulses_2 {A : Mm} : ∀ (n' : Nat) (M : Mm) (v1 : Int32) (v2 : Int32) (v3 : Int32), kP A M → kp (kP A) (q_Device_startPulses_2 n' M v1 v2 v3) := by
  intro n'
  induction n' with
  | zero =>
    intro M v1 v2 v3 h
    rw [q_Device_startPulses_2]
    exact kp_none
  | succ n' ih =>
    intro M v1 v2 v3 h
    rw [q_Device_startPulses_2]
    refine kp_if ?_ ?_
    · skip
      exact kp_some h
    · skip
      refine kp_ix ?_
      refine kp_if ?_ ?_
      · skip
        refine kp_ix ?_
        refine kp_if ?_ ?_
        · skip
          refine kp_cal (kl_Layout_bitsOf _ _ _ h) (fun m1 r2 h3 => ?_)
          refine kp_if ?_ ?_
          · skip
            exact kl_Device_startPulses_68 ih _ _ _ _ h3
          · skip
            refine kp_cal (kl_Layout_bitsOf _ _ _ h3) (fun m4 r5 h6 => ?_)
            refine kp_cal (kl_Device_setLoose _ _ _ h6) (fun m7 r8 h9 => ?_)
            refine kp_ix ?_
            refine kp_st (kP.st h9 (by decide)) (fun m10 h11 => ?_)
            exact kl_Device_startPulses_68 ih _ _ _ _ h11
        · skip
          exact kl_Device_startPulses_68 ih _ _ _ _ h
      · skip
        exact kl_Device_startPulses_68 ih _ _ _ _ h
theorem kl_Device_startPulses {A : Mm} (M : Mm) (a1 : Int32) (a2 : Int32) (h : kP A M) : kp (kP A) (q_Device_startPulses M a1 a2) := by
  unfold q_Device_startPulses
  exact kl_Device_startPulses_2 4000 _ _ _ _ h
theorem kl_Device_countPulses_55 {A : Mm} {kf2 : Mm → Int32 → Int32 → Rs} (hk2 : ∀ (M : Mm) (b1 : Int32) (b2 : Int32), kP A M → kp (kP A) (kf2 M b1 b2)) (M : Mm) (v1 : Int32) (v2 : Int32) (h : kP A M) : kp (kP A) (q_Device_countPulses_55 kf2 M v1 v2) := by
  unfold q_Device_countPulses_55
  exact hk2 _ _ _ h
theorem kl_Device_countPulses_2 {A : Mm} : ∀ (n' : Nat) (M : Mm) (v1 : Int32) (v2 : Int32), kP A M → kp (kP A) (q_Device_countPulses_2 n' M v1 v2) := by
  intro n'
  induction n' with
  | zero =>
    intro M v1 v2 h
    rw [q_Device_countPulses_2]
    exact kp_none
  | succ n' ih =>
    intro M v1 v2 h
    rw [q_Device_countPulses_2]
    refine kp_if ?_ ?_
    · skip
      exact kp_some h
    · skip
      refine kp_ix ?_
      refine kp_if ?_ ?_
      · skip
        refine kp_ix ?_
        refine kp_if ?_ ?_
        · skip
          exact kl_Device_countPulses_55 ih _ _ _ h
        · skip
          refine kp_ix ?_
          refine kp_ix ?_
          refine kp_st (kP.st h (by decide)) (fun m1 h2 => ?_)
          refine kp_ix ?_
          refine kp_if ?_ ?_
          · skip
            refine kp_cal (kl_Device_setLoose _ _ _ h2) (fun m3 r4 h5 => ?_)
            exact kl_Device_countPulses_55 ih _ _ _ h5
          · skip
            exact kl_Device_countPulses_55 ih _ _ _ h2
      · skip
        exact kl_Device_countPulses_55 ih _ _ _ h
theorem kl_Device_countPulses {A : Mm} (M : Mm) (a1 : Int32) (h : kP A M) : kp (kP A) (q_Device_countPulses M a1) := by
  unfold q_Device_countPulses
  exact kl_Device_countPulses_2 4000 _ _ _ h
