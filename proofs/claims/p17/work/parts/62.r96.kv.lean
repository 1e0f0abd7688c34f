theorem kv_ChipMapModel_resetDevice_55 {A : Mm} : ∀ (n' : Nat) (M : Mm) (v1 : Int32), kV A M → kp (kV A) (q_ChipMapModel_resetDevice_55 n' M v1) := by
  intro n'
  induction n' with
  | zero =>
    intro M v1 h
    rw [q_ChipMapModel_resetDevice_55]
    exact kp_none
  | succ n' ih =>
    intro M v1 h
    rw [q_ChipMapModel_resetDevice_55]
    refine kp_if ?_ ?_
    · skip
      exact kp_some h
    · skip
      refine kp_ix ?_
      refine kp_st (kV.st h (by decide)) (fun m1 h2 => ?_)
      exact ih _ _ h2
theorem kv_ChipMapModel_resetDevice_32 {A : Mm} {kf2 : Mm → Int32 → Rs} (hk2 : ∀ (M : Mm) (b1 : Int32), kV A M → kp (kV A) (kf2 M b1)) (M : Mm) (v1 : Int32) (t0 : Int32) (t1 : Int32) (h : kV A M) : kp (kV A) (q_ChipMapModel_resetDevice_32 kf2 M v1 t0 t1) := by
  unfold q_ChipMapModel_resetDevice_32
  refine kp_ix ?_
  refine kp_st (kV.st h (by decide)) (fun m1 h2 => ?_)
  refine kp_ix ?_
  refine kp_st (kV.st h2 (by decide)) (fun m3 h4 => ?_)
  refine kp_ix ?_
  refine kp_st (kV.st h4 (by decide)) (fun m5 h6 => ?_)
  exact hk2 _ _ h6
theorem kv_ChipMapModel_resetDevice_2 {A : Mm} : ∀ (n' : Nat) (M : Mm) (v1 : Int32), kV A M → kp (kV A) (q_ChipMapModel_resetDevice_2 n' M v1) := by
  intro n'
  induction n' with
  | zero =>
    intro M v1 h
    rw [q_ChipMapModel_resetDevice_2]
    exact kp_none
  | succ n' ih =>
    intro M v1 h
    rw [q_ChipMapModel_resetDevice_2]
    refine kp_if ?_ ?_
    · skip
      exact kv_ChipMapModel_resetDevice_55 4000 _ _ h
    · skip
      refine kp_ix ?_
      refine kp_if ?_ ?_
      · skip
        exact kv_ChipMapModel_resetDevice_32 ih _ _ _ _ h
      · skip
        refine kp_ix ?_
        exact kv_ChipMapModel_resetDevice_32 ih _ _ _ _ h
theorem kv_ChipMapModel_resetDevice {A : Mm} (M : Mm) (h : kV A M) : kp (kV A) (q_ChipMapModel_resetDevice M) := by
  unfold q_ChipMapModel_resetDevice
  exact kv_ChipMapModel_resetDevice_2 4000 _ _ h
theorem kv_ChipMapModel_resetAll {A : Mm} (M : Mm) (h : kV A M) : kp (kV A) (q_ChipMapModel_resetAll M) := by
  unfold q_ChipMapModel_resetAll
  refine kp_cal (kv_ChipMapModel_resetDevice _ h) (fun m1 r2 h3 => ?_)
  refine kp_st (kV.st h3 (by decide)) (fun m4 h5 => ?_)
  refine kp_st (kV.st h5 (by decide)) (fun m6 h7 => ?_)
  refine kp_st (kV.st h7 (by decide)) (fun m8 h9 => ?_)
  exact kp_some h9
theorem kv_ChipMapModel_compile_230 {A : Mm} : ∀ (n' : Nat) (M : Mm) (v2 : Int32), kV A M → kp (kV A) (q_ChipMapModel_compile_230 n' M v2) := by
  intro n'
  induction n' with
  | zero =>
    intro M v2 h
    rw [q_ChipMapModel_compile_230]
    exact kp_none
  | succ n' ih =>
    intro M v2 h
    rw [q_ChipMapModel_compile_230]
    refine kp_if ?_ ?_
    · skip
      refine kp_st (kV.st h (by decide)) (fun m1 h2 => ?_)
      refine kp_st (kV.st h2 (by decide)) (fun m3 h4 => ?_)
      refine kp_st (kV.st h4 (by decide)) (fun m5 h6 => ?_)
      refine kp_cal (kv_ChipMapModel_resetAll _ h6) (fun m7 r8 h9 => ?_)
      exact kp_some h9
    · skip
      refine kp_ix ?_
      refine kp_ix ?_
      refine kp_st (kV.st h (by decide)) (fun m10 h11 => ?_)
      refine kp_ix ?_
      refine kp_ix ?_
      refine kp_st (kV.st h11 (by decide)) (fun m12 h13 => ?_)
      refine kp_ix ?_
      refine kp_ix ?_
      refine kp_st (kV.st h13 (by decide)) (fun m14 h15 => ?_)
      refine kp_ix ?_
      refine kp_ix ?_
      refine kp_st (kV.st h15 (by decide)) (fun m16 h17 => ?_)
      exact ih _ _ h17
