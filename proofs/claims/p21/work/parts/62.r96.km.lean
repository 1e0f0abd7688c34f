section
theorem km_ChipMapModel_here {A : Mm} (M : Mm) (h : kM A M) : kp (kM A) (q_ChipMapModel_here M) := by
  unfold q_ChipMapModel_here
  refine kp_if ?_ ?_
  · skip
    exact kp_some h
  · skip
    refine kp_ix ?_
    exact kp_some h
theorem km_ChipMapModel_wrong {A : Mm} (M : Mm) (a1 : Int32) (a2 : Int32) (h : kM A M) : kp (kM A) (q_ChipMapModel_wrong M a1 a2) := by
  unfold q_ChipMapModel_wrong
  refine kp_st (kM.s0 h (by decide)) (fun m1 h2 => ?_)
  refine kp_st (kM.s0 h2 (by decide)) (fun m3 h4 => ?_)
  exact kp_some h4
theorem km_ChipMapModel_hex_19 {A : Mm} (M : Mm) (v0 : Int32) (h : kM A M) : kp (kM A) (q_ChipMapModel_hex_19 M v0) := by
  unfold q_ChipMapModel_hex_19
  refine kp_if ?_ ?_
  · skip
    exact kp_some h
  · skip
    refine kp_if ?_ ?_
    · skip
      exact kp_some h
    · skip
      exact kp_some h
theorem km_ChipMapModel_hex {A : Mm} (M : Mm) (a0 : Int32) (h : kM A M) : kp (kM A) (q_ChipMapModel_hex M a0) := by
  unfold q_ChipMapModel_hex
  refine kp_if ?_ ?_
  · skip
    exact km_ChipMapModel_hex_19 _ _ h
  · skip
    refine kp_if ?_ ?_
    · skip
      exact km_ChipMapModel_hex_19 _ _ h
    · skip
      exact kp_some h
theorem km_ChipMapModel_isName {A : Mm} (M : Mm) (a0 : Int32) (h : kM A M) : kp (kM A) (q_ChipMapModel_isName M a0) := by
  unfold q_ChipMapModel_isName
  refine kp_if ?_ ?_
  · skip
    exact kp_some h
  · skip
    refine kp_if ?_ ?_
    · skip
      exact kp_some h
    · skip
      exact kp_some h
theorem km_ChipMapModel_take {A : Mm} (M : Mm) (a1 : Int32) (h : kM A M) : kp (kM A) (q_ChipMapModel_take M a1) := by
  unfold q_ChipMapModel_take
  refine kp_cal (km_ChipMapModel_here _ h) (fun m1 r2 h3 => ?_)
  refine kp_if ?_ ?_
  · skip
    refine kp_st (kM.s0 h3 (by decide)) (fun m4 h5 => ?_)
    exact kp_some h5
  · skip
    refine kp_cal (km_ChipMapModel_wrong _ _ _ h3) (fun m6 r7 h8 => ?_)
    refine kp_bz ?_
    exact kp_some h8
theorem km_ChipMapModel_takeName {A : Mm} (M : Mm) (h : kM A M) : kp (kM A) (q_ChipMapModel_takeName M) := by
  unfold q_ChipMapModel_takeName
  refine kp_cal (km_ChipMapModel_here _ h) (fun m1 r2 h3 => ?_)
  refine kp_cal (km_ChipMapModel_isName _ _ h3) (fun m4 r5 h6 => ?_)
  refine kp_if ?_ ?_
  · skip
    refine kp_cal (km_ChipMapModel_wrong _ _ _ h6) (fun m7 r8 h9 => ?_)
    refine kp_bz ?_
    exact kp_some h9
  · skip
    refine kp_st (kM.s0 h6 (by decide)) (fun m10 h11 => ?_)
    exact kp_some h11
theorem km_ChipMapModel_takeHex_58 {A : Mm} (M : Mm) (v1 : Int32) (v3 : Int32) (h : kM A M) : kp (kM A) (q_ChipMapModel_takeHex_58 M v1 v3) := by
  unfold q_ChipMapModel_takeHex_58
  refine kp_if ?_ ?_
  · skip
    exact kp_some h
  · skip
    refine kp_cal (km_ChipMapModel_wrong _ _ _ h) (fun m1 r2 h3 => ?_)
    refine kp_if ?_ ?_
    · skip
      exact kp_some h3
    · skip
      exact kp_some h3
theorem km_ChipMapModel_takeHex_7 {A : Mm} : ∀ (n' : Nat) (M : Mm) (v1 : Int32) (v2 : Int32) (v3 : Int32), kM A M → kp (kM A) (q_ChipMapModel_takeHex_7 n' M v1 v2 v3) := by
  intro n'
  induction n' with
  | zero =>
    intro M v1 v2 v3 h
    rw [q_ChipMapModel_takeHex_7]
    exact kp_none
  | succ n' ih =>
    intro M v1 v2 v3 h
    rw [q_ChipMapModel_takeHex_7]
    refine kp_if ?_ ?_
    · skip
      exact km_ChipMapModel_takeHex_58 _ _ _ h
    · skip
      refine kp_cal (km_ChipMapModel_here _ h) (fun m1 r2 h3 => ?_)
      refine kp_cal (km_ChipMapModel_hex _ _ h3) (fun m4 r5 h6 => ?_)
      refine kp_if ?_ ?_
      · skip
        exact km_ChipMapModel_takeHex_58 _ _ _ h6
      · skip
        refine kp_cal (km_ChipMapModel_here _ h6) (fun m7 r8 h9 => ?_)
        refine kp_cal (km_ChipMapModel_hex _ _ h9) (fun m10 r11 h12 => ?_)
        refine kp_st (kM.s0 h12 (by decide)) (fun m13 h14 => ?_)
        refine kp_st (kM.s0 h14 (by decide)) (fun m15 h16 => ?_)
        exact ih _ _ _ _ h16
theorem km_ChipMapModel_takeHex {A : Mm} (M : Mm) (a1 : Int32) (a2 : Int32) (h : kM A M) : kp (kM A) (q_ChipMapModel_takeHex M a1 a2) := by
  unfold q_ChipMapModel_takeHex
  refine kp_st (kM.s0 h (by decide)) (fun m1 h2 => ?_)
  exact km_ChipMapModel_takeHex_7 4000 _ _ _ _ h2
theorem km_ChipMapModel_takeDecimal_65 {A : Mm} (M : Mm) (v1 : Int32) (h : kM A M) : kp (kM A) (q_ChipMapModel_takeDecimal_65 M v1) := by
  unfold q_ChipMapModel_takeDecimal_65
  refine kp_if ?_ ?_
  · skip
    exact kp_some h
  · skip
    refine kp_cal (km_ChipMapModel_wrong _ _ _ h) (fun m1 r2 h3 => ?_)
    refine kp_if ?_ ?_
    · skip
      exact kp_some h3
    · skip
      exact kp_some h3
theorem km_ChipMapModel_takeDecimal_7 {A : Mm} : ∀ (n' : Nat) (M : Mm) (v1 : Int32), kM A M → kp (kM A) (q_ChipMapModel_takeDecimal_7 n' M v1) := by
  intro n'
  induction n' with
  | zero =>
    intro M v1 h
    rw [q_ChipMapModel_takeDecimal_7]
    exact kp_none
  | succ n' ih =>
    intro M v1 h
    rw [q_ChipMapModel_takeDecimal_7]
    refine kp_if ?_ ?_
    · skip
      exact km_ChipMapModel_takeDecimal_65 _ _ h
    · skip
      refine kp_cal (km_ChipMapModel_here _ h) (fun m1 r2 h3 => ?_)
      refine kp_if ?_ ?_
      · skip
        exact km_ChipMapModel_takeDecimal_65 _ _ h3
      · skip
        refine kp_cal (km_ChipMapModel_here _ h3) (fun m4 r5 h6 => ?_)
        refine kp_if ?_ ?_
        · skip
          exact km_ChipMapModel_takeDecimal_65 _ _ h6
        · skip
          refine kp_cal (km_ChipMapModel_here _ h6) (fun m7 r8 h9 => ?_)
          refine kp_st (kM.s0 h9 (by decide)) (fun m10 h11 => ?_)
          refine kp_st (kM.s0 h11 (by decide)) (fun m12 h13 => ?_)
          exact ih _ _ h13
theorem km_ChipMapModel_takeDecimal {A : Mm} (M : Mm) (h : kM A M) : kp (kM A) (q_ChipMapModel_takeDecimal M) := by
  unfold q_ChipMapModel_takeDecimal
  refine kp_st (kM.s0 h (by decide)) (fun m1 h2 => ?_)
  exact km_ChipMapModel_takeDecimal_7 4000 _ _ h2
theorem km_ChipMapModel_isAccess {A : Mm} (M : Mm) (a0 : Int32) (h : kM A M) : kp (kM A) (q_ChipMapModel_isAccess M a0) := by
  unfold q_ChipMapModel_isAccess
  refine kp_if ?_ ?_
  · skip
    exact kp_some h
  · skip
    refine kp_if ?_ ?_
    · skip
      exact kp_some h
    · skip
      refine kp_if ?_ ?_
      · skip
        exact kp_some h
      · skip
        refine kp_if ?_ ?_
        · skip
          exact kp_some h
        · skip
          refine kp_if ?_ ?_
          · skip
            exact kp_some h
          · skip
            refine kp_if ?_ ?_
            · skip
              exact kp_some h
            · skip
              refine kp_if ?_ ?_
              · skip
                exact kp_some h
              · skip
                exact kp_some h
theorem km_ChipMapModel_readField_181 {A : Mm} (M : Mm) (h : kM A M) : kp (kM A) (q_ChipMapModel_readField_181 M) := by
  unfold q_ChipMapModel_readField_181
  refine kp_st (kM.s0 h (by decide)) (fun m1 h2 => ?_)
  refine kp_cal (km_ChipMapModel_take _ _ h2) (fun m3 r4 h5 => ?_)
  refine kp_bz ?_
  exact kp_some h5
theorem km_ChipMapModel_readField {A : Mm} (M : Mm) (h : kM A M) : kp (kM A) (q_ChipMapModel_readField M) := by
  unfold q_ChipMapModel_readField
  refine kp_lv (fun x1 => ?_)
  refine kp_ix ?_
  refine kp_st (kM.st h (by decide)) (fun m2 h3 => ?_)
  refine kp_cal (km_ChipMapModel_here _ h3) (fun m4 r5 h6 => ?_)
  refine kp_ix ?_
  refine kp_st (kM.st h6 (by decide)) (fun m7 h8 => ?_)
  refine kp_ix ?_
  refine kp_st (kM.st h8 (by decide)) (fun m9 h10 => ?_)
  refine kp_cal (km_ChipMapModel_takeName _ h10) (fun m11 r12 h13 => ?_)
  refine kp_if ?_ ?_
  · skip
    exact kp_some h13
  · skip
    refine kp_cal (km_ChipMapModel_here _ h13) (fun m14 r15 h16 => ?_)
    refine kp_ix ?_
    refine kp_st (kM.st h16 (by decide)) (fun m17 h18 => ?_)
    refine kp_cal (km_ChipMapModel_here _ h18) (fun m19 r20 h21 => ?_)
    refine kp_cal (km_ChipMapModel_isAccess _ _ h21) (fun m22 r23 h24 => ?_)
    refine kp_if ?_ ?_
    · skip
      refine kp_cal (km_ChipMapModel_wrong _ _ _ h24) (fun m25 r26 h27 => ?_)
      refine kp_bz ?_
      exact kp_some h27
    · skip
      refine kp_st (kM.s0 h24 (by decide)) (fun m28 h29 => ?_)
      refine kp_cal (km_ChipMapModel_takeDecimal _ h29) (fun m30 r31 h32 => ?_)
      refine kp_if ?_ ?_
      · skip
        exact kp_some h32
      · skip
        refine kp_ix ?_
        refine kp_st (kM.st h32 (by decide)) (fun m33 h34 => ?_)
        refine kp_cal (km_ChipMapModel_take _ _ h34) (fun m35 r36 h37 => ?_)
        refine kp_if ?_ ?_
        · skip
          exact kp_some h37
        · skip
          refine kp_cal (km_ChipMapModel_takeDecimal _ h37) (fun m38 r39 h40 => ?_)
          refine kp_if ?_ ?_
          · skip
            exact kp_some h40
          · skip
            refine kp_ix ?_
            refine kp_st (kM.st h40 (by decide)) (fun m41 h42 => ?_)
            refine kp_ix ?_
            refine kp_st (kM.st h42 (by decide)) (fun m43 h44 => ?_)
            refine kp_cal (km_ChipMapModel_here _ h44) (fun m45 r46 h47 => ?_)
            refine kp_if ?_ ?_
            · skip
              refine kp_st (kM.s0 h47 (by decide)) (fun m48 h49 => ?_)
              refine kp_cal (km_ChipMapModel_takeHex _ _ _ h49) (fun m50 r51 h52 => ?_)
              refine kp_if ?_ ?_
              · skip
                exact kp_some h52
              · skip
                refine kp_ix ?_
                refine kp_st (kM.st h52 (by decide)) (fun m53 h54 => ?_)
                exact km_ChipMapModel_readField_181 _ h54
            · skip
              exact km_ChipMapModel_readField_181 _ h47
theorem km_ChipMapModel_readRegister_203 {A : Mm} {kf165 : Mm → Int32 → Int32 → Rs} (hk165 : ∀ (M : Mm) (b1 : Int32) (b2 : Int32), kM A M → kp (kM A) (kf165 M b1 b2)) (M : Mm) (v2 : Int32) (t0 : Int32) (h : kM A M) : kp (kM A) (q_ChipMapModel_readRegister_203 kf165 M v2 t0) := by
  unfold q_ChipMapModel_readRegister_203
  exact hk165 _ _ _ h
theorem km_ChipMapModel_readRegister_202 {A : Mm} {kf165 : Mm → Int32 → Int32 → Rs} (hk165 : ∀ (M : Mm) (b1 : Int32) (b2 : Int32), kM A M → kp (kM A) (kf165 M b1 b2)) (M : Mm) (v2 : Int32) (h : kM A M) : kp (kM A) (q_ChipMapModel_readRegister_202 kf165 M v2) := by
  unfold q_ChipMapModel_readRegister_202
  exact km_ChipMapModel_readRegister_203 hk165 _ _ _ h
theorem km_ChipMapModel_readRegister_165 {A : Mm} : ∀ (n' : Nat) (M : Mm) (v2 : Int32) (v3 : Int32), kM A M → kp (kM A) (q_ChipMapModel_readRegister_165 n' M v2 v3) := by
  intro n'
  induction n' with
  | zero =>
    intro M v2 v3 h
    rw [q_ChipMapModel_readRegister_165]
    exact kp_none
  | succ n' ih =>
    intro M v2 v3 h
    rw [q_ChipMapModel_readRegister_165]
    refine kp_if ?_ ?_
    · skip
      refine kp_st (kM.s0 h (by decide)) (fun m1 h2 => ?_)
      refine kp_cal (km_ChipMapModel_take _ _ h2) (fun m3 r4 h5 => ?_)
      refine kp_bz ?_
      exact kp_some h5
    · skip
      refine kp_cal (km_ChipMapModel_readField _ h) (fun m6 r7 h8 => ?_)
      refine kp_if ?_ ?_
      · skip
        exact kp_some h8
      · skip
        refine kp_cal (km_ChipMapModel_here _ h8) (fun m9 r10 h11 => ?_)
        refine kp_if ?_ ?_
        · skip
          exact km_ChipMapModel_readRegister_202 ih _ _ h11
        · skip
          refine kp_if ?_ ?_
          · skip
            exact km_ChipMapModel_readRegister_202 ih _ _ h11
          · skip
            exact km_ChipMapModel_readRegister_203 ih _ _ _ h11
theorem km_ChipMapModel_readRegister_147 {A : Mm} (M : Mm) (h : kM A M) : kp (kM A) (q_ChipMapModel_readRegister_147 M) := by
  unfold q_ChipMapModel_readRegister_147
  refine kp_cal (km_ChipMapModel_take _ _ h) (fun m1 r2 h3 => ?_)
  refine kp_if ?_ ?_
  · skip
    exact kp_some h3
  · skip
    refine kp_lv (fun x4 => ?_)
    exact km_ChipMapModel_readRegister_165 4000 _ _ _ h3
theorem km_ChipMapModel_readRegister {A : Mm} (M : Mm) (h : kM A M) : kp (kM A) (q_ChipMapModel_readRegister M) := by
  unfold q_ChipMapModel_readRegister
  refine kp_lv (fun x1 => ?_)
  refine kp_ix ?_
  refine kp_st (kM.st h (by decide)) (fun m2 h3 => ?_)
  refine kp_if ?_ ?_
  · skip
    refine kp_cal (km_ChipMapModel_wrong _ _ _ h3) (fun m4 r5 h6 => ?_)
    refine kp_bz ?_
    exact kp_some h6
  · skip
    refine kp_cal (km_ChipMapModel_take _ _ h3) (fun m7 r8 h9 => ?_)
    refine kp_if ?_ ?_
    · skip
      exact kp_some h9
    · skip
      refine kp_cal (km_ChipMapModel_takeHex _ _ _ h9) (fun m10 r11 h12 => ?_)
      refine kp_if ?_ ?_
      · skip
        exact kp_some h12
      · skip
        refine kp_ix ?_
        refine kp_st (kM.st h12 (by decide)) (fun m13 h14 => ?_)
        refine kp_ix ?_
        refine kp_st (kM.st h14 (by decide)) (fun m15 h16 => ?_)
        refine kp_cal (km_ChipMapModel_here _ h16) (fun m17 r18 h19 => ?_)
        refine kp_if ?_ ?_
        · skip
          refine kp_st (kM.s0 h19 (by decide)) (fun m20 h21 => ?_)
          refine kp_ix ?_
          refine kp_st (kM.st h21 (by decide)) (fun m22 h23 => ?_)
          refine kp_cal (km_ChipMapModel_here _ h23) (fun m24 r25 h26 => ?_)
          refine kp_ix ?_
          refine kp_st (kM.st h26 (by decide)) (fun m27 h28 => ?_)
          refine kp_cal (km_ChipMapModel_takeName _ h28) (fun m29 r30 h31 => ?_)
          refine kp_if ?_ ?_
          · skip
            exact kp_some h31
          · skip
            refine kp_cal (km_ChipMapModel_take _ _ h31) (fun m32 r33 h34 => ?_)
            refine kp_if ?_ ?_
            · skip
              exact kp_some h34
            · skip
              refine kp_cal (km_ChipMapModel_takeHex _ _ _ h34) (fun m35 r36 h37 => ?_)
              refine kp_if ?_ ?_
              · skip
                exact kp_some h37
              · skip
                refine kp_ix ?_
                refine kp_st (kM.st h37 (by decide)) (fun m38 h39 => ?_)
                exact km_ChipMapModel_readRegister_147 _ h39
        · skip
          exact km_ChipMapModel_readRegister_147 _ h19
theorem km_ChipMapModel_readRule_190 {A : Mm} (M : Mm) (h : kM A M) : kp (kM A) (q_ChipMapModel_readRule_190 M) := by
  unfold q_ChipMapModel_readRule_190
  refine kp_st (kM.s0 h (by decide)) (fun m1 h2 => ?_)
  refine kp_cal (km_ChipMapModel_take _ _ h2) (fun m3 r4 h5 => ?_)
  refine kp_bz ?_
  exact kp_some h5
theorem km_ChipMapModel_readRule_100 {A : Mm} (M : Mm) (v1 : Int32) (h : kM A M) : kp (kM A) (q_ChipMapModel_readRule_100 M v1) := by
  unfold q_ChipMapModel_readRule_100
  refine kp_st (kM.s0 h (by decide)) (fun m1 h2 => ?_)
  refine kp_ix ?_
  refine kp_st (kM.st h2 (by decide)) (fun m3 h4 => ?_)
  refine kp_cal (km_ChipMapModel_here _ h4) (fun m5 r6 h7 => ?_)
  refine kp_ix ?_
  refine kp_st (kM.st h7 (by decide)) (fun m8 h9 => ?_)
  refine kp_cal (km_ChipMapModel_takeName _ h9) (fun m10 r11 h12 => ?_)
  refine kp_if ?_ ?_
  · skip
    exact kp_some h12
  · skip
    refine kp_ix ?_
    refine kp_st (kM.st h12 (by decide)) (fun m13 h14 => ?_)
    refine kp_ix ?_
    refine kp_if ?_ ?_
    · skip
      refine kp_cal (km_ChipMapModel_take _ _ h14) (fun m15 r16 h17 => ?_)
      refine kp_if ?_ ?_
      · skip
        exact kp_some h17
      · skip
        refine kp_cal (km_ChipMapModel_takeHex _ _ _ h17) (fun m18 r19 h20 => ?_)
        refine kp_if ?_ ?_
        · skip
          exact kp_some h20
        · skip
          refine kp_ix ?_
          refine kp_st (kM.st h20 (by decide)) (fun m21 h22 => ?_)
          exact km_ChipMapModel_readRule_190 _ h22
    · skip
      exact km_ChipMapModel_readRule_190 _ h14
theorem km_ChipMapModel_readRule {A : Mm} (M : Mm) (h : kM A M) : kp (kM A) (q_ChipMapModel_readRule M) := by
  unfold q_ChipMapModel_readRule
  refine kp_lv (fun x1 => ?_)
  refine kp_if ?_ ?_
  · skip
    refine kp_cal (km_ChipMapModel_wrong _ _ _ h) (fun m2 r3 h4 => ?_)
    refine kp_bz ?_
    exact kp_some h4
  · skip
    refine kp_ix ?_
    refine kp_st (kM.st h (by decide)) (fun m5 h6 => ?_)
    refine kp_cal (km_ChipMapModel_here _ h6) (fun m7 r8 h9 => ?_)
    refine kp_ix ?_
    refine kp_st (kM.st h9 (by decide)) (fun m10 h11 => ?_)
    refine kp_cal (km_ChipMapModel_takeName _ h11) (fun m12 r13 h14 => ?_)
    refine kp_if ?_ ?_
    · skip
      exact kp_some h14
    · skip
      refine kp_cal (km_ChipMapModel_here _ h14) (fun m15 r16 h17 => ?_)
      refine kp_ix ?_
      refine kp_st (kM.st h17 (by decide)) (fun m18 h19 => ?_)
      refine kp_cal (km_ChipMapModel_here _ h19) (fun m20 r21 h22 => ?_)
      refine kp_if ?_ ?_
      · skip
        exact km_ChipMapModel_readRule_100 _ _ h22
      · skip
        refine kp_cal (km_ChipMapModel_here _ h22) (fun m23 r24 h25 => ?_)
        refine kp_if ?_ ?_
        · skip
          exact km_ChipMapModel_readRule_100 _ _ h25
        · skip
          refine kp_cal (km_ChipMapModel_here _ h25) (fun m26 r27 h28 => ?_)
          refine kp_if ?_ ?_
          · skip
            exact km_ChipMapModel_readRule_100 _ _ h28
          · skip
            refine kp_cal (km_ChipMapModel_wrong _ _ _ h28) (fun m29 r30 h31 => ?_)
            refine kp_bz ?_
            exact kp_some h31
theorem km_ChipMapModel_named_2 {A : Mm} : ∀ (n' : Nat) (M : Mm) (v1 : Int32) (v2 : Int32) (v3 : Int32), kM A M → kp (kM A) (q_ChipMapModel_named_2 n' M v1 v2 v3) := by
  intro n'
  induction n' with
  | zero =>
    intro M v1 v2 v3 h
    rw [q_ChipMapModel_named_2]
    exact kp_none
  | succ n' ih =>
    intro M v1 v2 v3 h
    rw [q_ChipMapModel_named_2]
    refine kp_if ?_ ?_
    · skip
      exact kp_some h
    · skip
      refine kp_ix ?_
      refine kp_if ?_ ?_
      · skip
        exact kp_some h
      · skip
        exact ih _ _ _ _ h
theorem km_ChipMapModel_named {A : Mm} (M : Mm) (a1 : Int32) (a2 : Int32) (h : kM A M) : kp (kM A) (q_ChipMapModel_named M a1 a2) := by
  unfold q_ChipMapModel_named
  exact km_ChipMapModel_named_2 4000 _ _ _ _ h
theorem km_ChipMapModel_fits {A : Mm} (M : Mm) (a1 : Int32) (a2 : Int32) (h : kM A M) : kp (kM A) (q_ChipMapModel_fits M a1 a2) := by
  unfold q_ChipMapModel_fits
  refine kp_ix ?_
  refine kp_ix ?_
  refine kp_if ?_ ?_
  · skip
    exact kp_some h
  · skip
    exact kp_some h
theorem km_ChipMapModel_fieldsRight_149 {A : Mm} {kf2 : Mm → Int32 → Rs} (hk2 : ∀ (M : Mm) (b1 : Int32), kM A M → kp (kM A) (kf2 M b1)) (M : Mm) (v1 : Int32) (v2 : Int32) (h : kM A M) : kp (kM A) (q_ChipMapModel_fieldsRight_149 kf2 M v1 v2) := by
  unfold q_ChipMapModel_fieldsRight_149
  refine kp_if ?_ ?_
  · skip
    refine kp_ix ?_
    refine kp_cal (km_ChipMapModel_wrong _ _ _ h) (fun m1 r2 h3 => ?_)
    refine kp_bz ?_
    exact kp_some h3
  · skip
    exact hk2 _ _ h
theorem km_ChipMapModel_fieldsRight_142 {A : Mm} {kf2 : Mm → Int32 → Rs} (hk2 : ∀ (M : Mm) (b1 : Int32), kM A M → kp (kM A) (kf2 M b1)) {kf83 : Mm → Int32 → Int32 → Int32 → Rs} (hk83 : ∀ (M : Mm) (b1 : Int32) (b2 : Int32) (b3 : Int32), kM A M → kp (kM A) (kf83 M b1 b2 b3)) (M : Mm) (v1 : Int32) (v3 : Int32) (t0 : Int32) (h : kM A M) : kp (kM A) (q_ChipMapModel_fieldsRight_142 kf2 kf83 M v1 v3 t0) := by
  unfold q_ChipMapModel_fieldsRight_142
  exact hk83 _ _ _ _ h
theorem km_ChipMapModel_fieldsRight_137 {A : Mm} {kf2 : Mm → Int32 → Rs} (hk2 : ∀ (M : Mm) (b1 : Int32), kM A M → kp (kM A) (kf2 M b1)) {kf83 : Mm → Int32 → Int32 → Int32 → Rs} (hk83 : ∀ (M : Mm) (b1 : Int32) (b2 : Int32) (b3 : Int32), kM A M → kp (kM A) (kf83 M b1 b2 b3)) (M : Mm) (v1 : Int32) (v3 : Int32) (h : kM A M) : kp (kM A) (q_ChipMapModel_fieldsRight_137 kf2 kf83 M v1 v3) := by
  unfold q_ChipMapModel_fieldsRight_137
  exact km_ChipMapModel_fieldsRight_142 hk2 hk83 _ _ _ _ h
theorem km_ChipMapModel_fieldsRight_83 {A : Mm} {kf2 : Mm → Int32 → Rs} (hk2 : ∀ (M : Mm) (b1 : Int32), kM A M → kp (kM A) (kf2 M b1)) : ∀ (n' : Nat) (M : Mm) (v1 : Int32) (v2 : Int32) (v3 : Int32), kM A M → kp (kM A) (q_ChipMapModel_fieldsRight_83 kf2 n' M v1 v2 v3) := by
  intro n'
  induction n' with
  | zero =>
    intro M v1 v2 v3 h
    rw [q_ChipMapModel_fieldsRight_83]
    exact kp_none
  | succ n' ih =>
    intro M v1 v2 v3 h
    rw [q_ChipMapModel_fieldsRight_83]
    refine kp_if ?_ ?_
    · skip
      exact km_ChipMapModel_fieldsRight_149 hk2 _ _ _ h
    · skip
      refine kp_if ?_ ?_
      · skip
        exact km_ChipMapModel_fieldsRight_149 hk2 _ _ _ h
      · skip
        refine kp_ix ?_
        refine kp_ix ?_
        refine kp_if ?_ ?_
        · skip
          refine kp_ix ?_
          refine kp_ix ?_
          refine kp_if ?_ ?_
          · skip
            exact km_ChipMapModel_fieldsRight_137 hk2 ih _ _ _ h
          · skip
            refine kp_ix ?_
            refine kp_ix ?_
            refine kp_if ?_ ?_
            · skip
              exact km_ChipMapModel_fieldsRight_142 hk2 ih _ _ _ _ h
            · skip
              exact km_ChipMapModel_fieldsRight_137 hk2 ih _ _ _ h
        · skip
          exact km_ChipMapModel_fieldsRight_137 hk2 ih _ _ _ h
theorem km_ChipMapModel_fieldsRight_80 {A : Mm} {kf2 : Mm → Int32 → Rs} (hk2 : ∀ (M : Mm) (b1 : Int32), kM A M → kp (kM A) (kf2 M b1)) (M : Mm) (v1 : Int32) (t0 : Int32) (h : kM A M) : kp (kM A) (q_ChipMapModel_fieldsRight_80 kf2 M v1 t0) := by
  unfold q_ChipMapModel_fieldsRight_80
  exact km_ChipMapModel_fieldsRight_83 hk2 4000 _ _ _ _ h
theorem km_ChipMapModel_fieldsRight_79 {A : Mm} {kf2 : Mm → Int32 → Rs} (hk2 : ∀ (M : Mm) (b1 : Int32), kM A M → kp (kM A) (kf2 M b1)) (M : Mm) (v1 : Int32) (h : kM A M) : kp (kM A) (q_ChipMapModel_fieldsRight_79 kf2 M v1) := by
  unfold q_ChipMapModel_fieldsRight_79
  exact km_ChipMapModel_fieldsRight_80 hk2 _ _ _ h
theorem km_ChipMapModel_fieldsRight_56 {A : Mm} {kf2 : Mm → Int32 → Rs} (hk2 : ∀ (M : Mm) (b1 : Int32), kM A M → kp (kM A) (kf2 M b1)) (M : Mm) (v1 : Int32) (t0 : Int32) (h : kM A M) : kp (kM A) (q_ChipMapModel_fieldsRight_56 kf2 M v1 t0) := by
  unfold q_ChipMapModel_fieldsRight_56
  refine kp_if ?_ ?_
  · skip
    exact km_ChipMapModel_fieldsRight_79 hk2 _ _ h
  · skip
    refine kp_ix ?_
    refine kp_cal (km_ChipMapModel_fits _ _ _ h) (fun m1 r2 h3 => ?_)
    refine kp_if ?_ ?_
    · skip
      exact km_ChipMapModel_fieldsRight_79 hk2 _ _ h3
    · skip
      exact km_ChipMapModel_fieldsRight_80 hk2 _ _ _ h3
theorem km_ChipMapModel_fieldsRight_55 {A : Mm} {kf2 : Mm → Int32 → Rs} (hk2 : ∀ (M : Mm) (b1 : Int32), kM A M → kp (kM A) (kf2 M b1)) (M : Mm) (v1 : Int32) (h : kM A M) : kp (kM A) (q_ChipMapModel_fieldsRight_55 kf2 M v1) := by
  unfold q_ChipMapModel_fieldsRight_55
  exact km_ChipMapModel_fieldsRight_56 hk2 _ _ _ h
theorem km_ChipMapModel_fieldsRight_2 {A : Mm} : ∀ (n' : Nat) (M : Mm) (v1 : Int32), kM A M → kp (kM A) (q_ChipMapModel_fieldsRight_2 n' M v1) := by
  intro n'
  induction n' with
  | zero =>
    intro M v1 h
    rw [q_ChipMapModel_fieldsRight_2]
    exact kp_none
  | succ n' ih =>
    intro M v1 h
    rw [q_ChipMapModel_fieldsRight_2]
    refine kp_if ?_ ?_
    · skip
      exact kp_some h
    · skip
      refine kp_ix ?_
      refine kp_cal (km_ChipMapModel_named _ _ _ h) (fun m1 r2 h3 => ?_)
      refine kp_if ?_ ?_
      · skip
        refine kp_ix ?_
        refine kp_if ?_ ?_
        · skip
          exact km_ChipMapModel_fieldsRight_55 ih _ _ h3
        · skip
          refine kp_ix ?_
          refine kp_ix ?_
          refine kp_if ?_ ?_
          · skip
            exact km_ChipMapModel_fieldsRight_55 ih _ _ h3
          · skip
            exact km_ChipMapModel_fieldsRight_56 ih _ _ _ h3
      · skip
        exact km_ChipMapModel_fieldsRight_55 ih _ _ h3
theorem km_ChipMapModel_fieldsRight {A : Mm} (M : Mm) (h : kM A M) : kp (kM A) (q_ChipMapModel_fieldsRight M) := by
  unfold q_ChipMapModel_fieldsRight
  exact km_ChipMapModel_fieldsRight_2 4000 _ _ h
theorem km_ChipMapModel_registersRight_195 {A : Mm} {kf103 : Mm → Int32 → Rs} (hk103 : ∀ (M : Mm) (b1 : Int32), kM A M → kp (kM A) (kf103 M b1)) {kf113 : Mm → Int32 → Int32 → Rs} (hk113 : ∀ (M : Mm) (b1 : Int32) (b2 : Int32), kM A M → kp (kM A) (kf113 M b1 b2)) (M : Mm) (v1 : Int32) (v2 : Int32) (h : kM A M) : kp (kM A) (q_ChipMapModel_registersRight_195 kf103 kf113 M v1 v2) := by
  unfold q_ChipMapModel_registersRight_195
  exact hk113 _ _ _ h
theorem km_ChipMapModel_registersRight_163 {A : Mm} {kf103 : Mm → Int32 → Rs} (hk103 : ∀ (M : Mm) (b1 : Int32), kM A M → kp (kM A) (kf103 M b1)) {kf113 : Mm → Int32 → Int32 → Rs} (hk113 : ∀ (M : Mm) (b1 : Int32) (b2 : Int32), kM A M → kp (kM A) (kf113 M b1 b2)) (M : Mm) (v1 : Int32) (v2 : Int32) (t0 : Int32) (h : kM A M) : kp (kM A) (q_ChipMapModel_registersRight_163 kf103 kf113 M v1 v2 t0) := by
  unfold q_ChipMapModel_registersRight_163
  refine kp_ix ?_
  refine kp_ix ?_
  refine kp_if ?_ ?_
  · skip
    refine kp_if ?_ ?_
    · skip
      refine kp_ix ?_
      refine kp_cal (km_ChipMapModel_wrong _ _ _ h) (fun m1 r2 h3 => ?_)
      refine kp_bz ?_
      exact kp_some h3
    · skip
      exact km_ChipMapModel_registersRight_195 hk103 hk113 _ _ _ h
  · skip
    exact km_ChipMapModel_registersRight_195 hk103 hk113 _ _ _ h
theorem km_ChipMapModel_registersRight_162 {A : Mm} {kf103 : Mm → Int32 → Rs} (hk103 : ∀ (M : Mm) (b1 : Int32), kM A M → kp (kM A) (kf103 M b1)) {kf113 : Mm → Int32 → Int32 → Rs} (hk113 : ∀ (M : Mm) (b1 : Int32) (b2 : Int32), kM A M → kp (kM A) (kf113 M b1 b2)) (M : Mm) (v1 : Int32) (v2 : Int32) (h : kM A M) : kp (kM A) (q_ChipMapModel_registersRight_162 kf103 kf113 M v1 v2) := by
  unfold q_ChipMapModel_registersRight_162
  exact km_ChipMapModel_registersRight_163 hk103 hk113 _ _ _ _ h
theorem km_ChipMapModel_registersRight_113 {A : Mm} {kf103 : Mm → Int32 → Rs} (hk103 : ∀ (M : Mm) (b1 : Int32), kM A M → kp (kM A) (kf103 M b1)) : ∀ (n' : Nat) (M : Mm) (v1 : Int32) (v2 : Int32), kM A M → kp (kM A) (q_ChipMapModel_registersRight_113 kf103 n' M v1 v2) := by
  intro n'
  induction n' with
  | zero =>
    intro M v1 v2 h
    rw [q_ChipMapModel_registersRight_113]
    exact kp_none
  | succ n' ih =>
    intro M v1 v2 h
    rw [q_ChipMapModel_registersRight_113]
    refine kp_if ?_ ?_
    · skip
      exact hk103 _ _ h
    · skip
      refine kp_ix ?_
      refine kp_if ?_ ?_
      · skip
        exact km_ChipMapModel_registersRight_162 hk103 ih _ _ _ h
      · skip
        refine kp_ix ?_
        refine kp_ix ?_
        refine kp_if ?_ ?_
        · skip
          refine kp_ix ?_
          refine kp_ix ?_
          refine kp_if ?_ ?_
          · skip
            exact km_ChipMapModel_registersRight_162 hk103 ih _ _ _ h
          · skip
            exact km_ChipMapModel_registersRight_163 hk103 ih _ _ _ _ h
        · skip
          exact km_ChipMapModel_registersRight_162 hk103 ih _ _ _ h
theorem km_ChipMapModel_registersRight_103 {A : Mm} : ∀ (n' : Nat) (M : Mm) (v1 : Int32), kM A M → kp (kM A) (q_ChipMapModel_registersRight_103 n' M v1) := by
  intro n'
  induction n' with
  | zero =>
    intro M v1 h
    rw [q_ChipMapModel_registersRight_103]
    exact kp_none
  | succ n' ih =>
    intro M v1 h
    rw [q_ChipMapModel_registersRight_103]
    refine kp_if ?_ ?_
    · skip
      exact kp_some h
    · skip
      exact km_ChipMapModel_registersRight_113 ih 4000 _ _ _ h
theorem km_ChipMapModel_registersRight_83 {A : Mm} (M : Mm) (v1 : Int32) (h : kM A M) : kp (kM A) (q_ChipMapModel_registersRight_83 M v1) := by
  unfold q_ChipMapModel_registersRight_83
  refine kp_ix ?_
  refine kp_cal (km_ChipMapModel_wrong _ _ _ h) (fun m1 r2 h3 => ?_)
  refine kp_bz ?_
  exact kp_some h3
theorem km_ChipMapModel_registersRight_95 {A : Mm} {kf2 : Mm → Int32 → Rs} (hk2 : ∀ (M : Mm) (b1 : Int32), kM A M → kp (kM A) (kf2 M b1)) (M : Mm) (v1 : Int32) (h : kM A M) : kp (kM A) (q_ChipMapModel_registersRight_95 kf2 M v1) := by
  unfold q_ChipMapModel_registersRight_95
  exact hk2 _ _ h
theorem km_ChipMapModel_registersRight_2 {A : Mm} : ∀ (n' : Nat) (M : Mm) (v1 : Int32), kM A M → kp (kM A) (q_ChipMapModel_registersRight_2 n' M v1) := by
  intro n'
  induction n' with
  | zero =>
    intro M v1 h
    rw [q_ChipMapModel_registersRight_2]
    exact kp_none
  | succ n' ih =>
    intro M v1 h
    rw [q_ChipMapModel_registersRight_2]
    refine kp_if ?_ ?_
    · skip
      exact km_ChipMapModel_registersRight_103 4000 _ _ h
    · skip
      refine kp_ix ?_
      refine kp_if ?_ ?_
      · skip
        exact km_ChipMapModel_registersRight_95 ih _ _ h
      · skip
        refine kp_ix ?_
        refine kp_cal (km_ChipMapModel_named _ _ _ h) (fun m1 r2 h3 => ?_)
        refine kp_if ?_ ?_
        · skip
          exact km_ChipMapModel_registersRight_83 _ _ h3
        · skip
          refine kp_ix ?_
          refine kp_if ?_ ?_
          · skip
            refine kp_ix ?_
            refine kp_ix ?_
            refine kp_if ?_ ?_
            · skip
              refine kp_ix ?_
              refine kp_cal (km_ChipMapModel_fits _ _ _ h3) (fun m4 r5 h6 => ?_)
              refine kp_if ?_ ?_
              · skip
                exact km_ChipMapModel_registersRight_83 _ _ h6
              · skip
                exact km_ChipMapModel_registersRight_95 ih _ _ h6
            · skip
              exact km_ChipMapModel_registersRight_83 _ _ h3
          · skip
            exact km_ChipMapModel_registersRight_83 _ _ h3
theorem km_ChipMapModel_registersRight {A : Mm} (M : Mm) (h : kM A M) : kp (kM A) (q_ChipMapModel_registersRight M) := by
  unfold q_ChipMapModel_registersRight
  exact km_ChipMapModel_registersRight_2 4000 _ _ h
theorem km_ChipMapModel_isLooked {A : Mm} (M : Mm) (a1 : Int32) (h : kM A M) : kp (kM A) (q_ChipMapModel_isLooked M a1) := by
  unfold q_ChipMapModel_isLooked
  refine kp_if ?_ ?_
  · skip
    exact kp_some h
  · skip
    refine kp_ix ?_
    refine kp_if ?_ ?_
    · skip
      exact kp_some h
    · skip
      refine kp_ix ?_
      refine kp_if ?_ ?_
      · skip
        exact kp_some h
      · skip
        exact kp_some h
theorem km_ChipMapModel_rulesRight_125 {A : Mm} {kf2 : Mm → Int32 → Rs} (hk2 : ∀ (M : Mm) (b1 : Int32), kM A M → kp (kM A) (kf2 M b1)) (M : Mm) (v1 : Int32) (t0 : Int32) (h : kM A M) : kp (kM A) (q_ChipMapModel_rulesRight_125 kf2 M v1 t0) := by
  unfold q_ChipMapModel_rulesRight_125
  refine kp_if ?_ ?_
  · skip
    refine kp_ix ?_
    refine kp_cal (km_ChipMapModel_wrong _ _ _ h) (fun m1 r2 h3 => ?_)
    refine kp_bz ?_
    exact kp_some h3
  · skip
    exact hk2 _ _ h
theorem km_ChipMapModel_rulesRight_116 {A : Mm} {kf2 : Mm → Int32 → Rs} (hk2 : ∀ (M : Mm) (b1 : Int32), kM A M → kp (kM A) (kf2 M b1)) (M : Mm) (v1 : Int32) (h : kM A M) : kp (kM A) (q_ChipMapModel_rulesRight_116 kf2 M v1) := by
  unfold q_ChipMapModel_rulesRight_116
  exact km_ChipMapModel_rulesRight_125 hk2 _ _ _ h
theorem km_ChipMapModel_rulesRight_98 {A : Mm} {kf2 : Mm → Int32 → Rs} (hk2 : ∀ (M : Mm) (b1 : Int32), kM A M → kp (kM A) (kf2 M b1)) (M : Mm) (v1 : Int32) (v3 : Int32) (h : kM A M) : kp (kM A) (q_ChipMapModel_rulesRight_98 kf2 M v1 v3) := by
  unfold q_ChipMapModel_rulesRight_98
  refine kp_ix ?_
  refine kp_cal (km_ChipMapModel_fits _ _ _ h) (fun m1 r2 h3 => ?_)
  refine kp_if ?_ ?_
  · skip
    exact km_ChipMapModel_rulesRight_116 hk2 _ _ h3
  · skip
    exact km_ChipMapModel_rulesRight_125 hk2 _ _ _ h3
theorem km_ChipMapModel_rulesRight_2 {A : Mm} : ∀ (n' : Nat) (M : Mm) (v1 : Int32), kM A M → kp (kM A) (q_ChipMapModel_rulesRight_2 n' M v1) := by
  intro n'
  induction n' with
  | zero =>
    intro M v1 h
    rw [q_ChipMapModel_rulesRight_2]
    exact kp_none
  | succ n' ih =>
    intro M v1 h
    rw [q_ChipMapModel_rulesRight_2]
    refine kp_if ?_ ?_
    · skip
      exact kp_some h
    · skip
      refine kp_ix ?_
      refine kp_cal (km_ChipMapModel_named _ _ _ h) (fun m1 r2 h3 => ?_)
      refine kp_ix ?_
      refine kp_cal (km_ChipMapModel_named _ _ _ h3) (fun m4 r5 h6 => ?_)
      refine kp_cal (km_ChipMapModel_isLooked _ _ h6) (fun m7 r8 h9 => ?_)
      refine kp_if ?_ ?_
      · skip
        refine kp_ix ?_
        refine kp_cal (km_ChipMapModel_wrong _ _ _ h9) (fun m10 r11 h12 => ?_)
        refine kp_bz ?_
        exact kp_some h12
      · skip
        refine kp_ix ?_
        refine kp_if ?_ ?_
        · skip
          refine kp_if ?_ ?_
          · skip
            exact km_ChipMapModel_rulesRight_116 ih _ _ h9
          · skip
            refine kp_ix ?_
            refine kp_if ?_ ?_
            · skip
              exact km_ChipMapModel_rulesRight_98 ih _ _ _ h9
            · skip
              refine kp_ix ?_
              refine kp_if ?_ ?_
              · skip
                exact km_ChipMapModel_rulesRight_98 ih _ _ _ h9
              · skip
                exact km_ChipMapModel_rulesRight_116 ih _ _ h9
        · skip
          refine kp_cal (km_ChipMapModel_isLooked _ _ h9) (fun m13 r14 h15 => ?_)
          exact km_ChipMapModel_rulesRight_125 ih _ _ _ h15
theorem km_ChipMapModel_rulesRight {A : Mm} (M : Mm) (h : kM A M) : kp (kM A) (q_ChipMapModel_rulesRight M) := by
  unfold q_ChipMapModel_rulesRight
  exact km_ChipMapModel_rulesRight_2 4000 _ _ h
theorem km_ChipMapModel_readAll_38 {A : Mm} : ∀ (n' : Nat) (M : Mm), kM A M → kp (kM A) (q_ChipMapModel_readAll_38 n' M) := by
  intro n'
  induction n' with
  | zero =>
    intro M h
    rw [q_ChipMapModel_readAll_38]
    exact kp_none
  | succ n' ih =>
    intro M h
    rw [q_ChipMapModel_readAll_38]
    refine kp_if ?_ ?_
    · skip
      refine kp_cal (km_ChipMapModel_fieldsRight _ h) (fun m1 r2 h3 => ?_)
      refine kp_if ?_ ?_
      · skip
        exact kp_some h3
      · skip
        refine kp_cal (km_ChipMapModel_registersRight _ h3) (fun m4 r5 h6 => ?_)
        refine kp_if ?_ ?_
        · skip
          exact kp_some h6
        · skip
          refine kp_cal (km_ChipMapModel_rulesRight _ h6) (fun m7 r8 h9 => ?_)
          refine kp_if ?_ ?_
          · skip
            exact kp_some h9
          · skip
            exact kp_some h9
    · skip
      refine kp_cal (km_ChipMapModel_readRule _ h) (fun m10 r11 h12 => ?_)
      refine kp_if ?_ ?_
      · skip
        exact kp_some h12
      · skip
        exact ih _ h12
theorem km_ChipMapModel_readAll_20 {A : Mm} : ∀ (n' : Nat) (M : Mm), kM A M → kp (kM A) (q_ChipMapModel_readAll_20 n' M) := by
  intro n'
  induction n' with
  | zero =>
    intro M h
    rw [q_ChipMapModel_readAll_20]
    exact kp_none
  | succ n' ih =>
    intro M h
    rw [q_ChipMapModel_readAll_20]
    refine kp_cal (km_ChipMapModel_readRegister _ h) (fun m1 r2 h3 => ?_)
    refine kp_if ?_ ?_
    · skip
      exact kp_some h3
    · skip
      refine kp_cal (km_ChipMapModel_here _ h3) (fun m4 r5 h6 => ?_)
      refine kp_if ?_ ?_
      · skip
        exact ih _ h6
      · skip
        exact km_ChipMapModel_readAll_38 4000 _ h6
theorem km_ChipMapModel_readAll {A : Mm} (M : Mm) (h : kM A M) : kp (kM A) (q_ChipMapModel_readAll M) := by
  unfold q_ChipMapModel_readAll
  refine kp_st (kM.s0 h (by decide)) (fun m1 h2 => ?_)
  refine kp_st (kM.s0 h2 (by decide)) (fun m3 h4 => ?_)
  refine kp_st (kM.s0 h4 (by decide)) (fun m5 h6 => ?_)
  refine kp_st (kM.s0 h6 (by decide)) (fun m7 h8 => ?_)
  exact km_ChipMapModel_readAll_20 4000 _ h8
theorem kw_ChipMapModel_resetDevice_55 {A : Mm} : ∀ (n' : Nat) (M : Mm) (v1 : Int32), kW A M → kp (kW A) (q_ChipMapModel_resetDevice_55 n' M v1) := by
  intro n'
  induction n' with
  | zero =>
    intro M v1 h
    rw [q_ChipMapModel_resetDevice_55]
    exact kp_none
  | succ n' ih =>
    intro M v1 h
    rw [q_ChipMapModel_resetDevice_55]
    refine kp_if ?_ ?_
    · skip
      exact kp_some h
    · skip
      refine kp_ix ?_
      refine kp_st (kW.st h (by decide)) (fun m1 h2 => ?_)
      exact ih _ _ h2
theorem kw_ChipMapModel_resetDevice_32 {A : Mm} {kf2 : Mm → Int32 → Rs} (hk2 : ∀ (M : Mm) (b1 : Int32), kW A M → kp (kW A) (kf2 M b1)) (M : Mm) (v1 : Int32) (t0 : Int32) (t1 : Int32) (h : kW A M) : kp (kW A) (q_ChipMapModel_resetDevice_32 kf2 M v1 t0 t1) := by
  unfold q_ChipMapModel_resetDevice_32
  refine kp_ix ?_
  refine kp_st (kW.st h (by decide)) (fun m1 h2 => ?_)
  refine kp_ix ?_
  refine kp_st (kW.st h2 (by decide)) (fun m3 h4 => ?_)
  refine kp_ix ?_
  refine kp_st (kW.st h4 (by decide)) (fun m5 h6 => ?_)
  exact hk2 _ _ h6
theorem kw_ChipMapModel_resetDevice_2 {A : Mm} : ∀ (n' : Nat) (M : Mm) (v1 : Int32), kW A M → kp (kW A) (q_ChipMapModel_resetDevice_2 n' M v1) := by
  intro n'
  induction n' with
  | zero =>
    intro M v1 h
    rw [q_ChipMapModel_resetDevice_2]
    exact kp_none
  | succ n' ih =>
    intro M v1 h
    rw [q_ChipMapModel_resetDevice_2]
    refine kp_if ?_ ?_
    · skip
      exact kw_ChipMapModel_resetDevice_55 4000 _ _ h
    · skip
      refine kp_ix ?_
      refine kp_if ?_ ?_
      · skip
        exact kw_ChipMapModel_resetDevice_32 ih _ _ _ _ h
      · skip
        refine kp_ix ?_
        exact kw_ChipMapModel_resetDevice_32 ih _ _ _ _ h
theorem kw_ChipMapModel_resetDevice {A : Mm} (M : Mm) (h : kW A M) : kp (kW A) (q_ChipMapModel_resetDevice M) := by
  unfold q_ChipMapModel_resetDevice
  exact kw_ChipMapModel_resetDevice_2 4000 _ _ h
theorem kw_ChipMapModel_resetAll {A : Mm} (M : Mm) (h : kW A M) : kp (kW A) (q_ChipMapModel_resetAll M) := by
  unfold q_ChipMapModel_resetAll
  refine kp_cal (kw_ChipMapModel_resetDevice _ h) (fun m1 r2 h3 => ?_)
  refine kp_st (kW.s0 h3 (by decide)) (fun m4 h5 => ?_)
  refine kp_st (kW.s0 h5 (by decide)) (fun m6 h7 => ?_)
  refine kp_st (kW.s0 h7 (by decide)) (fun m8 h9 => ?_)
  exact kp_some h9
theorem kw_ChipMapModel_compile_230 {A : Mm} : ∀ (n' : Nat) (M : Mm) (v2 : Int32), kW A M → kp (kW A) (q_ChipMapModel_compile_230 n' M v2) := by
  intro n'
  induction n' with
  | zero =>
    intro M v2 h
    rw [q_ChipMapModel_compile_230]
    exact kp_none
  | succ n' ih =>
    intro M v2 h
    rw [q_ChipMapModel_compile_230]
    refine kp_if ?_ ?_
    · skip
      refine kp_st (kW.s0 h (by decide)) (fun m1 h2 => ?_)
      refine kp_st (kW.s0 h2 (by decide)) (fun m3 h4 => ?_)
      refine kp_st (kW.s0 h4 (by decide)) (fun m5 h6 => ?_)
      refine kp_cal (kw_ChipMapModel_resetAll _ h6) (fun m7 r8 h9 => ?_)
      exact kp_some h9
    · skip
      refine kp_ix ?_
      refine kp_ix ?_
      refine kp_st (kW.st h (by decide)) (fun m10 h11 => ?_)
      refine kp_ix ?_
      refine kp_ix ?_
      refine kp_st (kW.st h11 (by decide)) (fun m12 h13 => ?_)
      refine kp_ix ?_
      refine kp_ix ?_
      refine kp_st (kW.st h13 (by decide)) (fun m14 h15 => ?_)
      refine kp_ix ?_
      refine kp_ix ?_
      refine kp_st (kW.st h15 (by decide)) (fun m16 h17 => ?_)
      exact ih _ _ h17
theorem kw_ChipMapModel_compile_123 {A : Mm} : ∀ (n' : Nat) (M : Mm) (v2 : Int32), kW A M → kp (kW A) (q_ChipMapModel_compile_123 n' M v2) := by
  intro n'
  induction n' with
  | zero =>
    intro M v2 h
    rw [q_ChipMapModel_compile_123]
    exact kp_none
  | succ n' ih =>
    intro M v2 h
    rw [q_ChipMapModel_compile_123]
    refine kp_if ?_ ?_
    · skip
      refine kp_st (kW.s0 h (by decide)) (fun m1 h2 => ?_)
      exact kw_ChipMapModel_compile_230 4000 _ _ h2
    · skip
      refine kp_ix ?_
      refine kp_lv (fun x3 => ?_)
      refine kp_ix ?_
      refine kp_st (kW.st h (by decide)) (fun m4 h5 => ?_)
      refine kp_ix ?_
      refine kp_ix ?_
      refine kp_st (kW.st h5 (by decide)) (fun m6 h7 => ?_)
      refine kp_ix ?_
      refine kp_ix ?_
      refine kp_st (kW.st h7 (by decide)) (fun m8 h9 => ?_)
      refine kp_ix ?_
      refine kp_ix ?_
      refine kp_st (kW.st h9 (by decide)) (fun m10 h11 => ?_)
      refine kp_ix ?_
      refine kp_ix ?_
      refine kp_ix ?_
      refine kp_st (kW.st h11 (by decide)) (fun m12 h13 => ?_)
      refine kp_ix ?_
      refine kp_ix ?_
      refine kp_st (kW.st h13 (by decide)) (fun m14 h15 => ?_)
      exact ih _ _ h15
theorem kw_ChipMapModel_compile_102 {A : Mm} : ∀ (n' : Nat) (M : Mm) (v2 : Int32), kW A M → kp (kW A) (q_ChipMapModel_compile_102 n' M v2) := by
  intro n'
  induction n' with
  | zero =>
    intro M v2 h
    rw [q_ChipMapModel_compile_102]
    exact kp_none
  | succ n' ih =>
    intro M v2 h
    rw [q_ChipMapModel_compile_102]
    refine kp_if ?_ ?_
    · skip
      exact kw_ChipMapModel_compile_123 4000 _ _ h
    · skip
      refine kp_ix ?_
      refine kp_st (kW.st h (by decide)) (fun m1 h2 => ?_)
      exact ih _ _ h2
theorem kw_ChipMapModel_compile_50 {A : Mm} : ∀ (n' : Nat) (M : Mm) (v2 : Int32), kW A M → kp (kW A) (q_ChipMapModel_compile_50 n' M v2) := by
  intro n'
  induction n' with
  | zero =>
    intro M v2 h
    rw [q_ChipMapModel_compile_50]
    exact kp_none
  | succ n' ih =>
    intro M v2 h
    rw [q_ChipMapModel_compile_50]
    refine kp_if ?_ ?_
    · skip
      exact kw_ChipMapModel_compile_102 4000 _ _ h
    · skip
      refine kp_ix ?_
      refine kp_ix ?_
      refine kp_st (kW.st h (by decide)) (fun m1 h2 => ?_)
      refine kp_ix ?_
      refine kp_ix ?_
      refine kp_st (kW.st h2 (by decide)) (fun m3 h4 => ?_)
      refine kp_ix ?_
      refine kp_ix ?_
      refine kp_st (kW.st h4 (by decide)) (fun m5 h6 => ?_)
      exact ih _ _ h6
end
section
theorem kv_ChipMapModel_resetDevice_55 {A : Mm} : ∀ (n' : Nat) (M : Mm) (v1 : Int32), kV A M → kp (kV A) (q_ChipMapModel_resetDevice_55 n' M v1) := by
  intro n'
  induction n' with
  | zero =>
    intro M v1 h
    rw [q_ChipMapModel_resetDevice_55]
    exact kp_none
  | succ n' ih =>
    intro M v1 h
    rw [q_ChipMapModel_resetDevice_55]
    refine kp_if ?_ ?_
    · skip
      exact kp_some h
    · skip
      refine kp_ix ?_
      refine kp_st (kV.st h (by decide)) (fun m1 h2 => ?_)
      exact ih _ _ h2
theorem kv_ChipMapModel_resetDevice_32 {A : Mm} {kf2 : Mm → Int32 → Rs} (hk2 : ∀ (M : Mm) (b1 : Int32), kV A M → kp (kV A) (kf2 M b1)) (M : Mm) (v1 : Int32) (t0 : Int32) (t1 : Int32) (h : kV A M) : kp (kV A) (q_ChipMapModel_resetDevice_32 kf2 M v1 t0 t1) := by
  unfold q_ChipMapModel_resetDevice_32
  refine kp_ix ?_
  refine kp_st (kV.st h (by decide)) (fun m1 h2 => ?_)
  refine kp_ix ?_
  refine kp_st (kV.st h2 (by decide)) (fun m3 h4 => ?_)
  refine kp_ix ?_
  refine kp_st (kV.st h4 (by decide)) (fun m5 h6 => ?_)
  exact hk2 _ _ h6
theorem kv_ChipMapModel_resetDevice_2 {A : Mm} : ∀ (n' : Nat) (M : Mm) (v1 : Int32), kV A M → kp (kV A) (q_ChipMapModel_resetDevice_2 n' M v1) := by
  intro n'
  induction n' with
  | zero =>
    intro M v1 h
    rw [q_ChipMapModel_resetDevice_2]
    exact kp_none
  | succ n' ih =>
    intro M v1 h
    rw [q_ChipMapModel_resetDevice_2]
    refine kp_if ?_ ?_
    · skip
      exact kv_ChipMapModel_resetDevice_55 4000 _ _ h
    · skip
      refine kp_ix ?_
      refine kp_if ?_ ?_
      · skip
        exact kv_ChipMapModel_resetDevice_32 ih _ _ _ _ h
      · skip
        refine kp_ix ?_
        exact kv_ChipMapModel_resetDevice_32 ih _ _ _ _ h
theorem kv_ChipMapModel_resetDevice {A : Mm} (M : Mm) (h : kV A M) : kp (kV A) (q_ChipMapModel_resetDevice M) := by
  unfold q_ChipMapModel_resetDevice
  exact kv_ChipMapModel_resetDevice_2 4000 _ _ h
theorem kv_ChipMapModel_resetAll {A : Mm} (M : Mm) (h : kV A M) : kp (kV A) (q_ChipMapModel_resetAll M) := by
  unfold q_ChipMapModel_resetAll
  refine kp_cal (kv_ChipMapModel_resetDevice _ h) (fun m1 r2 h3 => ?_)
  refine kp_st (kV.st h3 (by decide)) (fun m4 h5 => ?_)
  refine kp_st (kV.st h5 (by decide)) (fun m6 h7 => ?_)
  refine kp_st (kV.st h7 (by decide)) (fun m8 h9 => ?_)
  exact kp_some h9
theorem kv_ChipMapModel_compile_230 {A : Mm} : ∀ (n' : Nat) (M : Mm) (v2 : Int32), kV A M → kp (kV A) (q_ChipMapModel_compile_230 n' M v2) := by
  intro n'
  induction n' with
  | zero =>
    intro M v2 h
    rw [q_ChipMapModel_compile_230]
    exact kp_none
  | succ n' ih =>
    intro M v2 h
    rw [q_ChipMapModel_compile_230]
    refine kp_if ?_ ?_
    · skip
      refine kp_st (kV.st h (by decide)) (fun m1 h2 => ?_)
      refine kp_st (kV.st h2 (by decide)) (fun m3 h4 => ?_)
      refine kp_st (kV.st h4 (by decide)) (fun m5 h6 => ?_)
      refine kp_cal (kv_ChipMapModel_resetAll _ h6) (fun m7 r8 h9 => ?_)
      exact kp_some h9
    · skip
      refine kp_ix ?_
      refine kp_ix ?_
      refine kp_st (kV.st h (by decide)) (fun m10 h11 => ?_)
      refine kp_ix ?_
      refine kp_ix ?_
      refine kp_st (kV.st h11 (by decide)) (fun m12 h13 => ?_)
      refine kp_ix ?_
      refine kp_ix ?_
      refine kp_st (kV.st h13 (by decide)) (fun m14 h15 => ?_)
      refine kp_ix ?_
      refine kp_ix ?_
      refine kp_st (kV.st h15 (by decide)) (fun m16 h17 => ?_)
      exact ih _ _ h17
end
section
theorem kx_Layout_isKnown {A : Mm} (M : Mm) (a1 : Int32) (h : kX A M) : kp (kX A) (q_Layout_isKnown M a1) := by
  unfold q_Layout_isKnown
  refine kp_ix ?_
  refine kp_if ?_ ?_
  · skip
    exact kp_some h
  · skip
    refine kp_ix ?_
    refine kp_if ?_ ?_
    · skip
      exact kp_some h
    · skip
      exact kp_some h
theorem kx_Mind_restart_2 {A : Mm} : ∀ (n' : Nat) (M : Mm) (v1 : Int32), kX A M → kp (kX A) (q_Mind_restart_2 n' M v1) := by
  intro n'
  induction n' with
  | zero =>
    intro M v1 h
    rw [q_Mind_restart_2]
    exact kp_none
  | succ n' ih =>
    intro M v1 h
    rw [q_Mind_restart_2]
    refine kp_if ?_ ?_
    · skip
      refine kp_st (kX.st h (by decide)) (fun m1 h2 => ?_)
      exact kp_some h2
    · skip
      refine kp_ix ?_
      refine kp_ix ?_
      refine kp_ix ?_
      refine kp_st (kX.st h (by decide)) (fun m3 h4 => ?_)
      exact ih _ _ h4
theorem kx_Mind_restart {A : Mm} (M : Mm) (h : kX A M) : kp (kX A) (q_Mind_restart M) := by
  unfold q_Mind_restart
  exact kx_Mind_restart_2 4000 _ _ h
theorem kx_Device_restart_9 {A : Mm} : ∀ (n' : Nat) (M : Mm) (v1 : Int32), kX A M → kp (kX A) (q_Device_restart_9 n' M v1) := by
  intro n'
  induction n' with
  | zero =>
    intro M v1 h
    rw [q_Device_restart_9]
    exact kp_none
  | succ n' ih =>
    intro M v1 h
    rw [q_Device_restart_9]
    refine kp_if ?_ ?_
    · skip
      refine kp_st (kX.st h (by decide)) (fun m1 h2 => ?_)
      refine kp_st (kX.st h2 (by decide)) (fun m3 h4 => ?_)
      refine kp_st (kX.st h4 (by decide)) (fun m5 h6 => ?_)
      refine kp_st (kX.st h6 (by decide)) (fun m7 h8 => ?_)
      exact kp_some h8
    · skip
      refine kp_ix ?_
      refine kp_ix ?_
      refine kp_ix ?_
      refine kp_st (kX.st h (by decide)) (fun m9 h10 => ?_)
      exact ih _ _ h10
theorem kx_Device_restart {A : Mm} (M : Mm) (h : kX A M) : kp (kX A) (q_Device_restart M) := by
  unfold q_Device_restart
  refine kp_cal (kx_Mind_restart _ h) (fun m1 r2 h3 => ?_)
  exact kx_Device_restart_9 4000 _ _ h3
theorem kx_ChipMap_startAgain {A : Mm} (M : Mm) (h : kX A M) : kp (kX A) (q_ChipMap_startAgain M) := by
  unfold q_ChipMap_startAgain
  refine kp_cal (kx_Device_restart _ h) (fun m1 r2 h3 => ?_)
  refine kp_st (kX.st h3 (by decide)) (fun m4 h5 => ?_)
  exact kp_some h5
theorem kx_ChipMap_fault {A : Mm} (M : Mm) (a1 : Int32) (h : kX A M) : kp (kX A) (q_ChipMap_fault M a1) := by
  unfold q_ChipMap_fault
  refine kp_if ?_ ?_
  · skip
    exact kp_some h
  · skip
    refine kp_if ?_ ?_
    · skip
      exact kp_some h
    · skip
      exact kp_some h
theorem kx_Layout_has {A : Mm} (M : Mm) (a1 : Int32) (h : kX A M) : kp (kX A) (q_Layout_has M a1) := by
  unfold q_Layout_has
  refine kp_if ?_ ?_
  · skip
    exact kp_some h
  · skip
    refine kp_if ?_ ?_
    · skip
      exact kp_some h
    · skip
      refine kp_ix ?_
      refine kp_if ?_ ?_
      · skip
        exact kp_some h
      · skip
        exact kp_some h
theorem kx_Layout_bitsOf {A : Mm} (M : Mm) (a1 : Int32) (a2 : Int32) (h : kX A M) : kp (kX A) (q_Layout_bitsOf M a1 a2) := by
  unfold q_Layout_bitsOf
  refine kp_ix ?_
  refine kp_ix ?_
  exact kp_some h
theorem kx_Device_valueOf {A : Mm} (M : Mm) (a1 : Int32) (h : kX A M) : kp (kX A) (q_Device_valueOf M a1) := by
  unfold q_Device_valueOf
  refine kp_ix ?_
  refine kp_lv (fun x1 => ?_)
  refine kp_ix ?_
  refine kp_ix ?_
  refine kp_cal (kx_Layout_bitsOf _ _ _ h) (fun m2 r3 h4 => ?_)
  exact kp_some h4
theorem kx_ChipMap_field {A : Mm} (M : Mm) (a1 : Int32) (a2 : Int32) (h : kX A M) : kp (kX A) (q_ChipMap_field M a1 a2) := by
  unfold q_ChipMap_field
  refine kp_cal (kx_Layout_has _ _ h) (fun m1 r2 h3 => ?_)
  refine kp_if ?_ ?_
  · skip
    exact kp_some h3
  · skip
    refine kp_if ?_ ?_
    · skip
      refine kp_ix ?_
      exact kp_some h3
    · skip
      refine kp_if ?_ ?_
      · skip
        refine kp_ix ?_
        exact kp_some h3
      · skip
        refine kp_if ?_ ?_
        · skip
          refine kp_ix ?_
          exact kp_some h3
        · skip
          refine kp_if ?_ ?_
          · skip
            refine kp_cal (kx_Device_valueOf _ _ h3) (fun m4 r5 h6 => ?_)
            exact kp_some h6
          · skip
            refine kp_if ?_ ?_
            · skip
              refine kp_ix ?_
              refine kp_ix ?_
              refine kp_cal (kx_Layout_bitsOf _ _ _ h3) (fun m7 r8 h9 => ?_)
              exact kp_some h9
            · skip
              exact kp_some h3
theorem kx_ChipMap_hasMap {A : Mm} (M : Mm) (h : kX A M) : kp (kX A) (q_ChipMap_hasMap M) := by
  unfold q_ChipMap_hasMap
  refine kp_if ?_ ?_
  · skip
    exact kp_some h
  · skip
    exact kp_some h
theorem kx_ChipMap_reset {A : Mm} (M : Mm) (h : kX A M) : kp (kX A) (q_ChipMap_reset M) := by
  unfold q_ChipMap_reset
  refine kp_cal (kx_ChipMap_hasMap _ h) (fun m1 r2 h3 => ?_)
  refine kp_if ?_ ?_
  · skip
    exact kp_some h3
  · skip
    refine kp_cal (kx_ChipMap_startAgain _ h3) (fun m4 r5 h6 => ?_)
    exact kp_some h6
theorem kx_Mind_knownValue {A : Mm} (M : Mm) (a1 : Int32) (h : kX A M) : kp (kX A) (q_Mind_knownValue M a1) := by
  unfold q_Mind_knownValue
  refine kp_ix ?_
  refine kp_ix ?_
  refine kp_ix ?_
  refine kp_ix ?_
  exact kp_some h
theorem kx_Mind_isThere {A : Mm} (M : Mm) (a1 : Int32) (h : kX A M) : kp (kX A) (q_Mind_isThere M a1) := by
  unfold q_Mind_isThere
  refine kp_ix ?_
  refine kp_lv (fun x1 => ?_)
  refine kp_if ?_ ?_
  · skip
    exact kp_some h
  · skip
    refine kp_cal (kx_Mind_knownValue _ _ h) (fun m2 r3 h4 => ?_)
    refine kp_ix ?_
    refine kp_if ?_ ?_
    · skip
      exact kp_some h4
    · skip
      exact kp_some h4
theorem kx_Device_registerAt_39 {A : Mm} {kf2 : Mm → Int32 → Int32 → Rs} (hk2 : ∀ (M : Mm) (b1 : Int32) (b2 : Int32), kX A M → kp (kX A) (kf2 M b1 b2)) (M : Mm) (v1 : Int32) (v2 : Int32) (h : kX A M) : kp (kX A) (q_Device_registerAt_39 kf2 M v1 v2) := by
  unfold q_Device_registerAt_39
  exact hk2 _ _ _ h
theorem kx_Device_registerAt_2 {A : Mm} : ∀ (n' : Nat) (M : Mm) (v1 : Int32) (v2 : Int32), kX A M → kp (kX A) (q_Device_registerAt_2 n' M v1 v2) := by
  intro n'
  induction n' with
  | zero =>
    intro M v1 v2 h
    rw [q_Device_registerAt_2]
    exact kp_none
  | succ n' ih =>
    intro M v1 v2 h
    rw [q_Device_registerAt_2]
    refine kp_if ?_ ?_
    · skip
      exact kp_some h
    · skip
      refine kp_ix ?_
      refine kp_if ?_ ?_
      · skip
        refine kp_cal (kx_Mind_isThere _ _ h) (fun m1 r2 h3 => ?_)
        refine kp_if ?_ ?_
        · skip
          exact kx_Device_registerAt_39 ih _ _ _ h3
        · skip
          exact kp_some h3
      · skip
        exact kx_Device_registerAt_39 ih _ _ _ h
theorem kx_Device_registerAt {A : Mm} (M : Mm) (a1 : Int32) (h : kX A M) : kp (kX A) (q_Device_registerAt M a1) := by
  unfold q_Device_registerAt
  exact kx_Device_registerAt_2 4000 _ _ _ h
theorem kx_Mind_isWritten {A : Mm} (M : Mm) (a1 : Int32) (a2 : Int32) (a3 : Int32) (h : kX A M) : kp (kX A) (q_Mind_isWritten M a1 a2 a3) := by
  unfold q_Mind_isWritten
  refine kp_ix ?_
  refine kp_if ?_ ?_
  · skip
    refine kp_ix ?_
    refine kp_ix ?_
    refine kp_if ?_ ?_
    · skip
      exact kp_some h
    · skip
      exact kp_some h
  · skip
    exact kp_some h
theorem kx_Mind_brokenBy_184 {A : Mm} {kf14 : Mm → Int32 → Int32 → Int32 → Int32 → Rs} (hk14 : ∀ (M : Mm) (b1 : Int32) (b2 : Int32) (b3 : Int32) (b4 : Int32), kX A M → kp (kX A) (kf14 M b1 b2 b3 b4)) (M : Mm) (v1 : Int32) (v2 : Int32) (v4 : Int32) (v5 : Int32) (h : kX A M) : kp (kX A) (q_Mind_brokenBy_184 kf14 M v1 v2 v4 v5) := by
  unfold q_Mind_brokenBy_184
  exact hk14 _ _ _ _ _ h
theorem kx_Mind_brokenBy_170 {A : Mm} {kf14 : Mm → Int32 → Int32 → Int32 → Int32 → Rs} (hk14 : ∀ (M : Mm) (b1 : Int32) (b2 : Int32) (b3 : Int32) (b4 : Int32), kX A M → kp (kX A) (kf14 M b1 b2 b3 b4)) (M : Mm) (v1 : Int32) (v2 : Int32) (v4 : Int32) (v5 : Int32) (v7 : Int32) (h : kX A M) : kp (kX A) (q_Mind_brokenBy_170 kf14 M v1 v2 v4 v5 v7) := by
  unfold q_Mind_brokenBy_170
  refine kp_if ?_ ?_
  · skip
    exact kx_Mind_brokenBy_184 hk14 _ _ _ _ _ h
  · skip
    refine kp_lv (fun x1 => ?_)
    exact kx_Mind_brokenBy_184 hk14 _ _ _ _ _ h
theorem kx_Mind_brokenBy_168 {A : Mm} {kf14 : Mm → Int32 → Int32 → Int32 → Int32 → Rs} (hk14 : ∀ (M : Mm) (b1 : Int32) (b2 : Int32) (b3 : Int32) (b4 : Int32), kX A M → kp (kX A) (kf14 M b1 b2 b3 b4)) (M : Mm) (v1 : Int32) (v2 : Int32) (v4 : Int32) (v5 : Int32) (t0 : Int32) (h : kX A M) : kp (kX A) (q_Mind_brokenBy_168 kf14 M v1 v2 v4 v5 t0) := by
  unfold q_Mind_brokenBy_168
  exact kx_Mind_brokenBy_170 hk14 _ _ _ _ _ _ h
theorem kx_Mind_brokenBy_167 {A : Mm} {kf14 : Mm → Int32 → Int32 → Int32 → Int32 → Rs} (hk14 : ∀ (M : Mm) (b1 : Int32) (b2 : Int32) (b3 : Int32) (b4 : Int32), kX A M → kp (kX A) (kf14 M b1 b2 b3 b4)) (M : Mm) (v1 : Int32) (v2 : Int32) (v4 : Int32) (v5 : Int32) (h : kX A M) : kp (kX A) (q_Mind_brokenBy_167 kf14 M v1 v2 v4 v5) := by
  unfold q_Mind_brokenBy_167
  exact kx_Mind_brokenBy_168 hk14 _ _ _ _ _ _ h
theorem kx_Mind_brokenBy_121 {A : Mm} {kf14 : Mm → Int32 → Int32 → Int32 → Int32 → Rs} (hk14 : ∀ (M : Mm) (b1 : Int32) (b2 : Int32) (b3 : Int32) (b4 : Int32), kX A M → kp (kX A) (kf14 M b1 b2 b3 b4)) (M : Mm) (v1 : Int32) (v2 : Int32) (v4 : Int32) (v5 : Int32) (t0 : Int32) (h : kX A M) : kp (kX A) (q_Mind_brokenBy_121 kf14 M v1 v2 v4 v5 t0) := by
  unfold q_Mind_brokenBy_121
  exact kx_Mind_brokenBy_170 hk14 _ _ _ _ _ _ h
theorem kx_Mind_brokenBy_120 {A : Mm} {kf14 : Mm → Int32 → Int32 → Int32 → Int32 → Rs} (hk14 : ∀ (M : Mm) (b1 : Int32) (b2 : Int32) (b3 : Int32) (b4 : Int32), kX A M → kp (kX A) (kf14 M b1 b2 b3 b4)) (M : Mm) (v1 : Int32) (v2 : Int32) (v4 : Int32) (v5 : Int32) (h : kX A M) : kp (kX A) (q_Mind_brokenBy_120 kf14 M v1 v2 v4 v5) := by
  unfold q_Mind_brokenBy_120
  exact kx_Mind_brokenBy_121 hk14 _ _ _ _ _ _ h
theorem kx_Mind_brokenBy_79 {A : Mm} {kf14 : Mm → Int32 → Int32 → Int32 → Int32 → Rs} (hk14 : ∀ (M : Mm) (b1 : Int32) (b2 : Int32) (b3 : Int32) (b4 : Int32), kX A M → kp (kX A) (kf14 M b1 b2 b3 b4)) (M : Mm) (v1 : Int32) (v2 : Int32) (v4 : Int32) (v5 : Int32) (t0 : Int32) (h : kX A M) : kp (kX A) (q_Mind_brokenBy_79 kf14 M v1 v2 v4 v5 t0) := by
  unfold q_Mind_brokenBy_79
  exact kx_Mind_brokenBy_170 hk14 _ _ _ _ _ _ h
theorem kx_Mind_brokenBy_78 {A : Mm} {kf14 : Mm → Int32 → Int32 → Int32 → Int32 → Rs} (hk14 : ∀ (M : Mm) (b1 : Int32) (b2 : Int32) (b3 : Int32) (b4 : Int32), kX A M → kp (kX A) (kf14 M b1 b2 b3 b4)) (M : Mm) (v1 : Int32) (v2 : Int32) (v4 : Int32) (v5 : Int32) (h : kX A M) : kp (kX A) (q_Mind_brokenBy_78 kf14 M v1 v2 v4 v5) := by
  unfold q_Mind_brokenBy_78
  exact kx_Mind_brokenBy_79 hk14 _ _ _ _ _ _ h
theorem kx_Mind_brokenBy_41 {A : Mm} {kf14 : Mm → Int32 → Int32 → Int32 → Int32 → Rs} (hk14 : ∀ (M : Mm) (b1 : Int32) (b2 : Int32) (b3 : Int32) (b4 : Int32), kX A M → kp (kX A) (kf14 M b1 b2 b3 b4)) (M : Mm) (v1 : Int32) (v2 : Int32) (v4 : Int32) (v5 : Int32) (t0 : Int32) (h : kX A M) : kp (kX A) (q_Mind_brokenBy_41 kf14 M v1 v2 v4 v5 t0) := by
  unfold q_Mind_brokenBy_41
  refine kp_ix ?_
  refine kp_if ?_ ?_
  · skip
    refine kp_if ?_ ?_
    · skip
      refine kp_ix ?_
      refine kp_cal (kx_Mind_isWritten _ _ _ _ h) (fun m1 r2 h3 => ?_)
      refine kp_if ?_ ?_
      · skip
        exact kx_Mind_brokenBy_78 hk14 _ _ _ _ _ h3
      · skip
        exact kx_Mind_brokenBy_79 hk14 _ _ _ _ _ _ h3
    · skip
      exact kx_Mind_brokenBy_78 hk14 _ _ _ _ _ h
  · skip
    refine kp_ix ?_
    refine kp_if ?_ ?_
    · skip
      refine kp_if ?_ ?_
      · skip
        exact kx_Mind_brokenBy_120 hk14 _ _ _ _ _ h
      · skip
        refine kp_ix ?_
        refine kp_cal (kx_Mind_isWritten _ _ _ _ h) (fun m4 r5 h6 => ?_)
        refine kp_if ?_ ?_
        · skip
          exact kx_Mind_brokenBy_120 hk14 _ _ _ _ _ h6
        · skip
          exact kx_Mind_brokenBy_121 hk14 _ _ _ _ _ _ h6
    · skip
      refine kp_ix ?_
      refine kp_cal (kx_Mind_isWritten _ _ _ _ h) (fun m7 r8 h9 => ?_)
      refine kp_if ?_ ?_
      · skip
        exact kx_Mind_brokenBy_167 hk14 _ _ _ _ _ h9
      · skip
        refine kp_ix ?_
        refine kp_cal (kx_Mind_knownValue _ _ h9) (fun m10 r11 h12 => ?_)
        refine kp_ix ?_
        refine kp_if ?_ ?_
        · skip
          exact kx_Mind_brokenBy_167 hk14 _ _ _ _ _ h12
        · skip
          exact kx_Mind_brokenBy_168 hk14 _ _ _ _ _ _ h12
theorem kx_Mind_brokenBy_14 {A : Mm} : ∀ (n' : Nat) (M : Mm) (v1 : Int32) (v2 : Int32) (v4 : Int32) (v5 : Int32), kX A M → kp (kX A) (q_Mind_brokenBy_14 n' M v1 v2 v4 v5) := by
  intro n'
  induction n' with
  | zero =>
    intro M v1 v2 v4 v5 h
    rw [q_Mind_brokenBy_14]
    exact kp_none
  | succ n' ih =>
    intro M v1 v2 v4 v5 h
    rw [q_Mind_brokenBy_14]
    refine kp_if ?_ ?_
    · skip
      exact kp_some h
    · skip
      refine kp_if ?_ ?_
      · skip
        exact kx_Mind_brokenBy_41 ih _ _ _ _ _ _ h
      · skip
        exact kx_Mind_brokenBy_41 ih _ _ _ _ _ _ h
theorem kx_Mind_brokenBy {A : Mm} (M : Mm) (a1 : Int32) (a2 : Int32) (h : kX A M) : kp (kX A) (q_Mind_brokenBy M a1 a2) := by
  unfold q_Mind_brokenBy
  exact kx_Mind_brokenBy_14 4000 _ _ _ _ _ h
theorem kx_Log_add {A : Mm} (M : Mm) (a1 : Int32) (a2 : Int32) (a3 : Int32) (h : kX A M) : kp (kX A) (q_Log_add M a1 a2 a3) := by
  unfold q_Log_add
  refine kp_lv (fun x1 => ?_)
  refine kp_ix ?_
  refine kp_st (kX.st h (by decide)) (fun m2 h3 => ?_)
  refine kp_ix ?_
  refine kp_st (kX.st h3 (by decide)) (fun m4 h5 => ?_)
  refine kp_ix ?_
  refine kp_st (kX.st h5 (by decide)) (fun m6 h7 => ?_)
  refine kp_st (kX.st h7 (by decide)) (fun m8 h9 => ?_)
  exact kp_some h9
theorem kx_Mind_write_136 {A : Mm} {kf11 : Mm → Int32 → Int32 → Int32 → Rs} (hk11 : ∀ (M : Mm) (b1 : Int32) (b2 : Int32) (b3 : Int32), kX A M → kp (kX A) (kf11 M b1 b2 b3)) (M : Mm) (v1 : Int32) (v2 : Int32) (v4 : Int32) (h : kX A M) : kp (kX A) (q_Mind_write_136 kf11 M v1 v2 v4) := by
  unfold q_Mind_write_136
  exact hk11 _ _ _ _ h
theorem kx_Mind_write_62 {A : Mm} {kf11 : Mm → Int32 → Int32 → Int32 → Rs} (hk11 : ∀ (M : Mm) (b1 : Int32) (b2 : Int32) (b3 : Int32), kX A M → kp (kX A) (kf11 M b1 b2 b3)) (M : Mm) (v1 : Int32) (v2 : Int32) (v4 : Int32) (h : kX A M) : kp (kX A) (q_Mind_write_62 kf11 M v1 v2 v4) := by
  unfold q_Mind_write_62
  refine kp_ix ?_
  refine kp_if ?_ ?_
  · skip
    refine kp_ix ?_
    refine kp_cal (kx_Mind_isWritten _ _ _ _ h) (fun m1 r2 h3 => ?_)
    refine kp_if ?_ ?_
    · skip
      refine kp_ix ?_
      refine kp_cal (kx_Mind_isWritten _ _ _ _ h3) (fun m4 r5 h6 => ?_)
      refine kp_if ?_ ?_
      · skip
        exact kx_Mind_write_136 hk11 _ _ _ _ h6
      · skip
        refine kp_st (kX.st h6 (by decide)) (fun m7 h8 => ?_)
        exact kx_Mind_write_136 hk11 _ _ _ _ h8
    · skip
      refine kp_st (kX.st h3 (by decide)) (fun m9 h10 => ?_)
      exact kx_Mind_write_136 hk11 _ _ _ _ h10
  · skip
    exact kx_Mind_write_136 hk11 _ _ _ _ h
theorem kx_Mind_write_11 {A : Mm} : ∀ (n' : Nat) (M : Mm) (v1 : Int32) (v2 : Int32) (v4 : Int32), kX A M → kp (kX A) (q_Mind_write_11 n' M v1 v2 v4) := by
  intro n'
  induction n' with
  | zero =>
    intro M v1 v2 v4 h
    rw [q_Mind_write_11]
    exact kp_none
  | succ n' ih =>
    intro M v1 v2 v4 h
    rw [q_Mind_write_11]
    refine kp_if ?_ ?_
    · skip
      refine kp_ix ?_
      refine kp_ix ?_
      refine kp_st (kX.st h (by decide)) (fun m1 h2 => ?_)
      exact kp_some h2
    · skip
      refine kp_ix ?_
      refine kp_if ?_ ?_
      · skip
        refine kp_ix ?_
        refine kp_cal (kx_Mind_isWritten _ _ _ _ h) (fun m3 r4 h5 => ?_)
        refine kp_if ?_ ?_
        · skip
          exact kx_Mind_write_62 ih _ _ _ _ h5
        · skip
          refine kp_st (kX.st h5 (by decide)) (fun m6 h7 => ?_)
          exact kx_Mind_write_136 ih _ _ _ _ h7
      · skip
        exact kx_Mind_write_62 ih _ _ _ _ h
theorem kx_Mind_write {A : Mm} (M : Mm) (a1 : Int32) (a2 : Int32) (h : kX A M) : kp (kX A) (q_Mind_write M a1 a2) := by
  unfold q_Mind_write
  exact kx_Mind_write_11 4000 _ _ _ _ h
theorem kx_Device_setLoose {A : Mm} (M : Mm) (a1 : Int32) (a2 : Int32) (h : kX A M) : kp (kX A) (q_Device_setLoose M a1 a2) := by
  unfold q_Device_setLoose
  refine kp_ix ?_
  refine kp_lv (fun x1 => ?_)
  refine kp_ix ?_
  refine kp_ix ?_
  refine kp_ix ?_
  refine kp_ix ?_
  refine kp_st (kX.st h (by decide)) (fun m2 h3 => ?_)
  exact kp_some h3
theorem kx_Device_startPulses_68 {A : Mm} {kf2 : Mm → Int32 → Int32 → Int32 → Rs} (hk2 : ∀ (M : Mm) (b1 : Int32) (b2 : Int32) (b3 : Int32), kX A M → kp (kX A) (kf2 M b1 b2 b3)) (M : Mm) (v1 : Int32) (v2 : Int32) (v3 : Int32) (h : kX A M) : kp (kX A) (q_Device_startPulses_68 kf2 M v1 v2 v3) := by
  unfold q_Device_startPulses_68
  exact hk2 _ _ _ _ h
theorem kx_Device_startPulses_2 {A : Mm} : ∀ (n' : Nat) (M : Mm) (v1 : Int32) (v2 : Int32) (v3 : Int32), kX A M → kp (kX A) (q_Device_startPulses_2 n' M v1 v2 v3) := by
  intro n'
  induction n' with
  | zero =>
    intro M v1 v2 v3 h
    rw [q_Device_startPulses_2]
    exact kp_none
  | succ n' ih =>
    intro M v1 v2 v3 h
    rw [q_Device_startPulses_2]
    refine kp_if ?_ ?_
    · skip
      exact kp_some h
    · skip
      refine kp_ix ?_
      refine kp_if ?_ ?_
      · skip
        refine kp_ix ?_
        refine kp_if ?_ ?_
        · skip
          refine kp_cal (kx_Layout_bitsOf _ _ _ h) (fun m1 r2 h3 => ?_)
          refine kp_if ?_ ?_
          · skip
            exact kx_Device_startPulses_68 ih _ _ _ _ h3
          · skip
            refine kp_cal (kx_Layout_bitsOf _ _ _ h3) (fun m4 r5 h6 => ?_)
            refine kp_cal (kx_Device_setLoose _ _ _ h6) (fun m7 r8 h9 => ?_)
            refine kp_ix ?_
            refine kp_st (kX.st h9 (by decide)) (fun m10 h11 => ?_)
            exact kx_Device_startPulses_68 ih _ _ _ _ h11
        · skip
          exact kx_Device_startPulses_68 ih _ _ _ _ h
      · skip
        exact kx_Device_startPulses_68 ih _ _ _ _ h
theorem kx_Device_startPulses {A : Mm} (M : Mm) (a1 : Int32) (a2 : Int32) (h : kX A M) : kp (kX A) (q_Device_startPulses M a1 a2) := by
  unfold q_Device_startPulses
  exact kx_Device_startPulses_2 4000 _ _ _ _ h
theorem kx_Device_write {A : Mm} (M : Mm) (a1 : Int32) (a2 : Int32) (h : kX A M) : kp (kX A) (q_Device_write M a1 a2) := by
  unfold q_Device_write
  refine kp_ix ?_
  refine kp_cal (kx_Log_add _ _ _ _ h) (fun m1 r2 h3 => ?_)
  refine kp_cal (kx_Mind_write _ _ _ h3) (fun m4 r5 h6 => ?_)
  refine kp_ix ?_
  refine kp_ix ?_
  refine kp_ix ?_
  refine kp_st (kX.st h6 (by decide)) (fun m7 h8 => ?_)
  refine kp_ix ?_
  refine kp_ix ?_
  refine kp_ix ?_
  refine kp_st (kX.st h8 (by decide)) (fun m9 h10 => ?_)
  refine kp_ix ?_
  refine kp_if ?_ ?_
  · skip
    exact kp_some h10
  · skip
    refine kp_cal (kx_Device_startPulses _ _ _ h10) (fun m11 r12 h13 => ?_)
    exact kp_some h13
theorem kx_Integer_bitCount {A : Mm} (M : Mm) (a0 : Int32) (h : kX A M) : kp (kX A) (q_Integer_bitCount M a0) := by
  unfold q_Integer_bitCount
  refine kp_lv (fun x1 => ?_)
  refine kp_lv (fun x2 => ?_)
  refine kp_lv (fun x3 => ?_)
  refine kp_lv (fun x4 => ?_)
  refine kp_lv (fun x5 => ?_)
  exact kp_some h
theorem kx_Integer_numberOfTrailingZeros_74 {A : Mm} (M : Mm) (v0 : Int32) (v1 : Int32) (h : kX A M) : kp (kX A) (q_Integer_numberOfTrailingZeros_74 M v0 v1) := by
  unfold q_Integer_numberOfTrailingZeros_74
  exact kp_some h
theorem kx_Integer_numberOfTrailingZeros_62 {A : Mm} (M : Mm) (v0 : Int32) (v1 : Int32) (h : kX A M) : kp (kX A) (q_Integer_numberOfTrailingZeros_62 M v0 v1) := by
  unfold q_Integer_numberOfTrailingZeros_62
  refine kp_if ?_ ?_
  · skip
    exact kx_Integer_numberOfTrailingZeros_74 _ _ _ h
  · skip
    refine kp_lv (fun x1 => ?_)
    exact kx_Integer_numberOfTrailingZeros_74 _ _ _ h
theorem kx_Integer_numberOfTrailingZeros_49 {A : Mm} (M : Mm) (v0 : Int32) (v1 : Int32) (h : kX A M) : kp (kX A) (q_Integer_numberOfTrailingZeros_49 M v0 v1) := by
  unfold q_Integer_numberOfTrailingZeros_49
  refine kp_if ?_ ?_
  · skip
    exact kx_Integer_numberOfTrailingZeros_62 _ _ _ h
  · skip
    refine kp_lv (fun x1 => ?_)
    exact kx_Integer_numberOfTrailingZeros_62 _ _ _ h
theorem kx_Integer_numberOfTrailingZeros_34 {A : Mm} (M : Mm) (v0 : Int32) (v1 : Int32) (h : kX A M) : kp (kX A) (q_Integer_numberOfTrailingZeros_34 M v0 v1) := by
  unfold q_Integer_numberOfTrailingZeros_34
  refine kp_if ?_ ?_
  · skip
    exact kx_Integer_numberOfTrailingZeros_49 _ _ _ h
  · skip
    refine kp_lv (fun x1 => ?_)
    exact kx_Integer_numberOfTrailingZeros_49 _ _ _ h
theorem kx_Integer_numberOfTrailingZeros {A : Mm} (M : Mm) (a0 : Int32) (h : kX A M) : kp (kX A) (q_Integer_numberOfTrailingZeros M a0) := by
  unfold q_Integer_numberOfTrailingZeros
  refine kp_lv (fun x1 => ?_)
  refine kp_if ?_ ?_
  · skip
    refine kp_if ?_ ?_
    · skip
      exact kx_Integer_numberOfTrailingZeros_34 _ _ _ h
    · skip
      refine kp_lv (fun x2 => ?_)
      exact kx_Integer_numberOfTrailingZeros_34 _ _ _ h
  · skip
    exact kp_some h
theorem kx_ChipMap_busWrite {A : Mm} (M : Mm) (a1 : Int32) (a2 : Int32) (h : kX A M) : kp (kX A) (q_ChipMap_busWrite M a1 a2) := by
  unfold q_ChipMap_busWrite
  refine kp_cal (kx_Device_registerAt _ _ h) (fun m1 r2 h3 => ?_)
  refine kp_if ?_ ?_
  · skip
    exact kp_some h3
  · skip
    refine kp_cal (kx_Mind_brokenBy _ _ _ h3) (fun m4 r5 h6 => ?_)
    refine kp_cal (kx_Device_write _ _ _ h6) (fun m7 r8 h9 => ?_)
    refine kp_cal (kx_Integer_bitCount _ _ h9) (fun m10 r11 h12 => ?_)
    refine kp_st (kX.st h12 (by decide)) (fun m13 h14 => ?_)
    refine kp_if ?_ ?_
    · skip
      exact kp_some h14
    · skip
      refine kp_cal (kx_Integer_numberOfTrailingZeros _ _ h14) (fun m15 r16 h17 => ?_)
      exact kp_some h17
theorem kx_Device_countPulses_55 {A : Mm} {kf2 : Mm → Int32 → Int32 → Rs} (hk2 : ∀ (M : Mm) (b1 : Int32) (b2 : Int32), kX A M → kp (kX A) (kf2 M b1 b2)) (M : Mm) (v1 : Int32) (v2 : Int32) (h : kX A M) : kp (kX A) (q_Device_countPulses_55 kf2 M v1 v2) := by
  unfold q_Device_countPulses_55
  exact hk2 _ _ _ h
theorem kx_Device_countPulses_2 {A : Mm} : ∀ (n' : Nat) (M : Mm) (v1 : Int32) (v2 : Int32), kX A M → kp (kX A) (q_Device_countPulses_2 n' M v1 v2) := by
  intro n'
  induction n' with
  | zero =>
    intro M v1 v2 h
    rw [q_Device_countPulses_2]
    exact kp_none
  | succ n' ih =>
    intro M v1 v2 h
    rw [q_Device_countPulses_2]
    refine kp_if ?_ ?_
    · skip
      exact kp_some h
    · skip
      refine kp_ix ?_
      refine kp_if ?_ ?_
      · skip
        refine kp_ix ?_
        refine kp_if ?_ ?_
        · skip
          exact kx_Device_countPulses_55 ih _ _ _ h
        · skip
          refine kp_ix ?_
          refine kp_ix ?_
          refine kp_st (kX.st h (by decide)) (fun m1 h2 => ?_)
          refine kp_ix ?_
          refine kp_if ?_ ?_
          · skip
            refine kp_cal (kx_Device_setLoose _ _ _ h2) (fun m3 r4 h5 => ?_)
            exact kx_Device_countPulses_55 ih _ _ _ h5
          · skip
            exact kx_Device_countPulses_55 ih _ _ _ h2
      · skip
        exact kx_Device_countPulses_55 ih _ _ _ h
theorem kx_Device_countPulses {A : Mm} (M : Mm) (a1 : Int32) (h : kX A M) : kp (kX A) (q_Device_countPulses M a1) := by
  unfold q_Device_countPulses
  exact kx_Device_countPulses_2 4000 _ _ _ h
theorem kx_Device_read {A : Mm} (M : Mm) (a1 : Int32) (h : kX A M) : kp (kX A) (q_Device_read M a1) := by
  unfold q_Device_read
  refine kp_ix ?_
  refine kp_ix ?_
  refine kp_ix ?_
  refine kp_lv (fun x1 => ?_)
  refine kp_ix ?_
  refine kp_cal (kx_Log_add _ _ _ _ h) (fun m2 r3 h4 => ?_)
  refine kp_ix ?_
  refine kp_ix ?_
  refine kp_ix ?_
  refine kp_ix ?_
  refine kp_st (kX.st h4 (by decide)) (fun m5 h6 => ?_)
  refine kp_ix ?_
  refine kp_ix ?_
  refine kp_ix ?_
  refine kp_st (kX.st h6 (by decide)) (fun m7 h8 => ?_)
  refine kp_ix ?_
  refine kp_if ?_ ?_
  · skip
    exact kp_some h8
  · skip
    refine kp_cal (kx_Device_countPulses _ _ h8) (fun m9 r10 h11 => ?_)
    exact kp_some h11
theorem kx_ChipMap_busRead {A : Mm} (M : Mm) (a1 : Int32) (h : kX A M) : kp (kX A) (q_ChipMap_busRead M a1) := by
  unfold q_ChipMap_busRead
  refine kp_cal (kx_Device_registerAt _ _ h) (fun m1 r2 h3 => ?_)
  refine kp_if ?_ ?_
  · skip
    exact kp_some h3
  · skip
    refine kp_cal (kx_Device_read _ _ h3) (fun m4 r5 h6 => ?_)
    exact kp_some h6
theorem kx_Layout_fits {A : Mm} (M : Mm) (a1 : Int32) (a2 : Int32) (h : kX A M) : kp (kX A) (q_Layout_fits M a1 a2) := by
  unfold q_Layout_fits
  refine kp_ix ?_
  refine kp_if ?_ ?_
  · skip
    exact kp_some h
  · skip
    exact kp_some h
theorem kx_ChipMap_poke_52 {A : Mm} (M : Mm) (v1 : Int32) (v2 : Int32) (h : kX A M) : kp (kX A) (q_ChipMap_poke_52 M v1 v2) := by
  unfold q_ChipMap_poke_52
  refine kp_cal (kx_Device_setLoose _ _ _ h) (fun m1 r2 h3 => ?_)
  exact kp_some h3
theorem kx_ChipMap_poke {A : Mm} (M : Mm) (a1 : Int32) (a2 : Int32) (h : kX A M) : kp (kX A) (q_ChipMap_poke M a1 a2) := by
  unfold q_ChipMap_poke
  refine kp_cal (kx_Layout_has _ _ h) (fun m1 r2 h3 => ?_)
  refine kp_if ?_ ?_
  · skip
    exact kp_some h3
  · skip
    refine kp_cal (kx_Layout_fits _ _ _ h3) (fun m4 r5 h6 => ?_)
    refine kp_if ?_ ?_
    · skip
      exact kp_some h6
    · skip
      refine kp_ix ?_
      refine kp_lv (fun x7 => ?_)
      refine kp_if ?_ ?_
      · skip
        exact kx_ChipMap_poke_52 _ _ _ h6
      · skip
        refine kp_if ?_ ?_
        · skip
          exact kx_ChipMap_poke_52 _ _ _ h6
        · skip
          refine kp_if ?_ ?_
          · skip
            exact kx_ChipMap_poke_52 _ _ _ h6
          · skip
            exact kp_some h6
theorem kx_Layout_canPut {A : Mm} (M : Mm) (a1 : Int32) (a2 : Int32) (h : kX A M) : kp (kX A) (q_Layout_canPut M a1 a2) := by
  unfold q_Layout_canPut
  refine kp_cal (kx_Layout_has _ _ h) (fun m1 r2 h3 => ?_)
  refine kp_if ?_ ?_
  · skip
    exact kp_some h3
  · skip
    refine kp_ix ?_
    refine kp_if ?_ ?_
    · skip
      exact kp_some h3
    · skip
      refine kp_ix ?_
      refine kp_if ?_ ?_
      · skip
        exact kp_some h3
      · skip
        refine kp_cal (kx_Layout_fits _ _ _ h3) (fun m4 r5 h6 => ?_)
        refine kp_if ?_ ?_
        · skip
          exact kp_some h6
        · skip
          exact kp_some h6
theorem kx_Mind_copy {A : Mm} (M : Mm) (h : kX A M) : kp (kX A) (q_Mind_copy M) := by
  unfold q_Mind_copy
  refine kp_cpk ?_
  refine kp_st (kX.st h (by decide)) (fun m1 h2 => ?_)
  refine kp_st (kX.st h2 (by decide)) (fun m3 h4 => ?_)
  exact kp_some h4
theorem kx_Plan_beginHere {A : Mm} (M : Mm) (h : kX A M) : kp (kX A) (q_Plan_beginHere M) := by
  unfold q_Plan_beginHere
  refine kp_st (kX.st h (by decide)) (fun m1 h2 => ?_)
  refine kp_st (kX.st h2 (by decide)) (fun m3 h4 => ?_)
  exact kp_some h4
theorem kx_Plan_begin {A : Mm} (M : Mm) (h : kX A M) : kp (kX A) (q_Plan_begin M) := by
  unfold q_Plan_begin
  refine kp_cal (kx_Mind_copy _ h) (fun m1 r2 h3 => ?_)
  refine kp_cal (kx_Plan_beginHere _ h3) (fun m4 r5 h6 => ?_)
  exact kp_some h6
theorem kx_Mind_knownValue_1 {A : Mm} (M : Mm) (a1 : Int32) (h : kX A M) : kp (kX A) (q_Mind_knownValue_1 M a1) := by
  unfold q_Mind_knownValue_1
  refine kp_ix ?_
  refine kp_ix ?_
  refine kp_ix ?_
  refine kp_ix ?_
  exact kp_some h
theorem kx_Mind_isThere_1 {A : Mm} (M : Mm) (a1 : Int32) (h : kX A M) : kp (kX A) (q_Mind_isThere_1 M a1) := by
  unfold q_Mind_isThere_1
  refine kp_ix ?_
  refine kp_lv (fun x1 => ?_)
  refine kp_if ?_ ?_
  · skip
    exact kp_some h
  · skip
    refine kp_cal (kx_Mind_knownValue_1 _ _ h) (fun m2 r3 h4 => ?_)
    refine kp_ix ?_
    refine kp_if ?_ ?_
    · skip
      exact kp_some h4
    · skip
      exact kp_some h4
theorem kx_Mind_isWritten_1 {A : Mm} (M : Mm) (a1 : Int32) (a2 : Int32) (a3 : Int32) (h : kX A M) : kp (kX A) (q_Mind_isWritten_1 M a1 a2 a3) := by
  unfold q_Mind_isWritten_1
  refine kp_ix ?_
  refine kp_if ?_ ?_
  · skip
    refine kp_ix ?_
    refine kp_ix ?_
    refine kp_if ?_ ?_
    · skip
      exact kp_some h
    · skip
      exact kp_some h
  · skip
    exact kp_some h
theorem kx_Mind_brokenBy_1_184 {A : Mm} {kf14 : Mm → Int32 → Int32 → Int32 → Int32 → Rs} (hk14 : ∀ (M : Mm) (b1 : Int32) (b2 : Int32) (b3 : Int32) (b4 : Int32), kX A M → kp (kX A) (kf14 M b1 b2 b3 b4)) (M : Mm) (v1 : Int32) (v2 : Int32) (v4 : Int32) (v5 : Int32) (h : kX A M) : kp (kX A) (q_Mind_brokenBy_1_184 kf14 M v1 v2 v4 v5) := by
  unfold q_Mind_brokenBy_1_184
  exact hk14 _ _ _ _ _ h
theorem kx_Mind_brokenBy_1_170 {A : Mm} {kf14 : Mm → Int32 → Int32 → Int32 → Int32 → Rs} (hk14 : ∀ (M : Mm) (b1 : Int32) (b2 : Int32) (b3 : Int32) (b4 : Int32), kX A M → kp (kX A) (kf14 M b1 b2 b3 b4)) (M : Mm) (v1 : Int32) (v2 : Int32) (v4 : Int32) (v5 : Int32) (v7 : Int32) (h : kX A M) : kp (kX A) (q_Mind_brokenBy_1_170 kf14 M v1 v2 v4 v5 v7) := by
  unfold q_Mind_brokenBy_1_170
  refine kp_if ?_ ?_
  · skip
    exact kx_Mind_brokenBy_1_184 hk14 _ _ _ _ _ h
  · skip
    refine kp_lv (fun x1 => ?_)
    exact kx_Mind_brokenBy_1_184 hk14 _ _ _ _ _ h
theorem kx_Mind_brokenBy_1_168 {A : Mm} {kf14 : Mm → Int32 → Int32 → Int32 → Int32 → Rs} (hk14 : ∀ (M : Mm) (b1 : Int32) (b2 : Int32) (b3 : Int32) (b4 : Int32), kX A M → kp (kX A) (kf14 M b1 b2 b3 b4)) (M : Mm) (v1 : Int32) (v2 : Int32) (v4 : Int32) (v5 : Int32) (t0 : Int32) (h : kX A M) : kp (kX A) (q_Mind_brokenBy_1_168 kf14 M v1 v2 v4 v5 t0) := by
  unfold q_Mind_brokenBy_1_168
  exact kx_Mind_brokenBy_1_170 hk14 _ _ _ _ _ _ h
theorem kx_Mind_brokenBy_1_167 {A : Mm} {kf14 : Mm → Int32 → Int32 → Int32 → Int32 → Rs} (hk14 : ∀ (M : Mm) (b1 : Int32) (b2 : Int32) (b3 : Int32) (b4 : Int32), kX A M → kp (kX A) (kf14 M b1 b2 b3 b4)) (M : Mm) (v1 : Int32) (v2 : Int32) (v4 : Int32) (v5 : Int32) (h : kX A M) : kp (kX A) (q_Mind_brokenBy_1_167 kf14 M v1 v2 v4 v5) := by
  unfold q_Mind_brokenBy_1_167
  exact kx_Mind_brokenBy_1_168 hk14 _ _ _ _ _ _ h
theorem kx_Mind_brokenBy_1_121 {A : Mm} {kf14 : Mm → Int32 → Int32 → Int32 → Int32 → Rs} (hk14 : ∀ (M : Mm) (b1 : Int32) (b2 : Int32) (b3 : Int32) (b4 : Int32), kX A M → kp (kX A) (kf14 M b1 b2 b3 b4)) (M : Mm) (v1 : Int32) (v2 : Int32) (v4 : Int32) (v5 : Int32) (t0 : Int32) (h : kX A M) : kp (kX A) (q_Mind_brokenBy_1_121 kf14 M v1 v2 v4 v5 t0) := by
  unfold q_Mind_brokenBy_1_121
  exact kx_Mind_brokenBy_1_170 hk14 _ _ _ _ _ _ h
theorem kx_Mind_brokenBy_1_120 {A : Mm} {kf14 : Mm → Int32 → Int32 → Int32 → Int32 → Rs} (hk14 : ∀ (M : Mm) (b1 : Int32) (b2 : Int32) (b3 : Int32) (b4 : Int32), kX A M → kp (kX A) (kf14 M b1 b2 b3 b4)) (M : Mm) (v1 : Int32) (v2 : Int32) (v4 : Int32) (v5 : Int32) (h : kX A M) : kp (kX A) (q_Mind_brokenBy_1_120 kf14 M v1 v2 v4 v5) := by
  unfold q_Mind_brokenBy_1_120
  exact kx_Mind_brokenBy_1_121 hk14 _ _ _ _ _ _ h
theorem kx_Mind_brokenBy_1_79 {A : Mm} {kf14 : Mm → Int32 → Int32 → Int32 → Int32 → Rs} (hk14 : ∀ (M : Mm) (b1 : Int32) (b2 : Int32) (b3 : Int32) (b4 : Int32), kX A M → kp (kX A) (kf14 M b1 b2 b3 b4)) (M : Mm) (v1 : Int32) (v2 : Int32) (v4 : Int32) (v5 : Int32) (t0 : Int32) (h : kX A M) : kp (kX A) (q_Mind_brokenBy_1_79 kf14 M v1 v2 v4 v5 t0) := by
  unfold q_Mind_brokenBy_1_79
  exact kx_Mind_brokenBy_1_170 hk14 _ _ _ _ _ _ h
theorem kx_Mind_brokenBy_1_78 {A : Mm} {kf14 : Mm → Int32 → Int32 → Int32 → Int32 → Rs} (hk14 : ∀ (M : Mm) (b1 : Int32) (b2 : Int32) (b3 : Int32) (b4 : Int32), kX A M → kp (kX A) (kf14 M b1 b2 b3 b4)) (M : Mm) (v1 : Int32) (v2 : Int32) (v4 : Int32) (v5 : Int32) (h : kX A M) : kp (kX A) (q_Mind_brokenBy_1_78 kf14 M v1 v2 v4 v5) := by
  unfold q_Mind_brokenBy_1_78
  exact kx_Mind_brokenBy_1_79 hk14 _ _ _ _ _ _ h
theorem kx_Mind_brokenBy_1_41 {A : Mm} {kf14 : Mm → Int32 → Int32 → Int32 → Int32 → Rs} (hk14 : ∀ (M : Mm) (b1 : Int32) (b2 : Int32) (b3 : Int32) (b4 : Int32), kX A M → kp (kX A) (kf14 M b1 b2 b3 b4)) (M : Mm) (v1 : Int32) (v2 : Int32) (v4 : Int32) (v5 : Int32) (t0 : Int32) (h : kX A M) : kp (kX A) (q_Mind_brokenBy_1_41 kf14 M v1 v2 v4 v5 t0) := by
  unfold q_Mind_brokenBy_1_41
  refine kp_ix ?_
  refine kp_if ?_ ?_
  · skip
    refine kp_if ?_ ?_
    · skip
      refine kp_ix ?_
      refine kp_cal (kx_Mind_isWritten_1 _ _ _ _ h) (fun m1 r2 h3 => ?_)
      refine kp_if ?_ ?_
      · skip
        exact kx_Mind_brokenBy_1_78 hk14 _ _ _ _ _ h3
      · skip
        exact kx_Mind_brokenBy_1_79 hk14 _ _ _ _ _ _ h3
    · skip
      exact kx_Mind_brokenBy_1_78 hk14 _ _ _ _ _ h
  · skip
    refine kp_ix ?_
    refine kp_if ?_ ?_
    · skip
      refine kp_if ?_ ?_
      · skip
        exact kx_Mind_brokenBy_1_120 hk14 _ _ _ _ _ h
      · skip
        refine kp_ix ?_
        refine kp_cal (kx_Mind_isWritten_1 _ _ _ _ h) (fun m4 r5 h6 => ?_)
        refine kp_if ?_ ?_
        · skip
          exact kx_Mind_brokenBy_1_120 hk14 _ _ _ _ _ h6
        · skip
          exact kx_Mind_brokenBy_1_121 hk14 _ _ _ _ _ _ h6
    · skip
      refine kp_ix ?_
      refine kp_cal (kx_Mind_isWritten_1 _ _ _ _ h) (fun m7 r8 h9 => ?_)
      refine kp_if ?_ ?_
      · skip
        exact kx_Mind_brokenBy_1_167 hk14 _ _ _ _ _ h9
      · skip
        refine kp_ix ?_
        refine kp_cal (kx_Mind_knownValue_1 _ _ h9) (fun m10 r11 h12 => ?_)
        refine kp_ix ?_
        refine kp_if ?_ ?_
        · skip
          exact kx_Mind_brokenBy_1_167 hk14 _ _ _ _ _ h12
        · skip
          exact kx_Mind_brokenBy_1_168 hk14 _ _ _ _ _ _ h12
theorem kx_Mind_brokenBy_1_14 {A : Mm} : ∀ (n' : Nat) (M : Mm) (v1 : Int32) (v2 : Int32) (v4 : Int32) (v5 : Int32), kX A M → kp (kX A) (q_Mind_brokenBy_1_14 n' M v1 v2 v4 v5) := by
  intro n'
  induction n' with
  | zero =>
    intro M v1 v2 v4 v5 h
    rw [q_Mind_brokenBy_1_14]
    exact kp_none
  | succ n' ih =>
    intro M v1 v2 v4 v5 h
    rw [q_Mind_brokenBy_1_14]
    refine kp_if ?_ ?_
    · skip
      exact kp_some h
    · skip
      refine kp_if ?_ ?_
      · skip
        exact kx_Mind_brokenBy_1_41 ih _ _ _ _ _ _ h
      · skip
        exact kx_Mind_brokenBy_1_41 ih _ _ _ _ _ _ h
theorem kx_Mind_brokenBy_1 {A : Mm} (M : Mm) (a1 : Int32) (a2 : Int32) (h : kX A M) : kp (kX A) (q_Mind_brokenBy_1 M a1 a2) := by
  unfold q_Mind_brokenBy_1
  exact kx_Mind_brokenBy_1_14 4000 _ _ _ _ _ h
theorem kx_Mind_write_1_136 {A : Mm} {kf11 : Mm → Int32 → Int32 → Int32 → Rs} (hk11 : ∀ (M : Mm) (b1 : Int32) (b2 : Int32) (b3 : Int32), kX A M → kp (kX A) (kf11 M b1 b2 b3)) (M : Mm) (v1 : Int32) (v2 : Int32) (v4 : Int32) (h : kX A M) : kp (kX A) (q_Mind_write_1_136 kf11 M v1 v2 v4) := by
  unfold q_Mind_write_1_136
  exact hk11 _ _ _ _ h
theorem kx_Mind_write_1_62 {A : Mm} {kf11 : Mm → Int32 → Int32 → Int32 → Rs} (hk11 : ∀ (M : Mm) (b1 : Int32) (b2 : Int32) (b3 : Int32), kX A M → kp (kX A) (kf11 M b1 b2 b3)) (M : Mm) (v1 : Int32) (v2 : Int32) (v4 : Int32) (h : kX A M) : kp (kX A) (q_Mind_write_1_62 kf11 M v1 v2 v4) := by
  unfold q_Mind_write_1_62
  refine kp_ix ?_
  refine kp_if ?_ ?_
  · skip
    refine kp_ix ?_
    refine kp_cal (kx_Mind_isWritten_1 _ _ _ _ h) (fun m1 r2 h3 => ?_)
    refine kp_if ?_ ?_
    · skip
      refine kp_ix ?_
      refine kp_cal (kx_Mind_isWritten_1 _ _ _ _ h3) (fun m4 r5 h6 => ?_)
      refine kp_if ?_ ?_
      · skip
        exact kx_Mind_write_1_136 hk11 _ _ _ _ h6
      · skip
        refine kp_st (kX.st h6 (by decide)) (fun m7 h8 => ?_)
        exact kx_Mind_write_1_136 hk11 _ _ _ _ h8
    · skip
      refine kp_st (kX.st h3 (by decide)) (fun m9 h10 => ?_)
      exact kx_Mind_write_1_136 hk11 _ _ _ _ h10
  · skip
    exact kx_Mind_write_1_136 hk11 _ _ _ _ h
theorem kx_Mind_write_1_11 {A : Mm} : ∀ (n' : Nat) (M : Mm) (v1 : Int32) (v2 : Int32) (v4 : Int32), kX A M → kp (kX A) (q_Mind_write_1_11 n' M v1 v2 v4) := by
  intro n'
  induction n' with
  | zero =>
    intro M v1 v2 v4 h
    rw [q_Mind_write_1_11]
    exact kp_none
  | succ n' ih =>
    intro M v1 v2 v4 h
    rw [q_Mind_write_1_11]
    refine kp_if ?_ ?_
    · skip
      refine kp_ix ?_
      refine kp_ix ?_
      refine kp_st (kX.st h (by decide)) (fun m1 h2 => ?_)
      exact kp_some h2
    · skip
      refine kp_ix ?_
      refine kp_if ?_ ?_
      · skip
        refine kp_ix ?_
        refine kp_cal (kx_Mind_isWritten_1 _ _ _ _ h) (fun m3 r4 h5 => ?_)
        refine kp_if ?_ ?_
        · skip
          exact kx_Mind_write_1_62 ih _ _ _ _ h5
        · skip
          refine kp_st (kX.st h5 (by decide)) (fun m6 h7 => ?_)
          exact kx_Mind_write_1_136 ih _ _ _ _ h7
      · skip
        exact kx_Mind_write_1_62 ih _ _ _ _ h
theorem kx_Mind_write_1 {A : Mm} (M : Mm) (a1 : Int32) (a2 : Int32) (h : kX A M) : kp (kX A) (q_Mind_write_1 M a1 a2) := by
  unfold q_Mind_write_1
  exact kx_Mind_write_1_11 4000 _ _ _ _ h
theorem kx_Plan_addTold {A : Mm} (M : Mm) (a1 : Int32) (a2 : Int32) (a3 : Int32) (h : kX A M) : kp (kX A) (q_Plan_addTold M a1 a2 a3) := by
  unfold q_Plan_addTold
  refine kp_if ?_ ?_
  · skip
    refine kp_if ?_ ?_
    · skip
      refine kp_ix ?_
      refine kp_lv (fun x1 => ?_)
      refine kp_cal (kx_Mind_brokenBy_1 _ _ _ h) (fun m2 r3 h4 => ?_)
      refine kp_if ?_ ?_
      · skip
        refine kp_cal (kx_Mind_write_1 _ _ _ h4) (fun m5 r6 h7 => ?_)
        refine kp_ix ?_
        refine kp_st (kX.st h7 (by decide)) (fun m8 h9 => ?_)
        refine kp_ix ?_
        refine kp_st (kX.st h9 (by decide)) (fun m10 h11 => ?_)
        refine kp_st (kX.st h11 (by decide)) (fun m12 h13 => ?_)
        exact kp_some h13
      · skip
        refine kp_cal (kx_Integer_numberOfTrailingZeros _ _ h4) (fun m14 r15 h16 => ?_)
        refine kp_st (kX.st h16 (by decide)) (fun m17 h18 => ?_)
        exact kp_some h18
    · skip
      exact kp_some h
  · skip
    exact kp_some h
theorem kx_Plan_addReach {A : Mm} (M : Mm) (a1 : Int32) (h : kX A M) : kp (kX A) (q_Plan_addReach M a1) := by
  unfold q_Plan_addReach
  refine kp_cal (kx_Mind_isThere_1 _ _ h) (fun m1 r2 h3 => ?_)
  refine kp_if ?_ ?_
  · skip
    refine kp_ix ?_
    refine kp_lv (fun x4 => ?_)
    refine kp_ix ?_
    refine kp_ix ?_
    refine kp_ix ?_
    refine kp_ix ?_
    refine kp_cal (kx_Plan_addTold _ _ _ _ h3) (fun m5 r6 h7 => ?_)
    exact kp_some h7
  · skip
    exact kp_some h3
theorem kx_Plan_addPut_24 {A : Mm} (M : Mm) (v1 : Int32) (v2 : Int32) (h : kX A M) : kp (kX A) (q_Plan_addPut_24 M v1 v2) := by
  unfold q_Plan_addPut_24
  refine kp_ix ?_
  refine kp_lv (fun x1 => ?_)
  refine kp_cal (kx_Plan_addReach _ _ h) (fun m2 r3 h4 => ?_)
  refine kp_ix ?_
  refine kp_ix ?_
  refine kp_cal (kx_Plan_addTold _ _ _ _ h4) (fun m5 r6 h7 => ?_)
  exact kp_some h7
theorem kx_Plan_addPut {A : Mm} (M : Mm) (a1 : Int32) (a2 : Int32) (h : kX A M) : kp (kX A) (q_Plan_addPut M a1 a2) := by
  unfold q_Plan_addPut
  refine kp_cal (kx_Layout_isKnown _ _ h) (fun m1 r2 h3 => ?_)
  refine kp_if ?_ ?_
  · skip
    exact kx_Plan_addPut_24 _ _ _ h3
  · skip
    refine kp_cal (kx_Mind_knownValue_1 _ _ h3) (fun m4 r5 h6 => ?_)
    refine kp_if ?_ ?_
    · skip
      exact kp_some h6
    · skip
      exact kx_Plan_addPut_24 _ _ _ h6
theorem kx_ChipMap_doWrites_15 {A : Mm} : ∀ (n' : Nat) (M : Mm) (v1 : Int32), kX A M → kp (kX A) (q_ChipMap_doWrites_15 n' M v1) := by
  intro n'
  induction n' with
  | zero =>
    intro M v1 h
    rw [q_ChipMap_doWrites_15]
    exact kp_none
  | succ n' ih =>
    intro M v1 h
    rw [q_ChipMap_doWrites_15]
    refine kp_if ?_ ?_
    · skip
      exact kp_some h
    · skip
      refine kp_ix ?_
      refine kp_ix ?_
      refine kp_cal (kx_Device_write _ _ _ h) (fun m1 r2 h3 => ?_)
      exact ih _ _ h3
theorem kx_ChipMap_doWrites {A : Mm} (M : Mm) (h : kX A M) : kp (kX A) (q_ChipMap_doWrites M) := by
  unfold q_ChipMap_doWrites
  refine kp_if ?_ ?_
  · skip
    exact kx_ChipMap_doWrites_15 4000 _ _ h
  · skip
    exact kp_some h
theorem kx_ChipMap_put {A : Mm} (M : Mm) (a1 : Int32) (a2 : Int32) (h : kX A M) : kp (kX A) (q_ChipMap_put M a1 a2) := by
  unfold q_ChipMap_put
  refine kp_cal (kx_Layout_canPut _ _ _ h) (fun m1 r2 h3 => ?_)
  refine kp_if ?_ ?_
  · skip
    exact kp_some h3
  · skip
    refine kp_if ?_ ?_
    · skip
      refine kp_cal (kx_Plan_begin _ h3) (fun m4 r5 h6 => ?_)
      refine kp_cal (kx_Plan_addPut _ _ _ h6) (fun m7 r8 h9 => ?_)
      refine kp_cal (kx_ChipMap_doWrites _ h9) (fun m10 r11 h12 => ?_)
      exact kp_some h12
    · skip
      exact kp_some h3
theorem kx_Layout_canFetch {A : Mm} (M : Mm) (a1 : Int32) (h : kX A M) : kp (kX A) (q_Layout_canFetch M a1) := by
  unfold q_Layout_canFetch
  refine kp_cal (kx_Layout_has _ _ h) (fun m1 r2 h3 => ?_)
  refine kp_if ?_ ?_
  · skip
    exact kp_some h3
  · skip
    refine kp_ix ?_
    refine kp_if ?_ ?_
    · skip
      exact kp_some h3
    · skip
      exact kp_some h3
theorem kx_Plan_addFetch {A : Mm} (M : Mm) (a1 : Int32) (h : kX A M) : kp (kX A) (q_Plan_addFetch M a1) := by
  unfold q_Plan_addFetch
  refine kp_ix ?_
  refine kp_if ?_ ?_
  · skip
    exact kp_some h
  · skip
    refine kp_ix ?_
    refine kp_cal (kx_Plan_addReach _ _ h) (fun m1 r2 h3 => ?_)
    exact kp_some h3
theorem kx_ChipMap_reachForFetch {A : Mm} (M : Mm) (a1 : Int32) (h : kX A M) : kp (kX A) (q_ChipMap_reachForFetch M a1) := by
  unfold q_ChipMap_reachForFetch
  refine kp_cal (kx_Plan_begin _ h) (fun m1 r2 h3 => ?_)
  refine kp_cal (kx_Plan_addFetch _ _ h3) (fun m4 r5 h6 => ?_)
  refine kp_cal (kx_ChipMap_doWrites _ h6) (fun m7 r8 h9 => ?_)
  refine kp_if ?_ ?_
  · skip
    exact kp_some h9
  · skip
    exact kp_some h9
theorem kx_Device_takeKept {A : Mm} (M : Mm) (a1 : Int32) (h : kX A M) : kp (kX A) (q_Device_takeKept M a1) := by
  unfold q_Device_takeKept
  refine kp_ix ?_
  refine kp_lv (fun x1 => ?_)
  refine kp_ix ?_
  refine kp_cal (kx_Layout_bitsOf _ _ _ h) (fun m2 r3 h4 => ?_)
  refine kp_ix ?_
  refine kp_ix ?_
  refine kp_ix ?_
  refine kp_st (kX.st h4 (by decide)) (fun m5 h6 => ?_)
  exact kp_some h6
theorem kx_ChipMap_readOut {A : Mm} (M : Mm) (a1 : Int32) (h : kX A M) : kp (kX A) (q_ChipMap_readOut M a1) := by
  unfold q_ChipMap_readOut
  refine kp_ix ?_
  refine kp_lv (fun x1 => ?_)
  refine kp_if ?_ ?_
  · skip
    refine kp_cal (kx_Device_valueOf _ _ h) (fun m2 r3 h4 => ?_)
    exact kp_some h4
  · skip
    refine kp_ix ?_
    refine kp_lv (fun x5 => ?_)
    refine kp_cal (kx_Device_read _ _ h) (fun m6 r7 h8 => ?_)
    refine kp_if ?_ ?_
    · skip
      refine kp_cal (kx_Device_takeKept _ _ h8) (fun m9 r10 h11 => ?_)
      exact kp_some h11
    · skip
      refine kp_cal (kx_Layout_bitsOf _ _ _ h8) (fun m12 r13 h14 => ?_)
      exact kp_some h14
theorem kx_ChipMap_fetch_37 {A : Mm} (M : Mm) (h : kX A M) : kp (kX A) (q_ChipMap_fetch_37 M) := by
  unfold q_ChipMap_fetch_37
  exact kp_none
theorem kx_ChipMap_fetch {A : Mm} (M : Mm) (a1 : Int32) (h : kX A M) : kp (kX A) (q_ChipMap_fetch M a1) := by
  unfold q_ChipMap_fetch
  refine kp_cal (kx_Layout_canFetch _ _ h) (fun m1 r2 h3 => ?_)
  refine kp_if ?_ ?_
  · skip
    exact kp_none
  · skip
    refine kp_if ?_ ?_
    · skip
      exact kx_ChipMap_fetch_37 _ h3
    · skip
      refine kp_cal (kx_ChipMap_reachForFetch _ _ h3) (fun m4 r5 h6 => ?_)
      refine kp_if ?_ ?_
      · skip
        exact kx_ChipMap_fetch_37 _ h6
      · skip
        refine kp_cal (kx_ChipMap_readOut _ _ h6) (fun m7 r8 h9 => ?_)
        exact kp_some h9
theorem kx_Steps_isFull {A : Mm} (M : Mm) (h : kX A M) : kp (kX A) (q_Steps_isFull M) := by
  unfold q_Steps_isFull
  refine kp_if ?_ ?_
  · skip
    exact kp_some h
  · skip
    exact kp_some h
theorem kx_Steps_append {A : Mm} (M : Mm) (a1 : Int32) (a2 : Int32) (a3 : Int32) (h : kX A M) : kp (kX A) (q_Steps_append M a1 a2 a3) := by
  unfold q_Steps_append
  refine kp_ix ?_
  refine kp_st (kX.st h (by decide)) (fun m1 h2 => ?_)
  refine kp_ix ?_
  refine kp_st (kX.st h2 (by decide)) (fun m3 h4 => ?_)
  refine kp_ix ?_
  refine kp_st (kX.st h4 (by decide)) (fun m5 h6 => ?_)
  refine kp_st (kX.st h6 (by decide)) (fun m7 h8 => ?_)
  exact kp_some h8
theorem kx_ChipMap_join {A : Mm} (M : Mm) (a1 : Int32) (a2 : Int32) (h : kX A M) : kp (kX A) (q_ChipMap_join M a1 a2) := by
  unfold q_ChipMap_join
  refine kp_cal (kx_Layout_canPut _ _ _ h) (fun m1 r2 h3 => ?_)
  refine kp_if ?_ ?_
  · skip
    exact kp_some h3
  · skip
    refine kp_cal (kx_Steps_isFull _ h3) (fun m4 r5 h6 => ?_)
    refine kp_if ?_ ?_
    · skip
      refine kp_cal (kx_Steps_append _ _ _ _ h6) (fun m7 r8 h9 => ?_)
      exact kp_some h9
    · skip
      exact kp_some h6
theorem kx_Plan_isFirstOfRegister_18 {A : Mm} : ∀ (n' : Nat) (M : Mm) (v2 : Int32) (v3 : Int32) (v4 : Int32), kX A M → kp (kX A) (q_Plan_isFirstOfRegister_18 n' M v2 v3 v4) := by
  intro n'
  induction n' with
  | zero =>
    intro M v2 v3 v4 h
    rw [q_Plan_isFirstOfRegister_18]
    exact kp_none
  | succ n' ih =>
    intro M v2 v3 v4 h
    rw [q_Plan_isFirstOfRegister_18]
    refine kp_if ?_ ?_
    · skip
      exact kp_some h
    · skip
      refine kp_ix ?_
      refine kp_ix ?_
      refine kp_if ?_ ?_
      · skip
        exact kp_some h
      · skip
        exact ih _ _ _ _ h
theorem kx_Plan_isFirstOfRegister {A : Mm} (M : Mm) (a2 : Int32) (h : kX A M) : kp (kX A) (q_Plan_isFirstOfRegister M a2) := by
  unfold q_Plan_isFirstOfRegister
  refine kp_ix ?_
  refine kp_ix ?_
  refine kp_lv (fun x1 => ?_)
  exact kx_Plan_isFirstOfRegister_18 4000 _ _ _ _ h
theorem kx_Plan_addRegister_155 {A : Mm} (M : Mm) (v2 : Int32) (v3 : Int32) (v4 : Int32) (h : kX A M) : kp (kX A) (q_Plan_addRegister_155 M v2 v3 v4) := by
  unfold q_Plan_addRegister_155
  refine kp_cal (kx_Plan_addReach _ _ h) (fun m1 r2 h3 => ?_)
  refine kp_cal (kx_Plan_addTold _ _ _ _ h3) (fun m4 r5 h6 => ?_)
  exact kp_some h6
theorem kx_Plan_addRegister_131 {A : Mm} (M : Mm) (v2 : Int32) (v3 : Int32) (v4 : Int32) (t0 : Int32) (h : kX A M) : kp (kX A) (q_Plan_addRegister_131 M v2 v3 v4 t0) := by
  unfold q_Plan_addRegister_131
  refine kp_if ?_ ?_
  · skip
    exact kx_Plan_addRegister_155 _ _ _ _ h
  · skip
    refine kp_ix ?_
    refine kp_if ?_ ?_
    · skip
      exact kp_some h
    · skip
      exact kx_Plan_addRegister_155 _ _ _ _ h
theorem kx_Plan_addRegister_104 {A : Mm} {kf8 : Mm → Int32 → Int32 → Int32 → Int32 → Rs} (hk8 : ∀ (M : Mm) (b1 : Int32) (b2 : Int32) (b3 : Int32) (b4 : Int32), kX A M → kp (kX A) (kf8 M b1 b2 b3 b4)) (M : Mm) (v2 : Int32) (v3 : Int32) (v4 : Int32) (v5 : Int32) (h : kX A M) : kp (kX A) (q_Plan_addRegister_104 kf8 M v2 v3 v4 v5) := by
  unfold q_Plan_addRegister_104
  exact hk8 _ _ _ _ _ h
theorem kx_Plan_addRegister_76 {A : Mm} {kf8 : Mm → Int32 → Int32 → Int32 → Int32 → Rs} (hk8 : ∀ (M : Mm) (b1 : Int32) (b2 : Int32) (b3 : Int32) (b4 : Int32), kX A M → kp (kX A) (kf8 M b1 b2 b3 b4)) (M : Mm) (v2 : Int32) (v3 : Int32) (v4 : Int32) (v5 : Int32) (v6 : Int32) (v7 : Int32) (h : kX A M) : kp (kX A) (q_Plan_addRegister_76 kf8 M v2 v3 v4 v5 v6 v7) := by
  unfold q_Plan_addRegister_76
  refine kp_lv (fun x1 => ?_)
  refine kp_ix ?_
  refine kp_ix ?_
  refine kp_lv (fun x2 => ?_)
  exact kx_Plan_addRegister_104 hk8 _ _ _ _ _ h
theorem kx_Plan_addRegister_8 {A : Mm} : ∀ (n' : Nat) (M : Mm) (v2 : Int32) (v3 : Int32) (v4 : Int32) (v5 : Int32), kX A M → kp (kX A) (q_Plan_addRegister_8 n' M v2 v3 v4 v5) := by
  intro n'
  induction n' with
  | zero =>
    intro M v2 v3 v4 v5 h
    rw [q_Plan_addRegister_8]
    exact kp_none
  | succ n' ih =>
    intro M v2 v3 v4 v5 h
    rw [q_Plan_addRegister_8]
    refine kp_if ?_ ?_
    · skip
      refine kp_ix ?_
      refine kp_if ?_ ?_
      · skip
        exact kx_Plan_addRegister_131 _ _ _ _ _ h
      · skip
        exact kx_Plan_addRegister_131 _ _ _ _ _ h
    · skip
      refine kp_ix ?_
      refine kp_lv (fun x1 => ?_)
      refine kp_ix ?_
      refine kp_if ?_ ?_
      · skip
        refine kp_ix ?_
        refine kp_lv (fun x2 => ?_)
        refine kp_cal (kx_Layout_isKnown _ _ h) (fun m3 r4 h5 => ?_)
        refine kp_if ?_ ?_
        · skip
          exact kx_Plan_addRegister_76 ih _ _ _ _ _ _ _ h5
        · skip
          refine kp_lv (fun x6 => ?_)
          exact kx_Plan_addRegister_76 ih _ _ _ _ _ _ _ h5
      · skip
        exact kx_Plan_addRegister_104 ih _ _ _ _ _ h
theorem kx_Plan_addRegister {A : Mm} (M : Mm) (a2 : Int32) (h : kX A M) : kp (kX A) (q_Plan_addRegister M a2) := by
  unfold q_Plan_addRegister
  exact kx_Plan_addRegister_8 4000 _ _ _ _ _ h
theorem kx_Plan_addJoined_38 {A : Mm} {kf2 : Mm → Int32 → Rs} (hk2 : ∀ (M : Mm) (b1 : Int32), kX A M → kp (kX A) (kf2 M b1)) (M : Mm) (v2 : Int32) (h : kX A M) : kp (kX A) (q_Plan_addJoined_38 kf2 M v2) := by
  unfold q_Plan_addJoined_38
  exact hk2 _ _ h
theorem kx_Plan_addJoined_2 {A : Mm} : ∀ (n' : Nat) (M : Mm) (v2 : Int32), kX A M → kp (kX A) (q_Plan_addJoined_2 n' M v2) := by
  intro n'
  induction n' with
  | zero =>
    intro M v2 h
    rw [q_Plan_addJoined_2]
    exact kp_none
  | succ n' ih =>
    intro M v2 h
    rw [q_Plan_addJoined_2]
    refine kp_if ?_ ?_
    · skip
      exact kp_some h
    · skip
      refine kp_cal (kx_Plan_isFirstOfRegister _ _ h) (fun m1 r2 h3 => ?_)
      refine kp_if ?_ ?_
      · skip
        exact kx_Plan_addJoined_38 ih _ _ h3
      · skip
        refine kp_ix ?_
        refine kp_ix ?_
        refine kp_cal (kx_Plan_addRegister _ _ h3) (fun m4 r5 h6 => ?_)
        exact kx_Plan_addJoined_38 ih _ _ h6
theorem kx_Plan_addJoined {A : Mm} (M : Mm) (h : kX A M) : kp (kX A) (q_Plan_addJoined M) := by
  unfold q_Plan_addJoined
  exact kx_Plan_addJoined_2 4000 _ _ h
theorem kx_ChipMap_flush {A : Mm} (M : Mm) (h : kX A M) : kp (kX A) (q_ChipMap_flush M) := by
  unfold q_ChipMap_flush
  refine kp_cal (kx_Plan_begin _ h) (fun m1 r2 h3 => ?_)
  refine kp_cal (kx_Plan_addJoined _ h3) (fun m4 r5 h6 => ?_)
  refine kp_cal (kx_ChipMap_doWrites _ h6) (fun m7 r8 h9 => ?_)
  refine kp_if ?_ ?_
  · skip
    exact kp_some h9
  · skip
    refine kp_st (kX.st h9 (by decide)) (fun m10 h11 => ?_)
    exact kp_some h11
theorem kx_Steps_empty {A : Mm} (M : Mm) (h : kX A M) : kp (kX A) (q_Steps_empty M) := by
  unfold q_Steps_empty
  refine kp_lv (fun x1 => ?_)
  refine kp_st (kX.st h (by decide)) (fun m2 h3 => ?_)
  exact kp_some h3
theorem kx_ChipMap_drop {A : Mm} (M : Mm) (h : kX A M) : kp (kX A) (q_ChipMap_drop M) := by
  unfold q_ChipMap_drop
  refine kp_cal (kx_Steps_empty _ h) (fun m1 r2 h3 => ?_)
  exact kp_some h3
theorem kx_Log_rowOf {A : Mm} (M : Mm) (a1 : Int32) (h : kX A M) : kp (kX A) (q_Log_rowOf M a1) := by
  unfold q_Log_rowOf
  refine kp_if ?_ ?_
  · skip
    exact kp_some h
  · skip
    refine kp_if ?_ ?_
    · skip
      exact kp_some h
    · skip
      refine kp_if ?_ ?_
      · skip
        exact kp_some h
      · skip
        exact kp_some h
theorem kx_ChipMap_trace {A : Mm} (M : Mm) (a1 : Int32) (a2 : Int32) (h : kX A M) : kp (kX A) (q_ChipMap_trace M a1 a2) := by
  unfold q_ChipMap_trace
  refine kp_cal (kx_Log_rowOf _ _ h) (fun m1 r2 h3 => ?_)
  refine kp_if ?_ ?_
  · skip
    exact kp_some h3
  · skip
    refine kp_if ?_ ?_
    · skip
      refine kp_ix ?_
      exact kp_some h3
    · skip
      refine kp_if ?_ ?_
      · skip
        refine kp_ix ?_
        exact kp_some h3
      · skip
        refine kp_if ?_ ?_
        · skip
          refine kp_ix ?_
          exact kp_some h3
        · skip
          exact kp_some h3
theorem kx_Steps_isFull_1 {A : Mm} (M : Mm) (h : kX A M) : kp (kX A) (q_Steps_isFull_1 M) := by
  unfold q_Steps_isFull_1
  refine kp_if ?_ ?_
  · skip
    exact kp_some h
  · skip
    exact kp_some h
theorem kx_ChipMap_isStep {A : Mm} (M : Mm) (a1 : Int32) (a2 : Int32) (a3 : Int32) (h : kX A M) : kp (kX A) (q_ChipMap_isStep M a1 a2 a3) := by
  unfold q_ChipMap_isStep
  refine kp_if ?_ ?_
  · skip
    refine kp_cal (kx_Layout_canPut _ _ _ h) (fun m1 r2 h3 => ?_)
    refine kp_bz ?_
    exact kp_some h3
  · skip
    refine kp_if ?_ ?_
    · skip
      refine kp_cal (kx_Layout_canFetch _ _ h) (fun m4 r5 h6 => ?_)
      refine kp_bz ?_
      exact kp_some h6
    · skip
      refine kp_if ?_ ?_
      · skip
        refine kp_if ?_ ?_
        · skip
          exact kp_some h
        · skip
          refine kp_if ?_ ?_
          · skip
            exact kp_some h
          · skip
            exact kp_some h
      · skip
        refine kp_if ?_ ?_
        · skip
          exact kp_some h
        · skip
          exact kp_some h
theorem kx_Steps_append_1 {A : Mm} (M : Mm) (a1 : Int32) (a2 : Int32) (a3 : Int32) (h : kX A M) : kp (kX A) (q_Steps_append_1 M a1 a2 a3) := by
  unfold q_Steps_append_1
  refine kp_ix ?_
  refine kp_st (kX.st h (by decide)) (fun m1 h2 => ?_)
  refine kp_ix ?_
  refine kp_st (kX.st h2 (by decide)) (fun m3 h4 => ?_)
  refine kp_ix ?_
  refine kp_st (kX.st h4 (by decide)) (fun m5 h6 => ?_)
  refine kp_st (kX.st h6 (by decide)) (fun m7 h8 => ?_)
  exact kp_some h8
theorem kx_ChipMap_step {A : Mm} (M : Mm) (a1 : Int32) (a2 : Int32) (a3 : Int32) (h : kX A M) : kp (kX A) (q_ChipMap_step M a1 a2 a3) := by
  unfold q_ChipMap_step
  refine kp_cal (kx_Steps_isFull_1 _ h) (fun m1 r2 h3 => ?_)
  refine kp_if ?_ ?_
  · skip
    refine kp_cal (kx_ChipMap_hasMap _ h3) (fun m4 r5 h6 => ?_)
    refine kp_if ?_ ?_
    · skip
      exact kp_some h6
    · skip
      refine kp_cal (kx_ChipMap_isStep _ _ _ _ h6) (fun m7 r8 h9 => ?_)
      refine kp_if ?_ ?_
      · skip
        exact kp_some h9
      · skip
        refine kp_cal (kx_Steps_append_1 _ _ _ _ h9) (fun m10 r11 h12 => ?_)
        exact kp_some h12
  · skip
    exact kp_some h3
theorem kx_Steps_empty_1 {A : Mm} (M : Mm) (h : kX A M) : kp (kX A) (q_Steps_empty_1 M) := by
  unfold q_Steps_empty_1
  refine kp_lv (fun x1 => ?_)
  refine kp_st (kX.st h (by decide)) (fun m2 h3 => ?_)
  exact kp_some h3
theorem kx_ChipMap_erase {A : Mm} (M : Mm) (h : kX A M) : kp (kX A) (q_ChipMap_erase M) := by
  unfold q_ChipMap_erase
  refine kp_cal (kx_Steps_empty_1 _ h) (fun m1 r2 h3 => ?_)
  exact kp_some h3
theorem kx_Mind_restart_1_2 {A : Mm} : ∀ (n' : Nat) (M : Mm) (v1 : Int32), kX A M → kp (kX A) (q_Mind_restart_1_2 n' M v1) := by
  intro n'
  induction n' with
  | zero =>
    intro M v1 h
    rw [q_Mind_restart_1_2]
    exact kp_none
  | succ n' ih =>
    intro M v1 h
    rw [q_Mind_restart_1_2]
    refine kp_if ?_ ?_
    · skip
      refine kp_st (kX.st h (by decide)) (fun m1 h2 => ?_)
      exact kp_some h2
    · skip
      refine kp_ix ?_
      refine kp_ix ?_
      refine kp_ix ?_
      refine kp_st (kX.st h (by decide)) (fun m3 h4 => ?_)
      exact ih _ _ h4
theorem kx_Mind_restart_1 {A : Mm} (M : Mm) (h : kX A M) : kp (kX A) (q_Mind_restart_1 M) := by
  unfold q_Mind_restart_1
  exact kx_Mind_restart_1_2 4000 _ _ h
theorem kx_Checker_makeKey_10 {A : Mm} : ∀ (n' : Nat) (M : Mm) (v1 : Int32) (v2 : Int32), kX A M → kp (kX A) (q_Checker_makeKey_10 n' M v1 v2) := by
  intro n'
  induction n' with
  | zero =>
    intro M v1 v2 h
    rw [q_Checker_makeKey_10]
    exact kp_none
  | succ n' ih =>
    intro M v1 v2 h
    rw [q_Checker_makeKey_10]
    refine kp_if ?_ ?_
    · skip
      refine kp_st (kX.sj h) (fun m1 h2 => ?_)
      exact kp_some h2
    · skip
      refine kp_ix ?_
      refine kp_ix ?_
      refine kp_ix ?_
      refine kp_st (kX.sj h) (fun m3 h4 => ?_)
      exact ih _ _ _ h4
theorem kx_Checker_makeKey {A : Mm} (M : Mm) (a1 : Int32) (h : kX A M) : kp (kX A) (q_Checker_makeKey M a1) := by
  unfold q_Checker_makeKey
  refine kp_st (kX.sj h) (fun m1 h2 => ?_)
  exact kx_Checker_makeKey_10 4000 _ _ _ h2
theorem kx_Checker_hashOfKey_4 {A : Mm} : ∀ (n' : Nat) (M : Mm) (v1 : Int64) (v3 : Int32), kX A M → kp (kX A) (q_Checker_hashOfKey_4 n' M v1 v3) := by
  intro n'
  induction n' with
  | zero =>
    intro M v1 v3 h
    rw [q_Checker_hashOfKey_4]
    exact kp_none
  | succ n' ih =>
    intro M v1 v3 h
    rw [q_Checker_hashOfKey_4]
    refine kp_if ?_ ?_
    · skip
      exact kp_some h
    · skip
      refine kp_ix ?_
      refine kp_lv (fun x1 => ?_)
      refine kp_lv (fun x2 => ?_)
      exact ih _ _ _ h
theorem kx_Checker_hashOfKey {A : Mm} (M : Mm) (h : kX A M) : kp (kX A) (q_Checker_hashOfKey M) := by
  unfold q_Checker_hashOfKey
  exact kx_Checker_hashOfKey_4 4000 _ _ _ h
theorem kx_Checker_isKey_2 {A : Mm} : ∀ (n' : Nat) (M : Mm) (v1 : Int32) (v2 : Int32), kX A M → kp (kX A) (q_Checker_isKey_2 n' M v1 v2) := by
  intro n'
  induction n' with
  | zero =>
    intro M v1 v2 h
    rw [q_Checker_isKey_2]
    exact kp_none
  | succ n' ih =>
    intro M v1 v2 h
    rw [q_Checker_isKey_2]
    refine kp_if ?_ ?_
    · skip
      exact kp_some h
    · skip
      refine kp_ix ?_
      refine kp_ix ?_
      refine kp_if ?_ ?_
      · skip
        exact ih _ _ _ h
      · skip
        exact kp_some h
theorem kx_Checker_isKey {A : Mm} (M : Mm) (a1 : Int32) (h : kX A M) : kp (kX A) (q_Checker_isKey M a1) := by
  unfold q_Checker_isKey
  exact kx_Checker_isKey_2 4000 _ _ _ h
theorem kx_Checker_add {A : Mm} (M : Mm) (a1 : Int32) (h : kX A M) : kp (kX A) (q_Checker_add M a1) := by
  unfold q_Checker_add
  refine kp_if ?_ ?_
  · skip
    refine kp_cpk ?_
    refine kp_st (kX.sj h) (fun m1 h2 => ?_)
    refine kp_st (kX.st h2 (by decide)) (fun m3 h4 => ?_)
    refine kp_ix ?_
    refine kp_st (kX.st h4 (by decide)) (fun m5 h6 => ?_)
    exact kp_some h6
  · skip
    refine kp_st (kX.st h (by decide)) (fun m7 h8 => ?_)
    exact kp_some h8
theorem kx_Checker_meet_22 {A : Mm} : ∀ (n' : Nat) (M : Mm) (v2 : Int32) (v3 : Int32), kX A M → kp (kX A) (q_Checker_meet_22 n' M v2 v3) := by
  intro n'
  induction n' with
  | zero =>
    intro M v2 v3 h
    rw [q_Checker_meet_22]
    exact kp_none
  | succ n' ih =>
    intro M v2 v3 h
    rw [q_Checker_meet_22]
    refine kp_if ?_ ?_
    · skip
      exact kp_some h
    · skip
      refine kp_lv (fun x1 => ?_)
      refine kp_ix ?_
      refine kp_if ?_ ?_
      · skip
        refine kp_cal (kx_Checker_add _ _ h) (fun m2 r3 h4 => ?_)
        exact kp_some h4
      · skip
        refine kp_ix ?_
        refine kp_cal (kx_Checker_isKey _ _ h) (fun m5 r6 h7 => ?_)
        refine kp_if ?_ ?_
        · skip
          exact ih _ _ _ h7
        · skip
          exact kp_some h7
theorem kx_Checker_meet {A : Mm} (M : Mm) (a1 : Int32) (h : kX A M) : kp (kX A) (q_Checker_meet M a1) := by
  unfold q_Checker_meet
  refine kp_lv (fun x1 => ?_)
  refine kp_cal (kx_Checker_makeKey _ _ h) (fun m2 r3 h4 => ?_)
  refine kp_cal (kx_Checker_hashOfKey _ h4) (fun m5 r6 h7 => ?_)
  exact kx_Checker_meet_22 4000 _ _ _ h7
theorem kx_Checker_begin {A : Mm} (M : Mm) (h : kX A M) : kp (kX A) (q_Checker_begin M) := by
  unfold q_Checker_begin
  refine kp_st (kX.st h (by decide)) (fun m1 h2 => ?_)
  refine kp_st (kX.st h2 (by decide)) (fun m3 h4 => ?_)
  refine kp_st (kX.st h4 (by decide)) (fun m5 h6 => ?_)
  refine kp_st (kX.st h6 (by decide)) (fun m7 h8 => ?_)
  refine kp_st (kX.st h8 (by decide)) (fun m9 h10 => ?_)
  refine kp_cal (kx_Mind_restart_1 _ h10) (fun m11 r12 h13 => ?_)
  refine kp_cal (kx_Checker_meet _ _ h13) (fun m14 r15 h16 => ?_)
  exact kp_some h16
theorem kx_Checker_load_6 {A : Mm} : ∀ (n' : Nat) (M : Mm) (v2 : Int32) (v3 : Int32), kX A M → kp (kX A) (q_Checker_load_6 n' M v2 v3) := by
  intro n'
  induction n' with
  | zero =>
    intro M v2 v3 h
    rw [q_Checker_load_6]
    exact kp_none
  | succ n' ih =>
    intro M v2 v3 h
    rw [q_Checker_load_6]
    refine kp_if ?_ ?_
    · skip
      refine kp_ix ?_
      refine kp_lv (fun x1 => ?_)
      refine kp_st (kX.st h (by decide)) (fun m2 h3 => ?_)
      exact kp_some h3
    · skip
      refine kp_ix ?_
      refine kp_ix ?_
      refine kp_st (kX.st h (by decide)) (fun m4 h5 => ?_)
      exact ih _ _ _ h5
end
section
theorem kx_Checker_load {A : Mm} (M : Mm) (a1 : Int32) (h : kX A M) : kp (kX A) (q_Checker_load M a1) := by
  unfold q_Checker_load
  refine kp_lv (fun x1 => ?_)
  exact kx_Checker_load_6 4000 _ _ _ h
theorem kx_Checker_tell_16 {A : Mm} (M : Mm) (v1 : Int32) (v2 : Int32) (h : kX A M) : kp (kX A) (q_Checker_tell_16 M v1 v2) := by
  unfold q_Checker_tell_16
  refine kp_st (kX.st h (by decide)) (fun m1 h2 => ?_)
  refine kp_st (kX.st h2 (by decide)) (fun m3 h4 => ?_)
  exact kp_some h4
theorem kx_Checker_tell {A : Mm} (M : Mm) (a1 : Int32) (a2 : Int32) (h : kX A M) : kp (kX A) (q_Checker_tell M a1 a2) := by
  unfold q_Checker_tell
  refine kp_if ?_ ?_
  · skip
    exact kx_Checker_tell_16 _ _ _ h
  · skip
    refine kp_if ?_ ?_
    · skip
      refine kp_if ?_ ?_
      · skip
        refine kp_if ?_ ?_
        · skip
          exact kp_some h
        · skip
          refine kp_st (kX.st h (by decide)) (fun m1 h2 => ?_)
          exact kp_some h2
      · skip
        exact kp_some h
    · skip
      exact kx_Checker_tell_16 _ _ _ h
theorem kx_Checker_visit_130 {A : Mm} (M : Mm) (v2 : Int32) (h : kX A M) : kp (kX A) (q_Checker_visit_130 M v2) := by
  unfold q_Checker_visit_130
  refine kp_if ?_ ?_
  · skip
    refine kp_cal (kx_Checker_meet _ _ h) (fun m1 r2 h3 => ?_)
    exact kp_some h3
  · skip
    refine kp_cal (kx_Checker_tell _ _ _ h) (fun m4 r5 h6 => ?_)
    exact kp_some h6
theorem kx_Checker_visit {A : Mm} (M : Mm) (a1 : Int32) (h : kX A M) : kp (kX A) (q_Checker_visit M a1) := by
  unfold q_Checker_visit
  refine kp_cal (kx_Checker_load _ _ h) (fun m1 r2 h3 => ?_)
  refine kp_if ?_ ?_
  · skip
    refine kp_ix ?_
    refine kp_lv (fun x4 => ?_)
    refine kp_if ?_ ?_
    · skip
      refine kp_cal (kx_Checker_meet _ _ h3) (fun m5 r6 h7 => ?_)
      exact kp_some h7
    · skip
      refine kp_if ?_ ?_
      · skip
        refine kp_cal (kx_Checker_meet _ _ h3) (fun m8 r9 h10 => ?_)
        refine kp_ix ?_
        refine kp_cal (kx_Checker_meet _ _ h10) (fun m11 r12 h13 => ?_)
        exact kp_some h13
      · skip
        refine kp_cal (kx_Plan_beginHere _ h3) (fun m14 r15 h16 => ?_)
        refine kp_if ?_ ?_
        · skip
          refine kp_ix ?_
          refine kp_ix ?_
          refine kp_cal (kx_Plan_addPut _ _ _ h16) (fun m17 r18 h19 => ?_)
          exact kx_Checker_visit_130 _ _ h19
        · skip
          refine kp_ix ?_
          refine kp_cal (kx_Plan_addFetch _ _ h16) (fun m20 r21 h22 => ?_)
          exact kx_Checker_visit_130 _ _ h22
  · skip
    exact kp_some h3
theorem kx_ChipMap_check_63 {A : Mm} (M : Mm) (h : kX A M) : kp (kX A) (q_ChipMap_check_63 M) := by
  unfold q_ChipMap_check_63
  refine kp_if ?_ ?_
  · skip
    exact kp_some h
  · skip
    exact kp_some h
theorem kx_ChipMap_check_18 {A : Mm} : ∀ (n' : Nat) (M : Mm) (v1 : Int32), kX A M → kp (kX A) (q_ChipMap_check_18 n' M v1) := by
  intro n'
  induction n' with
  | zero =>
    intro M v1 h
    rw [q_ChipMap_check_18]
    exact kp_none
  | succ n' ih =>
    intro M v1 h
    rw [q_ChipMap_check_18]
    refine kp_if ?_ ?_
    · skip
      exact kx_ChipMap_check_63 _ h
    · skip
      refine kp_if ?_ ?_
      · skip
        exact kx_ChipMap_check_63 _ h
      · skip
        refine kp_if ?_ ?_
        · skip
          refine kp_cal (kx_Checker_visit _ _ h) (fun m1 r2 h3 => ?_)
          exact ih _ _ h3
        · skip
          exact kx_ChipMap_check_63 _ h
theorem kx_ChipMap_check {A : Mm} (M : Mm) (h : kX A M) : kp (kX A) (q_ChipMap_check M) := by
  unfold q_ChipMap_check
  refine kp_cal (kx_ChipMap_hasMap _ h) (fun m1 r2 h3 => ?_)
  refine kp_if ?_ ?_
  · skip
    exact kp_some h3
  · skip
    refine kp_cal (kx_Checker_begin _ h3) (fun m4 r5 h6 => ?_)
    exact kx_ChipMap_check_18 4000 _ _ h6
theorem kx_ChipMap_found {A : Mm} (M : Mm) (a1 : Int32) (h : kX A M) : kp (kX A) (q_ChipMap_found M a1) := by
  unfold q_ChipMap_found
  refine kp_if ?_ ?_
  · skip
    exact kp_some h
  · skip
    refine kp_if ?_ ?_
    · skip
      refine kp_if ?_ ?_
      · skip
        exact kp_some h
      · skip
        exact kp_some h
    · skip
      exact kp_some h
theorem kx_ChipMap_doStep {A : Mm} (M : Mm) (a1 : Int32) (h : kX A M) : kp (kX A) (q_ChipMap_doStep M a1) := by
  unfold q_ChipMap_doStep
  refine kp_ix ?_
  refine kp_lv (fun x1 => ?_)
  refine kp_ix ?_
  refine kp_if ?_ ?_
  · skip
    refine kp_cal (kx_ChipMap_reachForFetch _ _ h) (fun m2 r3 h4 => ?_)
    refine kp_if ?_ ?_
    · skip
      exact kp_some h4
    · skip
      refine kp_cal (kx_ChipMap_readOut _ _ h4) (fun m5 r6 h7 => ?_)
      exact kp_some h7
  · skip
    refine kp_cal (kx_Plan_begin _ h) (fun m8 r9 h10 => ?_)
    refine kp_ix ?_
    refine kp_cal (kx_Plan_addPut _ _ _ h10) (fun m11 r12 h13 => ?_)
    refine kp_cal (kx_ChipMap_doWrites _ h13) (fun m14 r15 h16 => ?_)
    refine kp_if ?_ ?_
    · skip
      exact kp_some h16
    · skip
      exact kp_some h16
theorem kx_ChipMap_run_137 {A : Mm} {kf26 : Mm → Int32 → Int32 → Int32 → Int32 → Rs} (hk26 : ∀ (M : Mm) (b1 : Int32) (b2 : Int32) (b3 : Int32) (b4 : Int32), kX A M → kp (kX A) (kf26 M b1 b2 b3 b4)) (M : Mm) (v1 : Int32) (v2 : Int32) (v3 : Int32) (v4 : Int32) (h : kX A M) : kp (kX A) (q_ChipMap_run_137 kf26 M v1 v2 v3 v4) := by
  unfold q_ChipMap_run_137
  exact hk26 _ _ _ _ _ h
theorem kx_ChipMap_run_115 {A : Mm} {kf26 : Mm → Int32 → Int32 → Int32 → Int32 → Rs} (hk26 : ∀ (M : Mm) (b1 : Int32) (b2 : Int32) (b3 : Int32) (b4 : Int32), kX A M → kp (kX A) (kf26 M b1 b2 b3 b4)) (M : Mm) (v1 : Int32) (v3 : Int32) (v4 : Int32) (t0 : Int32) (h : kX A M) : kp (kX A) (q_ChipMap_run_115 kf26 M v1 v3 v4 t0) := by
  unfold q_ChipMap_run_115
  exact kx_ChipMap_run_137 hk26 _ _ _ _ _ h
theorem kx_ChipMap_run_90 {A : Mm} {kf26 : Mm → Int32 → Int32 → Int32 → Int32 → Rs} (hk26 : ∀ (M : Mm) (b1 : Int32) (b2 : Int32) (b3 : Int32) (b4 : Int32), kX A M → kp (kX A) (kf26 M b1 b2 b3 b4)) (M : Mm) (v1 : Int32) (v2 : Int32) (v3 : Int32) (v4 : Int32) (t0 : Int32) (h : kX A M) : kp (kX A) (q_ChipMap_run_90 kf26 M v1 v2 v3 v4 t0) := by
  unfold q_ChipMap_run_90
  refine kp_if ?_ ?_
  · skip
    exact kx_ChipMap_run_115 hk26 _ _ _ _ _ h
  · skip
    refine kp_ix ?_
    exact kx_ChipMap_run_115 hk26 _ _ _ _ _ h
theorem kx_ChipMap_run_26 {A : Mm} : ∀ (n' : Nat) (M : Mm) (v1 : Int32) (v2 : Int32) (v3 : Int32) (v4 : Int32), kX A M → kp (kX A) (q_ChipMap_run_26 n' M v1 v2 v3 v4) := by
  intro n'
  induction n' with
  | zero =>
    intro M v1 v2 v3 v4 h
    rw [q_ChipMap_run_26]
    exact kp_none
  | succ n' ih =>
    intro M v1 v2 v3 v4 h
    rw [q_ChipMap_run_26]
    refine kp_if ?_ ?_
    · skip
      refine kp_if ?_ ?_
      · skip
        exact kp_some h
      · skip
        exact kp_some h
    · skip
      refine kp_if ?_ ?_
      · skip
        exact kp_some h
      · skip
        refine kp_ix ?_
        refine kp_if ?_ ?_
        · skip
          exact kp_some h
        · skip
          refine kp_ix ?_
          refine kp_if ?_ ?_
          · skip
            refine kp_if ?_ ?_
            · skip
              exact kx_ChipMap_run_90 ih _ _ _ _ _ _ h
            · skip
              exact kx_ChipMap_run_90 ih _ _ _ _ _ _ h
          · skip
            refine kp_cal (kx_ChipMap_doStep _ _ h) (fun m1 r2 h3 => ?_)
            refine kp_if ?_ ?_
            · skip
              exact kp_some h3
            · skip
              exact kx_ChipMap_run_137 ih _ _ _ _ _ h3
theorem kx_ChipMap_run {A : Mm} (M : Mm) (a1 : Int32) (h : kX A M) : kp (kX A) (q_ChipMap_run M a1) := by
  unfold q_ChipMap_run
  refine kp_cal (kx_ChipMap_hasMap _ h) (fun m1 r2 h3 => ?_)
  refine kp_if ?_ ?_
  · skip
    exact kp_some h3
  · skip
    refine kp_if ?_ ?_
    · skip
      exact kx_ChipMap_run_26 4000 _ _ _ _ _ h3
    · skip
      exact kp_some h3
theorem kx_ChipMap_state {A : Mm} (M : Mm) (a1 : Int32) (h : kX A M) : kp (kX A) (q_ChipMap_state M a1) := by
  unfold q_ChipMap_state
  refine kp_if ?_ ?_
  · skip
    exact kp_some h
  · skip
    refine kp_if ?_ ?_
    · skip
      exact kp_some h
    · skip
      refine kp_if ?_ ?_
      · skip
        exact kp_some h
      · skip
        refine kp_if ?_ ?_
        · skip
          exact kp_some h
        · skip
          refine kp_if ?_ ?_
          · skip
            exact kp_some h
          · skip
            exact kp_some h
theorem kx_t_ChipMap_fetch_37 {A : Mm} (M : Mm) (h : kX A M) : kp (kX A) (qt_ChipMap_fetch_37 M) := by
  unfold qt_ChipMap_fetch_37
  exact kp_some h
theorem kx_t_ChipMap_fetch {A : Mm} (M : Mm) (a1 : Int32) (h : kX A M) : kp (kX A) (qt_ChipMap_fetch M a1) := by
  unfold qt_ChipMap_fetch
  refine kp_cal (kx_Layout_canFetch _ _ h) (fun m1 r2 h3 => ?_)
  refine kp_if ?_ ?_
  · skip
    exact kp_some h3
  · skip
    refine kp_if ?_ ?_
    · skip
      exact kx_t_ChipMap_fetch_37 _ h3
    · skip
      refine kp_cal (kx_ChipMap_reachForFetch _ _ h3) (fun m4 r5 h6 => ?_)
      refine kp_if ?_ ?_
      · skip
        exact kx_t_ChipMap_fetch_37 _ h6
      · skip
        refine kp_cal (kx_ChipMap_readOut _ _ h6) (fun m7 r8 h9 => ?_)
        exact kp_none
end
