theorem km_ChipMapModel_here {A : Mm} (M : Mm) (h : kM A M) : kp (kM A) (q_ChipMapModel_here M) := by
  unfold q_ChipMapModel_here
  refine kp_if ?_ ?_
  · skip
    exact kp_some h
  · skip
    refine kp_ix ?_
    exact kp_some h
theorem km_ChipMapModel_wrong {A : Mm} (M : Mm) (a1 : Int32) (a2 : Int32) (h : kM A M) : kp (kM A) (q_ChipMapModel_wrong M a1 a2) := by
  unfold q_ChipMapModel_wrong
  refine kp_st (kM.s0 h (by decide)) (fun m1 h2 => ?_)
  refine kp_st (kM.s0 h2 (by decide)) (fun m3 h4 => ?_)
  exact kp_some h4
theorem km_ChipMapModel_hex_19 {A : Mm} (M : Mm) (v0 : Int32) (h : kM A M) : kp (kM A) (q_ChipMapModel_hex_19 M v0) := by
  unfold q_ChipMapModel_hex_19
  refine kp_if ?_ ?_
  · skip
    exact kp_some h
  · skip
    refine kp_if ?_ ?_
    · skip
      exact kp_some h
    · skip
      exact kp_some h
theorem km_ChipMapModel_hex {A : Mm} (M : Mm) (a0 : Int32) (h : kM A M) : kp (kM A) (q_ChipMapModel_hex M a0) := by
  unfold q_ChipMapModel_hex
  refine kp_if ?_ ?_
  · skip
    exact km_ChipMapModel_hex_19 _ _ h
  · skip
    refine kp_if ?_ ?_
    · skip
      exact km_ChipMapModel_hex_19 _ _ h
    · skip
      exact kp_some h
theorem km_ChipMapModel_isName {A : Mm} (M : Mm) (a0 : Int32) (h : kM A M) : kp (kM A) (q_ChipMapModel_isName M a0) := by
  unfold q_ChipMapModel_isName
  refine kp_if ?_ ?_
  · skip
    exact kp_some h
  · skip
    refine kp_if ?_ ?_
    · skip
      exact kp_some h
    · skip
      exact kp_some h
theorem km_ChipMapModel_take {A : Mm} (M : Mm) (a1 : Int32) (h : kM A M) : kp (kM A) (q_ChipMapModel_take M a1) := by
  unfold q_ChipMapModel_take
  refine kp_cal (km_ChipMapModel_here _ h) (fun m1 r2 h3 => ?_)
  refine kp_if ?_ ?_
  · skip
    refine kp_st (kM.s0 h3 (by decide)) (fun m4 h5 => ?_)
    exact kp_some h5
  · skip
    refine kp_cal (km_ChipMapModel_wrong _ _ _ h3) (fun m6 r7 h8 => ?_)
    refine kp_bz ?_
    exact kp_some h8
theorem km_ChipMapModel_takeName {A : Mm} (M : Mm) (h : kM A M) : kp (kM A) (q_ChipMapModel_takeName M) := by
  unfold q_ChipMapModel_takeName
  refine kp_cal (km_ChipMapModel_here _ h) (fun m1 r2 h3 => ?_)
  refine kp_cal (km_ChipMapModel_isName _ _ h3) (fun m4 r5 h6 => ?_)
  refine kp_if ?_ ?_
  · skip
    refine kp_cal (km_ChipMapModel_wrong _ _ _ h6) (fun m7 r8 h9 => ?_)
    refine kp_bz ?_
    exact kp_some h9
  · skip
    refine kp_st (kM.s0 h6 (by decide)) (fun m10 h11 => ?_)
    exact kp_some h11
theorem km_ChipMapModel_takeHex_58 {A : Mm} (M : Mm) (v1 : Int32) (v3 : Int32) (h : kM A M) : kp (kM A) (q_ChipMapModel_takeHex_58 M v1 v3) := by
  unfold q_ChipMapModel_takeHex_58
  refine kp_if ?_ ?_
  · skip
    exact kp_some h
  · skip
    refine kp_cal (km_ChipMapModel_wrong _ _ _ h) (fun m1 r2 h3 => ?_)
    refine kp_if ?_ ?_
    · skip
      exact kp_some h3
    · skip
      exact kp_some h3
theorem km_ChipMapModel_takeHex_7 {A : Mm} : ∀ (n' : Nat) (M : Mm) (v1 : Int32) (v2 : Int32) (v3 : Int32), kM A M → kp (kM A) (q_ChipMapModel_takeHex_7 n' M v1 v2 v3) := by
  intro n'
  induction n' with
  | zero =>
    intro M v1 v2 v3 h
    rw [q_ChipMapModel_takeHex_7]
    exact kp_none
  | succ n' ih =>
    intro M v1 v2 v3 h
    rw [q_ChipMapModel_takeHex_7]
    refine kp_if ?_ ?_
    · skip
      exact km_ChipMapModel_takeHex_58 _ _ _ h
    · skip
      refine kp_cal (km_ChipMapModel_here _ h) (fun m1 r2 h3 => ?_)
      refine kp_cal (km_ChipMapModel_hex _ _ h3) (fun m4 r5 h6 => ?_)
      refine kp_if ?_ ?_
      · skip
        exact km_ChipMapModel_takeHex_58 _ _ _ h6
      · skip
        refine kp_cal (km_ChipMapModel_here _ h6) (fun m7 r8 h9 => ?_)
        refine kp_cal (km_ChipMapModel_hex _ _ h9) (fun m10 r11 h12 => ?_)
        refine kp_st (kM.s0 h12 (by decide)) (fun m13 h14 => ?_)
        refine kp_st (kM.s0 h14 (by decide)) (fun m15 h16 => ?_)
        exact ih _ _ _ _ h16
theorem km_ChipMapModel_takeHex {A : Mm} (M : Mm) (a1 : Int32) (a2 : Int32) (h : kM A M) : kp (kM A) (q_ChipMapModel_takeHex M a1 a2) := by
  unfold q_ChipMapModel_takeHex
  refine kp_st (kM.s0 h (by decide)) (fun m1 h2 => ?_)
  exact km_ChipMapModel_takeHex_7 4000 _ _ _ _ h2
theorem km_ChipMapModel_takeDecimal_65 {A : Mm} (M : Mm) (v1 : Int32) (h : kM A M) : kp (kM A) (q_ChipMapModel_takeDecimal_65 M v1) := by
  unfold q_ChipMapModel_takeDecimal_65
  refine kp_if ?_ ?_
  · skip
    exact kp_some h
  · skip
    refine kp_cal (km_ChipMapModel_wrong _ _ _ h) (fun m1 r2 h3 => ?_)
    refine kp_if ?_ ?_
    · skip
      exact kp_some h3
    · skip
      exact kp_some h3
theorem km_ChipMapModel_takeDecimal_7 {A : Mm} : ∀ (n' : Nat) (M : Mm) (v1 : Int32), kM A M → kp (kM A) (q_ChipMapModel_takeDecimal_7 n' M v1) := by
  intro n'
  induction n' with
  | zero =>
    intro M v1 h
    rw [q_ChipMapModel_takeDecimal_7]
    exact kp_none
  | succ n' ih =>
    intro M v1 h
    rw [q_ChipMapModel_takeDecimal_7]
    refine kp_if ?_ ?_
    · skip
      exact km_ChipMapModel_takeDecimal_65 _ _ h
    · skip
      refine kp_cal (km_ChipMapModel_here _ h) (fun m1 r2 h3 => ?_)
      refine kp_if ?_ ?_
      · skip
        exact km_ChipMapModel_takeDecimal_65 _ _ h3
      · skip
        refine kp_cal (km_ChipMapModel_here _ h3) (fun m4 r5 h6 => ?_)
        refine kp_if ?_ ?_
        · skip
          exact km_ChipMapModel_takeDecimal_65 _ _ h6
        · skip
          refine kp_cal (km_ChipMapModel_here _ h6) (fun m7 r8 h9 => ?_)
          refine kp_st (kM.s0 h9 (by decide)) (fun m10 h11 => ?_)
          refine kp_st (kM.s0 h11 (by decide)) (fun m12 h13 => ?_)
          exact ih _ _ h13
theorem km_ChipMapModel_takeDecimal {A : Mm} (M : Mm) (h : kM A M) : kp (kM A) (q_ChipMapModel_takeDecimal M) := by
  unfold q_ChipMapModel_takeDecimal
  refine kp_st (kM.s0 h (by decide)) (fun m1 h2 => ?_)
  exact km_ChipMapModel_takeDecimal_7 4000 _ _ h2
theorem km_ChipMapModel_isAccess {A : Mm} (M : Mm) (a0 : Int32) (h : kM A M) : kp (kM A) (q_ChipMapModel_isAccess M a0) := by
  unfold q_ChipMapModel_isAccess
  refine kp_if ?_ ?_
  · skip
    exact kp_some h
  · skip
    refine kp_if ?_ ?_
    · skip
      exact kp_some h
    · skip
      refine kp_if ?_ ?_
      · skip
        exact kp_some h
      · skip
        refine kp_if ?_ ?_
        · skip
          exact kp_some h
        · skip
          refine kp_if ?_ ?_
          · skip
            exact kp_some h
          · skip
            refine kp_if ?_ ?_
            · skip
              exact kp_some h
            · skip
              refine kp_if ?_ ?_
              · skip
                exact kp_some h
              · skip
                exact kp_some h
theorem km_ChipMapModel_readField_181 {A : Mm} (M : Mm) (h : kM A M) : kp (kM A) (q_ChipMapModel_readField_181 M) := by
  unfold q_ChipMapModel_readField_181
  refine kp_st (kM.s0 h (by decide)) (fun m1 h2 => ?_)
  refine kp_cal (km_ChipMapModel_take _ _ h2) (fun m3 r4 h5 => ?_)
  refine kp_bz ?_
  exact kp_some h5
theorem km_ChipMapModel_readField {A : Mm} (M : Mm) (h : kM A M) : kp (kM A) (q_ChipMapModel_readField M) := by
  unfold q_ChipMapModel_readField
  refine kp_lv (fun x1 => ?_)
  refine kp_ix ?_
  refine kp_st (kM.st h (by decide)) (fun m2 h3 => ?_)
  refine kp_cal (km_ChipMapModel_here _ h3) (fun m4 r5 h6 => ?_)
  refine kp_ix ?_
  refine kp_st (kM.st h6 (by decide)) (fun m7 h8 => ?_)
  refine kp_ix ?_
  refine kp_st (kM.st h8 (by decide)) (fun m9 h10 => ?_)
  refine kp_cal (km_ChipMapModel_takeName _ h10) (fun m11 r12 h13 => ?_)
  refine kp_if ?_ ?_
  · skip
    exact kp_some h13
  · skip
    refine kp_cal (km_ChipMapModel_here _ h13) (fun m14 r15 h16 => ?_)
    refine kp_ix ?_
    refine kp_st (kM.st h16 (by decide)) (fun m17 h18 => ?_)
    refine kp_cal (km_ChipMapModel_here _ h18) (fun m19 r20 h21 => ?_)
    refine kp_cal (km_ChipMapModel_isAccess _ _ h21) (fun m22 r23 h24 => ?_)
    refine kp_if ?_ ?_
    · skip
      refine kp_cal (km_ChipMapModel_wrong _ _ _ h24) (fun m25 r26 h27 => ?_)
      refine kp_bz ?_
      exact kp_some h27
    · skip
      refine kp_st (kM.s0 h24 (by decide)) (fun m28 h29 => ?_)
      refine kp_cal (km_ChipMapModel_takeDecimal _ h29) (fun m30 r31 h32 => ?_)
      refine kp_if ?_ ?_
      · skip
        exact kp_some h32
      · skip
        refine kp_ix ?_
        refine kp_st (kM.st h32 (by decide)) (fun m33 h34 => ?_)
        refine kp_cal (km_ChipMapModel_take _ _ h34) (fun m35 r36 h37 => ?_)
        refine kp_if ?_ ?_
        · skip
          exact kp_some h37
        · skip
          refine kp_cal (km_ChipMapModel_takeDecimal _ h37) (fun m38 r39 h40 => ?_)
          refine kp_if ?_ ?_
          · skip
            exact kp_some h40
          · skip
            refine kp_ix ?_
            refine kp_st (kM.st h40 (by decide)) (fun m41 h42 => ?_)
            refine kp_ix ?_
            refine kp_st (kM.st h42 (by decide)) (fun m43 h44 => ?_)
            refine kp_cal (km_ChipMapModel_here _ h44) (fun m45 r46 h47 => ?_)
            refine kp_if ?_ ?_
            · skip
              refine kp_st (kM.s0 h47 (by decide)) (fun m48 h49 => ?_)
              refine kp_cal (km_ChipMapModel_takeHex _ _ _ h49) (fun m50 r51 h52 => ?_)
              refine kp_if ?_ ?_
              · skip
                exact kp_some h52
              · skip
                refine kp_ix ?_
                refine kp_st (kM.st h52 (by decide)) (fun m53 h54 => ?_)
                exact km_ChipMapModel_readField_181 _ h54
            · skip
              exact km_ChipMapModel_readField_181 _ h47
theorem km_ChipMapModel_readRegister_203 {A : Mm} {kf165 : Mm → Int32 → Int32 → Rs} (hk165 : ∀ (M : Mm) (b1 : Int32) (b2 : Int32), kM A M → kp (kM A) (kf165 M b1 b2)) (M : Mm) (v2 : Int32) (t0 : Int32) (h : kM A M) : kp (kM A) (q_ChipMapModel_readRegister_203 kf165 M v2 t0) := by
  unfold q_ChipMapModel_readRegister_203
  exact hk165 _ _ _ h
theorem km_ChipMapModel_readRegister_202 {A : Mm} {kf165 : Mm → Int32 → Int32 → Rs} (hk165 : ∀ (M : Mm) (b1 : Int32) (b2 : Int32), kM A M → kp (kM A) (kf165 M b1 b2)) (M : Mm) (v2 : Int32) (h : kM A M) : kp (kM A) (q_ChipMapModel_readRegister_202 kf165 M v2) := by
  unfold q_ChipMapModel_readRegister_202
  exact km_ChipMapModel_readRegister_203 hk165 _ _ _ h
theorem km_ChipMapModel_readRegister_165 {A : Mm} : ∀ (n' : Nat) (M : Mm) (v2 : Int32) (v3 : Int32), kM A M → kp (kM A) (q_ChipMapModel_readRegister_165 n' M v2 v3) := by
  intro n'
  induction n' with
  | zero =>
    intro M v2 v3 h
    rw [q_ChipMapModel_readRegister_165]
    exact kp_none
  | succ n' ih =>
    intro M v2 v3 h
    rw [q_ChipMapModel_readRegister_165]
    refine kp_if ?_ ?_
    · skip
      refine kp_st (kM.s0 h (by decide)) (fun m1 h2 => ?_)
      refine kp_cal (km_ChipMapModel_take _ _ h2) (fun m3 r4 h5 => ?_)
      refine kp_bz ?_
      exact kp_some h5
    · skip
      refine kp_cal (km_ChipMapModel_readField _ h) (fun m6 r7 h8 => ?_)
      refine kp_if ?_ ?_
      · skip
        exact kp_some h8
      · skip
        refine kp_cal (km_ChipMapModel_here _ h8) (fun m9 r10 h11 => ?_)
        refine kp_if ?_ ?_
        · skip
          exact km_ChipMapModel_readRegister_202 ih _ _ h11
        · skip
          refine kp_if ?_ ?_
          · skip
            exact km_ChipMapModel_readRegister_202 ih _ _ h11
          · skip
            exact km_ChipMapModel_readRegister_203 ih _ _ _ h11
theorem km_ChipMapModel_readRegister_147 {A : Mm} (M : Mm) (h : kM A M) : kp (kM A) (q_ChipMapModel_readRegister_147 M) := by
  unfold q_ChipMapModel_readRegister_147
  refine kp_cal (km_ChipMapModel_take _ _ h) (fun m1 r2 h3 => ?_)
  refine kp_if ?_ ?_
  · skip
    exact kp_some h3
  · skip
    refine kp_lv (fun x4 => ?_)
    exact km_ChipMapModel_readRegister_165 4000 _ _ _ h3
theorem km_ChipMapModel_readRegister {A : Mm} (M : Mm) (h : kM A M) : kp (kM A) (q_ChipMapModel_readRegister M) := by
  unfold q_ChipMapModel_readRegister
  refine kp_lv (fun x1 => ?_)
  refine kp_ix ?_
  refine kp_st (kM.st h (by decide)) (fun m2 h3 => ?_)
  refine kp_if ?_ ?_
  · skip
    refine kp_cal (km_ChipMapModel_wrong _ _ _ h3) (fun m4 r5 h6 => ?_)
    refine kp_bz ?_
    exact kp_some h6
  · skip
    refine kp_cal (km_ChipMapModel_take _ _ h3) (fun m7 r8 h9 => ?_)
    refine kp_if ?_ ?_
    · skip
      exact kp_some h9
    · skip
      refine kp_cal (km_ChipMapModel_takeHex _ _ _ h9) (fun m10 r11 h12 => ?_)
      refine kp_if ?_ ?_
      · skip
        exact kp_some h12
      · skip
        refine kp_ix ?_
        refine kp_st (kM.st h12 (by decide)) (fun m13 h14 => ?_)
        refine kp_ix ?_
        refine kp_st (kM.st h14 (by decide)) (fun m15 h16 => ?_)
        refine kp_cal (km_ChipMapModel_here _ h16) (fun m17 r18 h19 => ?_)
        refine kp_if ?_ ?_
        · skip
          refine kp_st (kM.s0 h19 (by decide)) (fun m20 h21 => ?_)
          refine kp_ix ?_
          refine kp_st (kM.st h21 (by decide)) (fun m22 h23 => ?_)
          refine kp_cal (km_ChipMapModel_here _ h23) (fun m24 r25 h26 => ?_)
          refine kp_ix ?_
          refine kp_st (kM.st h26 (by decide)) (fun m27 h28 => ?_)
          refine kp_cal (km_ChipMapModel_takeName _ h28) (fun m29 r30 h31 => ?_)
          refine kp_if ?_ ?_
          · skip
            exact kp_some h31
          · skip
            refine kp_cal (km_ChipMapModel_take _ _ h31) (fun m32 r33 h34 => ?_)
            refine kp_if ?_ ?_
            · skip
              exact kp_some h34
            · skip
              refine kp_cal (km_ChipMapModel_takeHex _ _ _ h34) (fun m35 r36 h37 => ?_)
              refine kp_if ?_ ?_
              · skip
                exact kp_some h37
              · skip
                refine kp_ix ?_
                refine kp_st (kM.st h37 (by decide)) (fun m38 h39 => ?_)
                exact km_ChipMapModel_readRegister_147 _ h39
        · skip
          exact km_ChipMapModel_readRegister_147 _ h19
theorem km_ChipMapModel_readRule_190 {A : Mm} (M : Mm) (h : kM A M) : kp (kM A) (q_ChipMapModel_readRule_190 M) := by
  unfold q_ChipMapModel_readRule_190
  refine kp_st (kM.s0 h (by decide)) (fun m1 h2 => ?_)
  refine kp_cal (km_ChipMapModel_take _ _ h2) (fun m3 r4 h5 => ?_)
  refine kp_bz ?_
  exact kp_some h5
theorem km_ChipMapModel_readRule_100 {A : Mm} (M : Mm) (v1 : Int32) (h : kM A M) : kp (kM A) (q_ChipMapModel_readRule_100 M v1) := by
  unfold q_ChipMapModel_readRule_100
  refine kp_st (kM.s0 h (by decide)) (fun m1 h2 => ?_)
  refine kp_ix ?_
  refine kp_st (kM.st h2 (by decide)) (fun m3 h4 => ?_)
  refine kp_cal (km_ChipMapModel_here _ h4) (fun m5 r6 h7 => ?_)
  refine kp_ix ?_
  refine kp_st (kM.st h7 (by decide)) (fun m8 h9 => ?_)
  refine kp_cal (km_ChipMapModel_takeName _ h9) (fun m10 r11 h12 => ?_)
  refine kp_if ?_ ?_
  · skip
    exact kp_some h12
  · skip
    refine kp_ix ?_
    refine kp_st (kM.st h12 (by decide)) (fun m13 h14 => ?_)
    refine kp_ix ?_
    refine kp_if ?_ ?_
    · skip
      refine kp_cal (km_ChipMapModel_take _ _ h14) (fun m15 r16 h17 => ?_)
      refine kp_if ?_ ?_
      · skip
        exact kp_some h17
      · skip
        refine kp_cal (km_ChipMapModel_takeHex _ _ _ h17) (fun m18 r19 h20 => ?_)
        refine kp_if ?_ ?_
        · skip
          exact kp_some h20
        · skip
          refine kp_ix ?_
          refine kp_st (kM.st h20 (by decide)) (fun m21 h22 => ?_)
          exact km_ChipMapModel_readRule_190 _ h22
    · skip
      exact km_ChipMapModel_readRule_190 _ h14
theorem km_ChipMapModel_readRule {A : Mm} (M : Mm) (h : kM A M) : kp (kM A) (q_ChipMapModel_readRule M) := by
  unfold q_ChipMapModel_readRule
  refine kp_lv (fun x1 => ?_)
  refine kp_if ?_ ?_
  · skip
    refine kp_cal (km_ChipMapModel_wrong _ _ _ h) (fun m2 r3 h4 => ?_)
    refine kp_bz ?_
    exact kp_some h4
  · skip
    refine kp_ix ?_
    refine kp_st (kM.st h (by decide)) (fun m5 h6 => ?_)
    refine kp_cal (km_ChipMapModel_here _ h6) (fun m7 r8 h9 => ?_)
    refine kp_ix ?_
    refine kp_st (kM.st h9 (by decide)) (fun m10 h11 => ?_)
    refine kp_cal (km_ChipMapModel_takeName _ h11) (fun m12 r13 h14 => ?_)
    refine kp_if ?_ ?_
    · skip
      exact kp_some h14
    · skip
      refine kp_cal (km_ChipMapModel_here _ h14) (fun m15 r16 h17 => ?_)
      refine kp_ix ?_
      refine kp_st (kM.st h17 (by decide)) (fun m18 h19 => ?_)
      refine kp_cal (km_ChipMapModel_here _ h19) (fun m20 r21 h22 => ?_)
      refine kp_if ?_ ?_
      · skip
        exact km_ChipMapModel_readRule_100 _ _ h22
      · skip
        refine kp_cal (km_ChipMapModel_here _ h22) (fun m23 r24 h25 => ?_)
        refine kp_if ?_ ?_
        · skip
          exact km_ChipMapModel_readRule_100 _ _ h25
        · skip
          refine kp_cal (km_ChipMapModel_here _ h25) (fun m26 r27 h28 => ?_)
          refine kp_if ?_ ?_
          · skip
            exact km_ChipMapModel_readRule_100 _ _ h28
          · skip
            refine kp_cal (km_ChipMapModel_wrong _ _ _ h28) (fun m29 r30 h31 => ?_)
            refine kp_bz ?_
            exact kp_some h31
theorem km_ChipMapModel_named_2 {A : Mm} : ∀ (n' : Nat) (M : Mm) (v1 : Int32) (v2 : Int32) (v3 : Int32), kM A M → kp (kM A) (q_ChipMapModel_named_2 n' M v1 v2 v3) := by
  intro n'
  induction n' with
  | zero =>
    intro M v1 v2 v3 h
    rw [q_ChipMapModel_named_2]
    exact kp_none
  | succ n' ih =>
    intro M v1 v2 v3 h
    rw [q_ChipMapModel_named_2]
    refine kp_if ?_ ?_
    · skip
      exact kp_some h
    · skip
      refine kp_ix ?_
      refine kp_if ?_ ?_
      · skip
        exact kp_some h
      · skip
        exact ih _ _ _ _ h
theorem km_ChipMapModel_named {A : Mm} (M : Mm) (a1 : Int32) (a2 : Int32) (h : kM A M) : kp (kM A) (q_ChipMapModel_named M a1 a2) := by
  unfold q_ChipMapModel_named
  exact km_ChipMapModel_named_2 4000 _ _ _ _ h
theorem km_ChipMapModel_fits {A : Mm} (M : Mm) (a1 : Int32) (a2 : Int32) (h : kM A M) : kp (kM A) (q_ChipMapModel_fits M a1 a2) := by
  unfold q_ChipMapModel_fits
  refine kp_ix ?_
  refine kp_ix ?_
  refine kp_if ?_ ?_
  · skip
    exact kp_some h
  · skip
    exact kp_some h
theorem km_ChipMapModel_fieldsRight_149 {A : Mm} {kf2 : Mm → Int32 → Rs} (hk2 : ∀ (M : Mm) (b1 : Int32), kM A M → kp (kM A) (kf2 M b1)) (M : Mm) (v1 : Int32) (v2 : Int32) (h : kM A M) : kp (kM A) (q_ChipMapModel_fieldsRight_149 kf2 M v1 v2) := by
  unfold q_ChipMapModel_fieldsRight_149
  refine kp_if ?_ ?_
  · skip
    refine kp_ix ?_
    refine kp_cal (km_ChipMapModel_wrong _ _ _ h) (fun m1 r2 h3 => ?_)
    refine kp_bz ?_
    exact kp_some h3
  · skip
    exact hk2 _ _ h
theorem km_ChipMapModel_fieldsRight_142 {A : Mm} {kf2 : Mm → Int32 → Rs} (hk2 : ∀ (M : Mm) (b1 : Int32), kM A M → kp (kM A) (kf2 M b1)) {kf83 : Mm → Int32 → Int32 → Int32 → Rs} (hk83 : ∀ (M : Mm) (b1 : Int32) (b2 : Int32) (b3 : Int32), kM A M → kp (kM A) (kf83 M b1 b2 b3)) (M : Mm) (v1 : Int32) (v3 : Int32) (t0 : Int32) (h : kM A M) : kp (kM A) (q_ChipMapModel_fieldsRight_142 kf2 kf83 M v1 v3 t0) := by
  unfold q_ChipMapModel_fieldsRight_142
  exact hk83 _ _ _ _ h
theorem km_ChipMapModel_fieldsRight_137 {A : Mm} {kf2 : Mm → Int32 → Rs} (hk2 : ∀ (M : Mm) (b1 : Int32), kM A M → kp (kM A) (kf2 M b1)) {kf83 : Mm → Int32 → Int32 → Int32 → Rs} (hk83 : ∀ (M : Mm) (b1 : Int32) (b2 : Int32) (b3 : Int32), kM A M → kp (kM A) (kf83 M b1 b2 b3)) (M : Mm) (v1 : Int32) (v3 : Int32) (h : kM A M) : kp (kM A) (q_ChipMapModel_fieldsRight_137 kf2 kf83 M v1 v3) := by
  unfold q_ChipMapModel_fieldsRight_137
  exact km_ChipMapModel_fieldsRight_142 hk2 hk83 _ _ _ _ h
theorem km_ChipMapModel_fieldsRight_83 {A : Mm} {kf2 : Mm → Int32 → Rs} (hk2 : ∀ (M : Mm) (b1 : Int32), kM A M → kp (kM A) (kf2 M b1)) : ∀ (n' : Nat) (M : Mm) (v1 : Int32) (v2 : Int32) (v3 : Int32), kM A M → kp (kM A) (q_ChipMapModel_fieldsRight_83 kf2 n' M v1 v2 v3) := by
  intro n'
  induction n' with
  | zero =>
    intro M v1 v2 v3 h
    rw [q_ChipMapModel_fieldsRight_83]
    exact kp_none
  | succ n' ih =>
    intro M v1 v2 v3 h
    rw [q_ChipMapModel_fieldsRight_83]
    refine kp_if ?_ ?_
    · skip
      exact km_ChipMapModel_fieldsRight_149 hk2 _ _ _ h
    · skip
      refine kp_if ?_ ?_
      · skip
        exact km_ChipMapModel_fieldsRight_149 hk2 _ _ _ h
      · skip
        refine kp_ix ?_
        refine kp_ix ?_
        refine kp_if ?_ ?_
        · skip
          refine kp_ix ?_
          refine kp_ix ?_
          refine kp_if ?_ ?_
          · skip
            exact km_ChipMapModel_fieldsRight_137 hk2 ih _ _ _ h
          · skip
            refine kp_ix ?_
            refine kp_ix ?_
            refine kp_if ?_ ?_
            · skip
              exact km_ChipMapModel_fieldsRight_142 hk2 ih _ _ _ _ h
            · skip
              exact km_ChipMapModel_fieldsRight_137 hk2 ih _ _ _ h
        · skip
          exact km_ChipMapModel_fieldsRight_137 hk2 ih _ _ _ h
theorem km_ChipMapModel_fieldsRight_80 {A : Mm} {kf2 : Mm → Int32 → Rs} (hk2 : ∀ (M : Mm) (b1 : Int32), kM A M → kp (kM A) (kf2 M b1)) (M : Mm) (v1 : Int32) (t0 : Int32) (h : kM A M) : kp (kM A) (q_ChipMapModel_fieldsRight_80 kf2 M v1 t0) := by
  unfold q_ChipMapModel_fieldsRight_80
  exact km_ChipMapModel_fieldsRight_83 hk2 4000 _ _ _ _ h
theorem km_ChipMapModel_fieldsRight_79 {A : Mm} {kf2 : Mm → Int32 → Rs} (hk2 : ∀ (M : Mm) (b1 : Int32), kM A M → kp (kM A) (kf2 M b1)) (M : Mm) (v1 : Int32) (h : kM A M) : kp (kM A) (q_ChipMapModel_fieldsRight_79 kf2 M v1) := by
  unfold q_ChipMapModel_fieldsRight_79
  exact km_ChipMapModel_fieldsRight_80 hk2 _ _ _ h
theorem km_ChipMapModel_fieldsRight_56 {A : Mm} {kf2 : Mm → Int32 → Rs} (hk2 : ∀ (M : Mm) (b1 : Int32), kM A M → kp (kM A) (kf2 M b1)) (M : Mm) (v1 : Int32) (t0 : Int32) (h : kM A M) : kp (kM A) (q_ChipMapModel_fieldsRight_56 kf2 M v1 t0) := by
  unfold q_ChipMapModel_fieldsRight_56
  refine kp_if ?_ ?_
  · skip
    exact km_ChipMapModel_fieldsRight_79 hk2 _ _ h
  · skip
    refine kp_ix ?_
    refine kp_cal (km_ChipMapModel_fits _ _ _ h) (fun m1 r2 h3 => ?_)
    refine kp_if ?_ ?_
    · skip
      exact km_ChipMapModel_fieldsRight_79 hk2 _ _ h3
    · skip
      exact km_ChipMapModel_fieldsRight_80 hk2 _ _ _ h3
theorem km_ChipMapModel_fieldsRight_55 {A : Mm} {kf2 : Mm → Int32 → Rs} (hk2 : ∀ (M : Mm) (b1 : Int32), kM A M → kp (kM A) (kf2 M b1)) (M : Mm) (v1 : Int32) (h : kM A M) : kp (kM A) (q_ChipMapModel_fieldsRight_55 kf2 M v1) := by
  unfold q_ChipMapModel_fieldsRight_55
  exact km_ChipMapModel_fieldsRight_56 hk2 _ _ _ h
theorem km_ChipMapModel_fieldsRight_2 {A : Mm} : ∀ (n' : Nat) (M : Mm) (v1 : Int32), kM A M → kp (kM A) (q_ChipMapModel_fieldsRight_2 n' M v1) := by
  intro n'
  induction n' with
  | zero =>
    intro M v1 h
    rw [q_ChipMapModel_fieldsRight_2]
    exact kp_none
  | succ n' ih =>
    intro M v1 h
    rw [q_ChipMapModel_fieldsRight_2]
    refine kp_if ?_ ?_
    · skip
      exact kp_some h
    · skip
      refine kp_ix ?_
      refine kp_cal (km_ChipMapModel_named _ _ _ h) (fun m1 r2 h3 => ?_)
      refine kp_if ?_ ?_
      · skip
        refine kp_ix ?_
        refine kp_if ?_ ?_
        · skip
          exact km_ChipMapModel_fieldsRight_55 ih _ _ h3
        · skip
          refine kp_ix ?_
          refine kp_ix ?_
          refine kp_if ?_ ?_
          · skip
            exact km_ChipMapModel_fieldsRight_55 ih _ _ h3
          · skip
            exact km_ChipMapModel_fieldsRight_56 ih _ _ _ h3
      · skip
        exact km_ChipMapModel_fieldsRight_55 ih _ _ h3
theorem km_ChipMapModel_fieldsRight {A : Mm} (M : Mm) (h : kM A M) : kp (kM A) (q_ChipMapModel_fieldsRight M) := by
  unfold q_ChipMapModel_fieldsRight
  exact km_ChipMapModel_fieldsRight_2 4000 _ _ h
theorem km_ChipMapModel_registersRight_195 {A : Mm} {kf103 : Mm → Int32 → Rs} (hk103 : ∀ (M : Mm) (b1 : Int32), kM A M → kp (kM A) (kf103 M b1)) {kf113 : Mm → Int32 → Int32 → Rs} (hk113 : ∀ (M : Mm) (b1 : Int32) (b2 : Int32), kM A M → kp (kM A) (kf113 M b1 b2)) (M : Mm) (v1 : Int32) (v2 : Int32) (h : kM A M) : kp (kM A) (q_ChipMapModel_registersRight_195 kf103 kf113 M v1 v2) := by
  unfold q_ChipMapModel_registersRight_195
  exact hk113 _ _ _ h
theorem km_ChipMapModel_registersRight_163 {A : Mm} {kf103 : Mm → Int32 → Rs} (hk103 : ∀ (M : Mm) (b1 : Int32), kM A M → kp (kM A) (kf103 M b1)) {kf113 : Mm → Int32 → Int32 → Rs} (hk113 : ∀ (M : Mm) (b1 : Int32) (b2 : Int32), kM A M → kp (kM A) (kf113 M b1 b2)) (M : Mm) (v1 : Int32) (v2 : Int32) (t0 : Int32) (h : kM A M) : kp (kM A) (q_ChipMapModel_registersRight_163 kf103 kf113 M v1 v2 t0) := by
  unfold q_ChipMapModel_registersRight_163
  refine kp_ix ?_
  refine kp_ix ?_
  refine kp_if ?_ ?_
  · skip
    refine kp_if ?_ ?_
    · skip
      refine kp_ix ?_
      refine kp_cal (km_ChipMapModel_wrong _ _ _ h) (fun m1 r2 h3 => ?_)
      refine kp_bz ?_
      exact kp_some h3
    · skip
      exact km_ChipMapModel_registersRight_195 hk103 hk113 _ _ _ h
  · skip
    exact km_ChipMapModel_registersRight_195 hk103 hk113 _ _ _ h
theorem km_ChipMapModel_registersRight_162 {A : Mm} {kf103 : Mm → Int32 → Rs} (hk103 : ∀ (M : Mm) (b1 : Int32), kM A M → kp (kM A) (kf103 M b1)) {kf113 : Mm → Int32 → Int32 → Rs} (hk113 : ∀ (M : Mm) (b1 : Int32) (b2 : Int32), kM A M → kp (kM A) (kf113 M b1 b2)) (M : Mm) (v1 : Int32) (v2 : Int32) (h : kM A M) : kp (kM A) (q_ChipMapModel_registersRight_162 kf103 kf113 M v1 v2) := by
  unfold q_ChipMapModel_registersRight_162
  exact km_ChipMapModel_registersRight_163 hk103 hk113 _ _ _ _ h
theorem km_ChipMapModel_registersRight_113 {A : Mm} {kf103 : Mm → Int32 → Rs} (hk103 : ∀ (M : Mm) (b1 : Int32), kM A M → kp (kM A) (kf103 M b1)) : ∀ (n' : Nat) (M : Mm) (v1 : Int32) (v2 : Int32), kM A M → kp (kM A) (q_ChipMapModel_registersRight_113 kf103 n' M v1 v2) := by
  intro n'
  induction n' with
  | zero =>
    intro M v1 v2 h
    rw [q_ChipMapModel_registersRight_113]
    exact kp_none
  | succ n' ih =>
    intro M v1 v2 h
    rw [q_ChipMapModel_registersRight_113]
    refine kp_if ?_ ?_
    · skip
      exact hk103 _ _ h
    · skip
      refine kp_ix ?_
      refine kp_if ?_ ?_
      · skip
        exact km_ChipMapModel_registersRight_162 hk103 ih _ _ _ h
      · skip
        refine kp_ix ?_
        refine kp_ix ?_
        refine kp_if ?_ ?_
        · skip
          refine kp_ix ?_
          refine kp_ix ?_
          refine kp_if ?_ ?_
          · skip
            exact km_ChipMapModel_registersRight_162 hk103 ih _ _ _ h
          · skip
            exact km_ChipMapModel_registersRight_163 hk103 ih _ _ _ _ h
        · skip
          exact km_ChipMapModel_registersRight_162 hk103 ih _ _ _ h
theorem km_ChipMapModel_registersRight_103 {A : Mm} : ∀ (n' : Nat) (M : Mm) (v1 : Int32), kM A M → kp (kM A) (q_ChipMapModel_registersRight_103 n' M v1) := by
  intro n'
  induction n' with
  | zero =>
    intro M v1 h
    rw [q_ChipMapModel_registersRight_103]
    exact kp_none
  | succ n' ih =>
    intro M v1 h
    rw [q_ChipMapModel_registersRight_103]
    refine kp_if ?_ ?_
    · skip
      exact kp_some h
    · skip
      exact km_ChipMapModel_registersRight_113 ih 4000 _ _ _ h
theorem km_ChipMapModel_registersRight_83 {A : Mm} (M : Mm) (v1 : Int32) (h : kM A M) : kp (kM A) (q_ChipMapModel_registersRight_83 M v1) := by
  unfold q_ChipMapModel_registersRight_83
  refine kp_ix ?_
  refine kp_cal (km_ChipMapModel_wrong _ _ _ h) (fun m1 r2 h3 => ?_)
  refine kp_bz ?_
  exact kp_some h3
theorem km_ChipMapModel_registersRight_95 {A : Mm} {kf2 : Mm → Int32 → Rs} (hk2 : ∀ (M : Mm) (b1 : Int32), kM A M → kp (kM A) (kf2 M b1)) (M : Mm) (v1 : Int32) (h : kM A M) : kp (kM A) (q_ChipMapModel_registersRight_95 kf2 M v1) := by
  unfold q_ChipMapModel_registersRight_95
  exact hk2 _ _ h
theorem km_ChipMapModel_registersRight_2 {A : Mm} : ∀ (n' : Nat) (M : Mm) (v1 : Int32), kM A M → kp (kM A) (q_ChipMapModel_registersRight_2 n' M v1) := by
  intro n'
  induction n' with
  | zero =>
    intro M v1 h
    rw [q_ChipMapModel_registersRight_2]
    exact kp_none
  | succ n' ih =>
    intro M v1 h
    rw [q_ChipMapModel_registersRight_2]
    refine kp_if ?_ ?_
    · skip
      exact km_ChipMapModel_registersRight_103 4000 _ _ h
    · skip
      refine kp_ix ?_
      refine kp_if ?_ ?_
      · skip
        exact km_ChipMapModel_registersRight_95 ih _ _ h
      · skip
        refine kp_ix ?_
        refine kp_cal (km_ChipMapModel_named _ _ _ h) (fun m1 r2 h3 => ?_)
        refine kp_if ?_ ?_
        · skip
          exact km_ChipMapModel_registersRight_83 _ _ h3
        · skip
          refine kp_ix ?_
          refine kp_if ?_ ?_
          · skip
            refine kp_ix ?_
            refine kp_ix ?_
            refine kp_if ?_ ?_
            · skip
              refine kp_ix ?_
              refine kp_cal (km_ChipMapModel_fits _ _ _ h3) (fun m4 r5 h6 => ?_)
              refine kp_if ?_ ?_
              · skip
                exact km_ChipMapModel_registersRight_83 _ _ h6
              · skip
                exact km_ChipMapModel_registersRight_95 ih _ _ h6
            · skip
              exact km_ChipMapModel_registersRight_83 _ _ h3
          · skip
            exact km_ChipMapModel_registersRight_83 _ _ h3
theorem km_ChipMapModel_registersRight {A : Mm} (M : Mm) (h : kM A M) : kp (kM A) (q_ChipMapModel_registersRight M) := by
  unfold q_ChipMapModel_registersRight
  exact km_ChipMapModel_registersRight_2 4000 _ _ h
theorem km_ChipMapModel_isLooked {A : Mm} (M : Mm) (a1 : Int32) (h : kM A M) : kp (kM A) (q_ChipMapModel_isLooked M a1) := by
  unfold q_ChipMapModel_isLooked
  refine kp_if ?_ ?_
  · skip
    exact kp_some h
  · skip
    refine kp_ix ?_
    refine kp_if ?_ ?_
    · skip
      exact kp_some h
    · skip
      refine kp_ix ?_
      refine kp_if ?_ ?_
      · skip
        exact kp_some h
      · skip
        exact kp_some h
theorem km_ChipMapModel_rulesRight_125 {A : Mm} {kf2 : Mm → Int32 → Rs} (hk2 : ∀ (M : Mm) (b1 : Int32), kM A M → kp (kM A) (kf2 M b1)) (M : Mm) (v1 : Int32) (t0 : Int32) (h : kM A M) : kp (kM A) (q_ChipMapModel_rulesRight_125 kf2 M v1 t0) := by
  unfold q_ChipMapModel_rulesRight_125
  refine kp_if ?_ ?_
  · skip
    refine kp_ix ?_
    refine kp_cal (km_ChipMapModel_wrong _ _ _ h) (fun m1 r2 h3 => ?_)
    refine kp_bz ?_
    exact kp_some h3
  · skip
    exact hk2 _ _ h
theorem km_ChipMapModel_rulesRight_116 {A : Mm} {kf2 : Mm → Int32 → Rs} (hk2 : ∀ (M : Mm) (b1 : Int32), kM A M → kp (kM A) (kf2 M b1)) (M : Mm) (v1 : Int32) (h : kM A M) : kp (kM A) (q_ChipMapModel_rulesRight_116 kf2 M v1) := by
  unfold q_ChipMapModel_rulesRight_116
  exact km_ChipMapModel_rulesRight_125 hk2 _ _ _ h
theorem km_ChipMapModel_rulesRight_98 {A : Mm} {kf2 : Mm → Int32 → Rs} (hk2 : ∀ (M : Mm) (b1 : Int32), kM A M → kp (kM A) (kf2 M b1)) (M : Mm) (v1 : Int32) (v3 : Int32) (h : kM A M) : kp (kM A) (q_ChipMapModel_rulesRight_98 kf2 M v1 v3) := by
  unfold q_ChipMapModel_rulesRight_98
  refine kp_ix ?_
  refine kp_cal (km_ChipMapModel_fits _ _ _ h) (fun m1 r2 h3 => ?_)
  refine kp_if ?_ ?_
  · skip
    exact km_ChipMapModel_rulesRight_116 hk2 _ _ h3
  · skip
    exact km_ChipMapModel_rulesRight_125 hk2 _ _ _ h3
theorem km_ChipMapModel_rulesRight_2 {A : Mm} : ∀ (n' : Nat) (M : Mm) (v1 : Int32), kM A M → kp (kM A) (q_ChipMapModel_rulesRight_2 n' M v1) := by
  intro n'
  induction n' with
  | zero =>
    intro M v1 h
    rw [q_ChipMapModel_rulesRight_2]
    exact kp_none
  | succ n' ih =>
    intro M v1 h
    rw [q_ChipMapModel_rulesRight_2]
    refine kp_if ?_ ?_
    · skip
      exact kp_some h
    · skip
      refine kp_ix ?_
      refine kp_cal (km_ChipMapModel_named _ _ _ h) (fun m1 r2 h3 => ?_)
      refine kp_ix ?_
      refine kp_cal (km_ChipMapModel_named _ _ _ h3) (fun m4 r5 h6 => ?_)
      refine kp_cal (km_ChipMapModel_isLooked _ _ h6) (fun m7 r8 h9 => ?_)
      refine kp_if ?_ ?_
      · skip
        refine kp_ix ?_
        refine kp_cal (km_ChipMapModel_wrong _ _ _ h9) (fun m10 r11 h12 => ?_)
        refine kp_bz ?_
        exact kp_some h12
      · skip
        refine kp_ix ?_
        refine kp_if ?_ ?_
        · skip
          refine kp_if ?_ ?_
          · skip
            exact km_ChipMapModel_rulesRight_116 ih _ _ h9
          · skip
            refine kp_ix ?_
            refine kp_if ?_ ?_
            · skip
              exact km_ChipMapModel_rulesRight_98 ih _ _ _ h9
            · skip
              refine kp_ix ?_
              refine kp_if ?_ ?_
              · skip
                exact km_ChipMapModel_rulesRight_98 ih _ _ _ h9
              · skip
                exact km_ChipMapModel_rulesRight_116 ih _ _ h9
        · skip
          refine kp_cal (km_ChipMapModel_isLooked _ _ h9) (fun m13 r14 h15 => ?_)
          exact km_ChipMapModel_rulesRight_125 ih _ _ _ h15
theorem km_ChipMapModel_rulesRight {A : Mm} (M : Mm) (h : kM A M) : kp (kM A) (q_ChipMapModel_rulesRight M) := by
  unfold q_ChipMapModel_rulesRight
  exact km_ChipMapModel_rulesRight_2 4000 _ _ h
theorem km_ChipMapModel_readAll_38 {A : Mm} : ∀ (n' : Nat) (M : Mm), kM A M → kp (kM A) (q_ChipMapModel_readAll_38 n' M) := by
  intro n'
  induction n' with
  | zero =>
    intro M h
    rw [q_ChipMapModel_readAll_38]
    exact kp_none
  | succ n' ih =>
    intro M h
    rw [q_ChipMapModel_readAll_38]
    refine kp_if ?_ ?_
    · skip
      refine kp_cal (km_ChipMapModel_fieldsRight _ h) (fun m1 r2 h3 => ?_)
      refine kp_if ?_ ?_
      · skip
        exact kp_some h3
      · skip
        refine kp_cal (km_ChipMapModel_registersRight _ h3) (fun m4 r5 h6 => ?_)
        refine kp_if ?_ ?_
        · skip
          exact kp_some h6
        · skip
          refine kp_cal (km_ChipMapModel_rulesRight _ h6) (fun m7 r8 h9 => ?_)
          refine kp_if ?_ ?_
          · skip
            exact kp_some h9
          · skip
            exact kp_some h9
    · skip
      refine kp_cal (km_ChipMapModel_readRule _ h) (fun m10 r11 h12 => ?_)
      refine kp_if ?_ ?_
      · skip
        exact kp_some h12
      · skip
        exact ih _ h12
theorem km_ChipMapModel_readAll_20 {A : Mm} : ∀ (n' : Nat) (M : Mm), kM A M → kp (kM A) (q_ChipMapModel_readAll_20 n' M) := by
  intro n'
  induction n' with
  | zero =>
    intro M h
    rw [q_ChipMapModel_readAll_20]
    exact kp_none
  | succ n' ih =>
    intro M h
    rw [q_ChipMapModel_readAll_20]
    refine kp_cal (km_ChipMapModel_readRegister _ h) (fun m1 r2 h3 => ?_)
    refine kp_if ?_ ?_
    · skip
      exact kp_some h3
    · skip
      refine kp_cal (km_ChipMapModel_here _ h3) (fun m4 r5 h6 => ?_)
      refine kp_if ?_ ?_
      · skip
        exact ih _ h6
      · skip
        exact km_ChipMapModel_readAll_38 4000 _ h6
theorem km_ChipMapModel_readAll {A : Mm} (M : Mm) (h : kM A M) : kp (kM A) (q_ChipMapModel_readAll M) := by
  unfold q_ChipMapModel_readAll
  refine kp_st (kM.s0 h (by decide)) (fun m1 h2 => ?_)
  refine kp_st (kM.s0 h2 (by decide)) (fun m3 h4 => ?_)
  refine kp_st (kM.s0 h4 (by decide)) (fun m5 h6 => ?_)
  refine kp_st (kM.s0 h6 (by decide)) (fun m7 h8 => ?_)
  exact km_ChipMapModel_readAll_20 4000 _ h8
theorem kw_ChipMapModel_resetDevice_55 {A : Mm} : ∀ (n' : Nat) (M : Mm) (v1 : Int32), kW A M → kp (kW A) (q_ChipMapModel_resetDevice_55 n' M v1) := by
  intro n'
  induction n' with
  | zero =>
    intro M v1 h
    rw [q_ChipMapModel_resetDevice_55]
    exact kp_none
  | succ n' ih =>
    intro M v1 h
    rw [q_ChipMapModel_resetDevice_55]
    refine kp_if ?_ ?_
    · skip
      exact kp_some h
    · skip
      refine kp_ix ?_
      refine kp_st (kW.st h (by decide)) (fun m1 h2 => ?_)
      exact ih _ _ h2
theorem kw_ChipMapModel_resetDevice_32 {A : Mm} {kf2 : Mm → Int32 → Rs} (hk2 : ∀ (M : Mm) (b1 : Int32), kW A M → kp (kW A) (kf2 M b1)) (M : Mm) (v1 : Int32) (t0 : Int32) (t1 : Int32) (h : kW A M) : kp (kW A) (q_ChipMapModel_resetDevice_32 kf2 M v1 t0 t1) := by
  unfold q_ChipMapModel_resetDevice_32
  refine kp_ix ?_
  refine kp_st (kW.st h (by decide)) (fun m1 h2 => ?_)
  refine kp_ix ?_
  refine kp_st (kW.st h2 (by decide)) (fun m3 h4 => ?_)
  refine kp_ix ?_
  refine kp_st (kW.st h4 (by decide)) (fun m5 h6 => ?_)
  exact hk2 _ _ h6
theorem kw_ChipMapModel_resetDevice_2 {A : Mm} : ∀ (n' : Nat) (M : Mm) (v1 : Int32), kW A M → kp (kW A) (q_ChipMapModel_resetDevice_2 n' M v1) := by
  intro n'
  induction n' with
  | zero =>
    intro M v1 h
    rw [q_ChipMapModel_resetDevice_2]
    exact kp_none
  | succ n' ih =>
    intro M v1 h
    rw [q_ChipMapModel_resetDevice_2]
    refine kp_if ?_ ?_
    · skip
      exact kw_ChipMapModel_resetDevice_55 4000 _ _ h
    · skip
      refine kp_ix ?_
      refine kp_if ?_ ?_
      · skip
        exact kw_ChipMapModel_resetDevice_32 ih _ _ _ _ h
      · skip
        refine kp_ix ?_
        exact kw_ChipMapModel_resetDevice_32 ih _ _ _ _ h
theorem kw_ChipMapModel_resetDevice {A : Mm} (M : Mm) (h : kW A M) : kp (kW A) (q_ChipMapModel_resetDevice M) := by
  unfold q_ChipMapModel_resetDevice
  exact kw_ChipMapModel_resetDevice_2 4000 _ _ h
theorem kw_ChipMapModel_resetAll {A : Mm} (M : Mm) (h : kW A M) : kp (kW A) (q_ChipMapModel_resetAll M) := by
  unfold q_ChipMapModel_resetAll
  refine kp_cal (kw_ChipMapModel_resetDevice _ h) (fun m1 r2 h3 => ?_)
  refine kp_st (kW.s0 h3 (by decide)) (fun m4 h5 => ?_)
  refine kp_st (kW.s0 h5 (by decide)) (fun m6 h7 => ?_)
  refine kp_st (kW.s0 h7 (by decide)) (fun m8 h9 => ?_)
  exact kp_some h9
theorem kw_ChipMapModel_compile_230 {A : Mm} : ∀ (n' : Nat) (M : Mm) (v2 : Int32), kW A M → kp (kW A) (q_ChipMapModel_compile_230 n' M v2) := by
  intro n'
  induction n' with
  | zero =>
    intro M v2 h
    rw [q_ChipMapModel_compile_230]
    exact kp_none
  | succ n' ih =>
    intro M v2 h
    rw [q_ChipMapModel_compile_230]
    refine kp_if ?_ ?_
    · skip
      refine kp_st (kW.s0 h (by decide)) (fun m1 h2 => ?_)
      refine kp_st (kW.s0 h2 (by decide)) (fun m3 h4 => ?_)
      refine kp_st (kW.s0 h4 (by decide)) (fun m5 h6 => ?_)
      refine kp_cal (kw_ChipMapModel_resetAll _ h6) (fun m7 r8 h9 => ?_)
      exact kp_some h9
    · skip
      refine kp_ix ?_
      refine kp_ix ?_
      refine kp_st (kW.st h (by decide)) (fun m10 h11 => ?_)
      refine kp_ix ?_
      refine kp_ix ?_
      refine kp_st (kW.st h11 (by decide)) (fun m12 h13 => ?_)
      refine kp_ix ?_
      refine kp_ix ?_
      refine kp_st (kW.st h13 (by decide)) (fun m14 h15 => ?_)
      refine kp_ix ?_
      refine kp_ix ?_
      refine kp_st (kW.st h15 (by decide)) (fun m16 h17 => ?_)
      exact ih _ _ h17
theorem kw_ChipMapModel_compile_123 {A : Mm} : ∀ (n' : Nat) (M : Mm) (v2 : Int32), kW A M → kp (kW A) (q_ChipMapModel_compile_123 n' M v2) := by
  intro n'
  induction n' with
  | zero =>
    intro M v2 h
    rw [q_ChipMapModel_compile_123]
    exact kp_none
  | succ n' ih =>
    intro M v2 h
    rw [q_ChipMapModel_compile_123]
    refine kp_if ?_ ?_
    · skip
      refine kp_st (kW.s0 h (by decide)) (fun m1 h2 => ?_)
      exact kw_ChipMapModel_compile_230 4000 _ _ h2
    · skip
      refine kp_ix ?_
      refine kp_lv (fun x3 => ?_)
      refine kp_ix ?_
      refine kp_st (kW.st h (by decide)) (fun m4 h5 => ?_)
      refine kp_ix ?_
      refine kp_ix ?_
      refine kp_st (kW.st h5 (by decide)) (fun m6 h7 => ?_)
      refine kp_ix ?_
      refine kp_ix ?_
      refine kp_st (kW.st h7 (by decide)) (fun m8 h9 => ?_)
      refine kp_ix ?_
      refine kp_ix ?_
      refine kp_st (kW.st h9 (by decide)) (fun m10 h11 => ?_)
      refine kp_ix ?_
      refine kp_ix ?_
      refine kp_ix ?_
      refine kp_st (kW.st h11 (by decide)) (fun m12 h13 => ?_)
      refine kp_ix ?_
      refine kp_ix ?_
      refine kp_st (kW.st h13 (by decide)) (fun m14 h15 => ?_)
      exact ih _ _ h15
theorem kw_ChipMapModel_compile_102 {A : Mm} : ∀ (n' : Nat) (M : Mm) (v2 : Int32), kW A M → kp (kW A) (q_ChipMapModel_compile_102 n' M v2) := by
  intro n'
  induction n' with
  | zero =>
    intro M v2 h
    rw [q_ChipMapModel_compile_102]
    exact kp_none
  | succ n' ih =>
    intro M v2 h
    rw [q_ChipMapModel_compile_102]
    refine kp_if ?_ ?_
    · skip
      exact kw_ChipMapModel_compile_123 4000 _ _ h
    · skip
      refine kp_ix ?_
      refine kp_st (kW.st h (by decide)) (fun m1 h2 => ?_)
      exact ih _ _ h2
theorem kw_ChipMapModel_compile_50 {A : Mm} : ∀ (n' : Nat) (M : Mm) (v2 : Int32), kW A M → kp (kW A) (q_ChipMapModel_compile_50 n' M v2) := by
  intro n'
  induction n' with
  | zero =>
    intro M v2 h
    rw [q_ChipMapModel_compile_50]
    exact kp_none
  | succ n' ih =>
    intro M v2 h
    rw [q_ChipMapModel_compile_50]
    refine kp_if ?_ ?_
    · skip
      exact kw_ChipMapModel_compile_102 4000 _ _ h
    · skip
      refine kp_ix ?_
      refine kp_ix ?_
      refine kp_st (kW.st h (by decide)) (fun m1 h2 => ?_)
      refine kp_ix ?_
      refine kp_ix ?_
      refine kp_st (kW.st h2 (by decide)) (fun m3 h4 => ?_)
      refine kp_ix ?_
      refine kp_ix ?_
      refine kp_st (kW.st h4 (by decide)) (fun m5 h6 => ?_)
      exact ih _ _ h6
