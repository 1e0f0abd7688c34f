section
-- what the reference's search leaves alone
def kD (A N : Mm) : Prop := (∀ p, p ≠ 0 → p < 33 ∨ (40 ≤ p ∧ p ≤ 44) → N.1 p = A.1 p) ∧ (∀ j, j ≤ 54 ∨ (58 ≤ j ∧ j ≤ 62) → N.1 0 j = A.1 0 j) ∧ (∀ f, 26 ≤ f → N.1 33 f = A.1 33 f) ∧ (∀ k, 12 ≤ k → N.1 36 k = A.1 36 k) ∧ N.1 0 58 ≠ 0 ∧ (N.1 0 38).toInt ≤ 12
theorem kD.st {A M : Mm} {k : Nat} {f : Nat → Int32} (h : kD A M) (hk : k = 34 ∨ k = 35 ∨ (37 ≤ k ∧ k ≤ 39) ∨ 45 ≤ k) : kD A (stI M k f) := ⟨fun p h0 hp => by rw [stI_ne M f (by omega)]; exact h.1 p h0 hp, fun j hj => by rw [stI_ne M f (by omega)]; exact h.2.1 j hj, fun q hq => by rw [stI_ne M f (by omega)]; exact h.2.2.1 q hq, fun q hq => by rw [stI_ne M f (by omega)]; exact h.2.2.2.1 q hq, by rw [stI_ne M f (by omega)]; exact h.2.2.2.2.1, by rw [stI_ne M f (by omega)]; exact h.2.2.2.2.2⟩
theorem kD.s0 {A M : Mm} {k : Nat} {x : Int32} (h : kD A M) (hk : (55 ≤ k ∧ k ≤ 57) ∨ 63 ≤ k) : kD A (stI M 0 (upd (M.1 0) k x)) := ⟨fun p h0 hp => by rw [stI_ne M _ h0]; exact h.1 p h0 hp, fun j hj => by rw [stI_at, updN (by omega)]; exact h.2.1 j hj, fun q hq => by rw [stI_ne M _ (by omega)]; exact h.2.2.1 q hq, fun q hq => by rw [stI_ne M _ (by omega)]; exact h.2.2.2.1 q hq, by rw [stI_at, updN (by omega)]; exact h.2.2.2.2.1, by rw [stI_at, updN (by omega)]; exact h.2.2.2.2.2⟩
theorem kD.s33 {A M : Mm} {i : Nat} {x : Int32} (h : kD A M) (hi : i < 26) : kD A (stI M 33 (upd (M.1 33) i x)) := ⟨fun p h0 hp => by rw [stI_ne M _ (by omega)]; exact h.1 p h0 hp, fun j hj => by rw [stI_ne M _ (by omega)]; exact h.2.1 j hj, fun q hq => by rw [stI_at, updN (by omega)]; exact h.2.2.1 q hq, fun q hq => by rw [stI_ne M _ (by omega)]; exact h.2.2.2.1 q hq, by rw [stI_ne M _ (by omega)]; exact h.2.2.2.2.1, by rw [stI_ne M _ (by omega)]; exact h.2.2.2.2.2⟩
theorem kD.s36 {A M : Mm} {i : Nat} {x : Int32} (h : kD A M) (hi : i < 12) : kD A (stI M 36 (upd (M.1 36) i x)) := ⟨fun p h0 hp => by rw [stI_ne M _ (by omega)]; exact h.1 p h0 hp, fun j hj => by rw [stI_ne M _ (by omega)]; exact h.2.1 j hj, fun q hq => by rw [stI_ne M _ (by omega)]; exact h.2.2.1 q hq, fun q hq => by rw [stI_at, updN (by omega)]; exact h.2.2.2.1 q hq, by rw [stI_ne M _ (by omega)]; exact h.2.2.2.2.1, by rw [stI_ne M _ (by omega)]; exact h.2.2.2.2.2⟩
theorem kp_ixc {P : Mm → Prop} {i : Int32} {n : Nat} {k : Rs} (h : i.toNatClampNeg < n → kp P k) : kp P (ix i n k) := fun M r e => by
  unfold ix at e
  split at e
  · cases e
  · rename_i c
    refine h ?_ M r e
    by_cases z : n ≤ i.toNatClampNeg
    · exact absurd (Or.inr z) c
    · omega
theorem kp_ifc {P : Mm → Prop} {c : Prop} [Decidable c] {a b : Rs} (ha : kp P a) (hb : ¬ c → kp P b) : kp P (if c then a else b) := by
  by_cases hc : c
  · rw [if_pos hc]; exact ha
  · rw [if_neg hc]; exact hb hc
theorem lt_c {a v : Int32} {n : Nat} (ha : a.toInt ≤ (n : Int)) (hn : 0 < n) (h : ¬ a ≤ v) : v.toNatClampNeg < n := by
  have g : ¬ a.toInt ≤ v.toInt := fun z => h (Int32.le_iff_toInt_le.mpr z)
  have e : v.toNatClampNeg = v.toInt.toNat := rfl
  omega
theorem lt_26 {v : Int32} (h : ¬ (26 : Int32) ≤ v) : v.toNatClampNeg < 26 := lt_c (by decide) (by decide) h
theorem lt_12 {v : Int32} (h : ¬ (12 : Int32) ≤ v) : v.toNatClampNeg < 12 := lt_c (by decide) (by decide) h
theorem kd_ChipMapModel_resetDevice_55 {A : Mm} : ∀ (n' : Nat) (M : Mm) (v1 : Int32), kD A M → kp (kD A) (q_ChipMapModel_resetDevice_55 n' M v1) := by
  intro n'
  induction n' with
  | zero =>
    intro M v1 h
    rw [q_ChipMapModel_resetDevice_55]
    exact kp_none
  | succ n' ih =>
    intro M v1 h
    rw [q_ChipMapModel_resetDevice_55]
    refine kp_ifc ?_ (fun c1 => ?_)
    · skip
      exact kp_some h
    · skip
      refine kp_ixc (fun c2 => ?_)
      refine kp_st (kD.s36 h ((lt_12 c1))) (fun m3 h4 => ?_)
      exact ih _ _ h4
theorem kd_ChipMapModel_resetDevice_32 {A : Mm} {kf2 : Mm → Int32 → Rs} (hk2 : ∀ (M : Mm) (b1 : Int32), kD A M → kp (kD A) (kf2 M b1)) (M : Mm) (v1 : Int32) (t0 : Int32) (t1 : Int32) (hb : t1.toNatClampNeg < 26) (h : kD A M) : kp (kD A) (q_ChipMapModel_resetDevice_32 kf2 M v1 t0 t1) := by
  unfold q_ChipMapModel_resetDevice_32
  refine kp_ixc (fun c1 => ?_)
  refine kp_st (kD.s33 h (hb)) (fun m2 h3 => ?_)
  refine kp_ixc (fun c4 => ?_)
  refine kp_st (kD.st h3 (by decide)) (fun m5 h6 => ?_)
  refine kp_ixc (fun c7 => ?_)
  refine kp_st (kD.st h6 (by decide)) (fun m8 h9 => ?_)
  exact hk2 _ _ h9
theorem kd_ChipMapModel_resetDevice_2 {A : Mm} : ∀ (n' : Nat) (M : Mm) (v1 : Int32), kD A M → kp (kD A) (q_ChipMapModel_resetDevice_2 n' M v1) := by
  intro n'
  induction n' with
  | zero =>
    intro M v1 h
    rw [q_ChipMapModel_resetDevice_2]
    exact kp_none
  | succ n' ih =>
    intro M v1 h
    rw [q_ChipMapModel_resetDevice_2]
    refine kp_ifc ?_ (fun c1 => ?_)
    · skip
      exact kd_ChipMapModel_resetDevice_55 4000 _ _ h
    · skip
      refine kp_ixc (fun c2 => ?_)
      refine kp_ifc ?_ (fun c3 => ?_)
      · skip
        exact kd_ChipMapModel_resetDevice_32 ih _ _ _ _ (c2) h
      · skip
        refine kp_ixc (fun c4 => ?_)
        exact kd_ChipMapModel_resetDevice_32 ih _ _ _ _ (c4) h
theorem kd_ChipMapModel_resetDevice {A : Mm} (M : Mm) (h : kD A M) : kp (kD A) (q_ChipMapModel_resetDevice M) := by
  unfold q_ChipMapModel_resetDevice
  exact kd_ChipMapModel_resetDevice_2 4000 _ _ h
theorem kd_ChipMapModel_isIn {A : Mm} (M : Mm) (a1 : Int32) (a2 : Int32) (h : kD A M) : kp (kD A) (q_ChipMapModel_isIn M a1 a2) := by
  unfold q_ChipMapModel_isIn
  refine kp_ixc (fun c1 => ?_)
  refine kp_ifc ?_ (fun c2 => ?_)
  · skip
    exact kp_some h
  · skip
    refine kp_ixc (fun c3 => ?_)
    refine kp_ifc ?_ (fun c4 => ?_)
    · skip
      exact kp_some h
    · skip
      exact kp_some h
theorem kd_ChipMapModel_part {A : Mm} (M : Mm) (a1 : Int32) (a2 : Int32) (h : kD A M) : kp (kD A) (q_ChipMapModel_part M a1 a2) := by
  unfold q_ChipMapModel_part
  refine kp_ixc (fun c1 => ?_)
  refine kp_ixc (fun c2 => ?_)
  exact kp_some h
theorem kd_ChipMapModel_isStored {A : Mm} (M : Mm) (a1 : Int32) (h : kD A M) : kp (kD A) (q_ChipMapModel_isStored M a1) := by
  unfold q_ChipMapModel_isStored
  refine kp_ixc (fun c1 => ?_)
  refine kp_ifc ?_ (fun c2 => ?_)
  · skip
    exact kp_some h
  · skip
    refine kp_ixc (fun c3 => ?_)
    refine kp_ifc ?_ (fun c4 => ?_)
    · skip
      exact kp_some h
    · skip
      exact kp_some h
theorem kd_ChipMapModel_isWritten {A : Mm} (M : Mm) (a1 : Int32) (a2 : Int32) (a3 : Int32) (h : kD A M) : kp (kD A) (q_ChipMapModel_isWritten M a1 a2 a3) := by
  unfold q_ChipMapModel_isWritten
  refine kp_cal (kd_ChipMapModel_isIn _ _ _ h) (fun m1 r2 h3 => ?_)
  refine kp_ifc ?_ (fun c4 => ?_)
  · skip
    exact kp_some h3
  · skip
    refine kp_ixc (fun c5 => ?_)
    refine kp_ifc ?_ (fun c6 => ?_)
    · skip
      exact kp_some h3
    · skip
      refine kp_ixc (fun c7 => ?_)
      refine kp_ifc ?_ (fun c8 => ?_)
      · skip
        exact kp_some h3
      · skip
        refine kp_cal (kd_ChipMapModel_part _ _ _ h3) (fun m9 r10 h11 => ?_)
        refine kp_cal (kd_ChipMapModel_isStored _ _ h11) (fun m12 r13 h14 => ?_)
        refine kp_ifc ?_ (fun c15 => ?_)
        · skip
          refine kp_ifc ?_ (fun c16 => ?_)
          · skip
            exact kp_some h14
          · skip
            exact kp_some h14
        · skip
          refine kp_ixc (fun c17 => ?_)
          refine kp_ifc ?_ (fun c18 => ?_)
          · skip
            exact kp_some h14
          · skip
            exact kp_some h14
theorem kd_ChipMapModel_breaks {A : Mm} (M : Mm) (a1 : Int32) (a2 : Int32) (a3 : Int32) (h : kD A M) : kp (kD A) (q_ChipMapModel_breaks M a1 a2 a3) := by
  unfold q_ChipMapModel_breaks
  refine kp_ixc (fun c1 => ?_)
  refine kp_cal (kd_ChipMapModel_isWritten _ _ _ _ h) (fun m2 r3 h4 => ?_)
  refine kp_ixc (fun c5 => ?_)
  refine kp_cal (kd_ChipMapModel_isWritten _ _ _ _ h4) (fun m6 r7 h8 => ?_)
  refine kp_ixc (fun c9 => ?_)
  refine kp_ifc ?_ (fun c10 => ?_)
  · skip
    refine kp_ifc ?_ (fun c11 => ?_)
    · skip
      exact kp_some h8
    · skip
      refine kp_ixc (fun c12 => ?_)
      refine kp_ifc ?_ (fun c13 => ?_)
      · skip
        exact kp_some h8
      · skip
        exact kp_some h8
  · skip
    refine kp_ixc (fun c14 => ?_)
    refine kp_ifc ?_ (fun c15 => ?_)
    · skip
      refine kp_ifc ?_ (fun c16 => ?_)
      · skip
        exact kp_some h8
      · skip
        refine kp_ixc (fun c17 => ?_)
        refine kp_ixc (fun c18 => ?_)
        refine kp_ixc (fun c19 => ?_)
        refine kp_ifc ?_ (fun c20 => ?_)
        · skip
          exact kp_some h8
        · skip
          exact kp_some h8
    · skip
      refine kp_ifc ?_ (fun c21 => ?_)
      · skip
        exact kp_some h8
      · skip
        refine kp_ixc (fun c22 => ?_)
        refine kp_ifc ?_ (fun c23 => ?_)
        · skip
          exact kp_some h8
        · skip
          exact kp_some h8
theorem kd_ChipMapModel_firstBroken_2 {A : Mm} : ∀ (n' : Nat) (M : Mm) (v1 : Int32) (v2 : Int32) (v3 : Int32), kD A M → kp (kD A) (q_ChipMapModel_firstBroken_2 n' M v1 v2 v3) := by
  intro n'
  induction n' with
  | zero =>
    intro M v1 v2 v3 h
    rw [q_ChipMapModel_firstBroken_2]
    exact kp_none
  | succ n' ih =>
    intro M v1 v2 v3 h
    rw [q_ChipMapModel_firstBroken_2]
    refine kp_ifc ?_ (fun c1 => ?_)
    · skip
      exact kp_some h
    · skip
      refine kp_cal (kd_ChipMapModel_breaks _ _ _ _ h) (fun m2 r3 h4 => ?_)
      refine kp_ifc ?_ (fun c5 => ?_)
      · skip
        exact ih _ _ _ _ h4
      · skip
        exact kp_some h4
theorem kd_ChipMapModel_firstBroken {A : Mm} (M : Mm) (a1 : Int32) (a2 : Int32) (h : kD A M) : kp (kD A) (q_ChipMapModel_firstBroken M a1 a2) := by
  unfold q_ChipMapModel_firstBroken
  exact kd_ChipMapModel_firstBroken_2 4000 _ _ _ _ h
theorem kd_ChipMapModel_trace {A : Mm} (M : Mm) (a1 : Int32) (a2 : Int32) (a3 : Int32) (h : kD A M) : kp (kD A) (q_ChipMapModel_trace M a1 a2 a3) := by
  unfold q_ChipMapModel_trace
  rw [if_neg h.2.2.2.2.1]
  exact kp_some h
theorem kd_ChipMapModel_write_255 {A : Mm} {kf136 : Mm → Int32 → Int32 → Int32 → Rs} (hk136 : ∀ (M : Mm) (b1 : Int32) (b2 : Int32) (b3 : Int32), kD A M → kp (kD A) (kf136 M b1 b2 b3)) (M : Mm) (v1 : Int32) (v2 : Int32) (v3 : Int32) (h : kD A M) : kp (kD A) (q_ChipMapModel_write_255 kf136 M v1 v2 v3) := by
  unfold q_ChipMapModel_write_255
  exact hk136 _ _ _ _ h
theorem kd_ChipMapModel_write_224 {A : Mm} {kf136 : Mm → Int32 → Int32 → Int32 → Rs} (hk136 : ∀ (M : Mm) (b1 : Int32) (b2 : Int32) (b3 : Int32), kD A M → kp (kD A) (kf136 M b1 b2 b3)) (M : Mm) (v1 : Int32) (v2 : Int32) (v3 : Int32) (v4 : Int32) (h : kD A M) : kp (kD A) (q_ChipMapModel_write_224 kf136 M v1 v2 v3 v4) := by
  unfold q_ChipMapModel_write_224
  refine kp_ixc (fun c1 => ?_)
  refine kp_ifc ?_ (fun c2 => ?_)
  · skip
    refine kp_ifc ?_ (fun c3 => ?_)
    · skip
      exact kd_ChipMapModel_write_255 hk136 _ _ _ _ h
    · skip
      refine kp_ixc (fun c4 => ?_)
      refine kp_st (kD.s33 h (c1)) (fun m5 h6 => ?_)
      refine kp_ixc (fun c7 => ?_)
      refine kp_st (kD.st h6 (by decide)) (fun m8 h9 => ?_)
      exact kd_ChipMapModel_write_255 hk136 _ _ _ _ h9
  · skip
    exact kd_ChipMapModel_write_255 hk136 _ _ _ _ h
theorem kd_ChipMapModel_write_202 {A : Mm} {kf136 : Mm → Int32 → Int32 → Int32 → Rs} (hk136 : ∀ (M : Mm) (b1 : Int32) (b2 : Int32) (b3 : Int32), kD A M → kp (kD A) (kf136 M b1 b2 b3)) (M : Mm) (v1 : Int32) (v2 : Int32) (v3 : Int32) (v4 : Int32) (h : kD A M) : kp (kD A) (q_ChipMapModel_write_202 kf136 M v1 v2 v3 v4) := by
  unfold q_ChipMapModel_write_202
  refine kp_ixc (fun c1 => ?_)
  refine kp_ifc ?_ (fun c2 => ?_)
  · skip
    refine kp_ixc (fun c3 => ?_)
    refine kp_ixc (fun c4 => ?_)
    refine kp_st (kD.s33 h (c1)) (fun m5 h6 => ?_)
    exact kd_ChipMapModel_write_224 hk136 _ _ _ _ _ h6
  · skip
    exact kd_ChipMapModel_write_224 hk136 _ _ _ _ _ h
theorem kd_ChipMapModel_write_178 {A : Mm} {kf136 : Mm → Int32 → Int32 → Int32 → Rs} (hk136 : ∀ (M : Mm) (b1 : Int32) (b2 : Int32) (b3 : Int32), kD A M → kp (kD A) (kf136 M b1 b2 b3)) (M : Mm) (v1 : Int32) (v2 : Int32) (v3 : Int32) (v4 : Int32) (h : kD A M) : kp (kD A) (q_ChipMapModel_write_178 kf136 M v1 v2 v3 v4) := by
  unfold q_ChipMapModel_write_178
  refine kp_ixc (fun c1 => ?_)
  refine kp_ifc ?_ (fun c2 => ?_)
  · skip
    refine kp_ixc (fun c3 => ?_)
    refine kp_ixc (fun c4 => ?_)
    refine kp_st (kD.s33 h (c1)) (fun m5 h6 => ?_)
    exact kd_ChipMapModel_write_202 hk136 _ _ _ _ _ h6
  · skip
    exact kd_ChipMapModel_write_202 hk136 _ _ _ _ _ h
theorem kd_ChipMapModel_write_136 {A : Mm} : ∀ (n' : Nat) (M : Mm) (v1 : Int32) (v2 : Int32) (v3 : Int32), kD A M → kp (kD A) (q_ChipMapModel_write_136 n' M v1 v2 v3) := by
  intro n'
  induction n' with
  | zero =>
    intro M v1 v2 v3 h
    rw [q_ChipMapModel_write_136]
    exact kp_none
  | succ n' ih =>
    intro M v1 v2 v3 h
    rw [q_ChipMapModel_write_136]
    refine kp_ifc ?_ (fun c1 => ?_)
    · skip
      refine kp_cal (kd_ChipMapModel_trace _ _ _ _ h) (fun m2 r3 h4 => ?_)
      exact kp_some h4
    · skip
      refine kp_cal (kd_ChipMapModel_isIn _ _ _ h) (fun m5 r6 h7 => ?_)
      refine kp_ifc ?_ (fun c8 => ?_)
      · skip
        exact kd_ChipMapModel_write_255 ih _ _ _ _ h7
      · skip
        refine kp_cal (kd_ChipMapModel_part _ _ _ h7) (fun m9 r10 h11 => ?_)
        refine kp_cal (kd_ChipMapModel_isStored _ _ h11) (fun m12 r13 h14 => ?_)
        refine kp_ifc ?_ (fun c15 => ?_)
        · skip
          exact kd_ChipMapModel_write_178 ih _ _ _ _ _ h14
        · skip
          refine kp_ixc (fun c16 => ?_)
          refine kp_st (kD.s33 h14 ((lt_26 c1))) (fun m17 h18 => ?_)
          exact kd_ChipMapModel_write_178 ih _ _ _ _ _ h18
theorem kd_ChipMapModel_write_128 {A : Mm} {kf2 : Mm → Int32 → Int32 → Int32 → Rs} (hk2 : ∀ (M : Mm) (b1 : Int32) (b2 : Int32) (b3 : Int32), kD A M → kp (kD A) (kf2 M b1 b2 b3)) (M : Mm) (v1 : Int32) (v2 : Int32) (v3 : Int32) (h : kD A M) : kp (kD A) (q_ChipMapModel_write_128 kf2 M v1 v2 v3) := by
  unfold q_ChipMapModel_write_128
  exact hk2 _ _ _ _ h
theorem kd_ChipMapModel_write_127 {A : Mm} {kf2 : Mm → Int32 → Int32 → Int32 → Rs} (hk2 : ∀ (M : Mm) (b1 : Int32) (b2 : Int32) (b3 : Int32), kD A M → kp (kD A) (kf2 M b1 b2 b3)) (M : Mm) (v1 : Int32) (v2 : Int32) (v3 : Int32) (t0 : Int32) (t1 : Int32) (hb : t1.toNatClampNeg < 12) (h : kD A M) : kp (kD A) (q_ChipMapModel_write_127 kf2 M v1 v2 v3 t0 t1) := by
  unfold q_ChipMapModel_write_127
  refine kp_ixc (fun c1 => ?_)
  refine kp_st (kD.s36 h (hb)) (fun m2 h3 => ?_)
  exact kd_ChipMapModel_write_128 hk2 _ _ _ _ h3
theorem kd_ChipMapModel_write_126 {A : Mm} {kf2 : Mm → Int32 → Int32 → Int32 → Rs} (hk2 : ∀ (M : Mm) (b1 : Int32) (b2 : Int32) (b3 : Int32), kD A M → kp (kD A) (kf2 M b1 b2 b3)) (M : Mm) (v1 : Int32) (v2 : Int32) (v3 : Int32) (t0 : Int32) (hb : t0.toNatClampNeg < 12) (h : kD A M) : kp (kD A) (q_ChipMapModel_write_126 kf2 M v1 v2 v3 t0) := by
  unfold q_ChipMapModel_write_126
  exact kd_ChipMapModel_write_127 hk2 _ _ _ _ _ _ (hb) h
theorem kd_ChipMapModel_write_74 {A : Mm} {kf2 : Mm → Int32 → Int32 → Int32 → Rs} (hk2 : ∀ (M : Mm) (b1 : Int32) (b2 : Int32) (b3 : Int32), kD A M → kp (kD A) (kf2 M b1 b2 b3)) (M : Mm) (v1 : Int32) (v2 : Int32) (v3 : Int32) (v4 : Int32) (v5 : Int32) (h : kD A M) : kp (kD A) (q_ChipMapModel_write_74 kf2 M v1 v2 v3 v4 v5) := by
  unfold q_ChipMapModel_write_74
  refine kp_ixc (fun c1 => ?_)
  refine kp_ifc ?_ (fun c2 => ?_)
  · skip
    refine kp_ifc ?_ (fun c3 => ?_)
    · skip
      refine kp_ixc (fun c4 => ?_)
      refine kp_ifc ?_ (fun c5 => ?_)
      · skip
        exact kd_ChipMapModel_write_126 hk2 _ _ _ _ _ (c1) h
      · skip
        refine kp_ifc ?_ (fun c6 => ?_)
        · skip
          exact kd_ChipMapModel_write_127 hk2 _ _ _ _ _ _ (c1) h
        · skip
          exact kd_ChipMapModel_write_126 hk2 _ _ _ _ _ (c1) h
    · skip
      refine kp_ifc ?_ (fun c7 => ?_)
      · skip
        exact kd_ChipMapModel_write_127 hk2 _ _ _ _ _ _ (c1) h
      · skip
        exact kd_ChipMapModel_write_127 hk2 _ _ _ _ _ _ (c1) h
  · skip
    exact kd_ChipMapModel_write_128 hk2 _ _ _ _ h
theorem kd_ChipMapModel_write_73 {A : Mm} {kf2 : Mm → Int32 → Int32 → Int32 → Rs} (hk2 : ∀ (M : Mm) (b1 : Int32) (b2 : Int32) (b3 : Int32), kD A M → kp (kD A) (kf2 M b1 b2 b3)) (M : Mm) (v1 : Int32) (v2 : Int32) (v3 : Int32) (v4 : Int32) (v5 : Int32) (t0 : Int32) (t1 : Int32) (hb : t1.toNatClampNeg < 12) (h : kD A M) : kp (kD A) (q_ChipMapModel_write_73 kf2 M v1 v2 v3 v4 v5 t0 t1) := by
  unfold q_ChipMapModel_write_73
  refine kp_ixc (fun c1 => ?_)
  refine kp_st (kD.s36 h (hb)) (fun m2 h3 => ?_)
  exact kd_ChipMapModel_write_74 hk2 _ _ _ _ _ _ h3
theorem kd_ChipMapModel_write_68 {A : Mm} {kf2 : Mm → Int32 → Int32 → Int32 → Rs} (hk2 : ∀ (M : Mm) (b1 : Int32) (b2 : Int32) (b3 : Int32), kD A M → kp (kD A) (kf2 M b1 b2 b3)) (M : Mm) (v1 : Int32) (v2 : Int32) (v3 : Int32) (v4 : Int32) (v5 : Int32) (t0 : Int32) (hb : t0.toNatClampNeg < 12) (h : kD A M) : kp (kD A) (q_ChipMapModel_write_68 kf2 M v1 v2 v3 v4 v5 t0) := by
  unfold q_ChipMapModel_write_68
  exact kd_ChipMapModel_write_73 hk2 _ _ _ _ _ _ _ _ (hb) h
theorem kd_ChipMapModel_write_2 {A : Mm} : ∀ (n' : Nat) (M : Mm) (v1 : Int32) (v2 : Int32) (v3 : Int32), kD A M → kp (kD A) (q_ChipMapModel_write_2 n' M v1 v2 v3) := by
  intro n'
  induction n' with
  | zero =>
    intro M v1 v2 v3 h
    rw [q_ChipMapModel_write_2]
    exact kp_none
  | succ n' ih =>
    intro M v1 v2 v3 h
    rw [q_ChipMapModel_write_2]
    refine kp_ifc ?_ (fun c1 => ?_)
    · skip
      exact kd_ChipMapModel_write_136 4000 _ _ _ _ h
    · skip
      refine kp_ixc (fun c2 => ?_)
      refine kp_cal (kd_ChipMapModel_isWritten _ _ _ _ h) (fun m3 r4 h5 => ?_)
      refine kp_ixc (fun c6 => ?_)
      refine kp_cal (kd_ChipMapModel_isWritten _ _ _ _ h5) (fun m7 r8 h9 => ?_)
      refine kp_ixc (fun c10 => ?_)
      refine kp_ifc ?_ (fun c11 => ?_)
      · skip
        refine kp_ixc (fun c12 => ?_)
        refine kp_ifc ?_ (fun c13 => ?_)
        · skip
          refine kp_ifc ?_ (fun c14 => ?_)
          · skip
            exact kd_ChipMapModel_write_73 ih _ _ _ _ _ _ _ _ (c10) h9
          · skip
            exact kd_ChipMapModel_write_68 ih _ _ _ _ _ _ _ (c10) h9
        · skip
          exact kd_ChipMapModel_write_68 ih _ _ _ _ _ _ _ (c10) h9
      · skip
        exact kd_ChipMapModel_write_74 ih _ _ _ _ _ _ h9
theorem kd_ChipMapModel_write {A : Mm} (M : Mm) (a1 : Int32) (a2 : Int32) (h : kD A M) : kp (kD A) (q_ChipMapModel_write M a1 a2) := by
  unfold q_ChipMapModel_write
  exact kd_ChipMapModel_write_2 4000 _ _ _ _ h
theorem kd_ChipMapModel_read_119 {A : Mm} {kf4 : Mm → Int32 → Int32 → Int32 → Rs} (hk4 : ∀ (M : Mm) (b1 : Int32) (b2 : Int32) (b3 : Int32), kD A M → kp (kD A) (kf4 M b1 b2 b3)) (M : Mm) (v1 : Int32) (v2 : Int32) (v3 : Int32) (h : kD A M) : kp (kD A) (q_ChipMapModel_read_119 kf4 M v1 v2 v3) := by
  unfold q_ChipMapModel_read_119
  exact hk4 _ _ _ _ h
theorem kd_ChipMapModel_read_82 {A : Mm} {kf4 : Mm → Int32 → Int32 → Int32 → Rs} (hk4 : ∀ (M : Mm) (b1 : Int32) (b2 : Int32) (b3 : Int32), kD A M → kp (kD A) (kf4 M b1 b2 b3)) (M : Mm) (v1 : Int32) (v2 : Int32) (v3 : Int32) (h : kD A M) : kp (kD A) (q_ChipMapModel_read_82 kf4 M v1 v2 v3) := by
  unfold q_ChipMapModel_read_82
  refine kp_ixc (fun c1 => ?_)
  refine kp_ifc ?_ (fun c2 => ?_)
  · skip
    refine kp_ixc (fun c3 => ?_)
    refine kp_ixc (fun c4 => ?_)
    refine kp_st (kD.st h (by decide)) (fun m5 h6 => ?_)
    refine kp_ixc (fun c7 => ?_)
    refine kp_ifc ?_ (fun c8 => ?_)
    · skip
      exact kd_ChipMapModel_read_119 hk4 _ _ _ _ h6
    · skip
      refine kp_ixc (fun c9 => ?_)
      refine kp_st (kD.s33 h6 (c1)) (fun m10 h11 => ?_)
      exact kd_ChipMapModel_read_119 hk4 _ _ _ _ h11
  · skip
    exact kd_ChipMapModel_read_119 hk4 _ _ _ _ h
theorem kd_ChipMapModel_read_4 {A : Mm} : ∀ (n' : Nat) (M : Mm) (v1 : Int32) (v2 : Int32) (v3 : Int32), kD A M → kp (kD A) (q_ChipMapModel_read_4 n' M v1 v2 v3) := by
  intro n'
  induction n' with
  | zero =>
    intro M v1 v2 v3 h
    rw [q_ChipMapModel_read_4]
    exact kp_none
  | succ n' ih =>
    intro M v1 v2 v3 h
    rw [q_ChipMapModel_read_4]
    refine kp_ifc ?_ (fun c1 => ?_)
    · skip
      refine kp_cal (kd_ChipMapModel_trace _ _ _ _ h) (fun m2 r3 h4 => ?_)
      exact kp_some h4
    · skip
      refine kp_cal (kd_ChipMapModel_isIn _ _ _ h) (fun m5 r6 h7 => ?_)
      refine kp_ifc ?_ (fun c8 => ?_)
      · skip
        exact kd_ChipMapModel_read_119 ih _ _ _ _ h7
      · skip
        refine kp_ixc (fun c9 => ?_)
        refine kp_ifc ?_ (fun c10 => ?_)
        · skip
          exact kd_ChipMapModel_read_119 ih _ _ _ _ h7
        · skip
          refine kp_ixc (fun c11 => ?_)
          refine kp_ixc (fun c12 => ?_)
          refine kp_lv (fun x13 => ?_)
          refine kp_ixc (fun c14 => ?_)
          refine kp_ifc ?_ (fun c15 => ?_)
          · skip
            refine kp_ixc (fun c16 => ?_)
            refine kp_ixc (fun c17 => ?_)
            refine kp_ixc (fun c18 => ?_)
            refine kp_st (kD.st h7 (by decide)) (fun m19 h20 => ?_)
            refine kp_ixc (fun c21 => ?_)
            refine kp_st (kD.s33 h20 (c14)) (fun m22 h23 => ?_)
            exact kd_ChipMapModel_read_82 ih _ _ _ _ h23
          · skip
            exact kd_ChipMapModel_read_82 ih _ _ _ _ h7
theorem kd_ChipMapModel_read {A : Mm} (M : Mm) (a1 : Int32) (h : kD A M) : kp (kD A) (q_ChipMapModel_read M a1) := by
  unfold q_ChipMapModel_read
  exact kd_ChipMapModel_read_4 4000 _ _ _ _ h
theorem kd_ChipMapModel_isThere {A : Mm} (M : Mm) (a1 : Int32) (h : kD A M) : kp (kD A) (q_ChipMapModel_isThere M a1) := by
  unfold q_ChipMapModel_isThere
  refine kp_ixc (fun c1 => ?_)
  refine kp_ifc ?_ (fun c2 => ?_)
  · skip
    exact kp_some h
  · skip
    refine kp_ixc (fun c3 => ?_)
    refine kp_ixc (fun c4 => ?_)
    refine kp_ixc (fun c5 => ?_)
    refine kp_ifc ?_ (fun c6 => ?_)
    · skip
      exact kp_some h
    · skip
      exact kp_some h
theorem kd_ChipMapModel_still_45 {A : Mm} {kf4 : Mm → Int32 → Int32 → Int32 → Rs} (hk4 : ∀ (M : Mm) (b1 : Int32) (b2 : Int32) (b3 : Int32), kD A M → kp (kD A) (kf4 M b1 b2 b3)) (M : Mm) (v1 : Int32) (v3 : Int32) (t0 : Int32) (t1 : Int32) (h : kD A M) : kp (kD A) (q_ChipMapModel_still_45 kf4 M v1 v3 t0 t1) := by
  unfold q_ChipMapModel_still_45
  refine kp_lv (fun x1 => ?_)
  exact hk4 _ _ _ _ h
theorem kd_ChipMapModel_still_44 {A : Mm} {kf4 : Mm → Int32 → Int32 → Int32 → Rs} (hk4 : ∀ (M : Mm) (b1 : Int32) (b2 : Int32) (b3 : Int32), kD A M → kp (kD A) (kf4 M b1 b2 b3)) (M : Mm) (v1 : Int32) (v3 : Int32) (t0 : Int32) (h : kD A M) : kp (kD A) (q_ChipMapModel_still_44 kf4 M v1 v3 t0) := by
  unfold q_ChipMapModel_still_44
  exact kd_ChipMapModel_still_45 hk4 _ _ _ _ _ h
theorem kd_ChipMapModel_still_4 {A : Mm} : ∀ (n' : Nat) (M : Mm) (v1 : Int32) (v2 : Int32) (v3 : Int32), kD A M → kp (kD A) (q_ChipMapModel_still_4 n' M v1 v2 v3) := by
  intro n'
  induction n' with
  | zero =>
    intro M v1 v2 v3 h
    rw [q_ChipMapModel_still_4]
    exact kp_none
  | succ n' ih =>
    intro M v1 v2 v3 h
    rw [q_ChipMapModel_still_4]
    refine kp_ifc ?_ (fun c1 => ?_)
    · skip
      exact kp_some h
    · skip
      refine kp_cal (kd_ChipMapModel_isIn _ _ _ h) (fun m2 r3 h4 => ?_)
      refine kp_ifc ?_ (fun c5 => ?_)
      · skip
        exact kd_ChipMapModel_still_44 ih _ _ _ _ h4
      · skip
        refine kp_cal (kd_ChipMapModel_isStored _ _ h4) (fun m6 r7 h8 => ?_)
        refine kp_ifc ?_ (fun c9 => ?_)
        · skip
          exact kd_ChipMapModel_still_44 ih _ _ _ _ h8
        · skip
          refine kp_ixc (fun c10 => ?_)
          refine kp_ixc (fun c11 => ?_)
          exact kd_ChipMapModel_still_45 ih _ _ _ _ _ h8
theorem kd_ChipMapModel_still {A : Mm} (M : Mm) (a1 : Int32) (h : kD A M) : kp (kD A) (q_ChipMapModel_still M a1) := by
  unfold q_ChipMapModel_still
  exact kd_ChipMapModel_still_4 4000 _ _ _ _ h
theorem kd_ChipMapModel_with {A : Mm} (M : Mm) (a1 : Int32) (a2 : Int32) (a3 : Int32) (h : kD A M) : kp (kD A) (q_ChipMapModel_with M a1 a2 a3) := by
  unfold q_ChipMapModel_with
  refine kp_ixc (fun c1 => ?_)
  refine kp_ixc (fun c2 => ?_)
  refine kp_ixc (fun c3 => ?_)
  exact kp_some h
theorem kd_ChipMapModel_operate {A : Mm} (M : Mm) (a1 : Int32) (a2 : Int32) (h : kD A M) : kp (kD A) (q_ChipMapModel_operate M a1 a2) := by
  unfold q_ChipMapModel_operate
  refine kp_ifc ?_ (fun c1 => ?_)
  · skip
    refine kp_cal (kd_ChipMapModel_firstBroken _ _ _ h) (fun m2 r3 h4 => ?_)
    refine kp_ifc ?_ (fun c5 => ?_)
    · skip
      refine kp_cal (kd_ChipMapModel_write _ _ _ h4) (fun m6 r7 h8 => ?_)
      exact kp_some h8
    · skip
      refine kp_st (kD.s0 h4 (by decide)) (fun m9 h10 => ?_)
      refine kp_st (kD.s0 h10 (by decide)) (fun m11 h12 => ?_)
      exact kp_some h12
  · skip
    exact kp_some h
theorem kd_ChipMapModel_reach {A : Mm} (M : Mm) (a1 : Int32) (h : kD A M) : kp (kD A) (q_ChipMapModel_reach M a1) := by
  unfold q_ChipMapModel_reach
  refine kp_cal (kd_ChipMapModel_isThere _ _ h) (fun m1 r2 h3 => ?_)
  refine kp_ifc ?_ (fun c4 => ?_)
  · skip
    refine kp_ixc (fun c5 => ?_)
    refine kp_lv (fun x6 => ?_)
    refine kp_ixc (fun c7 => ?_)
    refine kp_ixc (fun c8 => ?_)
    refine kp_cal (kd_ChipMapModel_still _ _ h3) (fun m9 r10 h11 => ?_)
    refine kp_ixc (fun c12 => ?_)
    refine kp_cal (kd_ChipMapModel_with _ _ _ _ h11) (fun m13 r14 h15 => ?_)
    refine kp_cal (kd_ChipMapModel_operate _ _ _ h15) (fun m16 r17 h18 => ?_)
    exact kp_some h18
  · skip
    exact kp_some h3
theorem kd_ChipMapModel_doPut_19 {A : Mm} (M : Mm) (v1 : Int32) (v2 : Int32) (h : kD A M) : kp (kD A) (q_ChipMapModel_doPut_19 M v1 v2) := by
  unfold q_ChipMapModel_doPut_19
  refine kp_ixc (fun c1 => ?_)
  refine kp_cal (kd_ChipMapModel_reach _ _ h) (fun m2 r3 h4 => ?_)
  refine kp_ixc (fun c5 => ?_)
  refine kp_ixc (fun c6 => ?_)
  refine kp_cal (kd_ChipMapModel_still _ _ h4) (fun m7 r8 h9 => ?_)
  refine kp_cal (kd_ChipMapModel_with _ _ _ _ h9) (fun m10 r11 h12 => ?_)
  refine kp_cal (kd_ChipMapModel_operate _ _ _ h12) (fun m13 r14 h15 => ?_)
  exact kp_some h15
theorem kd_ChipMapModel_doPut {A : Mm} (M : Mm) (a1 : Int32) (a2 : Int32) (h : kD A M) : kp (kD A) (q_ChipMapModel_doPut M a1 a2) := by
  unfold q_ChipMapModel_doPut
  refine kp_cal (kd_ChipMapModel_isStored _ _ h) (fun m1 r2 h3 => ?_)
  refine kp_ifc ?_ (fun c4 => ?_)
  · skip
    exact kd_ChipMapModel_doPut_19 _ _ _ h3
  · skip
    refine kp_ixc (fun c5 => ?_)
    refine kp_ifc ?_ (fun c6 => ?_)
    · skip
      exact kp_some h3
    · skip
      exact kd_ChipMapModel_doPut_19 _ _ _ h3
theorem kd_ChipMapModel_doFetch {A : Mm} (M : Mm) (a1 : Int32) (h : kD A M) : kp (kD A) (q_ChipMapModel_doFetch M a1) := by
  unfold q_ChipMapModel_doFetch
  refine kp_ixc (fun c1 => ?_)
  refine kp_st (kD.s0 h (by decide)) (fun m2 h3 => ?_)
  refine kp_ixc (fun c4 => ?_)
  refine kp_ifc ?_ (fun c5 => ?_)
  · skip
    exact kp_some h3
  · skip
    refine kp_ixc (fun c6 => ?_)
    refine kp_cal (kd_ChipMapModel_reach _ _ h3) (fun m7 r8 h9 => ?_)
    refine kp_ifc ?_ (fun c10 => ?_)
    · skip
      refine kp_ixc (fun c11 => ?_)
      refine kp_st (kD.s0 h9 (by decide)) (fun m12 h13 => ?_)
      refine kp_ixc (fun c14 => ?_)
      refine kp_cal (kd_ChipMapModel_read _ _ h13) (fun m15 r16 h17 => ?_)
      refine kp_ixc (fun c18 => ?_)
      refine kp_ifc ?_ (fun c19 => ?_)
      · skip
        refine kp_ixc (fun c20 => ?_)
        refine kp_st (kD.s0 h17 (by decide)) (fun m21 h22 => ?_)
        refine kp_ixc (fun c23 => ?_)
        refine kp_st (kD.st h22 (by decide)) (fun m24 h25 => ?_)
        exact kp_some h25
      · skip
        exact kp_some h17
    · skip
      exact kp_some h9
theorem kd_ChipMapModel_memoryWord_29 {A : Mm} {kf4 : Mm → Int32 → Int32 → Rs} (hk4 : ∀ (M : Mm) (b1 : Int32) (b2 : Int32), kD A M → kp (kD A) (kf4 M b1 b2)) (M : Mm) (v2 : Int32) (t0 : Int32) (t1 : Int32) (h : kD A M) : kp (kD A) (q_ChipMapModel_memoryWord_29 kf4 M v2 t0 t1) := by
  unfold q_ChipMapModel_memoryWord_29
  refine kp_lv (fun x1 => ?_)
  exact hk4 _ _ _ h
theorem kd_ChipMapModel_memoryWord_4 {A : Mm} : ∀ (n' : Nat) (M : Mm) (v1 : Int32) (v2 : Int32), kD A M → kp (kD A) (q_ChipMapModel_memoryWord_4 n' M v1 v2) := by
  intro n'
  induction n' with
  | zero =>
    intro M v1 v2 h
    rw [q_ChipMapModel_memoryWord_4]
    exact kp_none
  | succ n' ih =>
    intro M v1 v2 h
    rw [q_ChipMapModel_memoryWord_4]
    refine kp_ifc ?_ (fun c1 => ?_)
    · skip
      exact kp_some h
    · skip
      refine kp_ixc (fun c2 => ?_)
      refine kp_ifc ?_ (fun c3 => ?_)
      · skip
        exact kd_ChipMapModel_memoryWord_29 ih _ _ _ _ h
      · skip
        exact kd_ChipMapModel_memoryWord_29 ih _ _ _ _ h
theorem kd_ChipMapModel_memoryWord {A : Mm} (M : Mm) (h : kD A M) : kp (kD A) (q_ChipMapModel_memoryWord M) := by
  unfold q_ChipMapModel_memoryWord
  exact kd_ChipMapModel_memoryWord_4 4000 _ _ _ h
theorem kd_ChipMapModel_isSituation_72 {A : Mm} {kf27 : Mm → Int32 → Int32 → Rs} (hk27 : ∀ (M : Mm) (b1 : Int32) (b2 : Int32), kD A M → kp (kD A) (kf27 M b1 b2)) (M : Mm) (v1 : Int32) (v3 : Int32) (h : kD A M) : kp (kD A) (q_ChipMapModel_isSituation_72 kf27 M v1 v3) := by
  unfold q_ChipMapModel_isSituation_72
  exact hk27 _ _ _ h
theorem kd_ChipMapModel_isSituation_27 {A : Mm} : ∀ (n' : Nat) (M : Mm) (v1 : Int32) (v3 : Int32), kD A M → kp (kD A) (q_ChipMapModel_isSituation_27 n' M v1 v3) := by
  intro n'
  induction n' with
  | zero =>
    intro M v1 v3 h
    rw [q_ChipMapModel_isSituation_27]
    exact kp_none
  | succ n' ih =>
    intro M v1 v3 h
    rw [q_ChipMapModel_isSituation_27]
    refine kp_ifc ?_ (fun c1 => ?_)
    · skip
      exact kp_some h
    · skip
      refine kp_ixc (fun c2 => ?_)
      refine kp_ifc ?_ (fun c3 => ?_)
      · skip
        exact kd_ChipMapModel_isSituation_72 ih _ _ _ h
      · skip
        refine kp_cal (kd_ChipMapModel_isStored _ _ h) (fun m4 r5 h6 => ?_)
        refine kp_ifc ?_ (fun c7 => ?_)
        · skip
          exact kd_ChipMapModel_isSituation_72 ih _ _ _ h6
        · skip
          refine kp_ixc (fun c8 => ?_)
          refine kp_ixc (fun c9 => ?_)
          refine kp_ifc ?_ (fun c10 => ?_)
          · skip
            exact kd_ChipMapModel_isSituation_72 ih _ _ _ h6
          · skip
            exact kp_some h6
theorem kd_ChipMapModel_isSituation {A : Mm} (M : Mm) (a1 : Int32) (a2 : Int32) (h : kD A M) : kp (kD A) (q_ChipMapModel_isSituation M a1 a2) := by
  unfold q_ChipMapModel_isSituation
  refine kp_ixc (fun c1 => ?_)
  refine kp_ifc ?_ (fun c2 => ?_)
  · skip
    refine kp_ixc (fun c3 => ?_)
    refine kp_cal (kd_ChipMapModel_memoryWord _ h) (fun m4 r5 h6 => ?_)
    refine kp_ifc ?_ (fun c7 => ?_)
    · skip
      exact kd_ChipMapModel_isSituation_27 4000 _ _ _ h6
    · skip
      exact kp_some h6
  · skip
    exact kp_some h
theorem kd_ChipMapModel_meet_82 {A : Mm} : ∀ (n' : Nat) (M : Mm) (v3 : Int32), kD A M → kp (kD A) (q_ChipMapModel_meet_82 n' M v3) := by
  intro n'
  induction n' with
  | zero =>
    intro M v3 h
    rw [q_ChipMapModel_meet_82]
    exact kp_none
  | succ n' ih =>
    intro M v3 h
    rw [q_ChipMapModel_meet_82]
    refine kp_ifc ?_ (fun c1 => ?_)
    · skip
      refine kp_st (kD.s0 h (by decide)) (fun m2 h3 => ?_)
      exact kp_some h3
    · skip
      refine kp_ixc (fun c4 => ?_)
      refine kp_ixc (fun c5 => ?_)
      refine kp_st (kD.st h (by decide)) (fun m6 h7 => ?_)
      exact ih _ _ h7
theorem kd_ChipMapModel_meet_17 {A : Mm} : ∀ (n' : Nat) (M : Mm) (v2 : Int32) (v3 : Int32), kD A M → kp (kD A) (q_ChipMapModel_meet_17 n' M v2 v3) := by
  intro n'
  induction n' with
  | zero =>
    intro M v2 v3 h
    rw [q_ChipMapModel_meet_17]
    exact kp_none
  | succ n' ih =>
    intro M v2 v3 h
    rw [q_ChipMapModel_meet_17]
    refine kp_ifc ?_ (fun c1 => ?_)
    · skip
      refine kp_ifc ?_ (fun c2 => ?_)
      · skip
        refine kp_st (kD.s0 h (by decide)) (fun m3 h4 => ?_)
        exact kp_some h4
      · skip
        refine kp_ixc (fun c5 => ?_)
        refine kp_st (kD.st h (by decide)) (fun m6 h7 => ?_)
        refine kp_cal (kd_ChipMapModel_memoryWord _ h7) (fun m8 r9 h10 => ?_)
        refine kp_ixc (fun c11 => ?_)
        refine kp_st (kD.st h10 (by decide)) (fun m12 h13 => ?_)
        exact kd_ChipMapModel_meet_82 4000 _ _ h13
    · skip
      refine kp_cal (kd_ChipMapModel_isSituation _ _ _ h) (fun m14 r15 h16 => ?_)
      refine kp_ifc ?_ (fun c17 => ?_)
      · skip
        exact ih _ _ _ h16
      · skip
        exact kp_some h16
theorem kd_ChipMapModel_meet_14 {A : Mm} (M : Mm) (t0 : Int32) (h : kD A M) : kp (kD A) (q_ChipMapModel_meet_14 M t0) := by
  unfold q_ChipMapModel_meet_14
  exact kd_ChipMapModel_meet_17 4000 _ _ _ h
theorem kd_ChipMapModel_meet {A : Mm} (M : Mm) (a1 : Int32) (h : kD A M) : kp (kD A) (q_ChipMapModel_meet M a1) := by
  unfold q_ChipMapModel_meet
  refine kp_ifc ?_ (fun c1 => ?_)
  · skip
    exact kd_ChipMapModel_meet_14 _ _ h
  · skip
    exact kd_ChipMapModel_meet_14 _ _ h
theorem kd_ChipMapModel_stand_65 {A : Mm} {kf33 : Mm → Int32 → Int32 → Rs} (hk33 : ∀ (M : Mm) (b1 : Int32) (b2 : Int32), kD A M → kp (kD A) (kf33 M b1 b2)) (M : Mm) (v1 : Int32) (v2 : Int32) (t0 : Int32) (t1 : Int32) (hb : t1.toNatClampNeg < 12) (h : kD A M) : kp (kD A) (q_ChipMapModel_stand_65 kf33 M v1 v2 t0 t1) := by
  unfold q_ChipMapModel_stand_65
  refine kp_ixc (fun c1 => ?_)
  refine kp_st (kD.s36 h (hb)) (fun m2 h3 => ?_)
  exact hk33 _ _ _ h3
theorem kd_ChipMapModel_stand_33 {A : Mm} : ∀ (n' : Nat) (M : Mm) (v1 : Int32) (v2 : Int32), kD A M → kp (kD A) (q_ChipMapModel_stand_33 n' M v1 v2) := by
  intro n'
  induction n' with
  | zero =>
    intro M v1 v2 h
    rw [q_ChipMapModel_stand_33]
    exact kp_none
  | succ n' ih =>
    intro M v1 v2 h
    rw [q_ChipMapModel_stand_33]
    refine kp_ifc ?_ (fun c1 => ?_)
    · skip
      exact kp_some h
    · skip
      refine kp_ixc (fun c2 => ?_)
      refine kp_ifc ?_ (fun c3 => ?_)
      · skip
        exact kd_ChipMapModel_stand_65 ih _ _ _ _ _ ((lt_c h.2.2.2.2.2 (by decide) c1)) h
      · skip
        exact kd_ChipMapModel_stand_65 ih _ _ _ _ _ ((lt_c h.2.2.2.2.2 (by decide) c1)) h
theorem kd_ChipMapModel_stand_2 {A : Mm} : ∀ (n' : Nat) (M : Mm) (v1 : Int32) (v2 : Int32), kD A M → kp (kD A) (q_ChipMapModel_stand_2 n' M v1 v2) := by
  intro n'
  induction n' with
  | zero =>
    intro M v1 v2 h
    rw [q_ChipMapModel_stand_2]
    exact kp_none
  | succ n' ih =>
    intro M v1 v2 h
    rw [q_ChipMapModel_stand_2]
    refine kp_ifc ?_ (fun c1 => ?_)
    · skip
      exact kd_ChipMapModel_stand_33 4000 _ _ _ h
    · skip
      refine kp_ixc (fun c2 => ?_)
      refine kp_ixc (fun c3 => ?_)
      refine kp_st (kD.s33 h ((lt_26 c1))) (fun m4 h5 => ?_)
      exact ih _ _ _ h5
theorem kd_ChipMapModel_stand {A : Mm} (M : Mm) (a1 : Int32) (h : kD A M) : kp (kD A) (q_ChipMapModel_stand M a1) := by
  unfold q_ChipMapModel_stand
  exact kd_ChipMapModel_stand_2 4000 _ _ _ h
theorem kd_ChipMapModel_goOn_23 {A : Mm} (M : Mm) (v1 : Int32) (v2 : Int32) (h : kD A M) : kp (kD A) (q_ChipMapModel_goOn_23 M v1 v2) := by
  unfold q_ChipMapModel_goOn_23
  refine kp_cal (kd_ChipMapModel_stand _ _ h) (fun m1 r2 h3 => ?_)
  refine kp_ifc ?_ (fun c4 => ?_)
  · skip
    exact kp_some h3
  · skip
    refine kp_cal (kd_ChipMapModel_meet _ _ h3) (fun m5 r6 h7 => ?_)
    exact kp_some h7
theorem kd_ChipMapModel_goOn_171 {A : Mm} (M : Mm) (v2 : Int32) (h : kD A M) : kp (kD A) (q_ChipMapModel_goOn_171 M v2) := by
  unfold q_ChipMapModel_goOn_171
  refine kp_st (kD.s0 h (by decide)) (fun m1 h2 => ?_)
  refine kp_st (kD.s0 h2 (by decide)) (fun m3 h4 => ?_)
  exact kp_some h4
theorem kd_ChipMapModel_goOn_117 {A : Mm} (M : Mm) (v2 : Int32) (h : kD A M) : kp (kD A) (q_ChipMapModel_goOn_117 M v2) := by
  unfold q_ChipMapModel_goOn_117
  refine kp_ifc ?_ (fun c1 => ?_)
  · skip
    refine kp_cal (kd_ChipMapModel_meet _ _ h) (fun m2 r3 h4 => ?_)
    exact kp_some h4
  · skip
    refine kp_ifc ?_ (fun c5 => ?_)
    · skip
      exact kd_ChipMapModel_goOn_171 _ _ h
    · skip
      refine kp_ifc ?_ (fun c6 => ?_)
      · skip
        exact kd_ChipMapModel_goOn_171 _ _ h
      · skip
        refine kp_ifc ?_ (fun c7 => ?_)
        · skip
          refine kp_ifc ?_ (fun c8 => ?_)
          · skip
            exact kp_some h
          · skip
            exact kd_ChipMapModel_goOn_171 _ _ h
        · skip
          exact kp_some h
theorem kd_ChipMapModel_goOn {A : Mm} (M : Mm) (a1 : Int32) (h : kD A M) : kp (kD A) (q_ChipMapModel_goOn M a1) := by
  unfold q_ChipMapModel_goOn
  refine kp_ixc (fun c1 => ?_)
  refine kp_lv (fun x2 => ?_)
  refine kp_ifc ?_ (fun c3 => ?_)
  · skip
    exact kd_ChipMapModel_goOn_23 _ _ _ h
  · skip
    refine kp_ixc (fun c4 => ?_)
    refine kp_ifc ?_ (fun c5 => ?_)
    · skip
      exact kd_ChipMapModel_goOn_23 _ _ _ h
    · skip
      refine kp_cal (kd_ChipMapModel_stand _ _ h) (fun m6 r7 h8 => ?_)
      refine kp_ixc (fun c9 => ?_)
      refine kp_ifc ?_ (fun c10 => ?_)
      · skip
        refine kp_ixc (fun c11 => ?_)
        refine kp_cal (kd_ChipMapModel_meet _ _ h8) (fun m12 r13 h14 => ?_)
        refine kp_cal (kd_ChipMapModel_meet _ _ h14) (fun m15 r16 h17 => ?_)
        exact kp_some h17
      · skip
        refine kp_st (kD.s0 h8 (by decide)) (fun m18 h19 => ?_)
        refine kp_ixc (fun c20 => ?_)
        refine kp_ifc ?_ (fun c21 => ?_)
        · skip
          refine kp_ixc (fun c22 => ?_)
          refine kp_ixc (fun c23 => ?_)
          refine kp_cal (kd_ChipMapModel_doPut _ _ _ h19) (fun m24 r25 h26 => ?_)
          exact kd_ChipMapModel_goOn_117 _ _ h26
        · skip
          refine kp_ixc (fun c27 => ?_)
          refine kp_cal (kd_ChipMapModel_doFetch _ _ h19) (fun m28 r29 h30 => ?_)
          exact kd_ChipMapModel_goOn_117 _ _ h30
end
section
-- compile() gives the relation; it stays through the calls that tell
theorem LA.c2 {M N M' N' : Mm} (h : LA M N) (hx : ∀ p, 24 ≤ p → p < 50 → M'.1 p = M.1 p) (hy : ∀ p, 20 ≤ p → p ≤ 32 → N'.1 p = N.1 p) (hz : ∀ j, j = 28 ∨ j = 38 → N'.1 0 j = N.1 0 j) : LA M' N' := by
  unfold LA LAf LAd LAk LAg LAu pf
  rw [hx 24 (by decide) (by decide), hx 25 (by decide) (by decide), hx 26 (by decide) (by decide), hx 27 (by decide) (by decide), hx 28 (by decide) (by decide), hx 29 (by decide) (by decide), hx 38 (by decide) (by decide), hx 39 (by decide) (by decide), hx 40 (by decide) (by decide), hx 41 (by decide) (by decide), hx 42 (by decide) (by decide), hx 43 (by decide) (by decide), hx 44 (by decide) (by decide), hx 45 (by decide) (by decide), hx 46 (by decide) (by decide), hx 47 (by decide) (by decide), hy 20 (by decide) (by decide), hy 21 (by decide) (by decide), hy 22 (by decide) (by decide), hy 28 (by decide) (by decide), hy 29 (by decide) (by decide), hy 30 (by decide) (by decide), hy 31 (by decide) (by decide), hy 32 (by decide) (by decide), hz 28 (Or.inl rfl), hz 38 (Or.inr rfl)]
  exact h
theorem MD.c2 {M N M' N' : Mm} {fl : Int32} {wd : Nat → Int32} (h : MD M fl wd N) (hx : ∀ p, 24 ≤ p → p < 50 → M'.1 p = M.1 p) (e33 : N'.1 33 = N.1 33) (e36 : N'.1 36 = N.1 36) : MD M' fl wd N' := by
  unfold MD MV pf
  rw [hx 29 (by decide) (by decide), hx 38 (by decide) (by decide), hx 39 (by decide) (by decide), hx 40 (by decide) (by decide), hx 41 (by decide) (by decide), hx 42 (by decide) (by decide), hx 43 (by decide) (by decide), e33, e36]
  exact h
/-- nothing that the relation speaks of has changed -/
theorem RD.all {M N M' N' : Mm} (h : RD M N) (x : ∀ p, 24 ≤ p → p < 60 ∨ (65 ≤ p ∧ p ≤ 72) → M'.1 p = M.1 p) (y : ∀ p, 20 ≤ p → p ≤ 44 → N'.1 p = N.1 p) (z : ∀ j, 28 ≤ j → j ≤ 59 → N'.1 0 j = N.1 0 j) : RD M' N' := by
  obtain ⟨hl, la, md, e47, e48, e58, jn, sp⟩ := h
  refine ⟨hl.cg (x 38 (by decide) (by omega)) (x 39 (by decide) (by omega)) (x 40 (by decide) (by omega)) (x 41 (by decide) (by omega)) (y 23 (by decide) (by decide)) (y 24 (by decide) (by decide)) (y 25 (by decide) (by decide)) (y 26 (by decide) (by decide)) (y 27 (by decide) (by decide)), la.c2 (fun p h1 h2 => x p h1 (by omega)) (fun p h1 h2 => y p h1 (by omega)) (fun j hj => z j (by omega) (by omega)), ?_, ?_, ?_, ?_, ?_, ?_⟩
  · rw [x 51 (by decide) (by omega), x 52 (by decide) (by omega)]
    exact md.c2 (fun p h1 h2 => x p h1 (by omega)) (y 33 (by decide) (by decide)) (y 36 (by decide) (by decide))
  · rw [x 53 (by decide) (by omega), z 47 (by decide) (by decide)]; exact e47
  · rw [x 50 (by decide) (by omega), z 48 (by decide) (by decide)]; exact e48
  · rw [z 58 (by decide) (by decide)]; exact e58
  · exact jn.cg (x 65 (by decide) (by omega)) (x 67 (by decide) (by omega)) (x 68 (by decide) (by omega)) (z 52 (by decide) (by decide)) (y 40 (by decide) (by decide)) (y 41 (by decide) (by decide))
  · exact sp.cg (x 69 (by decide) (by omega)) (x 70 (by decide) (by omega)) (x 71 (by decide) (by omega)) (x 72 (by decide) (by omega)) (z 59 (by decide) (by decide)) (y 42 (by decide) (by decide)) (y 43 (by decide) (by decide)) (y 44 (by decide) (by decide))
theorem JF.c2 {M M' : Mm} (h : JF M) (x : ∀ p, 24 ≤ p → p < 60 ∨ (65 ≤ p ∧ p ≤ 72) → M'.1 p = M.1 p) : JF M' := by
  unfold JF pf
  rw [x 65 (by decide) (by omega), x 67 (by decide) (by omega), x 68 (by decide) (by omega), x 38 (by decide) (by omega), x 41 (by decide) (by omega)]
  exact h
theorem RD.kN {M N N' : Mm} (h : RD M N) (k : kN N N') : RD M N' := h.all (fun _ _ _ => rfl) (fun p h1 h2 => k.1 p (by omega)) (fun j h1 h2 => k.2 j (by omega))
theorem dR.x {M M' N : Mm} (h : dR M N) (e : ∀ p, p ≠ 23 → M'.1 p = M.1 p) : dR M' N := by
  unfold dR fR gR hS ruR bkR at h ⊢
  simp only [e 1 (by decide), e 2 (by decide), e 3 (by decide), e 4 (by decide), e 5 (by decide), e 6 (by decide), e 7 (by decide), e 8 (by decide), e 9 (by decide), e 10 (by decide), e 11 (by decide), e 12 (by decide), e 13 (by decide), e 14 (by decide), e 15 (by decide), e 16 (by decide), e 17 (by decide), e 18 (by decide), e 19 (by decide), e 20 (by decide)]
  exact h
theorem VD.x {M M' : Mm} (h : VD M) (e : ∀ p, p ≠ 23 → M'.1 p = M.1 p) : VD M' := by
  unfold VD rowV gdR cf at h ⊢
  simp only [e 1 (by decide), e 7 (by decide), e 9 (by decide), e 11 (by decide), e 12 (by decide), e 13 (by decide)]
  exact h
theorem bkV.x {M M' : Mm} {r : Nat} (h : bkV M r) (e : ∀ p, p ≠ 23 → M'.1 p = M.1 p) : bkV M' r := by
  unfold bkV at h ⊢
  simp only [e 1 (by decide), e 4 (by decide), e 7 (by decide), e 10 (by decide)]
  exact h
theorem ruV.x {M M' : Mm} {r : Nat} (h : ruV M r) (e : ∀ p, p ≠ 23 → M'.1 p = M.1 p) : ruV M' r := by
  unfold ruV at h ⊢
  simp only [e 1 (by decide), e 7 (by decide), e 10 (by decide), e 15 (by decide), e 16 (by decide), e 17 (by decide)]
  exact h
/-- what a map that is let through has -/
theorem jd_all {M N : Mm} (h : dR M N) {N' : Mm} (g : jdY N = some (N', 1)) : VD M ∧ (∀ r, r < (M.1 1 0).toNatClampNeg → bkV M r) ∧ ∀ k, k < (M.1 14 0).toNatClampNeg → ruV M k := by
  have e0 : (0 : Int32).toNatClampNeg = 0 := rfl
  have z0 : (0 : Int32).toInt = 0 := rfl
  obtain ⟨-, hr, -, -, -, hu, -⟩ := id h
  unfold jdY at g
  rcases ff_rel h with ⟨x1, y1⟩ | ⟨v, -, -, y1⟩
  rotate_left
  · rw [y1, cal_s, if_pos rfl] at g
    exact absurd (rs_e g).2 (by decide)
  rw [y1, cal_s, if_neg (by decide : ¬ (1 : Int32) = 0)] at g
  rcases bb_rel h with ⟨x2, y2⟩ | ⟨v, -, -, y2⟩
  rotate_left
  · rw [y2, cal_s, if_pos rfl] at g
    exact absurd (rs_e g).2 (by decide)
  rw [y2] at g
  rcases bo_rel h with ⟨x3, y3⟩ | ⟨v, -, -, y3⟩
  rotate_left
  · rw [y3, cal_s, if_pos rfl] at g
    exact absurd (rs_e g).2 (by decide)
  rw [y3, cal_s, if_neg (by decide : ¬ (1 : Int32) = 0)] at g
  rcases br_rel h with ⟨x4, y4⟩ | ⟨v, -, -, y4⟩
  rotate_left
  · rw [y4, cal_s, if_pos rfl] at g
    exact absurd (rs_e g).2 (by decide)
  refine ⟨VD.of h x1, fun r hr' => ?_, fun k hk => ?_⟩
  · unfold q_Judge_badBank at x2
    exact bb_all h (M.1 1 0).toInt.toNat 4000 0 M (by omega) (by decide) x2 r (by rw [e0]; exact Nat.zero_le _) hr'
  · unfold q_Judge_badRule at x4
    exact br_all h (M.1 14 0).toInt.toNat 4000 0 M (by omega) (by decide) x4 k (by rw [e0]; exact Nat.zero_le _) hk
theorem cmp_rd {L : Nat} {K : Int} {M N : Mm} (hx : JX (nI L) K M) (hy : JY (nI L) K N) (rq : RQ M N) (h : RD M N) (hj : JF M) {M' N' : Mm} {b : Int32} (qy : q_ChipMapModel_compile N = some (N', b)) (hc : (q_ChipMap_compile M = some (M', b) ∧ N'.1 0 0 = 0) ∨ (qt_ChipMap_compile M = some (M', 1) ∧ N'.1 0 0 = 1)) : RD M' N' ∧ JF M' := by
  obtain ⟨lfA, e59⟩ := cmp_lay hx hy ⟨rq, h.1, h.2.2.2.2.2.2.2.1⟩ qy hc
  have z0 : (0 : Int32).toInt = 0 := rfl
  obtain ⟨Gx', ex, ix⟩ := hx
  obtain ⟨Gy', ey, iy⟩ := hy
  obtain ⟨M1, r1, q1, i1, hb1, hd1⟩ := w_Reader_readAll ix
  obtain ⟨M3, r3, q3, i3, fj, -⟩ := w_Judge_decide i1 r1 (M1.1 21 3)
  have lx : M.1 21 2 = N.1 0 2 := by rw [ix.LE, ex, iy.LE, ey]
  have lr : 0 ≤ (M.1 21 2).toInt ∧ (M.1 21 2).toInt ≤ 480 := by
    rw [ix.LE]
    exact ix.LR
  have ht : tpR M (n2 N) := ⟨lx, rq.1, lr, ix.tapeC⟩
  have hz : nf (n2 N) := ⟨rfl, rfl⟩
  have kr := kr_Reader_readAll M (kR.rf M) M1 r1 q1
  have kx3 : ∀ p, 24 ≤ p → M3.1 p = M.1 p := fun p hp => (fj p (by omega)).trans (kr p hp)
  have thr : ∀ {N3 : Mm}, q_ChipMapModel_readAll (n2 N) = some (N3, 0) → M3.1 23 1 ≠ 0 → RD M' N' ∧ JF M' := by
    intro N3 e2 hk
    have km := km_ChipMapModel_readAll (n2 N) (kM.rf (n2 N)) N3 0 e2
    rw [cp_0 e2] at qy
    obtain ⟨rfl, rfl⟩ := rs_e qy
    have em : M' = M3 := by
      rcases hc with ⟨-, z⟩ | ⟨z, -⟩
      · exact absurd (show (1 : Int32) = 0 from z) (by decide)
      · unfold qt_ChipMap_compile at z
        rw [q1, cal_s, q3, cal_s, if_neg hk] at z
        exact (rs_e z).1.symm
    rw [em]
    have np : ∀ p, p ≠ 0 → (n6 N3).1 p = N3.1 p := fun p hp => by
      unfold n6 n5
      rw [stI_ne _ _ hp, stI_ne _ _ hp]
    have ns : ∀ j, j ≠ 0 → j ≠ 2 → (n6 N3).1 0 j = N3.1 0 j := fun j h1 h2 => by
      unfold n6 n5
      rw [stI_at, updN h1, stI_at, updN h2]
    have mp : ∀ p, p ≠ 0 → (n2 N).1 p = N.1 p := fun p hp => by
      unfold n2
      rw [stI_ne _ _ hp, stI_ne _ _ hp]
    have ms : ∀ j, j ≠ 4 → j ≠ 5 → (n2 N).1 0 j = N.1 0 j := fun j h1 h2 => by
      unfold n2
      rw [stI_at, updN h2, stI_at, updN h1]
    refine ⟨h.all (fun p h1 _ => kx3 p h1) (fun p h1 h2 => ?_) (fun j h1 h2 => ?_), hj.c2 (fun p h1 _ => kx3 p h1)⟩
    · rw [np p (by omega), km.1 p h1, mp p (by omega)]
    · rw [ns j (by omega) (by omega), km.2 j (by omega) (by omega), ms j (by omega) (by omega)]
  rcases all_rel ht hz with ⟨M1', N3, e1, e2, e3, e4⟩ | ⟨M1', N3, e1, e2, e3, e4⟩
  · rw [q1] at e1
    obtain ⟨rfl, rfl⟩ := rs_e e1
    obtain ⟨M3', d1, d2, d3, d4⟩ := dec_0 M1 (M1.1 21 3)
    rw [q3] at d1
    obtain ⟨rfl, rfl⟩ := rs_e d1
    exact thr e2 (by rw [d2]; decide)
  · rw [q1] at e1
    obtain ⟨rfl, rfl⟩ := rs_e e1
    obtain ⟨M3', N4, r, s, d1, d2, f1, f2, f3, f4⟩ := dec_r e3 e4 (M1.1 21 3)
    rw [q3] at d1
    obtain ⟨rfl, rfl⟩ := rs_e d1
    rw [d2] at e2
    rcases f3 with ⟨rfl, k0, eN⟩ | ⟨rfl, k0, -⟩
    rotate_left
    · exact thr e2 k0
    obtain ⟨vd1, bk1, ru1⟩ := jd_all e3 d2
    subst eN
    have dr3 : dR M3 N4 := e3.x f4
    have vd3 : VD M3 := vd1.x f4
    have bk3 : ∀ r, r < (M3.1 1 0).toNatClampNeg → bkV M3 r := fun r hr => by
      rw [f4 1 (by decide)] at hr
      exact (bk1 r hr).x f4
    have ru3 : ∀ k, k < (M3.1 14 0).toNatClampNeg → ruV M3 k := fun k hk => by
      rw [f4 14 (by decide)] at hk
      exact (ru1 k hk).x f4
    have ds3 : DS M3 := DS.d dr3
    have dr : Dr M3 := Dr.mk' i3 ds3
    have km := km_ChipMapModel_readAll (n2 N) (kM.rf (n2 N)) N4 1 e2
    have qy' := qy
    rw [cp_1 e2] at qy'
    have kw0 := (kw_ChipMapModel_compile_50 4000 _ _ (kW.rf (n8 N4)) N' b qy').2 0 (by decide)
    have kg := kg_ChipMapModel_compile_50 4000 _ _ (show kG (n8 N4) (n8 N4) from rfl) N' b qy'
    obtain ⟨dq1, dq2, dq3, dq4, dq5, dq6, dq7, -⟩ := id dr3
    obtain ⟨ly, N2, t2, ly2, q2⟩ := mod_y (B := n8 N4) (by
        show 0 ≤ (N4.1 0 6).toInt ∧ (N4.1 0 6).toInt ≤ 16
        rw [dq1]; omega) (by
        show 0 ≤ (N4.1 0 12).toInt ∧ (N4.1 0 12).toInt ≤ 128
        rw [dq3]; exact dq4) (by
        show 0 ≤ (N4.1 0 20).toInt ∧ (N4.1 0 20).toInt ≤ 12
        rw [dq5]; exact dq6) (fun j hj' q hq => by
        have hj2 : j < (N4.1 0 12).toNatClampNeg := hj'
        rw [dq3] at hj2
        rw [n8_ne (by decide), ← dq7.1 j hj2, ← dq7.1 q (by omega)]
        intro z
        have w := (vd3 j hj2).2.2.1 q hq
        have t0 := tnc dq4.1
        exact w (tn_inj (dr.nm q (by omega)).1 (dr.nm j (by omega)).1 z)) qy'
    rcases hc with ⟨z, -⟩ | ⟨-, z⟩
    rotate_left
    · rw [z] at kw0
      exact absurd (show (1 : Int32) = 0 from kw0) (by decide)
    unfold q_ChipMap_compile at z
    rw [q1, cal_s, q3, cal_s, if_pos k0] at z
    obtain ⟨M5, r6, q6, q7⟩ := cal_o z
    rw [lq_s] at q7
    obtain ⟨M8, r9, q8, q9⟩ := cal_o q7
    obtain ⟨rfl, -⟩ := rs_e q9
    have kx : kX M5 M8 := kx_ChipMap_startAgain (A := M5) _ (kX.st (kX.rf M5) (by decide)) M8 r9 q8
    have lxx := fol_y dr vd3 q6
    obtain ⟨a1, a2, a3, a4, a5, a6, a7⟩ := sa_i q8
    obtain ⟨c1, c2, c3, c4, c5, c6, c7⟩ := ra_i q2
    have lf5 : LF M5 N' := lfA.cg (kx 38 (by decide)).symm (kx 39 (by decide)).symm (kx 40 (by decide)).symm (kx 41 (by decide)).symm rfl rfl rfl rfl rfl
    have lf2 : LF M5 N2 := lf5.n (fun p h1 h2 => (c1 p (by omega) (by omega)).symm)
    have la5 : LA M5 N' := la_of dr vd3 dr3 bk3 ru3 lxx ly lf5
    have la2 : LA M5 N2 := la_of dr vd3 dr3 bk3 ru3 lxx ly2 lf2
    have kx7 : kX M5 (stI M5 69 (upd (M5.1 69) 0 0)) := kX.st (kX.rf M5) (by decide)
    have kx8 : kX (stI M5 69 (upd (M5.1 69) 0 0)) M8 := fun p hp => by rw [kx p hp, kx7 p hp]
    have h12 : (M5.1 43 0).toInt ≤ 12 := by
      rw [lxx.2.2.2.1]
      exact dq6.2
    have md := start_md (lf2.kp kx7 (kY.rf N2)) (la2.cg kx7 (kY.rf N2)) (by rw [kx7 43 (by decide)]; exact h12) q8 q2 kx8
    have n58 : N'.1 0 58 = 0 := by
      have z1 : N'.1 0 58 = (n8 N4).1 0 58 := kg
      rw [z1]
      show N4.1 0 58 = 0
      rw [km.2 58 (by decide) (by decide)]
      exact h.2.2.2.2.2.1
    have c69 : M8.1 69 0 = 0 := by
      rw [a1 69 (by omega), stI_at, updS]
    refine ⟨⟨lfA, la5.cg kx (kY.rf N'), md, by rw [a5, c3], by rw [a4, c4], n58, ⟨by rw [a3, c5], fun j hj' => ?_⟩, ⟨e59, fun j hj' => ?_⟩⟩, JF.z a3⟩
    · rw [a3] at hj'
      omega
    · rw [c69] at hj'
      omega
theorem ck56 {A : Mm} : ∀ (n' : Nat) (N : Mm) (v : Int32), kD A N → ∀ (N' : Mm) (r : Int32), q_ChipMapModel_check_56 n' N v = some (N', r) → ∃ N1 : Mm, kD A N1 ∧ q_ChipMapModel_check_82 N1 = some (N', r) := by
  intro n'
  induction n' with
  | zero =>
    intro N v h N' r q
    rw [q_ChipMapModel_check_56] at q
    cases q
  | succ n' ih =>
    intro N v h N' r q
    rw [q_ChipMapModel_check_56] at q
    by_cases c : N.1 0 63 ≤ v
    · rw [if_pos c] at q
      exact ⟨N, h, q⟩
    rw [if_neg c] at q
    by_cases c2 : N.1 0 69 = 0
    · rw [if_pos c2] at q
      obtain ⟨N1, s, p, q⟩ := cal_o q
      exact ih N1 (v + 1) (kd_ChipMapModel_goOn N v h N1 s p) N' r q
    · rw [if_neg c2] at q
      exact ⟨N, h, q⟩
/-- check() leaves both devices as they are -/
theorem check_rd {G : Gx} {K : Int} {M N : Mm} (hI : IX G K M) (h : RD M N) {M' N' : Mm} {r1 r2 : Int32} (q1 : q_ChipMap_check M = some (M', r1)) (q2 : q_ChipMapModel_check N = some (N', r2)) : RD M' N' := by
  have kc := kc_ChipMap_check M (show kC M M from fun _ _ => rfl) M' r1 q1
  have x : ∀ p, 24 ≤ p → p < 60 ∨ (65 ≤ p ∧ p ≤ 72) → M'.1 p = M.1 p := fun p _ hp => kc p hp
  unfold q_ChipMapModel_check at q2
  rw [lq_s] at q2
  have h1 := h.n1
  generalize stI N 0 (upd (N.1 0) 0 0) = N1 at q2 h1
  by_cases c27 : N1.1 0 27 = 0
  · rw [if_pos c27] at q2
    obtain ⟨rfl, -⟩ := rs_e q2
    exact h1.all x (fun _ _ _ => rfl) (fun _ _ _ => rfl)
  rw [if_neg c27] at q2
  obtain ⟨N2, s2, u2, q2⟩ := cal_o q2
  obtain ⟨b1, b2', b3, b4, b5⟩ := cd02 u2
  rw [lq_s] at q2
  have hl1 := h1.1
  have la1 := h1.2.1
  have md1 := h1.2.2.1
  have e38 := la1.2.2.2.2.1
  have rc := hI.rc
  have s2' : N2.1 0 = N1.1 0 := b1 0 (by omega)
  obtain ⟨N4, e4⟩ : ∃ z, z = stI N2 0 (upd (N2.1 0) 58 1) := ⟨_, rfl⟩
  rw [← e4] at q2
  have n4p : ∀ p, p ≠ 0 → N4.1 p = N2.1 p := fun p hp => by rw [e4, stI_ne _ _ hp]
  have n4s : ∀ j, j ≠ 58 → N4.1 0 j = N1.1 0 j := fun j hj => by rw [e4, stI_at, updN hj, s2']
  have n458 : N4.1 0 58 = 1 := by rw [e4, stI_at, updS]
  have k4 : kD N4 N4 := ⟨fun _ _ _ => rfl, fun _ _ => rfl, fun _ _ => rfl, fun _ _ => rfl, by rw [n458]; decide, by rw [n4s 38 (by decide), ← e38]; exact rc.2⟩
  obtain ⟨N5, s5, u5, q2⟩ := cal_o q2
  have k5 := kd_ChipMapModel_resetDevice N4 k4 N5 s5 u5
  rw [lq_s, lq_s, lq_s, lq_s] at q2
  have k10 := kD.s0 (x := 0) (kD.s0 (x := -1) (kD.s0 (x := 0) (kD.s0 (x := 0) k5 (k := 63) (by decide)) (k := 69) (by decide)) (k := 75) (by decide)) (k := 68) (by decide)
  obtain ⟨N11, s11, u11, q2⟩ := cal_o q2
  have k11 := kd_ChipMapModel_meet _ _ k10 N11 s11 u11
  obtain ⟨N12, k12, q2⟩ := ck56 4000 N11 0 k11 N' r2 q2
  unfold q_ChipMapModel_check_82 at q2
  rw [lq_s] at q2
  obtain ⟨N13, s13, u13, q2⟩ := cal_o q2
  obtain ⟨d1, d2, d3, d4, d5⟩ := cd20 u13
  have fin : (∀ p, p ≠ 0 → N'.1 p = N13.1 p) ∧ (∀ j, j ≠ 67 → j ≠ 68 → N'.1 0 j = N13.1 0 j) := by
    rw [lq_s] at q2
    split at q2
    · obtain ⟨rfl, -⟩ := rs_e q2
      exact ⟨fun p hp => stI_ne _ _ hp, fun j j1 j2 => by rw [stI_at, updN j1]⟩
    · rw [lq_s] at q2
      obtain ⟨rfl, -⟩ := rs_e q2
      exact ⟨fun p hp => by rw [stI_ne _ _ hp, stI_ne _ _ hp], fun j j1 j2 => by rw [stI_at, updN j2, stI_at, updN j1]⟩
  have y : ∀ p, p ≠ 0 → p < 33 ∨ (40 ≤ p ∧ p ≤ 44) → N'.1 p = N1.1 p := fun p h0 hp => by
    rw [fin.1 p h0, d1 p (by omega), stI_ne _ _ h0, k12.1 p h0 hp, n4p p h0, b1 p (by omega)]
  have z : ∀ j, j ≤ 54 ∨ j = 59 → N'.1 0 j = N1.1 0 j := fun j hj => by
    rw [fin.2 j (by omega) (by omega), d1 0 (by omega), stI_at, updN (by omega), k12.2.1 j (by omega), n4s j (by omega)]
  have z58 : N'.1 0 58 = 0 := by
    rw [fin.2 58 (by decide) (by decide), d1 0 (by omega), stI_at, updS]
  have v33 : ∀ f, f < 26 → N'.1 33 f = N1.1 33 f := fun f hf => by
    have z1 := d2 f hf
    have z2 := b2' f hf
    rw [show 26 * 0 + f = f by omega] at z1 z2
    rw [fin.1 33 (by decide), z1, stI_ne _ _ (by decide), k12.2.2.1 _ (by omega), n4p 33 (by decide), z2]
  have v36 : ∀ k, k < 12 → N'.1 36 k = vp_nar .boolean (vp_nar .boolean (N1.1 36 k)) := fun k hk => by
    have z1 := d4 k hk
    have z2 := b4 k hk
    rw [show 12 * 0 + k = k by omega] at z1 z2
    rw [fin.1 36 (by decide), z1, stI_ne _ _ (by decide), k12.2.2.2.1 _ (by omega), n4p 36 (by decide), z2]
  obtain ⟨-, -, -, e47, e48, e58, jn, sp⟩ := h1
  have kx : kX M M' := fun p hp => kc p (by omega)
  have ky : kY N1 N' := ⟨fun p h0 hp => y p h0 (by omega), fun j h0 hj => z j (by omega)⟩
  refine ⟨hl1.kp kx ky, la1.cg kx ky, ?_, ?_, ?_, z58, ?_, ?_⟩
  · rw [kc 51 (by omega), kc 52 (by omega)]
    have w : MD M (M.1 51 2) (M.1 52) N' := by
      refine ⟨md1.1.k (fun f hp _ => v33 f hp.1), fun k hk => ?_⟩
      rw [v36 k (by omega), md1.2 k hk]
      cases tb (M.1 51 2) k <;> rfl
    exact w.x kx
  · rw [kc 53 (by omega), z 47 (by omega)]; exact e47
  · rw [kc 50 (by omega), z 48 (by omega)]; exact e48
  · exact jn.cg (kc 65 (by omega)) (kc 67 (by omega)) (kc 68 (by omega)) (z 52 (by omega)) (y 40 (by decide) (by omega)) (y 41 (by decide) (by omega))
  · exact sp.cg (kc 69 (by omega)) (kc 70 (by omega)) (kc 71 (by omega)) (kc 72 (by omega)) (z 59 (by omega)) (y 42 (by decide) (by omega)) (y 43 (by decide) (by omega)) (y 44 (by decide) (by omega))
/-- state() of both sides -/
theorem state_eq {M N : Mm} (h : RD M N) {a : Int32} {M' N' : Mm} {r1 r2 : Int32} (q1 : q_ChipMap_state M a = some (M', r1)) (q2 : q_ChipMapModel_state N a = some (N', r2)) : r1 = r2 := by
  unfold q_ChipMap_state at q1
  unfold q_ChipMapModel_state at q2
  rw [lq_s] at q2
  have h1 := h.n1
  generalize stI N 0 (upd (N.1 0) 0 0) = N1 at q2 h1
  obtain ⟨-, la, -, e47, e48, -, jn, sp⟩ := h1
  have e38 := la.2.2.2.2.1
  by_cases c0 : a = 0
  · rw [if_pos c0] at q1 q2
    rw [← (rs_e q1).2, ← (rs_e q2).2]; exact e47
  rw [if_neg c0] at q1 q2
  by_cases c1 : a = 1
  · rw [if_pos c1] at q1 q2
    rw [← (rs_e q1).2, ← (rs_e q2).2]; exact e48
  rw [if_neg c1] at q1 q2
  by_cases c2 : a = 2
  · rw [if_pos c2] at q1 q2
    rw [← (rs_e q1).2, ← (rs_e q2).2]; exact jn.1
  rw [if_neg c2] at q1 q2
  by_cases c3 : a = 3
  · rw [if_pos c3] at q1 q2
    rw [← (rs_e q1).2, ← (rs_e q2).2]; exact sp.1
  rw [if_neg c3] at q1 q2
  by_cases c4 : a = 4
  · rw [if_pos c4] at q1 q2
    rw [← (rs_e q1).2, ← (rs_e q2).2]; exact e38
  rw [if_neg c4] at q1 q2
  rw [← (rs_e q1).2, ← (rs_e q2).2]
end
