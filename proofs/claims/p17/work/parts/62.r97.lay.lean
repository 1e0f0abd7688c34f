-- widths: what the judge of the fields lets through
theorem shr_i (a : Int32) (k : Fin 32) : (a >>> (Int32.ofNat k.val &&& 31)).toInt = a.toInt / ((2 ^ k.val : Nat) : Int) := by
  have e : (Int32.ofNat k.val &&& 31).toBitVec.smod 32#32 = BitVec.ofNat 32 k.val := (by decide : ∀ k : Fin 32, (Int32.ofNat k.val &&& 31).toBitVec.smod 32#32 = BitVec.ofNat 32 k.val) k
  show (BitVec.sshiftRight' a.toBitVec ((Int32.ofNat k.val &&& 31).toBitVec.smod 32#32)).toInt = _
  have hk : k.val % 2 ^ 32 = k.val := Nat.mod_eq_of_lt (by have := k.isLt; omega)
  rw [e, BitVec.toInt_sshiftRight', BitVec.toNat_ofNat, hk, Int.shiftRight_eq_div_pow]
  rfl
theorem shl_1 : ∀ k : Fin 17, ((1 : Int32) <<< (Int32.ofNat k.val &&& 31)).toInt = ((2 ^ k.val : Nat) : Int) := by decide
theorem fit_i {a w : Int32} (hw : 1 ≤ w.toInt ∧ w.toInt ≤ 16) : (a >>> (w &&& 31) = 0) ↔ (¬ a < 0 ∧ ¬ ((1 : Int32) <<< (w &&& 31)) ≤ a) := by
  have e1 := shr_i a ⟨w.toInt.toNat, by omega⟩
  have e2 := shl_1 ⟨w.toInt.toNat, by omega⟩
  have e3 : Int32.ofNat w.toInt.toNat = w := (of_i (by omega)).symm
  have z0 : (0 : Int32).toInt = 0 := rfl
  rw [show (⟨w.toInt.toNat, by omega⟩ : Fin 32).val = w.toInt.toNat from rfl, e3] at e1
  rw [show (⟨w.toInt.toNat, by omega⟩ : Fin 17).val = w.toInt.toNat from rfl, e3] at e2
  have hp : (0 : Int) < ((2 ^ w.toInt.toNat : Nat) : Int) := by
    have := Nat.two_pow_pos w.toInt.toNat
    omega
  generalize ((2 ^ w.toInt.toNat : Nat) : Int) = P at e1 e2 hp
  constructor
  · intro h
    rw [h, z0] at e1
    have a0 : 0 ≤ a.toInt := by
      by_cases c : 0 ≤ a.toInt
      · exact c
      · have := Int.ediv_neg_of_neg_of_pos (show a.toInt < 0 by omega) hp
        omega
    refine ⟨fun c => ?_, fun c => ?_⟩
    · have := Int32.lt_iff_toInt_lt.mp c
      omega
    · have := Int32.le_iff_toInt_le.mp c
      have h2 : 1 ≤ a.toInt / P := (Int.le_ediv_iff_mul_le hp).mpr (by omega)
      omega
  · intro ⟨h1, h2⟩
    have a0 : 0 ≤ a.toInt := by
      by_cases c : 0 ≤ a.toInt
      · exact c
      · exact absurd (Int32.lt_iff_toInt_lt.mpr (by omega)) h1
    have a1 : a.toInt < P := by
      by_cases c : P ≤ a.toInt
      · exact absurd (Int32.le_iff_toInt_le.mpr (by omega)) h2
      · omega
    apply Int32.toInt_inj.mp
    rw [e1, z0]
    exact Int.ediv_eq_zero_of_lt a0 a1
def wdR (M : Mm) : Prop := ∀ j : Nat, (j : Int) < (M.1 1 6).toInt → 0 ≤ (M.1 12 j).toInt ∧ (M.1 12 j).toInt ≤ (M.1 11 j).toInt ∧ (M.1 11 j).toInt ≤ 15
theorem bf_117 {M M' : Mm} {v : Int32} (h : q_Judge_badField_117 M v = some (M', -1)) (h8 : 0 ≤ (M.1 8 v.toNatClampNeg).toInt) : False := by
  unfold q_Judge_badField_117 at h
  have h := ix_r h
  obtain ⟨-, e⟩ := rs_e h
  rw [e] at h8
  exact absurd h8 (by decide)
theorem bf_44 {M M' : Mm} {kf : Mm → Int32 → Int32 → Rs} {v1 v2 : Int32} (h8 : 0 ≤ (M.1 8 v2.toNatClampNeg).toInt) (hr : ∀ r M1, q_Draft_rowOf M (M.1 7 v2.toNatClampNeg) = some (M1, r) → M1 = M) (hf : ∀ r M1, q_Draft_fits M v2 (M.1 13 v2.toNatClampNeg) = some (M1, r) → M1 = M) (h : q_Judge_badField_44 kf M v1 v2 = some (M', -1)) : (M.1 12 v2.toNatClampNeg).toInt ≤ (M.1 11 v2.toNatClampNeg).toInt ∧ (M.1 11 v2.toNatClampNeg).toInt ≤ 15 ∧ ∃ x, kf M x (v2 + 1) = some (M', -1) := by
  unfold q_Judge_badField_44 at h
  have h := ix_r h
  rw [lq_s] at h
  have h := ix_r h
  rw [lq_s] at h
  have h := ix_r h
  obtain ⟨M3, r4, p, h⟩ := cal_o h
  obtain rfl := hr r4 M3 p
  by_cases c1 : r4 < v2
  · rw [if_pos c1] at h
    exact (bf_117 h h8).elim
  rw [if_neg c1] at h
  by_cases c2 : 16 ≤ M3.1 11 v2.toNatClampNeg
  · rw [if_pos c2] at h
    exact (bf_117 h h8).elim
  rw [if_neg c2] at h
  by_cases c3 : M3.1 11 v2.toNatClampNeg < M3.1 12 v2.toNatClampNeg
  · rw [if_pos c3] at h
    exact (bf_117 h h8).elim
  rw [if_neg c3] at h
  have h := ix_r h
  obtain ⟨M5, r6, p, h⟩ := cal_o h
  obtain rfl := hf r6 M5 p
  by_cases c4 : r6 = 0
  · rw [if_pos c4] at h
    exact (bf_117 h h8).elim
  rw [if_neg c4, lq_s] at h
  have e16 : (16 : Int32).toInt = 16 := rfl
  have g2 : (M5.1 11 v2.toNatClampNeg).toInt ≤ 15 := by
    by_cases z : 16 ≤ (M5.1 11 v2.toNatClampNeg).toInt
    · exact absurd (Int32.le_iff_toInt_le.mpr (by omega)) c2
    · omega
  have g3 : (M5.1 12 v2.toNatClampNeg).toInt ≤ (M5.1 11 v2.toNatClampNeg).toInt := by
    by_cases z : (M5.1 11 v2.toNatClampNeg).toInt < (M5.1 12 v2.toNatClampNeg).toInt
    · exact absurd (Int32.lt_iff_toInt_lt.mpr z) c3
    · omega
  refine ⟨g3, g2, ?_⟩
  split at h
  · rw [lq_s] at h
    exact ⟨_, h⟩
  · have h := ix_r h
    obtain ⟨-, e⟩ := rs_e h
    rw [e] at h8
    exact absurd h8 (by decide)
theorem ro_M {t : Rs} {M : Mm} {P : Int32 → Prop} (h : wpR t (fun M' r => M = M' ∧ P r)) (r : Int32) (M1 : Mm) (e : t = some (M1, r)) : M1 = M := by
  obtain ⟨M2, r2, e2, rfl, -⟩ := h
  rw [e] at e2
  exact (rs_e e2).1
theorem bf_w {G : Gx} {K : Int} {M N : Mm} (hI : IX G K M) (h : dR M N) : ∀ (k n : Nat) (v1 v2 : Int32) (M' : Mm), 0 ≤ v2.toInt → v2.toInt + (k : Int) = (M.1 1 6).toInt → q_Judge_badField_4 n M v1 v2 = some (M', -1) → ∀ j : Nat, v2.toInt ≤ (j : Int) → (j : Int) < (M.1 1 6).toInt → 0 ≤ (M.1 12 j).toInt ∧ (M.1 12 j).toInt ≤ (M.1 11 j).toInt ∧ (M.1 11 j).toInt ≤ 15 := by
  obtain ⟨-, -, -, hb, -, -, ⟨-, -, -, -, -, -, -, -, t8, -, t12, -⟩, -, -, -⟩ := h
  have tr := tnc hb.1
  intro k
  induction k with
  | zero =>
    intro n v1 v2 M' hv hk q j h1 h2
    omega
  | succ k ih =>
    intro n v1 v2 M' hv hk q j h1 h2
    obtain ⟨n, rfl⟩ : ∃ m, n = m + 1 := by
      cases n with
      | zero => rw [q_Judge_badField_4] at q; cases q
      | succ m => exact ⟨m, rfl⟩
    have c : ¬ M.1 1 6 ≤ v2 := fun c => by
      have := Int32.le_iff_toInt_le.mp c
      omega
    have t := tnc hv
    have ez : (v2 + 1).toInt = v2.toInt + 1 := iadd rfl (rfl : (1 : Int32).toInt = 1) (by omega) (by omega)
    have h8 := (t8 v2.toNatClampNeg (by omega)).1
    have h12 := (t12 v2.toNatClampNeg (by omega)).1
    rw [q_Judge_badField_4, if_neg c] at q
    have key : ∀ x, q_Judge_badField_44 (q_Judge_badField_4 n) M x v2 = some (M', -1) → 0 ≤ (M.1 12 j).toInt ∧ (M.1 12 j).toInt ≤ (M.1 11 j).toInt ∧ (M.1 11 j).toInt ≤ 15 := by
      intro x qx
      obtain ⟨g1, g2, y, qy⟩ := bf_44 h8 (fun r M1 e => ro_M (w_Draft_rowOf hI _) r M1 e) (fun r M1 e => ro_M (w_Draft_fits hI _ _ (by omega)) r M1 e) qx
      by_cases cj : (j : Int) = v2.toInt
      · have ej : j = v2.toNatClampNeg := by omega
        rw [ej]
        exact ⟨h12, g1, g2⟩
      · exact ih n y (v2 + 1) M' (by omega) (by omega) qy j (by omega) h2
    by_cases c0 : v2 = 0
    · rw [if_pos c0] at q
      exact key 0 q
    · rw [if_neg c0] at q
      have q := ix_r (ix_r q)
      split at q
      · exact key _ q
      · exact key 0 q
-- the layout that compile() leaves: the fields' names, homes, accesses, widths of both sides
def lf (M N : Mm) (f : Nat) : Prop := (M.1 38 f = -1 ∧ N.1 23 f = 0) ∨ (N.1 23 f = 1 ∧ M.1 38 f = N.1 25 f ∧ 0 ≤ (M.1 38 f).toInt ∧ (0 ≤ (M.1 39 f).toInt ∧ (M.1 39 f).toInt < 7) ∧ sB 0 (M.1 39 f).toNatClampNeg = N.1 24 f ∧ M.1 40 f = N.1 26 f ∧ M.1 41 f = N.1 27 f ∧ 1 ≤ (M.1 41 f).toInt ∧ (M.1 41 f).toInt ≤ 16)
def LF (M N : Mm) : Prop := ∀ f, f < 26 → lf M N f
theorem LF.cg {M N M' N' : Mm} (h : LF M N) (e38 : M'.1 38 = M.1 38) (e39 : M'.1 39 = M.1 39) (e40 : M'.1 40 = M.1 40) (e41 : M'.1 41 = M.1 41) (e23 : N'.1 23 = N.1 23) (e24 : N'.1 24 = N.1 24) (e25 : N'.1 25 = N.1 25) (e26 : N'.1 26 = N.1 26) (e27 : N'.1 27 = N.1 27) : LF M' N' := by
  unfold LF lf
  rw [e38, e39, e40, e41, e23, e24, e25, e26, e27]
  exact h
theorem LF.kp {M N M' N' : Mm} (h : LF M N) (hx : kX M M') (hy : kY N N') : LF M' N' := h.cg (hx 38 (by decide)) (hx 39 (by decide)) (hx 40 (by decide)) (hx 41 (by decide)) (hy.1 23 (by decide) (by decide)) (hy.1 24 (by decide) (by decide)) (hy.1 25 (by decide) (by decide)) (hy.1 26 (by decide) (by decide)) (hy.1 27 (by decide) (by decide))
theorem add_x {M : Mm} (a2 : Int32) (h2 : 0 ≤ a2.toInt ∧ a2.toInt ≤ 127) (hn : 0 ≤ (M.1 7 a2.toNatClampNeg).toInt ∧ (M.1 7 a2.toNatClampNeg).toInt ≤ 25) (hh : 0 ≤ (M.1 9 a2.toNatClampNeg).toInt ∧ (M.1 9 a2.toNatClampNeg).toInt ≤ 15) (ha : 0 ≤ (M.1 10 a2.toNatClampNeg).toInt ∧ (M.1 10 a2.toNatClampNeg).toInt ≤ 6) : wpR (q_Layout_addField M a2) (fun M' _ => frL M M' ∧ M'.1 38 = upd (M.1 38) (M.1 7 a2.toNatClampNeg).toNatClampNeg (M.1 9 a2.toNatClampNeg) ∧ M'.1 39 = upd (M.1 39) (M.1 7 a2.toNatClampNeg).toNatClampNeg (M.1 10 a2.toNatClampNeg) ∧ M'.1 40 = upd (M.1 40) (M.1 7 a2.toNatClampNeg).toNatClampNeg (M.1 12 a2.toNatClampNeg) ∧ M'.1 41 = upd (M.1 41) (M.1 7 a2.toNatClampNeg).toNatClampNeg (M.1 11 a2.toNatClampNeg - M.1 12 a2.toNatClampNeg + 1)) := by
  unfold q_Layout_addField
  have k2 : vp_in a2 128 := vI (by omega)
  have k7 : vp_in (M.1 7 a2.toNatClampNeg) 26 := vI (by omega)
  have k9 : vp_in (M.1 9 a2.toNatClampNeg) 16 := vI (by omega)
  refine wpR_ix k2 (wpR_lt (wpR_ix k2 (wpR_lt (wpR_ix k7 (wpR_ltv (fun M3 e3 => ?_))))))
  have f3 : frL M M3 := (frL.rf M).st e3 (by omega)
  refine wpR_ix k2 (wpR_ix k7 (wpR_ltv (fun M4 e4 => ?_)))
  have f4 : frL M M4 := f3.st e4 (by omega)
  refine wpR_ix k2 (wpR_ix k7 (wpR_ltv (fun M5 e5 => ?_)))
  have f5 : frL M M5 := f4.st e5 (by omega)
  refine wpR_ix k2 (wpR_ix k2 (wpR_ix k7 (wpR_ltv (fun M6 e6 => ?_))))
  have f6 : frL M M6 := f5.st e6 (by omega)
  have g38 : M6.1 38 = upd (M.1 38) (M.1 7 a2.toNatClampNeg).toNatClampNeg (M.1 9 a2.toNatClampNeg) := by rw [st_o e6 (by decide), st_o e5 (by decide), st_o e4 (by decide), e3, stI_at]
  have g39 : M6.1 39 = upd (M.1 39) (M.1 7 a2.toNatClampNeg).toNatClampNeg (M.1 10 a2.toNatClampNeg) := by rw [st_o e6 (by decide), st_o e5 (by decide), e4, stI_at, st_o e3 (by decide), f3 10 (by omega)]
  have g40 : M6.1 40 = upd (M.1 40) (M.1 7 a2.toNatClampNeg).toNatClampNeg (M.1 12 a2.toNatClampNeg) := by rw [st_o e6 (by decide), e5, stI_at, st_o e4 (by decide), st_o e3 (by decide), f4 12 (by omega)]
  have g41 : M6.1 41 = upd (M.1 41) (M.1 7 a2.toNatClampNeg).toNatClampNeg (M.1 11 a2.toNatClampNeg - M.1 12 a2.toNatClampNeg + 1) := by rw [e6, stI_at, st_o e5 (by decide), st_o e4 (by decide), st_o e3 (by decide), f5 11 (by omega), f5 12 (by omega)]
  refine wpR_ix k7 (wpR_ix k7 (wpR_ix k7 (wpR_ltv (fun M7 e7 => ?_))))
  have f7 : frL M M7 := f6.st e7 (by omega)
  refine wpR_ix k9 (wpR_ix k2 (wpR_ix k7 (wpR_ix k9 (wpR_ltv (fun M8 e8 => ?_)))))
  have f8 : frL M M8 := f7.st e8 (by omega)
  have a8 : M8.1 39 (M.1 7 a2.toNatClampNeg).toNatClampNeg = M.1 10 a2.toNatClampNeg := by rw [st_o e8 (by decide), st_o e7 (by decide), g39, updS]
  have ka : vp_in (M8.1 39 (M.1 7 a2.toNatClampNeg).toNatClampNeg) 7 := by rw [a8]; exact vI (by omega)
  have kt : (M8.1 39 (M.1 7 a2.toNatClampNeg).toNatClampNeg).toNatClampNeg < 7 := by
    rw [a8]
    have := tnc (i := M.1 10 a2.toNatClampNeg) ha.1
    omega
  refine wpR_ix k7 (wpR_ix ka (wpR_ix k9 (wpR_ix k7 (wpR_ix k9 (wpR_ltv (fun M9 e9 => ?_))))))
  have f9 : frL M M9 := f8.st e9 (by omega)
  have b9 : ∀ j, 38 ≤ j → j ≤ 41 → M9.1 j = M6.1 j := fun j h1 h2 => by rw [st_o e9 (by omega), st_o e8 (by omega), st_o e7 (by omega)]
  refine wpR_ro (w0_isKnown _ (by omega)) (fun r11 _ => ?_)
  refine wpR_if (fun _ => wpR_some ⟨f9, ?_, ?_, ?_, ?_⟩) (fun _ => ?_)
  · rw [b9 38 (by decide) (by decide)]; exact g38
  · rw [b9 39 (by decide) (by decide)]; exact g39
  · rw [b9 40 (by decide) (by decide)]; exact g40
  · rw [b9 41 (by decide) (by decide)]; exact g41
  refine wpR_ix k9 (wpR_ix k7 (wpR_ix k9 (wpR_ltv (fun M12 e12 => wpR_some ⟨f9.st e12 (by omega), ?_, ?_, ?_, ?_⟩))))
  · rw [st_o e12 (by decide), b9 38 (by decide) (by decide)]; exact g38
  · rw [st_o e12 (by decide), b9 39 (by decide) (by decide)]; exact g39
  · rw [st_o e12 (by decide), b9 40 (by decide) (by decide)]; exact g40
  · rw [st_o e12 (by decide), b9 41 (by decide) (by decide)]; exact g41
theorem LF.up {M N M' N' : Mm} {x : Nat} {h a l b : Int32} {c : Int32} (g : LF M N) (h0 : 0 ≤ h.toInt) (ha : 0 ≤ a.toInt ∧ a.toInt < 7) (hc : sB 0 a.toNatClampNeg = c) (hb : 1 ≤ b.toInt ∧ b.toInt ≤ 16) (e38 : M'.1 38 = upd (M.1 38) x h) (e39 : M'.1 39 = upd (M.1 39) x a) (e40 : M'.1 40 = upd (M.1 40) x l) (e41 : M'.1 41 = upd (M.1 41) x b) (e23 : N'.1 23 = upd (N.1 23) x 1) (e24 : N'.1 24 = upd (N.1 24) x c) (e25 : N'.1 25 = upd (N.1 25) x h) (e26 : N'.1 26 = upd (N.1 26) x l) (e27 : N'.1 27 = upd (N.1 27) x b) : LF M' N' := by
  intro f hf
  unfold lf
  rw [e38, e39, e40, e41, e23, e24, e25, e26, e27]
  by_cases c1 : f = x
  · subst c1
    rw [updS, updS, updS, updS, updS, updS, updS, updS, updS]
    exact Or.inr ⟨rfl, rfl, h0, ha, hc, rfl, rfl, hb⟩
  · rw [updN c1, updN c1, updN c1, updN c1, updN c1, updN c1, updN c1, updN c1, updN c1]
    exact g f hf
/-- the two loops over the fields, in step; behind its loop the reference copies the rules -/
theorem lay_loop {A B : Mm} (hA : Dr A) (hR : fR (A.1 1 6).toNatClampNeg A B) (e12 : B.1 0 12 = A.1 1 6) (hW : wdR A) : ∀ (k n1 n2 : Nat) (M N : Mm) (v : Int32), 0 ≤ v.toInt → v.toInt + (k : Int) = (A.1 1 6).toInt → frL A M → kW B N → LF M N → ∀ (M' N' : Mm) (r s : Int32), q_Layout_follow_117 n1 M v = some (M', r) → q_ChipMapModel_compile_123 n2 N v = some (N', s) → ∃ N1 : Mm, LF M' N1 ∧ q_ChipMapModel_compile_230 4000 (stI N1 0 (upd (N1.1 0) 38 (N1.1 0 20))) 0 = some (N', s) := by
  obtain ⟨t7, t8, t9, t10, t11, t12, t13, -, -, -, -, -⟩ := hR
  have rows := hA.rows
  have tr := tnc rows.1
  intro k
  induction k with
  | zero =>
    intro n1 n2 M N v hv hk hf hw h M' N' r s q1 q2
    obtain ⟨n1, rfl⟩ : ∃ m, n1 = m + 1 := by
      cases n1 with
      | zero => rw [q_Layout_follow_117] at q1; cases q1
      | succ m => exact ⟨m, rfl⟩
    obtain ⟨n2, rfl⟩ : ∃ m, n2 = m + 1 := by
      cases n2 with
      | zero => rw [q_ChipMapModel_compile_123] at q2; cases q2
      | succ m => exact ⟨m, rfl⟩
    have c1 : M.1 1 6 ≤ v := Int32.le_iff_toInt_le.mpr (by rw [hf 1 (by omega)]; omega)
    have c2 : N.1 0 12 ≤ v := Int32.le_iff_toInt_le.mpr (by rw [hw.2 12 (by omega), e12]; omega)
    rw [q_Layout_follow_117, if_pos c1] at q1
    rw [q_ChipMapModel_compile_123, if_pos c2, lq_s] at q2
    obtain ⟨rfl, -⟩ := rs_e q1
    exact ⟨N, h, q2⟩
  | succ k ih =>
    intro n1 n2 M N v hv hk hf hw h M' N' r s q1 q2
    obtain ⟨n1, rfl⟩ : ∃ m, n1 = m + 1 := by
      cases n1 with
      | zero => rw [q_Layout_follow_117] at q1; cases q1
      | succ m => exact ⟨m, rfl⟩
    obtain ⟨n2, rfl⟩ : ∃ m, n2 = m + 1 := by
      cases n2 with
      | zero => rw [q_ChipMapModel_compile_123] at q2; cases q2
      | succ m => exact ⟨m, rfl⟩
    have c1 : ¬ M.1 1 6 ≤ v := fun c => by
      have := Int32.le_iff_toInt_le.mp c
      rw [hf 1 (by omega)] at this
      omega
    have c2 : ¬ N.1 0 12 ≤ v := fun c => by
      have := Int32.le_iff_toInt_le.mp c
      rw [hw.2 12 (by omega), e12] at this
      omega
    have t := tnc hv
    have hvn : v.toNatClampNeg < (A.1 1 6).toNatClampNeg := by omega
    have ez : (v + 1).toInt = v.toInt + 1 := iadd rfl (rfl : (1 : Int32).toInt = 1) (by omega) (by omega)
    have m1 := hA.nm v.toNatClampNeg (by omega)
    have m2 := hA.ac v.toNatClampNeg (by omega)
    have m3 := hA.ho v.toNatClampNeg (by omega)
    have m4 := hA.regs
    have x7 : M.1 7 = A.1 7 := hf 7 (by omega)
    have x9 : M.1 9 = A.1 9 := hf 9 (by omega)
    have x10 : M.1 10 = A.1 10 := hf 10 (by omega)
    have x11 : M.1 11 = A.1 11 := hf 11 (by omega)
    have x12 : M.1 12 = A.1 12 := hf 12 (by omega)
    rw [q_Layout_follow_117, if_neg c1] at q1
    obtain ⟨M1, r1, p1, q1⟩ := cal_o q1
    obtain ⟨M1', r1', p1', f1, g38, g39, g40, g41⟩ := add_x (M := M) v (by omega) (by rw [x7]; exact m1) (by rw [x9]; omega) (by rw [x10]; exact m2)
    rw [p1] at p1'
    obtain ⟨rfl, -⟩ := rs_e p1'
    rw [x7] at g38 g39 g40 g41
    rw [x9] at g38
    rw [x10] at g39
    rw [x12] at g40 g41
    rw [x11] at g41
    rw [q_ChipMapModel_compile_123, if_neg c2] at q2
    have q2 := ix_r q2
    rw [lq_s] at q2
    have q2 := ix_r q2
    rw [lq_s] at q2
    have q2 := ix_r (ix_r q2)
    rw [lq_s] at q2
    have q2 := ix_r (ix_r q2)
    rw [lq_s] at q2
    have q2 := ix_r (ix_r q2)
    rw [lq_s] at q2
    have q2 := ix_r (ix_r (ix_r q2))
    rw [lq_s] at q2
    have q2 := ix_r (ix_r q2)
    rw [lq_s] at q2
    have y7 : N.1 7 v.toNatClampNeg = A.1 7 v.toNatClampNeg := by rw [hw.1 7 (by decide) (by decide)]; exact (t7 _ hvn).symm
    have y8 := t10 _ hvn
    rw [← hw.1 8 (by decide) (by decide)] at y8
    have y9 : N.1 9 v.toNatClampNeg = A.1 11 v.toNatClampNeg := by rw [hw.1 9 (by decide) (by decide)]; exact (t11 _ hvn).symm
    have y10 : N.1 10 v.toNatClampNeg = A.1 12 v.toNatClampNeg := by rw [hw.1 10 (by decide) (by decide)]; exact (t12 _ hvn).symm
    have y12 : N.1 12 v.toNatClampNeg = A.1 9 v.toNatClampNeg := by rw [hw.1 12 (by decide) (by decide)]; exact (t9 _ hvn).symm
    refine ih n1 n2 M1 _ (v + 1) (by omega) (by omega) (hf.tr f1) ?_ ?_ M' N' r s q1 q2
    · exact (((((kW.st hw (by decide)).st (by decide)).st (by decide)).st (by decide)).st (by decide)).st (by decide)
    · have w1 := hW v.toNatClampNeg (by omega)
      have w2 : (A.1 11 v.toNatClampNeg - A.1 12 v.toNatClampNeg).toInt = (A.1 11 v.toNatClampNeg).toInt - (A.1 12 v.toNatClampNeg).toInt := isub rfl rfl (by omega) (by omega)
      have w3 : (A.1 11 v.toNatClampNeg - A.1 12 v.toNatClampNeg + 1).toInt = (A.1 11 v.toNatClampNeg).toInt - (A.1 12 v.toNatClampNeg).toInt + 1 := iadd w2 (rfl : (1 : Int32).toInt = 1) (by omega) (by omega)
      refine LF.up h m3.1 ⟨m2.1, by omega⟩ y8.2 (by omega) g38 g39 g40 g41 ?_ ?_ ?_ ?_ ?_
      · rw [← y7]; rfl
      · rw [← y7]; rfl
      · rw [← y7, ← y12]; rfl
      · rw [← y7, ← y10]; rfl
      · rw [← y7, ← y10, ← y9]; rfl
theorem c102_rel : ∀ (k n2 : Nat) (N : Mm) (v : Int32), 0 ≤ v.toInt → v.toInt + (k : Int) = 26 → (∀ f : Nat, (f : Int) < v.toInt → N.1 23 f = 0) → ∀ (N' : Mm) (s : Int32), q_ChipMapModel_compile_102 n2 N v = some (N', s) → ∃ N1 : Mm, (∀ f : Nat, f < 26 → N1.1 23 f = 0) ∧ (∀ p, p ≠ 23 → N1.1 p = N.1 p) ∧ q_ChipMapModel_compile_123 4000 N1 0 = some (N', s) := by
  intro k
  induction k with
  | zero =>
    intro n2 N v hv hk h N' s q2
    obtain ⟨n2, rfl⟩ : ∃ m, n2 = m + 1 := by
      cases n2 with
      | zero => rw [q_ChipMapModel_compile_102] at q2; cases q2
      | succ m => exact ⟨m, rfl⟩
    have c : (26 : Int32) ≤ v := Int32.le_iff_toInt_le.mpr (by have e : (26 : Int32).toInt = 26 := rfl; omega)
    rw [q_ChipMapModel_compile_102, if_pos c] at q2
    exact ⟨N, fun f hf => h f (by omega), fun _ _ => rfl, q2⟩
  | succ k ih =>
    intro n2 N v hv hk h N' s q2
    obtain ⟨n2, rfl⟩ : ∃ m, n2 = m + 1 := by
      cases n2 with
      | zero => rw [q_ChipMapModel_compile_102] at q2; cases q2
      | succ m => exact ⟨m, rfl⟩
    have c : ¬ (26 : Int32) ≤ v := fun c => by
      have := Int32.le_iff_toInt_le.mp c
      have e : (26 : Int32).toInt = 26 := rfl
      omega
    have t := tnc hv
    have ez : (v + 1).toInt = v.toInt + 1 := iadd rfl (rfl : (1 : Int32).toInt = 1) (by omega) (by omega)
    rw [q_ChipMapModel_compile_102, if_neg c] at q2
    have q2 := ix_r q2
    rw [lq_s] at q2
    have hz : ∀ f : Nat, (f : Int) < (v + 1).toInt → (stI N 23 (upd (N.1 23) v.toNatClampNeg (vp_nar .boolean 0))).1 23 f = 0 := fun f hf => by
      show upd (N.1 23) v.toNatClampNeg (vp_nar .boolean 0) f = 0
      by_cases cf : f = v.toNatClampNeg
      · rw [cf, updS]; rfl
      · rw [updN cf]
        exact h f (by omega)
    obtain ⟨N1, g1, g2, g3⟩ := ih n2 _ (v + 1) (by omega) (by omega) hz N' s q2
    exact ⟨N1, g1, fun p hp => by rw [g2 p hp, stI_ne _ _ hp], g3⟩
theorem c50_rel : ∀ (n2 : Nat) (N : Mm) (v : Int32) (N' : Mm) (s : Int32), q_ChipMapModel_compile_50 n2 N v = some (N', s) → ∃ N1 : Mm, kW N N1 ∧ q_ChipMapModel_compile_102 4000 N1 0 = some (N', s) := by
  intro n2
  induction n2 with
  | zero =>
    intro N v N' s q2
    rw [q_ChipMapModel_compile_50] at q2
    cases q2
  | succ n2 ih =>
    intro N v N' s q2
    rw [q_ChipMapModel_compile_50] at q2
    by_cases c : N.1 0 28 ≤ v
    · rw [if_pos c] at q2
      exact ⟨N, kW.rf N, q2⟩
    · rw [if_neg c] at q2
      have q2 := ix_r (ix_r q2)
      rw [lq_s] at q2
      have q2 := ix_r (ix_r q2)
      rw [lq_s] at q2
      have q2 := ix_r (ix_r q2)
      rw [lq_s] at q2
      obtain ⟨N1, g1, g2⟩ := ih _ _ N' s q2
      refine ⟨N1, ⟨fun p h0 hp => ?_, fun j hj => ?_⟩, g2⟩
      · rw [g1.1 p h0 hp, stI_ne _ _ (by omega), stI_ne _ _ (by omega), stI_ne _ _ (by omega)]
      · rw [g1.2 j hj, stI_ne _ _ (by omega), stI_ne _ _ (by omega), stI_ne _ _ (by omega)]
theorem f82_rel : ∀ (n1 : Nat) (M : Mm) (v : Int32), 0 ≤ v.toInt → ∀ (M' : Mm) (r : Int32), q_Layout_follow_82 n1 M v = some (M', r) → ∃ M1 : Mm, frL M M1 ∧ M1.1 38 = (fun _ => -1) ∧ q_Layout_follow_117 4000 M1 0 = some (M', r) := by
  intro n1
  induction n1 with
  | zero =>
    intro M v hv M' r q1
    rw [q_Layout_follow_82] at q1
    cases q1
  | succ n1 ih =>
    intro M v hv M' r q1
    rw [q_Layout_follow_82] at q1
    by_cases c : (7 : Int32) ≤ v
    · rw [if_pos c, lq_s] at q1
      exact ⟨_, fun p hp => stI_ne _ _ (by omega), stI_at _ _ _, q1⟩
    · rw [if_neg c] at q1
      have q1 := ix_r q1
      rw [lq_s] at q1
      have t := tnc hv
      have e7 : (7 : Int32).toInt = 7 := rfl
      have c' : v.toInt < 7 := by
        by_cases z : 7 ≤ v.toInt
        · exact absurd (Int32.le_iff_toInt_le.mpr (by omega)) c
        · omega
      have ez : (v + 1).toInt = v.toInt + 1 := iadd rfl (rfl : (1 : Int32).toInt = 1) (by omega) (by omega)
      obtain ⟨M1, g1, g2, g3⟩ := ih _ (v + 1) (by omega) M' r q1
      exact ⟨M1, fun p hp => by rw [g1 p hp, stI_ne _ _ (by omega)], g2, g3⟩
/-- what the class's layout and the reference's hold behind compile(): the same fields -/
theorem lay_rel {A B : Mm} (hA : Dr A) (hR : fR (A.1 1 6).toNatClampNeg A B) (e12 : B.1 0 12 = A.1 1 6) (hW : wdR A) {M' N' N : Mm} {r s : Int32} (hw : kW B N) (q1 : q_Layout_follow A = some (M', r)) (q2 : q_ChipMapModel_compile_50 4000 N 0 = some (N', s)) : LF M' N' := by
  unfold q_Layout_follow at q1
  rw [lq_s] at q1
  obtain ⟨M1, eM1⟩ : ∃ z, z = stI A 24 (upd (A.1 24) 0 (A.1 1 0)) := ⟨_, rfl⟩
  rw [← eM1] at q1
  have cpo : cp_ok 0 0 16 16 16 := by unfold cp_ok; decide
  have cpe : ∀ k : Rs, cpk 0 0 16 16 16 k = k := fun k => by
    unfold cpk
    unfold cp_ok at cpo
    rw [if_pos cpo]
  rw [cpe, lq_s] at q1
  obtain ⟨M2, eM2⟩ : ∃ z, z = stI M1 25 (va_cpy (M1.1 3) (M1.1 25) (0 : Int32).toNatClampNeg (0 : Int32).toNatClampNeg (16 : Int32).toNatClampNeg) := ⟨_, rfl⟩
  rw [← eM2, cpe, lq_s] at q1
  obtain ⟨M3, eM3⟩ : ∃ z, z = stI M2 26 (va_cpy (M2.1 4) (M2.1 26) (0 : Int32).toNatClampNeg (0 : Int32).toNatClampNeg (16 : Int32).toNatClampNeg) := ⟨_, rfl⟩
  rw [← eM3, cpe, lq_s] at q1
  obtain ⟨M4, eM4⟩ : ∃ z, z = stI M3 27 (va_cpy (M3.1 6) (M3.1 27) (0 : Int32).toNatClampNeg (0 : Int32).toNatClampNeg (16 : Int32).toNatClampNeg) := ⟨_, rfl⟩
  rw [← eM4] at q1
  obtain ⟨M5, r5, p5, q1⟩ := cal_o q1
  obtain ⟨M5', r5', p5', f5, -, -⟩ := w_Rules_copy (M := M4)
  rw [p5] at p5'
  obtain ⟨rfl, -⟩ := rs_e p5'
  rw [lq_s, lq_s] at q1
  have o4 : ∀ p, p < 24 → M4.1 p = A.1 p := fun p hp => by rw [st_o eM4 (by omega), st_o eM3 (by omega), st_o eM2 (by omega), st_o eM1 (by omega)]
  obtain ⟨M6, g1, g2, g3⟩ := f82_rel 4000 _ 0 (by decide) M' r q1
  have o6 : ∀ p, p < 24 → M6.1 p = A.1 p := fun p hp => by
    rw [g1 p (by omega), stI_ne _ _ (by omega), stI_ne _ _ (by omega), f5 p (by omega)]
    exact o4 p hp
  obtain ⟨N1, w1, q2⟩ := c50_rel 4000 N 0 N' s q2
  obtain ⟨N2, z1, z2, q2⟩ := c102_rel 26 4000 N1 0 (by decide) (by decide) (fun f hf => absurd hf (by have e : (0 : Int32).toInt = 0 := rfl; omega)) N' s q2
  have hB6 : Dr M6 := by
    have x1 := o6 1 (by omega)
    have x7 := o6 7 (by omega)
    have x9 := o6 9 (by omega)
    have x10 := o6 10 (by omega)
    refine ⟨?_, ?_, ?_, ?_, ?_⟩
    · rw [x1]; exact hA.rows
    · rw [x1]; exact hA.regs
    · rw [x1, x7]; exact hA.nm
    · rw [x1, x10]; exact hA.ac
    · rw [x1, x9]; exact hA.ho
  have hR6 : fR (M6.1 1 6).toNatClampNeg M6 B := by
    rw [o6 1 (by omega)]
    exact hR.cg (fun p h1 h2 => o6 p (by omega)) (fun _ _ _ => rfl)
  have w2 : kW B N2 := ⟨fun p h0 hp => by rw [z2 p (by omega), w1.1 p h0 hp, hw.1 p h0 hp], fun j hj => by rw [z2 0 (by decide), w1.2 j hj, hw.2 j hj]⟩
  have rows := hA.rows
  have h0 : LF M6 N2 := fun f hf => Or.inl ⟨by rw [g2], z1 f hf⟩
  have hW6 : wdR M6 := by
    unfold wdR
    rw [o6 1 (by omega), o6 11 (by omega), o6 12 (by omega)]
    exact hW
  obtain ⟨N3, l3, q3⟩ := lay_loop hB6 hR6 (by rw [e12, o6 1 (by omega)]) hW6 (M6.1 1 6).toInt.toNat 4000 4000 M6 N2 0 (by decide) (by have e : (0 : Int32).toInt = 0 := rfl; have := hB6.rows; omega) (frL.rf M6) w2 h0 M' N' r s g3 q2
  have kv : kV (stI N3 0 (upd (N3.1 0) 38 (N3.1 0 20))) N' := kv_ChipMapModel_compile_230 4000 _ _ (kV.rf _) N' s q3
  exact l3.cg rfl rfl rfl rfl (kv 23 (by decide) (by decide)) (kv 24 (by decide) (by decide)) (kv 25 (by decide) (by decide)) (kv 26 (by decide) (by decide)) (kv 27 (by decide) (by decide))
