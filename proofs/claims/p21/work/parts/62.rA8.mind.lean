section
-- the class's mind
def wrb (M : Mm) (wd : Nat → Int32) (f r v : Int32) : Bool := decide (M.1 38 f.toNatClampNeg = r) && !decide (((v ^^^ wd r.toNatClampNeg) &&& M.1 42 f.toNatClampNeg) = 0)
def b2 (b : Bool) : Int32 := if b = true then 1 else 0
theorem b2_0 {b : Bool} : b2 b = 0 ↔ b = false := by
  cases b
  · exact ⟨fun _ => rfl, fun _ => rfl⟩
  · exact ⟨fun h => absurd h (by decide), fun h => by cases h⟩
def kvl (M : Mm) (wd : Nat → Int32) (f : Int32) : Int32 := (wd (M.1 38 f.toNatClampNeg).toNatClampNeg &&& M.1 42 f.toNatClampNeg) >>> (M.1 40 f.toNatClampNeg &&& 31)
def brb (M : Mm) (fl : Int32) (wd : Nat → Int32) (r v : Int32) (k : Nat) : Bool := if M.1 44 k = 0 then (!tb fl k && wrb M wd (M.1 46 k) r v) else if M.1 44 k = 2 then (tb fl k && wrb M wd (M.1 45 k) r v) else (wrb M wd (M.1 45 k) r v && !decide (kvl M wd (M.1 46 k) = M.1 47 k))
def nbb (M : Mm) (wd : Nat → Int32) (r v : Int32) (k : Nat) (old : Bool) : Bool := if M.1 44 k = 0 then (old || wrb M wd (M.1 45 k) r v) else if M.1 44 k = 2 then (!wrb M wd (M.1 46 k) r v && (old || wrb M wd (M.1 45 k) r v)) else old
def thb (M : Mm) (wd : Nat → Int32) (r : Int32) : Bool := decide (M.1 26 r.toNatClampNeg = -1) || decide (kvl M wd (M.1 26 r.toNatClampNeg) = M.1 27 r.toNatClampNeg)
/-- the rules are of fields that are there -/
def ruI (M : Mm) : Prop := (0 ≤ (M.1 43 0).toInt ∧ (M.1 43 0).toInt ≤ 12) ∧ ∀ k : Nat, (k : Int) < (M.1 43 0).toInt → (0 ≤ (M.1 45 k).toInt ∧ (M.1 45 k).toInt ≤ 25) ∧ (0 ≤ (M.1 46 k).toInt ∧ (M.1 46 k).toInt ≤ 25) ∧ (0 ≤ (M.1 38 (M.1 46 k).toNatClampNeg).toInt ∧ (M.1 38 (M.1 46 k).toNatClampNeg).toInt ≤ 15)
theorem one_fin : ∀ k : Fin 32, ((1 : Int32) <<< (Int32.ofNat k.val &&& 31)).toBitVec = BitVec.ofNat 32 (2 ^ k.val) := by decide
theorem tb_one {i : Int32} (hi : 0 ≤ i.toInt ∧ i.toInt < 32) (b : Nat) : tb ((1 : Int32) <<< (i &&& 31)) b = decide (b = i.toNatClampNeg) := by
  have e := one_fin ⟨i.toInt.toNat, by omega⟩
  have e3 : Int32.ofNat i.toInt.toNat = i := (of_i hi.1).symm
  rw [show (⟨i.toInt.toNat, by omega⟩ : Fin 32).val = i.toInt.toNat from rfl, e3] at e
  have et : i.toNatClampNeg = i.toInt.toNat := rfl
  unfold tb
  rw [e, BitVec.getLsbD_ofNat, Nat.testBit_two_pow, et]
  by_cases c : b = i.toInt.toNat
  · rw [decide_eq_true c, decide_eq_true c.symm, decide_eq_true (show b < 32 by omega)]
    rfl
  · rw [decide_eq_false c, decide_eq_false (show ¬ i.toInt.toNat = b from fun z => c z.symm)]
    cases decide (b < 32) <;> rfl
theorem one_b : ∀ b : Nat, tb (1 : Int32) b = decide (b = 0) := by
  intro b
  have h := tb_one (i := 0) (by decide) b
  exact h
theorem bit_1 {x i : Int32} (hi : 0 ≤ i.toInt ∧ i.toInt < 32) : ((x >>> (i &&& 31)) &&& 1 = 1) ↔ tb x i.toNatClampNeg = true := by
  have et : i.toNatClampNeg = i.toInt.toNat := rfl
  have h0 : tb ((x >>> (i &&& 31)) &&& 1) 0 = tb x i.toNatClampNeg := by
    rw [tb_and, one_b, tb_shr hi, if_pos (by omega), et]
    cases tb x (i.toInt.toNat + 0) <;> rfl
  constructor
  · intro h
    rw [← h0, h, one_b]
    rfl
  · intro h
    apply tb_ext
    intro b _
    by_cases c : b = 0
    · rw [c, h0, h, one_b]
      rfl
    · rw [tb_and, one_b, decide_eq_false c]
      cases tb (x >>> (i &&& 31)) b <;> rfl
theorem iw {M : Mm} {f r v : Int32} (hf : 0 ≤ f.toInt ∧ f.toInt ≤ 25) (hr : 0 ≤ r.toInt ∧ r.toInt ≤ 15) : q_Mind_isWritten M f r v = some (M, b2 (wrb M (M.1 52) f r v)) := by
  unfold q_Mind_isWritten wrb
  rw [ix_e (vI (by omega))]
  by_cases c : M.1 38 f.toNatClampNeg = r
  · rw [if_pos c, ix_e (vI (by omega)), ix_e (vI (by omega)), decide_eq_true c]
    by_cases d : (v ^^^ M.1 52 r.toNatClampNeg) &&& M.1 42 f.toNatClampNeg = 0
    · rw [if_pos d, decide_eq_true d]
      rfl
    · rw [if_neg d, decide_eq_false d]
      rfl
  · rw [if_neg c, decide_eq_false c]
    rfl
theorem kve {M : Mm} {f : Int32} (hf : 0 ≤ f.toInt ∧ f.toInt ≤ 25) (hh : 0 ≤ (M.1 38 f.toNatClampNeg).toInt ∧ (M.1 38 f.toNatClampNeg).toInt ≤ 15) : q_Mind_knownValue M f = some (M, kvl M (M.1 52) f) := by
  unfold q_Mind_knownValue kvl
  rw [ix_e (vI (by omega)), ix_e (vI (by omega)), ix_e (vI (by omega)), ix_e (vI (by omega))]
theorem th {M : Mm} {r : Int32} (hr : 0 ≤ r.toInt ∧ r.toInt ≤ 15) (hb : M.1 26 r.toNatClampNeg ≠ -1 → (0 ≤ (M.1 26 r.toNatClampNeg).toInt ∧ (M.1 26 r.toNatClampNeg).toInt ≤ 25) ∧ (0 ≤ (M.1 38 (M.1 26 r.toNatClampNeg).toNatClampNeg).toInt ∧ (M.1 38 (M.1 26 r.toNatClampNeg).toNatClampNeg).toInt ≤ 15)) : q_Mind_isThere M r = some (M, b2 (thb M (M.1 52) r)) := by
  have k : vp_in r 16 := vI (by omega)
  unfold q_Mind_isThere thb
  rw [ix_e k, lq_s]
  by_cases c : M.1 26 r.toNatClampNeg = -1
  · rw [if_pos c, decide_eq_true c]
    rfl
  · obtain ⟨h1, h2⟩ := hb c
    rw [if_neg c, kve h1 h2, cal_s, ix_e k, decide_eq_false c]
    by_cases d : kvl M (M.1 52) (M.1 26 r.toNatClampNeg) = M.1 27 r.toNatClampNeg
    · rw [if_pos d, decide_eq_true d]
      rfl
    · rw [if_neg d, decide_eq_false d]
      rfl
theorem b170 {M : Mm} {kf : Mm → Int32 → Int32 → Int32 → Int32 → Rs} {r v m i : Int32} (b : Bool) : q_Mind_brokenBy_170 kf M r v m i (b2 b) = kf M r v (if b = true then m ||| ((1 : Int32) <<< (i &&& 31)) else m) (i + 1) := by
  unfold q_Mind_brokenBy_170
  cases b
  · rw [if_pos (show b2 false = 0 from rfl)]
    rfl
  · rw [if_neg (show ¬ b2 true = 0 by decide), lq_s]
    rfl
theorem b41 {M : Mm} (hu : ruI M) {kf : Mm → Int32 → Int32 → Int32 → Int32 → Rs} {r v m i : Int32} (hr : 0 ≤ r.toInt ∧ r.toInt ≤ 15) (hi : 0 ≤ i.toInt ∧ i.toInt < (M.1 43 0).toInt) {t : Int32} (ht : t = b2 (tb (M.1 51 2) i.toNatClampNeg)) : q_Mind_brokenBy_41 kf M r v m i t = kf M r v (if brb M (M.1 51 2) (M.1 52) r v i.toNatClampNeg = true then m ||| ((1 : Int32) <<< (i &&& 31)) else m) (i + 1) := by
  have hb := hu.1
  have tn := tnc hi.1
  obtain ⟨ha, hbb, hh⟩ := hu.2 i.toNatClampNeg (by omega)
  have k : vp_in i 12 := vI (by omega)
  unfold q_Mind_brokenBy_41 brb
  rw [ix_e k]
  by_cases c0 : M.1 44 i.toNatClampNeg = 0
  · rw [if_pos c0, if_pos c0]
    unfold q_Mind_brokenBy_78 q_Mind_brokenBy_79
    cases hbt : tb (M.1 51 2) i.toNatClampNeg with
    | true =>
      rw [hbt] at ht
      rw [if_neg (by rw [ht]; decide)]
      exact b170 false
    | false =>
      rw [hbt] at ht
      rw [if_pos (by rw [ht]; rfl), ix_e k, iw hbb hr, cal_s]
      cases hw : wrb M (M.1 52) (M.1 46 i.toNatClampNeg) r v with
      | false =>
        rw [if_pos (show b2 false = 0 from rfl)]
        exact b170 false
      | true =>
        rw [if_neg (show ¬ b2 true = 0 by decide)]
        exact b170 true
  rw [if_neg c0, if_neg c0, ix_e k]
  by_cases c2 : M.1 44 i.toNatClampNeg = 2
  · rw [if_pos c2, if_pos c2]
    unfold q_Mind_brokenBy_120 q_Mind_brokenBy_121
    cases hbt : tb (M.1 51 2) i.toNatClampNeg with
    | false =>
      rw [hbt] at ht
      rw [if_pos (by rw [ht]; rfl)]
      exact b170 false
    | true =>
      rw [hbt] at ht
      rw [if_neg (by rw [ht]; decide), ix_e k, iw ha hr, cal_s]
      cases hw : wrb M (M.1 52) (M.1 45 i.toNatClampNeg) r v with
      | false =>
        rw [if_pos (show b2 false = 0 from rfl)]
        exact b170 false
      | true =>
        rw [if_neg (show ¬ b2 true = 0 by decide)]
        exact b170 true
  rw [if_neg c2, if_neg c2, ix_e k, iw ha hr, cal_s]
  unfold q_Mind_brokenBy_167 q_Mind_brokenBy_168
  cases hw : wrb M (M.1 52) (M.1 45 i.toNatClampNeg) r v with
  | false =>
    rw [if_pos (show b2 false = 0 from rfl)]
    exact b170 false
  | true =>
    rw [if_neg (show ¬ b2 true = 0 by decide), ix_e k, kve hbb hh, cal_s, ix_e k]
    by_cases ce : kvl M (M.1 52) (M.1 46 i.toNatClampNeg) = M.1 47 i.toNatClampNeg
    · rw [if_pos ce, decide_eq_true ce]
      exact b170 false
    · rw [if_neg ce, decide_eq_false ce]
      exact b170 true
theorem bby_l {M : Mm} (hu : ruI M) {r v : Int32} (hr : 0 ≤ r.toInt ∧ r.toInt ≤ 15) : ∀ (j n' : Nat) (m i : Int32), (M.1 43 0).toInt - i.toInt = (j : Int) → 0 ≤ i.toInt → j < n' → ∃ m' : Int32, q_Mind_brokenBy_14 n' M r v m i = some (M, m') ∧ ∀ b, tb m' b = (tb m b || (decide (i.toNatClampNeg ≤ b ∧ b < (M.1 43 0).toNatClampNeg) && brb M (M.1 51 2) (M.1 52) r v b)) := by
  have hb := hu.1
  have tr := tnc hb.1
  intro j
  induction j with
  | zero =>
    intro n' m i hj i0 hn
    obtain ⟨n', rfl⟩ : ∃ q, n' = q + 1 := ⟨n' - 1, by omega⟩
    have tn := tnc i0
    have c : M.1 43 0 ≤ i := Int32.le_iff_toInt_le.mpr (by omega)
    rw [q_Mind_brokenBy_14, if_pos c]
    refine ⟨m, rfl, fun b => ?_⟩
    rw [decide_eq_false (by omega)]
    cases tb m b <;> rfl
  | succ j ih =>
    intro n' m i hj i0 hn
    obtain ⟨n', rfl⟩ : ∃ q, n' = q + 1 := ⟨n' - 1, by omega⟩
    have tn := tnc i0
    have ez : (i + 1).toInt = i.toInt + 1 := iadd rfl (rfl : (1 : Int32).toInt = 1) (by omega) (by omega)
    have es : (i + 1).toNatClampNeg = i.toNatClampNeg + 1 := tnS (by omega)
    have c : ¬ M.1 43 0 ≤ i := fun z => by have := Int32.le_iff_toInt_le.mp z; omega
    have hbit := bit_1 (x := M.1 51 2) (i := i) (by omega)
    have step : q_Mind_brokenBy_14 (n' + 1) M r v m i = q_Mind_brokenBy_14 n' M r v (if brb M (M.1 51 2) (M.1 52) r v i.toNatClampNeg = true then m ||| ((1 : Int32) <<< (i &&& 31)) else m) (i + 1) := by
      rw [q_Mind_brokenBy_14, if_neg c]
      cases hbt : tb (M.1 51 2) i.toNatClampNeg with
      | true =>
        rw [if_pos (hbit.mpr hbt)]
        exact b41 hu hr (by omega) (by rw [hbt]; rfl)
      | false =>
        rw [if_neg (fun z => by rw [hbit.mp z] at hbt; cases hbt)]
        exact b41 hu hr (by omega) (by rw [hbt]; rfl)
    obtain ⟨m', q, hm⟩ := ih n' (if brb M (M.1 51 2) (M.1 52) r v i.toNatClampNeg = true then m ||| ((1 : Int32) <<< (i &&& 31)) else m) (i + 1) (by omega) (by omega) (by omega)
    refine ⟨m', by rw [step]; exact q, fun b => ?_⟩
    rw [hm b, es]
    by_cases cb : b = i.toNatClampNeg
    · rw [cb, decide_eq_false (by omega), decide_eq_true (show i.toNatClampNeg ≤ i.toNatClampNeg ∧ i.toNatClampNeg < (M.1 43 0).toNatClampNeg by omega)]
      cases hx : brb M (M.1 51 2) (M.1 52) r v i.toNatClampNeg with
      | true =>
        rw [if_pos rfl, tb_or, tb_one (by omega), decide_eq_true rfl]
        cases tb m i.toNatClampNeg <;> rfl
      | false =>
        rw [if_neg (by decide)]
        cases tb m i.toNatClampNeg <;> rfl
    · have e1 : tb (if brb M (M.1 51 2) (M.1 52) r v i.toNatClampNeg = true then m ||| ((1 : Int32) <<< (i &&& 31)) else m) b = tb m b := by
        cases hx : brb M (M.1 51 2) (M.1 52) r v i.toNatClampNeg with
        | true =>
          rw [if_pos rfl, tb_or, tb_one (by omega), decide_eq_false cb]
          cases tb m b <;> rfl
        | false => rw [if_neg (by decide)]
      rw [e1]
      by_cases d : i.toNatClampNeg ≤ b ∧ b < (M.1 43 0).toNatClampNeg
      · rw [decide_eq_true d, decide_eq_true (show i.toNatClampNeg + 1 ≤ b ∧ b < (M.1 43 0).toNatClampNeg by omega)]
      · rw [decide_eq_false d, decide_eq_false (show ¬ (i.toNatClampNeg + 1 ≤ b ∧ b < (M.1 43 0).toNatClampNeg) by omega)]
theorem bby {M : Mm} (hu : ruI M) {r v : Int32} (hr : 0 ≤ r.toInt ∧ r.toInt ≤ 15) : ∃ m' : Int32, q_Mind_brokenBy M r v = some (M, m') ∧ ∀ b, tb m' b = (decide (b < (M.1 43 0).toNatClampNeg) && brb M (M.1 51 2) (M.1 52) r v b) := by
  have hb := hu.1
  obtain ⟨m', q, hm⟩ := bby_l hu (v := v) hr (M.1 43 0).toInt.toNat 4000 0 0 (by have e : (0 : Int32).toInt = 0 := rfl; omega) (by decide) (by omega)
  refine ⟨m', q, fun b => ?_⟩
  rw [hm b, tb_0]
  have e0 : (0 : Int32).toNatClampNeg = 0 := rfl
  rw [e0]
  by_cases d : b < (M.1 43 0).toNatClampNeg
  · rw [decide_eq_true d, decide_eq_true (show 0 ≤ b ∧ b < (M.1 43 0).toNatClampNeg by omega)]
    rfl
  · rw [decide_eq_false d, decide_eq_false (show ¬ (0 ≤ b ∧ b < (M.1 43 0).toNatClampNeg) by omega)]
    rfl
def mwR (A M : Mm) : Prop := (∀ p, p ≠ 51 → M.1 p = A.1 p) ∧ (∀ j, j ≠ 2 → M.1 51 j = A.1 51 j) ∧ M.2 = A.2
theorem mwR.st {A M : Mm} (h : mwR A M) (x : Int32) : mwR A (stI M 51 (upd (M.1 51) 2 x)) := ⟨fun p hp => by rw [stI_ne _ _ hp]; exact h.1 p hp, fun j hj => by rw [stI_at, updN hj]; exact h.2.1 j hj, h.2.2⟩
theorem mw_l {A : Mm} (hu : ruI A) {r v : Int32} (hr : 0 ≤ r.toInt ∧ r.toInt ≤ 15) : ∀ (j n' : Nat) (M : Mm) (i : Int32), (A.1 43 0).toInt - i.toInt = (j : Int) → 0 ≤ i.toInt → j < n' → mwR A M → ∃ M' : Mm, q_Mind_write_11 n' M r v i = some (M', 0) ∧ (∀ p, p ≠ 51 → p ≠ 52 → M'.1 p = A.1 p) ∧ (∀ j, j ≠ 2 → M'.1 51 j = A.1 51 j) ∧ M'.2 = A.2 ∧ M'.1 52 = upd (A.1 52) r.toNatClampNeg (v &&& A.1 29 r.toNatClampNeg) ∧ ∀ b, tb (M'.1 51 2) b = if i.toNatClampNeg ≤ b ∧ b < (A.1 43 0).toNatClampNeg then nbb A (A.1 52) r v b (tb (M.1 51 2) b) else tb (M.1 51 2) b := by
  have hb := hu.1
  have tr := tnc hb.1
  intro j
  induction j with
  | zero =>
    intro n' M i hj i0 hn h
    obtain ⟨n', rfl⟩ : ∃ q, n' = q + 1 := ⟨n' - 1, by omega⟩
    have tn := tnc i0
    have c : M.1 43 0 ≤ i := Int32.le_iff_toInt_le.mpr (by rw [h.1 43 (by decide)]; omega)
    have kr : vp_in r 16 := vI (by omega)
    rw [q_Mind_write_11, if_pos c, ix_e kr, ix_e kr, lq_s]
    refine ⟨_, rfl, fun p h1 h2 => ?_, fun j hj => ?_, h.2.2, ?_, fun b => ?_⟩
    · rw [stI_ne _ _ h2]; exact h.1 p h1
    · rw [stI_ne _ _ (by decide)]; exact h.2.1 j hj
    · rw [stI_at, h.1 52 (by decide), h.1 29 (by decide)]
    · rw [if_neg (by omega), stI_ne _ _ (by decide)]
  | succ j ih =>
    intro n' M i hj i0 hn h
    obtain ⟨n', rfl⟩ : ∃ q, n' = q + 1 := ⟨n' - 1, by omega⟩
    have tn := tnc i0
    have ez : (i + 1).toInt = i.toInt + 1 := iadd rfl (rfl : (1 : Int32).toInt = 1) (by omega) (by omega)
    have es : (i + 1).toNatClampNeg = i.toNatClampNeg + 1 := tnS (by omega)
    have c : ¬ M.1 43 0 ≤ i := fun z => by
      have := Int32.le_iff_toInt_le.mp z
      rw [h.1 43 (by decide)] at this
      omega
    have k : vp_in i 12 := vI (by omega)
    obtain ⟨ha, hbb, -⟩ := hu.2 i.toNatClampNeg (by omega)
    have wa : q_Mind_isWritten M (M.1 45 i.toNatClampNeg) r v = some (M, b2 (wrb A (A.1 52) (A.1 45 i.toNatClampNeg) r v)) := by
      rw [iw (by rw [h.1 45 (by decide)]; exact ha) hr]
      unfold wrb
      rw [h.1 45 (by decide), h.1 38 (by decide), h.1 42 (by decide), h.1 52 (by decide)]
    have wb : q_Mind_isWritten M (M.1 46 i.toNatClampNeg) r v = some (M, b2 (wrb A (A.1 52) (A.1 46 i.toNatClampNeg) r v)) := by
      rw [iw (by rw [h.1 46 (by decide)]; exact hbb) hr]
      unfold wrb
      rw [h.1 46 (by decide), h.1 38 (by decide), h.1 42 (by decide), h.1 52 (by decide)]
    have go : ∀ M1 : Mm, mwR A M1 → (∀ b, tb (M1.1 51 2) b = if b = i.toNatClampNeg then nbb A (A.1 52) r v b (tb (M.1 51 2) b) else tb (M.1 51 2) b) → ∃ M' : Mm, q_Mind_write_11 n' M1 r v (i + 1) = some (M', 0) ∧ (∀ p, p ≠ 51 → p ≠ 52 → M'.1 p = A.1 p) ∧ (∀ j, j ≠ 2 → M'.1 51 j = A.1 51 j) ∧ M'.2 = A.2 ∧ M'.1 52 = upd (A.1 52) r.toNatClampNeg (v &&& A.1 29 r.toNatClampNeg) ∧ ∀ b, tb (M'.1 51 2) b = if i.toNatClampNeg ≤ b ∧ b < (A.1 43 0).toNatClampNeg then nbb A (A.1 52) r v b (tb (M.1 51 2) b) else tb (M.1 51 2) b := by
      intro M1 h1 e1
      obtain ⟨M', q, x1, x2, x3, x4, x5⟩ := ih n' M1 (i + 1) (by omega) (by omega) (by omega) h1
      refine ⟨M', q, x1, x2, x3, x4, fun b => ?_⟩
      rw [x5 b, e1 b, es]
      by_cases cb : b = i.toNatClampNeg
      · rw [if_pos cb, if_neg (by omega), if_pos (by omega)]
      · rw [if_neg cb]
        by_cases d : i.toNatClampNeg ≤ b ∧ b < (A.1 43 0).toNatClampNeg
        · rw [if_pos d, if_pos (by omega)]
        · rw [if_neg d, if_neg (by omega)]
    have same : nbb A (A.1 52) r v i.toNatClampNeg (tb (M.1 51 2) i.toNatClampNeg) = tb (M.1 51 2) i.toNatClampNeg → ∀ b, tb (M.1 51 2) b = if b = i.toNatClampNeg then nbb A (A.1 52) r v b (tb (M.1 51 2) b) else tb (M.1 51 2) b := by
      intro e b
      by_cases cb : b = i.toNatClampNeg
      · rw [if_pos cb, cb, e]
      · rw [if_neg cb]
    have set1 : nbb A (A.1 52) r v i.toNatClampNeg (tb (M.1 51 2) i.toNatClampNeg) = true → ∀ b, tb ((stI M 51 (upd (M.1 51) 2 (M.1 51 2 ||| ((1 : Int32) <<< (i &&& 31))))).1 51 2) b = if b = i.toNatClampNeg then nbb A (A.1 52) r v b (tb (M.1 51 2) b) else tb (M.1 51 2) b := by
      intro e b
      rw [stI_at, updS, tb_or, tb_one (by omega)]
      by_cases cb : b = i.toNatClampNeg
      · rw [if_pos cb, decide_eq_true cb, cb, e, Bool.or_true]
      · rw [if_neg cb, decide_eq_false cb, Bool.or_false]
    have clr : nbb A (A.1 52) r v i.toNatClampNeg (tb (M.1 51 2) i.toNatClampNeg) = false → ∀ b, tb ((stI M 51 (upd (M.1 51) 2 (M.1 51 2 &&& (((1 : Int32) <<< (i &&& 31)) ^^^ (-1))))).1 51 2) b = if b = i.toNatClampNeg then nbb A (A.1 52) r v b (tb (M.1 51 2) b) else tb (M.1 51 2) b := by
      intro e b
      rw [stI_at, updS, tb_and, tb_not, tb_one (by omega)]
      by_cases cb : b = i.toNatClampNeg
      · rw [if_pos cb, decide_eq_true cb, cb, e]
        cases tb (M.1 51 2) i.toNatClampNeg <;> cases decide (i.toNatClampNeg < 32) <;> rfl
      · rw [if_neg cb, decide_eq_false cb]
        by_cases c32 : b < 32
        · rw [decide_eq_true c32]
          cases tb (M.1 51 2) b <;> rfl
        · rw [tb_32 (by omega)]
          rfl
    rw [q_Mind_write_11, if_neg c, ix_e k]
    have k44 : M.1 44 = A.1 44 := h.1 44 (by decide)
    by_cases c0 : M.1 44 i.toNatClampNeg = 0
    · rw [if_pos c0, ix_e k, wa, cal_s]
      rw [k44] at c0
      cases hw : wrb A (A.1 52) (A.1 45 i.toNatClampNeg) r v with
      | false =>
        rw [if_pos (show b2 false = 0 from rfl)]
        unfold q_Mind_write_62 q_Mind_write_136
        rw [ix_e k, if_neg (by rw [k44, c0]; decide)]
        refine go M h (same ?_)
        unfold nbb
        rw [if_pos c0, hw, Bool.or_false]
      | true =>
        rw [if_neg (show ¬ b2 true = 0 by decide), lq_s]
        unfold q_Mind_write_136
        refine go _ (h.st _) (set1 ?_)
        unfold nbb
        rw [if_pos c0, hw, Bool.or_true]
    · rw [if_neg c0]
      rw [k44] at c0
      unfold q_Mind_write_62
      rw [ix_e k]
      by_cases c2 : M.1 44 i.toNatClampNeg = 2
      · rw [if_pos c2, ix_e k, wb, cal_s]
        rw [k44] at c2
        cases hwb : wrb A (A.1 52) (A.1 46 i.toNatClampNeg) r v with
        | false =>
          rw [if_pos (show b2 false = 0 from rfl), ix_e k, wa, cal_s]
          cases hw : wrb A (A.1 52) (A.1 45 i.toNatClampNeg) r v with
          | false =>
            rw [if_pos (show b2 false = 0 from rfl)]
            unfold q_Mind_write_136
            refine go M h (same ?_)
            unfold nbb
            rw [if_neg c0, if_pos c2, hw, hwb, Bool.or_false]
            rfl
          | true =>
            rw [if_neg (show ¬ b2 true = 0 by decide), lq_s]
            unfold q_Mind_write_136
            refine go _ (h.st _) (set1 ?_)
            unfold nbb
            rw [if_neg c0, if_pos c2, hw, hwb, Bool.or_true]
            rfl
        | true =>
          rw [if_neg (show ¬ b2 true = 0 by decide), lq_s]
          unfold q_Mind_write_136
          refine go _ (h.st _) (clr ?_)
          unfold nbb
          rw [if_neg c0, if_pos c2, hwb]
          rfl
      · rw [if_neg c2]
        rw [k44] at c2
        unfold q_Mind_write_136
        refine go M h (same ?_)
        unfold nbb
        rw [if_neg c0, if_neg c2]
theorem mw {A : Mm} (hu : ruI A) {r v : Int32} (hr : 0 ≤ r.toInt ∧ r.toInt ≤ 15) : ∃ M' : Mm, q_Mind_write A r v = some (M', 0) ∧ (∀ p, p ≠ 51 → p ≠ 52 → M'.1 p = A.1 p) ∧ (∀ j, j ≠ 2 → M'.1 51 j = A.1 51 j) ∧ M'.2 = A.2 ∧ M'.1 52 = upd (A.1 52) r.toNatClampNeg (v &&& A.1 29 r.toNatClampNeg) ∧ ∀ b, tb (M'.1 51 2) b = if b < (A.1 43 0).toNatClampNeg then nbb A (A.1 52) r v b (tb (A.1 51 2) b) else tb (A.1 51 2) b := by
  have hb := hu.1
  obtain ⟨M', q, x1, x2, x3, x4, x5⟩ := mw_l hu (v := v) hr (A.1 43 0).toInt.toNat 4000 A 0 (by have e : (0 : Int32).toInt = 0 := rfl; omega) (by decide) (by omega) ⟨fun _ _ => rfl, fun _ _ => rfl, rfl⟩
  refine ⟨M', q, x1, x2, x3, x4, fun b => ?_⟩
  rw [x5 b]
  have e0 : (0 : Int32).toNatClampNeg = 0 := rfl
  rw [e0]
  by_cases d : b < (A.1 43 0).toNatClampNeg
  · rw [if_pos d, if_pos (by omega)]
  · rw [if_neg d, if_neg (by omega)]
theorem iw_1 {M : Mm} {f r v : Int32} (hf : 0 ≤ f.toInt ∧ f.toInt ≤ 25) (hr : 0 ≤ r.toInt ∧ r.toInt ≤ 15) : q_Mind_isWritten_1 M f r v = some (M, b2 (wrb M (M.1 62) f r v)) := by
  unfold q_Mind_isWritten_1 wrb
  rw [ix_e (vI (by omega))]
  by_cases c : M.1 38 f.toNatClampNeg = r
  · rw [if_pos c, ix_e (vI (by omega)), ix_e (vI (by omega)), decide_eq_true c]
    by_cases d : (v ^^^ M.1 62 r.toNatClampNeg) &&& M.1 42 f.toNatClampNeg = 0
    · rw [if_pos d, decide_eq_true d]
      rfl
    · rw [if_neg d, decide_eq_false d]
      rfl
  · rw [if_neg c, decide_eq_false c]
    rfl
theorem kve_1 {M : Mm} {f : Int32} (hf : 0 ≤ f.toInt ∧ f.toInt ≤ 25) (hh : 0 ≤ (M.1 38 f.toNatClampNeg).toInt ∧ (M.1 38 f.toNatClampNeg).toInt ≤ 15) : q_Mind_knownValue_1 M f = some (M, kvl M (M.1 62) f) := by
  unfold q_Mind_knownValue_1 kvl
  rw [ix_e (vI (by omega)), ix_e (vI (by omega)), ix_e (vI (by omega)), ix_e (vI (by omega))]
theorem th_1 {M : Mm} {r : Int32} (hr : 0 ≤ r.toInt ∧ r.toInt ≤ 15) (hb : M.1 26 r.toNatClampNeg ≠ -1 → (0 ≤ (M.1 26 r.toNatClampNeg).toInt ∧ (M.1 26 r.toNatClampNeg).toInt ≤ 25) ∧ (0 ≤ (M.1 38 (M.1 26 r.toNatClampNeg).toNatClampNeg).toInt ∧ (M.1 38 (M.1 26 r.toNatClampNeg).toNatClampNeg).toInt ≤ 15)) : q_Mind_isThere_1 M r = some (M, b2 (thb M (M.1 62) r)) := by
  have k : vp_in r 16 := vI (by omega)
  unfold q_Mind_isThere_1 thb
  rw [ix_e k, lq_s]
  by_cases c : M.1 26 r.toNatClampNeg = -1
  · rw [if_pos c, decide_eq_true c]
    rfl
  · obtain ⟨h1, h2⟩ := hb c
    rw [if_neg c, kve_1 h1 h2, cal_s, ix_e k, decide_eq_false c]
    by_cases d : kvl M (M.1 62) (M.1 26 r.toNatClampNeg) = M.1 27 r.toNatClampNeg
    · rw [if_pos d, decide_eq_true d]
      rfl
    · rw [if_neg d, decide_eq_false d]
      rfl
theorem b170_1 {M : Mm} {kf : Mm → Int32 → Int32 → Int32 → Int32 → Rs} {r v m i : Int32} (b : Bool) : q_Mind_brokenBy_1_170 kf M r v m i (b2 b) = kf M r v (if b = true then m ||| ((1 : Int32) <<< (i &&& 31)) else m) (i + 1) := by
  unfold q_Mind_brokenBy_1_170
  cases b
  · rw [if_pos (show b2 false = 0 from rfl)]
    rfl
  · rw [if_neg (show ¬ b2 true = 0 by decide), lq_s]
    rfl
theorem b41_1 {M : Mm} (hu : ruI M) {kf : Mm → Int32 → Int32 → Int32 → Int32 → Rs} {r v m i : Int32} (hr : 0 ≤ r.toInt ∧ r.toInt ≤ 15) (hi : 0 ≤ i.toInt ∧ i.toInt < (M.1 43 0).toInt) {t : Int32} (ht : t = b2 (tb (M.1 61 2) i.toNatClampNeg)) : q_Mind_brokenBy_1_41 kf M r v m i t = kf M r v (if brb M (M.1 61 2) (M.1 62) r v i.toNatClampNeg = true then m ||| ((1 : Int32) <<< (i &&& 31)) else m) (i + 1) := by
  have hb := hu.1
  have tn := tnc hi.1
  obtain ⟨ha, hbb, hh⟩ := hu.2 i.toNatClampNeg (by omega)
  have k : vp_in i 12 := vI (by omega)
  unfold q_Mind_brokenBy_1_41 brb
  rw [ix_e k]
  by_cases c0 : M.1 44 i.toNatClampNeg = 0
  · rw [if_pos c0, if_pos c0]
    unfold q_Mind_brokenBy_1_78 q_Mind_brokenBy_1_79
    cases hbt : tb (M.1 61 2) i.toNatClampNeg with
    | true =>
      rw [hbt] at ht
      rw [if_neg (by rw [ht]; decide)]
      exact b170_1 false
    | false =>
      rw [hbt] at ht
      rw [if_pos (by rw [ht]; rfl), ix_e k, iw_1 hbb hr, cal_s]
      cases hw : wrb M (M.1 62) (M.1 46 i.toNatClampNeg) r v with
      | false =>
        rw [if_pos (show b2 false = 0 from rfl)]
        exact b170_1 false
      | true =>
        rw [if_neg (show ¬ b2 true = 0 by decide)]
        exact b170_1 true
  rw [if_neg c0, if_neg c0, ix_e k]
  by_cases c2 : M.1 44 i.toNatClampNeg = 2
  · rw [if_pos c2, if_pos c2]
    unfold q_Mind_brokenBy_1_120 q_Mind_brokenBy_1_121
    cases hbt : tb (M.1 61 2) i.toNatClampNeg with
    | false =>
      rw [hbt] at ht
      rw [if_pos (by rw [ht]; rfl)]
      exact b170_1 false
    | true =>
      rw [hbt] at ht
      rw [if_neg (by rw [ht]; decide), ix_e k, iw_1 ha hr, cal_s]
      cases hw : wrb M (M.1 62) (M.1 45 i.toNatClampNeg) r v with
      | false =>
        rw [if_pos (show b2 false = 0 from rfl)]
        exact b170_1 false
      | true =>
        rw [if_neg (show ¬ b2 true = 0 by decide)]
        exact b170_1 true
  rw [if_neg c2, if_neg c2, ix_e k, iw_1 ha hr, cal_s]
  unfold q_Mind_brokenBy_1_167 q_Mind_brokenBy_1_168
  cases hw : wrb M (M.1 62) (M.1 45 i.toNatClampNeg) r v with
  | false =>
    rw [if_pos (show b2 false = 0 from rfl)]
    exact b170_1 false
  | true =>
    rw [if_neg (show ¬ b2 true = 0 by decide), ix_e k, kve_1 hbb hh, cal_s, ix_e k]
    by_cases ce : kvl M (M.1 62) (M.1 46 i.toNatClampNeg) = M.1 47 i.toNatClampNeg
    · rw [if_pos ce, decide_eq_true ce]
      exact b170_1 false
    · rw [if_neg ce, decide_eq_false ce]
      exact b170_1 true
theorem bby_1_l {M : Mm} (hu : ruI M) {r v : Int32} (hr : 0 ≤ r.toInt ∧ r.toInt ≤ 15) : ∀ (j n' : Nat) (m i : Int32), (M.1 43 0).toInt - i.toInt = (j : Int) → 0 ≤ i.toInt → j < n' → ∃ m' : Int32, q_Mind_brokenBy_1_14 n' M r v m i = some (M, m') ∧ ∀ b, tb m' b = (tb m b || (decide (i.toNatClampNeg ≤ b ∧ b < (M.1 43 0).toNatClampNeg) && brb M (M.1 61 2) (M.1 62) r v b)) := by
  have hb := hu.1
  have tr := tnc hb.1
  intro j
  induction j with
  | zero =>
    intro n' m i hj i0 hn
    obtain ⟨n', rfl⟩ : ∃ q, n' = q + 1 := ⟨n' - 1, by omega⟩
    have tn := tnc i0
    have c : M.1 43 0 ≤ i := Int32.le_iff_toInt_le.mpr (by omega)
    rw [q_Mind_brokenBy_1_14, if_pos c]
    refine ⟨m, rfl, fun b => ?_⟩
    rw [decide_eq_false (by omega)]
    cases tb m b <;> rfl
  | succ j ih =>
    intro n' m i hj i0 hn
    obtain ⟨n', rfl⟩ : ∃ q, n' = q + 1 := ⟨n' - 1, by omega⟩
    have tn := tnc i0
    have ez : (i + 1).toInt = i.toInt + 1 := iadd rfl (rfl : (1 : Int32).toInt = 1) (by omega) (by omega)
    have es : (i + 1).toNatClampNeg = i.toNatClampNeg + 1 := tnS (by omega)
    have c : ¬ M.1 43 0 ≤ i := fun z => by have := Int32.le_iff_toInt_le.mp z; omega
    have hbit := bit_1 (x := M.1 61 2) (i := i) (by omega)
    have step : q_Mind_brokenBy_1_14 (n' + 1) M r v m i = q_Mind_brokenBy_1_14 n' M r v (if brb M (M.1 61 2) (M.1 62) r v i.toNatClampNeg = true then m ||| ((1 : Int32) <<< (i &&& 31)) else m) (i + 1) := by
      rw [q_Mind_brokenBy_1_14, if_neg c]
      cases hbt : tb (M.1 61 2) i.toNatClampNeg with
      | true =>
        rw [if_pos (hbit.mpr hbt)]
        exact b41_1 hu hr (by omega) (by rw [hbt]; rfl)
      | false =>
        rw [if_neg (fun z => by rw [hbit.mp z] at hbt; cases hbt)]
        exact b41_1 hu hr (by omega) (by rw [hbt]; rfl)
    obtain ⟨m', q, hm⟩ := ih n' (if brb M (M.1 61 2) (M.1 62) r v i.toNatClampNeg = true then m ||| ((1 : Int32) <<< (i &&& 31)) else m) (i + 1) (by omega) (by omega) (by omega)
    refine ⟨m', by rw [step]; exact q, fun b => ?_⟩
    rw [hm b, es]
    by_cases cb : b = i.toNatClampNeg
    · rw [cb, decide_eq_false (by omega), decide_eq_true (show i.toNatClampNeg ≤ i.toNatClampNeg ∧ i.toNatClampNeg < (M.1 43 0).toNatClampNeg by omega)]
      cases hx : brb M (M.1 61 2) (M.1 62) r v i.toNatClampNeg with
      | true =>
        rw [if_pos rfl, tb_or, tb_one (by omega), decide_eq_true rfl]
        cases tb m i.toNatClampNeg <;> rfl
      | false =>
        rw [if_neg (by decide)]
        cases tb m i.toNatClampNeg <;> rfl
    · have e1 : tb (if brb M (M.1 61 2) (M.1 62) r v i.toNatClampNeg = true then m ||| ((1 : Int32) <<< (i &&& 31)) else m) b = tb m b := by
        cases hx : brb M (M.1 61 2) (M.1 62) r v i.toNatClampNeg with
        | true =>
          rw [if_pos rfl, tb_or, tb_one (by omega), decide_eq_false cb]
          cases tb m b <;> rfl
        | false => rw [if_neg (by decide)]
      rw [e1]
      by_cases d : i.toNatClampNeg ≤ b ∧ b < (M.1 43 0).toNatClampNeg
      · rw [decide_eq_true d, decide_eq_true (show i.toNatClampNeg + 1 ≤ b ∧ b < (M.1 43 0).toNatClampNeg by omega)]
      · rw [decide_eq_false d, decide_eq_false (show ¬ (i.toNatClampNeg + 1 ≤ b ∧ b < (M.1 43 0).toNatClampNeg) by omega)]
theorem bby_1 {M : Mm} (hu : ruI M) {r v : Int32} (hr : 0 ≤ r.toInt ∧ r.toInt ≤ 15) : ∃ m' : Int32, q_Mind_brokenBy_1 M r v = some (M, m') ∧ ∀ b, tb m' b = (decide (b < (M.1 43 0).toNatClampNeg) && brb M (M.1 61 2) (M.1 62) r v b) := by
  have hb := hu.1
  obtain ⟨m', q, hm⟩ := bby_1_l hu (v := v) hr (M.1 43 0).toInt.toNat 4000 0 0 (by have e : (0 : Int32).toInt = 0 := rfl; omega) (by decide) (by omega)
  refine ⟨m', q, fun b => ?_⟩
  rw [hm b, tb_0]
  have e0 : (0 : Int32).toNatClampNeg = 0 := rfl
  rw [e0]
  by_cases d : b < (M.1 43 0).toNatClampNeg
  · rw [decide_eq_true d, decide_eq_true (show 0 ≤ b ∧ b < (M.1 43 0).toNatClampNeg by omega)]
    rfl
  · rw [decide_eq_false d, decide_eq_false (show ¬ (0 ≤ b ∧ b < (M.1 43 0).toNatClampNeg) by omega)]
    rfl
def mw_1R (A M : Mm) : Prop := (∀ p, p ≠ 61 → M.1 p = A.1 p) ∧ (∀ j, j ≠ 2 → M.1 61 j = A.1 61 j) ∧ M.2 = A.2
theorem mw_1R.st {A M : Mm} (h : mw_1R A M) (x : Int32) : mw_1R A (stI M 61 (upd (M.1 61) 2 x)) := ⟨fun p hp => by rw [stI_ne _ _ hp]; exact h.1 p hp, fun j hj => by rw [stI_at, updN hj]; exact h.2.1 j hj, h.2.2⟩
theorem mw_1_l {A : Mm} (hu : ruI A) {r v : Int32} (hr : 0 ≤ r.toInt ∧ r.toInt ≤ 15) : ∀ (j n' : Nat) (M : Mm) (i : Int32), (A.1 43 0).toInt - i.toInt = (j : Int) → 0 ≤ i.toInt → j < n' → mw_1R A M → ∃ M' : Mm, q_Mind_write_1_11 n' M r v i = some (M', 0) ∧ (∀ p, p ≠ 61 → p ≠ 62 → M'.1 p = A.1 p) ∧ (∀ j, j ≠ 2 → M'.1 61 j = A.1 61 j) ∧ M'.2 = A.2 ∧ M'.1 62 = upd (A.1 62) r.toNatClampNeg (v &&& A.1 29 r.toNatClampNeg) ∧ ∀ b, tb (M'.1 61 2) b = if i.toNatClampNeg ≤ b ∧ b < (A.1 43 0).toNatClampNeg then nbb A (A.1 62) r v b (tb (M.1 61 2) b) else tb (M.1 61 2) b := by
  have hb := hu.1
  have tr := tnc hb.1
  intro j
  induction j with
  | zero =>
    intro n' M i hj i0 hn h
    obtain ⟨n', rfl⟩ : ∃ q, n' = q + 1 := ⟨n' - 1, by omega⟩
    have tn := tnc i0
    have c : M.1 43 0 ≤ i := Int32.le_iff_toInt_le.mpr (by rw [h.1 43 (by decide)]; omega)
    have kr : vp_in r 16 := vI (by omega)
    rw [q_Mind_write_1_11, if_pos c, ix_e kr, ix_e kr, lq_s]
    refine ⟨_, rfl, fun p h1 h2 => ?_, fun j hj => ?_, h.2.2, ?_, fun b => ?_⟩
    · rw [stI_ne _ _ h2]; exact h.1 p h1
    · rw [stI_ne _ _ (by decide)]; exact h.2.1 j hj
    · rw [stI_at, h.1 62 (by decide), h.1 29 (by decide)]
    · rw [if_neg (by omega), stI_ne _ _ (by decide)]
  | succ j ih =>
    intro n' M i hj i0 hn h
    obtain ⟨n', rfl⟩ : ∃ q, n' = q + 1 := ⟨n' - 1, by omega⟩
    have tn := tnc i0
    have ez : (i + 1).toInt = i.toInt + 1 := iadd rfl (rfl : (1 : Int32).toInt = 1) (by omega) (by omega)
    have es : (i + 1).toNatClampNeg = i.toNatClampNeg + 1 := tnS (by omega)
    have c : ¬ M.1 43 0 ≤ i := fun z => by
      have := Int32.le_iff_toInt_le.mp z
      rw [h.1 43 (by decide)] at this
      omega
    have k : vp_in i 12 := vI (by omega)
    obtain ⟨ha, hbb, -⟩ := hu.2 i.toNatClampNeg (by omega)
    have wa : q_Mind_isWritten_1 M (M.1 45 i.toNatClampNeg) r v = some (M, b2 (wrb A (A.1 62) (A.1 45 i.toNatClampNeg) r v)) := by
      rw [iw_1 (by rw [h.1 45 (by decide)]; exact ha) hr]
      unfold wrb
      rw [h.1 45 (by decide), h.1 38 (by decide), h.1 42 (by decide), h.1 62 (by decide)]
    have wb : q_Mind_isWritten_1 M (M.1 46 i.toNatClampNeg) r v = some (M, b2 (wrb A (A.1 62) (A.1 46 i.toNatClampNeg) r v)) := by
      rw [iw_1 (by rw [h.1 46 (by decide)]; exact hbb) hr]
      unfold wrb
      rw [h.1 46 (by decide), h.1 38 (by decide), h.1 42 (by decide), h.1 62 (by decide)]
    have go : ∀ M1 : Mm, mw_1R A M1 → (∀ b, tb (M1.1 61 2) b = if b = i.toNatClampNeg then nbb A (A.1 62) r v b (tb (M.1 61 2) b) else tb (M.1 61 2) b) → ∃ M' : Mm, q_Mind_write_1_11 n' M1 r v (i + 1) = some (M', 0) ∧ (∀ p, p ≠ 61 → p ≠ 62 → M'.1 p = A.1 p) ∧ (∀ j, j ≠ 2 → M'.1 61 j = A.1 61 j) ∧ M'.2 = A.2 ∧ M'.1 62 = upd (A.1 62) r.toNatClampNeg (v &&& A.1 29 r.toNatClampNeg) ∧ ∀ b, tb (M'.1 61 2) b = if i.toNatClampNeg ≤ b ∧ b < (A.1 43 0).toNatClampNeg then nbb A (A.1 62) r v b (tb (M.1 61 2) b) else tb (M.1 61 2) b := by
      intro M1 h1 e1
      obtain ⟨M', q, x1, x2, x3, x4, x5⟩ := ih n' M1 (i + 1) (by omega) (by omega) (by omega) h1
      refine ⟨M', q, x1, x2, x3, x4, fun b => ?_⟩
      rw [x5 b, e1 b, es]
      by_cases cb : b = i.toNatClampNeg
      · rw [if_pos cb, if_neg (by omega), if_pos (by omega)]
      · rw [if_neg cb]
        by_cases d : i.toNatClampNeg ≤ b ∧ b < (A.1 43 0).toNatClampNeg
        · rw [if_pos d, if_pos (by omega)]
        · rw [if_neg d, if_neg (by omega)]
    have same : nbb A (A.1 62) r v i.toNatClampNeg (tb (M.1 61 2) i.toNatClampNeg) = tb (M.1 61 2) i.toNatClampNeg → ∀ b, tb (M.1 61 2) b = if b = i.toNatClampNeg then nbb A (A.1 62) r v b (tb (M.1 61 2) b) else tb (M.1 61 2) b := by
      intro e b
      by_cases cb : b = i.toNatClampNeg
      · rw [if_pos cb, cb, e]
      · rw [if_neg cb]
    have set1 : nbb A (A.1 62) r v i.toNatClampNeg (tb (M.1 61 2) i.toNatClampNeg) = true → ∀ b, tb ((stI M 61 (upd (M.1 61) 2 (M.1 61 2 ||| ((1 : Int32) <<< (i &&& 31))))).1 61 2) b = if b = i.toNatClampNeg then nbb A (A.1 62) r v b (tb (M.1 61 2) b) else tb (M.1 61 2) b := by
      intro e b
      rw [stI_at, updS, tb_or, tb_one (by omega)]
      by_cases cb : b = i.toNatClampNeg
      · rw [if_pos cb, decide_eq_true cb, cb, e, Bool.or_true]
      · rw [if_neg cb, decide_eq_false cb, Bool.or_false]
    have clr : nbb A (A.1 62) r v i.toNatClampNeg (tb (M.1 61 2) i.toNatClampNeg) = false → ∀ b, tb ((stI M 61 (upd (M.1 61) 2 (M.1 61 2 &&& (((1 : Int32) <<< (i &&& 31)) ^^^ (-1))))).1 61 2) b = if b = i.toNatClampNeg then nbb A (A.1 62) r v b (tb (M.1 61 2) b) else tb (M.1 61 2) b := by
      intro e b
      rw [stI_at, updS, tb_and, tb_not, tb_one (by omega)]
      by_cases cb : b = i.toNatClampNeg
      · rw [if_pos cb, decide_eq_true cb, cb, e]
        cases tb (M.1 61 2) i.toNatClampNeg <;> cases decide (i.toNatClampNeg < 32) <;> rfl
      · rw [if_neg cb, decide_eq_false cb]
        by_cases c32 : b < 32
        · rw [decide_eq_true c32]
          cases tb (M.1 61 2) b <;> rfl
        · rw [tb_32 (by omega)]
          rfl
    rw [q_Mind_write_1_11, if_neg c, ix_e k]
    have k44 : M.1 44 = A.1 44 := h.1 44 (by decide)
    by_cases c0 : M.1 44 i.toNatClampNeg = 0
    · rw [if_pos c0, ix_e k, wa, cal_s]
      rw [k44] at c0
      cases hw : wrb A (A.1 62) (A.1 45 i.toNatClampNeg) r v with
      | false =>
        rw [if_pos (show b2 false = 0 from rfl)]
        unfold q_Mind_write_1_62 q_Mind_write_1_136
        rw [ix_e k, if_neg (by rw [k44, c0]; decide)]
        refine go M h (same ?_)
        unfold nbb
        rw [if_pos c0, hw, Bool.or_false]
      | true =>
        rw [if_neg (show ¬ b2 true = 0 by decide), lq_s]
        unfold q_Mind_write_1_136
        refine go _ (h.st _) (set1 ?_)
        unfold nbb
        rw [if_pos c0, hw, Bool.or_true]
    · rw [if_neg c0]
      rw [k44] at c0
      unfold q_Mind_write_1_62
      rw [ix_e k]
      by_cases c2 : M.1 44 i.toNatClampNeg = 2
      · rw [if_pos c2, ix_e k, wb, cal_s]
        rw [k44] at c2
        cases hwb : wrb A (A.1 62) (A.1 46 i.toNatClampNeg) r v with
        | false =>
          rw [if_pos (show b2 false = 0 from rfl), ix_e k, wa, cal_s]
          cases hw : wrb A (A.1 62) (A.1 45 i.toNatClampNeg) r v with
          | false =>
            rw [if_pos (show b2 false = 0 from rfl)]
            unfold q_Mind_write_1_136
            refine go M h (same ?_)
            unfold nbb
            rw [if_neg c0, if_pos c2, hw, hwb, Bool.or_false]
            rfl
          | true =>
            rw [if_neg (show ¬ b2 true = 0 by decide), lq_s]
            unfold q_Mind_write_1_136
            refine go _ (h.st _) (set1 ?_)
            unfold nbb
            rw [if_neg c0, if_pos c2, hw, hwb, Bool.or_true]
            rfl
        | true =>
          rw [if_neg (show ¬ b2 true = 0 by decide), lq_s]
          unfold q_Mind_write_1_136
          refine go _ (h.st _) (clr ?_)
          unfold nbb
          rw [if_neg c0, if_pos c2, hwb]
          rfl
      · rw [if_neg c2]
        rw [k44] at c2
        unfold q_Mind_write_1_136
        refine go M h (same ?_)
        unfold nbb
        rw [if_neg c0, if_neg c2]
theorem mw_1 {A : Mm} (hu : ruI A) {r v : Int32} (hr : 0 ≤ r.toInt ∧ r.toInt ≤ 15) : ∃ M' : Mm, q_Mind_write_1 A r v = some (M', 0) ∧ (∀ p, p ≠ 61 → p ≠ 62 → M'.1 p = A.1 p) ∧ (∀ j, j ≠ 2 → M'.1 61 j = A.1 61 j) ∧ M'.2 = A.2 ∧ M'.1 62 = upd (A.1 62) r.toNatClampNeg (v &&& A.1 29 r.toNatClampNeg) ∧ ∀ b, tb (M'.1 61 2) b = if b < (A.1 43 0).toNatClampNeg then nbb A (A.1 62) r v b (tb (A.1 61 2) b) else tb (A.1 61 2) b := by
  have hb := hu.1
  obtain ⟨M', q, x1, x2, x3, x4, x5⟩ := mw_1_l hu (v := v) hr (A.1 43 0).toInt.toNat 4000 A 0 (by have e : (0 : Int32).toInt = 0 := rfl; omega) (by decide) (by omega) ⟨fun _ _ => rfl, fun _ _ => rfl, rfl⟩
  refine ⟨M', q, x1, x2, x3, x4, fun b => ?_⟩
  rw [x5 b]
  have e0 : (0 : Int32).toNatClampNeg = 0 := rfl
  rw [e0]
  by_cases d : b < (A.1 43 0).toNatClampNeg
  · rw [if_pos d, if_pos (by omega)]
  · rw [if_neg d, if_neg (by omega)]
end
section
-- the class's mind and the reference's device: the fields that are known hold the same, the same rules are armed
def MV (M : Mm) (wd : Nat → Int32) (N : Mm) : Prop := (∀ f, pf M f → knA (M.1 39 f) → (N.1 33 f >>> (M.1 41 f &&& 31) = 0) ∧ ∀ b, tb (M.1 42 f) b = true → tb (wd (M.1 38 f).toNatClampNeg) b = tb (N.1 33 f <<< (M.1 40 f &&& 31)) b) ∧ ∀ r, r < 16 → ∀ b, tb (wd r) b = true → tb (M.1 29 r) b = true
def MD (M : Mm) (fl : Int32) (wd : Nat → Int32) (N : Mm) : Prop := MV M wd N ∧ ∀ k : Nat, (k : Int) < (M.1 43 0).toInt → N.1 36 k = b2 (tb fl k)
theorem lf_p {M N : Mm} (h : LF M N) {f : Nat} (hp : pf M f) : N.1 23 f = 1 ∧ M.1 38 f = N.1 25 f ∧ 0 ≤ (M.1 38 f).toInt ∧ ((0 ≤ (M.1 39 f).toInt ∧ (M.1 39 f).toInt < 7) ∧ sB 0 (M.1 39 f).toNatClampNeg = N.1 24 f) ∧ M.1 40 f = N.1 26 f ∧ M.1 41 f = N.1 27 f ∧ 1 ≤ (M.1 41 f).toInt := by
  rcases h f hp.1 with ⟨z, -⟩ | ⟨g1, g2, g3, g4, g5, g6, g7, g8, -⟩
  · exact absurd z hp.2
  · exact ⟨g1, g2, g3, ⟨g4, g5⟩, g6, g7, g8⟩
theorem xor_0 {v w mk : Int32} : (v ^^^ w) &&& mk = 0 ↔ ∀ b, tb mk b = true → tb v b = tb w b := by
  rw [and_0]
  constructor
  · intro h b hb
    have z := h b
    rw [tb_xor] at z
    cases hv : tb v b <;> cases hw : tb w b
    · rfl
    · exact absurd ⟨by rw [hv, hw]; rfl, hb⟩ z
    · exact absurd ⟨by rw [hv, hw]; rfl, hb⟩ z
    · rfl
  · intro h b z
    have e := h b z.2
    rw [tb_xor, e] at z
    cases hw : tb w b <;> rw [hw] at z <;> exact absurd z.1 (by decide)
theorem zero_fit {w : Int32} (hw : 0 ≤ w.toInt ∧ w.toInt ≤ 16) : (0 : Int32) >>> (w &&& 31) = 0 := (fit_tb hw).mpr (fun b _ => tb_0)
section MDS
variable {M N : Mm} {fl : Int32} {wd : Nat → Int32}
theorem md_eq (hl : LF M N) (la : LA M N) (h : MV M wd N) {f : Nat} (hp : pf M f) (hk : knA (M.1 39 f)) (v : Int32) : ((v ^^^ wd (M.1 38 f).toNatClampNeg) &&& M.1 42 f = 0) ↔ (v &&& M.1 42 f) >>> (M.1 40 f &&& 31) = N.1 33 f := by
  obtain ⟨l1, l2, -, -⟩ := la.1 f hp
  have w1 := (lf_p hl hp).2.2.2.2.2.2
  obtain ⟨m1, m2⟩ := h.1 f hp hk
  rw [xor_0]
  constructor
  · intro hv
    exact kv_e l1.1 w1 l1.2 l2 m1 (fun b hb => by rw [hv b hb, m2 b hb])
  · intro e b hb
    have p := part_tb (x := v) l1.1 w1 l1.2 l2 b
    rw [e, hb, Bool.and_true] at p
    rw [← p, m2 b hb]
theorem md_loose (la : LA M N) (h : MV M wd N) {f : Nat} (hp : pf M f) (hk : ¬ knA (M.1 39 f)) (h0 : 0 ≤ (M.1 38 f).toInt) (hh : ∀ g, pf M g → 0 ≤ (M.1 38 g).toInt) {b : Nat} (hb : tb (M.1 42 f) b = true) : tb (wd (M.1 38 f).toNatClampNeg) b = false := by
  cases hw : tb (wd (M.1 38 f).toNatClampNeg) b with
  | false => rfl
  | true =>
    exfalso
    have t38 := tnc h0
    have l5 := (la.1 f hp).2.2.2.2
    obtain ⟨g, g1, g2, g3, g4⟩ := (la.2.2.1 _ b).mp (h.2 _ (by omega) b hw)
    have e : M.1 38 f = M.1 38 g := tn_inj h0 (hh g g1) g2.symm
    by_cases c : f = g
    · rw [c] at hk
      exact hk g3
    · exact la.2.1 f g hp g1 c e b ⟨hb, g4⟩
theorem md_eq0 (hl : LF M N) (la : LA M N) (h : MV M wd N) {f : Nat} (hp : pf M f) (hk : ¬ knA (M.1 39 f)) (v : Int32) : ((v ^^^ wd (M.1 38 f).toNatClampNeg) &&& M.1 42 f = 0) ↔ (v &&& M.1 42 f) >>> (M.1 40 f &&& 31) = 0 := by
  obtain ⟨l1, l2, -, -⟩ := la.1 f hp
  have w1 := (lf_p hl hp).2.2.2.2.2.2
  have lo := fun b hb => md_loose la h hp hk (lf_p hl hp).2.2.1 (fun g hg => (lf_p hl hg).2.2.1) (b := b) hb
  have z0 : ∀ b, tb ((0 : Int32) <<< (M.1 40 f &&& 31)) b = false := fun b => by
    rw [tb_shl (by omega), tb_0, Bool.and_false]
  rw [xor_0]
  constructor
  · intro hv
    exact kv_e l1.1 w1 l1.2 l2 (zero_fit (by omega)) (fun b hb => by rw [hv b hb, lo b hb, z0])
  · intro e b hb
    have p := part_tb (x := v) l1.1 w1 l1.2 l2 b
    rw [e, hb, Bool.and_true, z0] at p
    rw [← p, lo b hb]
theorem kv_md (hl : LF M N) (la : LA M N) (h : MV M wd N) {f : Int32} (hp : pf M f.toNatClampNeg) (hk : knA (M.1 39 f.toNatClampNeg)) : kvl M wd f = N.1 33 f.toNatClampNeg := by
  obtain ⟨l1, l2, -, -⟩ := la.1 _ hp
  have w1 := (lf_p hl hp).2.2.2.2.2.2
  obtain ⟨m1, m2⟩ := h.1 _ hp hk
  exact kv_e l1.1 w1 l1.2 l2 m1 m2
theorem part_m (hl : LF M N) (la : LA M N) {f : Int32} (f0 : 0 ≤ f.toInt) (hp : pf M f.toNatClampNeg) (v : Int32) : q_ChipMapModel_part N f v = some (N, (v &&& M.1 42 f.toNatClampNeg) >>> (M.1 40 f.toNatClampNeg &&& 31)) := by
  obtain ⟨l1, l2, -, -⟩ := la.1 _ hp
  obtain ⟨-, -, -, -, e40, e41, w1⟩ := lf_p hl hp
  have t := tnc f0
  have k : vp_in f 26 := vI (by have := hp.1; omega)
  unfold q_ChipMapModel_part
  rw [ix_e k, ix_e k, ← e40, ← e41, part_e l1.1 w1 l1.2 l2]
theorem ac_0 {a c : Int32} (ha : 0 ≤ a.toInt ∧ a.toInt < 7) (hc : sB 0 a.toNatClampNeg = c) : (a = 0 ↔ c = 119) ∧ (a = 1 ↔ c = 114) ∧ (a = 2 ↔ c = 111) ∧ (a = 3 ↔ c = 99) := by
  rw [← hc]
  exact acE ha
theorem sto_m (hl : LF M N) {f : Int32} (f0 : 0 ≤ f.toInt) (hp : pf M f.toNatClampNeg) : ∃ t : Int32, q_ChipMapModel_isStored N f = some (N, t) ∧ ((t = 0 ∧ ¬ knA (M.1 39 f.toNatClampNeg)) ∨ (t = 1 ∧ knA (M.1 39 f.toNatClampNeg))) := by
  obtain ⟨-, -, -, ⟨g4, g5⟩, -, -, -⟩ := lf_p hl hp
  obtain ⟨i0, -, i2, -⟩ := ac_0 g4 g5
  have t := tnc f0
  have k : vp_in f 26 := vI (by have := hp.1; omega)
  unfold q_ChipMapModel_isStored knA
  rw [ix_e k]
  by_cases c0 : M.1 39 f.toNatClampNeg = 0
  · rw [if_pos (i0.mp c0)]
    exact ⟨1, rfl, Or.inr ⟨rfl, Or.inl c0⟩⟩
  rw [if_neg (fun z => c0 (i0.mpr z)), ix_e k]
  by_cases c2 : M.1 39 f.toNatClampNeg = 2
  · rw [if_pos (i2.mp c2)]
    exact ⟨1, rfl, Or.inr ⟨rfl, Or.inr c2⟩⟩
  · rw [if_neg (fun z => c2 (i2.mpr z))]
    exact ⟨0, rfl, Or.inl ⟨rfl, fun z => by rcases z with z | z; exact c0 z; exact c2 z⟩⟩
theorem isin_m (hl : LF M N) {f r : Int32} (f0 : 0 ≤ f.toInt) (hp : pf M f.toNatClampNeg) : q_ChipMapModel_isIn N f r = some (N, b2 (decide (M.1 38 f.toNatClampNeg = r))) := by
  obtain ⟨g1, g2, -, -, -, -, -⟩ := lf_p hl hp
  have t := tnc f0
  have k : vp_in f 26 := vI (by have := hp.1; omega)
  unfold q_ChipMapModel_isIn
  rw [ix_e k, if_neg (by rw [g1]; decide), ix_e k, ← g2]
  by_cases c : M.1 38 f.toNatClampNeg = r
  · rw [if_pos c, decide_eq_true c]
    rfl
  · rw [if_neg c, decide_eq_false c]
    rfl
theorem iw_m (hl : LF M N) (la : LA M N) (h : MV M wd N) {f r v : Int32} (f0 : 0 ≤ f.toInt) (hp : pf M f.toNatClampNeg) (h1 : M.1 39 f.toNatClampNeg ≠ 1) (h3 : M.1 39 f.toNatClampNeg ≠ 3) : q_ChipMapModel_isWritten N f r v = some (N, b2 (wrb M wd f r v)) := by
  obtain ⟨-, -, -, ⟨g4, g5⟩, -, -, -⟩ := lf_p hl hp
  obtain ⟨-, i1, -, i3⟩ := ac_0 g4 g5
  have t := tnc f0
  have k : vp_in f 26 := vI (by have := hp.1; omega)
  have k7 : vp_in f 78 := vI (by have := hp.1; omega)
  unfold q_ChipMapModel_isWritten wrb
  rw [isin_m hl f0 hp, cal_s]
  by_cases c : M.1 38 f.toNatClampNeg = r
  · rw [decide_eq_true c, if_neg (show ¬ b2 true = 0 by decide), ix_e k, if_neg (fun z => h1 (i1.mpr z)), ix_e k, if_neg (fun z => h3 (i3.mpr z)), part_m hl la f0 hp, cal_s]
    obtain ⟨s, q, hs⟩ := sto_m hl f0 hp
    rw [q, cal_s]
    subst c
    rcases hs with ⟨rfl, hk⟩ | ⟨rfl, hk⟩
    · rw [if_pos rfl]
      have e := md_eq0 hl la h hp hk v
      by_cases d : (v &&& M.1 42 f.toNatClampNeg) >>> (M.1 40 f.toNatClampNeg &&& 31) = 0
      · rw [if_pos d, decide_eq_true (e.mpr d)]
        rfl
      · rw [if_neg d, decide_eq_false (fun z => d (e.mp z))]
        rfl
    · rw [if_neg (by decide), ix_e k7]
      have e := md_eq hl la h hp hk v
      by_cases d : (v &&& M.1 42 f.toNatClampNeg) >>> (M.1 40 f.toNatClampNeg &&& 31) = N.1 33 f.toNatClampNeg
      · rw [if_pos d, decide_eq_true (e.mpr d)]
        rfl
      · rw [if_neg d, decide_eq_false (fun z => d (e.mp z))]
        rfl
  · rw [decide_eq_false c, if_pos (show b2 false = 0 from rfl)]
    rfl
theorem sg_k {a c : Int32} (ha : 0 ≤ a.toInt ∧ a.toInt < 3) (hc : sB 1 a.toNatClampNeg = c) : (a = 0 ↔ c = 60) ∧ (a = 1 ↔ c = 38) ∧ (a = 2 ↔ c = 33) := by
  have e : ∀ k : Nat, k < 3 → (sB 1 k = 60 ↔ k = 0) ∧ (sB 1 k = 38 ↔ k = 1) ∧ (sB 1 k = 33 ↔ k = 2) := by decide
  have t := tnc ha.1
  have g := e a.toNatClampNeg (by omega)
  rw [hc] at g
  have i : ∀ x : Int32, ∀ n : Nat, x.toInt = (n : Int) → (a = x ↔ a.toNatClampNeg = n) := by
    intro x n hx
    constructor
    · intro z
      subst z
      omega
    · intro z
      apply Int32.toInt_inj.mp
      omega
  exact ⟨(i 0 0 rfl).trans g.1.symm, (i 1 1 rfl).trans g.2.1.symm, (i 2 2 rfl).trans g.2.2.symm⟩
theorem br_m (hl : LF M N) (la : LA M N) (h : MD M fl wd N) {k r v : Int32} (k0 : 0 ≤ k.toInt) (k1 : k.toInt < (M.1 43 0).toInt) (h12 : (M.1 43 0).toInt ≤ 12) : q_ChipMapModel_breaks N k r v = some (N, b2 (brb M fl wd r v k.toNatClampNeg)) := by
  have t := tnc k0
  obtain ⟨⟨s0, s1⟩, e45, e46, e47, ⟨pa, a0, a1, a3⟩, pb, b0, bk, bw⟩ := la.2.2.2.2.2 k.toNatClampNeg (by omega)
  obtain ⟨i0, i1, i2⟩ := sg_k s0 s1
  have kk : vp_in k 12 := vI (by omega)
  have k36 : vp_in k 36 := vI (by omega)
  have bn1 : M.1 39 (M.1 46 k.toNatClampNeg).toNatClampNeg ≠ 1 := by
    by_cases c : M.1 44 k.toNatClampNeg = 1
    · intro z
      rcases bk c with y | y <;> rw [z] at y <;> exact absurd y (by decide)
    · exact (bw c).1
  have bn3 : M.1 39 (M.1 46 k.toNatClampNeg).toNatClampNeg ≠ 3 := by
    by_cases c : M.1 44 k.toNatClampNeg = 1
    · intro z
      rcases bk c with y | y <;> rw [z] at y <;> exact absurd y (by decide)
    · exact (bw c).2
  have ar := h.2 k.toNatClampNeg (by omega)
  unfold q_ChipMapModel_breaks brb
  rw [ix_e kk, ← e45, iw_m hl la h.1 a0 pa a1 a3, cal_s, ix_e kk, ← e46, iw_m hl la h.1 b0 pb bn1 bn3, cal_s, ix_e kk]
  by_cases c0 : M.1 44 k.toNatClampNeg = 0
  · rw [if_pos (i0.mp c0), if_pos c0]
    cases hb : wrb M wd (M.1 46 k.toNatClampNeg) r v with
    | false =>
      rw [if_pos (show b2 false = 0 from rfl), Bool.and_false]
      rfl
    | true =>
      rw [if_neg (show ¬ b2 true = 0 by decide), ix_e k36, ar]
      cases ht : tb fl k.toNatClampNeg with
      | false =>
        rw [if_pos (show b2 false = 0 from rfl)]
        rfl
      | true =>
        rw [if_neg (show ¬ b2 true = 0 by decide)]
        rfl
  rw [if_neg (fun z => c0 (i0.mpr z)), if_neg c0, ix_e kk]
  by_cases c1 : M.1 44 k.toNatClampNeg = 1
  · have c2 : ¬ M.1 44 k.toNatClampNeg = 2 := by rw [c1]; decide
    rw [if_pos (i1.mp c1), if_neg c2]
    cases ha : wrb M wd (M.1 45 k.toNatClampNeg) r v with
    | false =>
      rw [if_pos (show b2 false = 0 from rfl)]
      rfl
    | true =>
      have t46 := tnc b0
      rw [if_neg (show ¬ b2 true = 0 by decide), ix_e kk, ← e46, ix_e (vI (by have := pb.1; omega)), ix_e kk, ← e47, kv_md hl la h.1 pb (bk c1)]
      by_cases d : N.1 33 (M.1 46 k.toNatClampNeg).toNatClampNeg = M.1 47 k.toNatClampNeg
      · rw [if_pos d, decide_eq_true d]
        rfl
      · rw [if_neg d, decide_eq_false d]
        rfl
  have c2 : M.1 44 k.toNatClampNeg = 2 := by
    apply Int32.toInt_inj.mp
    have e2 : (2 : Int32).toInt = 2 := rfl
    have n0 : (M.1 44 k.toNatClampNeg).toInt ≠ 0 := fun z => c0 (Int32.toInt_inj.mp z)
    have n1 : (M.1 44 k.toNatClampNeg).toInt ≠ 1 := fun z => c1 (Int32.toInt_inj.mp z)
    omega
  rw [if_neg (fun z => c1 (i1.mpr z)), if_pos c2]
  cases ha : wrb M wd (M.1 45 k.toNatClampNeg) r v with
  | false =>
    rw [if_pos (show b2 false = 0 from rfl), Bool.and_false]
    rfl
  | true =>
    rw [if_neg (show ¬ b2 true = 0 by decide), ix_e k36, ar]
    cases ht : tb fl k.toNatClampNeg with
    | false =>
      rw [if_pos (show b2 false = 0 from rfl)]
      rfl
    | true =>
      rw [if_neg (show ¬ b2 true = 0 by decide)]
      rfl
end MDS
end
section
-- the first rule that is broken, and how many
theorem fb_l {M N : Mm} {fl : Int32} {wd : Nat → Int32} (hl : LF M N) (la : LA M N) (h : MD M fl wd N) (h12 : 0 ≤ (M.1 43 0).toInt ∧ (M.1 43 0).toInt ≤ 12) {r v : Int32} : ∀ (j n' : Nat) (i : Int32), (M.1 43 0).toInt - i.toInt = (j : Int) → 0 ≤ i.toInt → j < n' → ∃ t : Int32, q_ChipMapModel_firstBroken_2 n' N r v i = some (N, t) ∧ ((t = -1 ∧ ∀ k : Nat, i.toNatClampNeg ≤ k → k < (M.1 43 0).toNatClampNeg → brb M fl wd r v k = false) ∨ (i.toInt ≤ t.toInt ∧ t.toInt < (M.1 43 0).toInt ∧ brb M fl wd r v t.toNatClampNeg = true ∧ ∀ k : Nat, i.toNatClampNeg ≤ k → k < t.toNatClampNeg → brb M fl wd r v k = false)) := by
  have tr := tnc h12.1
  have e38 := la.2.2.2.2.1
  intro j
  induction j with
  | zero =>
    intro n' i hj i0 hn
    obtain ⟨n', rfl⟩ : ∃ q, n' = q + 1 := ⟨n' - 1, by omega⟩
    have tn := tnc i0
    have c : N.1 0 38 ≤ i := Int32.le_iff_toInt_le.mpr (by rw [← e38]; omega)
    rw [q_ChipMapModel_firstBroken_2, if_pos c]
    exact ⟨-1, rfl, Or.inl ⟨rfl, fun k h1 h2 => by omega⟩⟩
  | succ j ih =>
    intro n' i hj i0 hn
    obtain ⟨n', rfl⟩ : ∃ q, n' = q + 1 := ⟨n' - 1, by omega⟩
    have tn := tnc i0
    have ez : (i + 1).toInt = i.toInt + 1 := iadd rfl (rfl : (1 : Int32).toInt = 1) (by omega) (by omega)
    have es : (i + 1).toNatClampNeg = i.toNatClampNeg + 1 := tnS (by omega)
    have c : ¬ N.1 0 38 ≤ i := fun z => by
      have := Int32.le_iff_toInt_le.mp z
      rw [← e38] at this
      omega
    rw [q_ChipMapModel_firstBroken_2, if_neg c, br_m hl la h i0 (by omega) h12.2, cal_s]
    cases hb : brb M fl wd r v i.toNatClampNeg with
    | true =>
      rw [if_neg (show ¬ b2 true = 0 by decide)]
      exact ⟨i, rfl, Or.inr ⟨by omega, by omega, hb, fun k h1 h2 => by omega⟩⟩
    | false =>
      rw [if_pos (show b2 false = 0 from rfl)]
      obtain ⟨t, q, ht⟩ := ih n' (i + 1) (by omega) (by omega) (by omega)
      refine ⟨t, q, ?_⟩
      rw [es] at ht
      rcases ht with ⟨t1, t2⟩ | ⟨t1, t2, t3, t4⟩
      · refine Or.inl ⟨t1, fun k h1 h2 => ?_⟩
        by_cases ck : k = i.toNatClampNeg
        · rw [ck]; exact hb
        · exact t2 k (by omega) h2
      · refine Or.inr ⟨by omega, t2, t3, fun k h1 h2 => ?_⟩
        by_cases ck : k = i.toNatClampNeg
        · rw [ck]; exact hb
        · exact t4 k (by omega) h2
theorem fb_m {M N : Mm} {fl : Int32} {wd : Nat → Int32} (hl : LF M N) (la : LA M N) (h : MD M fl wd N) (h12 : 0 ≤ (M.1 43 0).toInt ∧ (M.1 43 0).toInt ≤ 12) (r v : Int32) : ∃ t : Int32, q_ChipMapModel_firstBroken N r v = some (N, t) ∧ ((t = -1 ∧ ∀ k : Nat, k < (M.1 43 0).toNatClampNeg → brb M fl wd r v k = false) ∨ (0 ≤ t.toInt ∧ t.toInt < (M.1 43 0).toInt ∧ brb M fl wd r v t.toNatClampNeg = true ∧ ∀ k : Nat, k < t.toNatClampNeg → brb M fl wd r v k = false)) := by
  have z0 : (0 : Int32).toInt = 0 := rfl
  obtain ⟨t, q, ht⟩ := fb_l hl la h h12 (r := r) (v := v) (M.1 43 0).toInt.toNat 4000 0 (by omega) (by decide) (by omega)
  refine ⟨t, q, ?_⟩
  rcases ht with ⟨t1, t2⟩ | ⟨t1, t2, t3, t4⟩
  · exact Or.inl ⟨t1, fun k hk => t2 k (Nat.zero_le _) hk⟩
  · exact Or.inr ⟨by omega, t2, t3, fun k hk => t4 k (Nat.zero_le _) hk⟩
-- the JDK's count of bits and of trailing zeros, for masks of twelve bits
def bcV (a : Int32) : Int32 :=
  let x1 := a - ((((a : Int32).toUInt32 >>> ((1 : Int32).toUInt32 &&& Int32.toUInt32 31)).toInt32) &&& 1431655765)
  let x2 := (x1 &&& 858993459) + ((((x1 : Int32).toUInt32 >>> ((2 : Int32).toUInt32 &&& Int32.toUInt32 31)).toInt32) &&& 858993459)
  let x3 := (x2 + (((x2 : Int32).toUInt32 >>> ((4 : Int32).toUInt32 &&& Int32.toUInt32 31)).toInt32)) &&& 252645135
  let x4 := x3 + (((x3 : Int32).toUInt32 >>> ((8 : Int32).toUInt32 &&& Int32.toUInt32 31)).toInt32)
  let x5 := x4 + (((x4 : Int32).toUInt32 >>> ((16 : Int32).toUInt32 &&& Int32.toUInt32 31)).toInt32)
  x5 &&& 63
theorem bc_e (M : Mm) (a : Int32) : q_Integer_bitCount M a = some (M, bcV a) := rfl
def cnt (p : Nat → Bool) : Nat → Nat
  | 0 => 0
  | n + 1 => cnt p n + if p n = true then 1 else 0
set_option maxRecDepth 100000 in
theorem bc_fin : ∀ m : Fin 4096, bcV (Int32.ofNat m.val) = Int32.ofNat (cnt (fun k => m.val.testBit k) 12) := by decide +kernel
def nz74 (v0 v1 : Int32) : Int32 := v1 + (((v0 : Int32).toUInt32 >>> ((1 : Int32).toUInt32 &&& Int32.toUInt32 31)).toInt32)
def nz62 (v0 v1 : Int32) : Int32 := if v0 ≤ 4 then nz74 v0 v1 else nz74 (((v0 : Int32).toUInt32 >>> ((2 : Int32).toUInt32 &&& Int32.toUInt32 31)).toInt32) (v1 + 2)
def nz49 (v0 v1 : Int32) : Int32 := if v0 ≤ 16 then nz62 v0 v1 else nz62 (((v0 : Int32).toUInt32 >>> ((4 : Int32).toUInt32 &&& Int32.toUInt32 31)).toInt32) (v1 + 4)
def nz34 (v0 v1 : Int32) : Int32 := if v0 ≤ 256 then nz49 v0 v1 else nz49 (((v0 : Int32).toUInt32 >>> ((8 : Int32).toUInt32 &&& Int32.toUInt32 31)).toInt32) (v1 + 8)
def nzV (a : Int32) : Int32 := if 0 < ((a ^^^ (-1)) &&& (a - 1)) then (if ((a ^^^ (-1)) &&& (a - 1)) ≤ 65536 then nz34 ((a ^^^ (-1)) &&& (a - 1)) 1 else nz34 ((((((a ^^^ (-1)) &&& (a - 1)) : Int32)).toUInt32 >>> ((16 : Int32).toUInt32 &&& Int32.toUInt32 31)).toInt32) (1 + 16)) else (((a ^^^ (-1)) &&& (a - 1)) &&& 32)
theorem nz74_e (M : Mm) (a b : Int32) : q_Integer_numberOfTrailingZeros_74 M a b = some (M, nz74 a b) := rfl
theorem nz62_e (M : Mm) (a b : Int32) : q_Integer_numberOfTrailingZeros_62 M a b = some (M, nz62 a b) := by
  unfold q_Integer_numberOfTrailingZeros_62 nz62
  by_cases c : a ≤ 4
  · rw [if_pos c, if_pos c, nz74_e]
  · rw [if_neg c, if_neg c, lq_s, nz74_e]
theorem nz49_e (M : Mm) (a b : Int32) : q_Integer_numberOfTrailingZeros_49 M a b = some (M, nz49 a b) := by
  unfold q_Integer_numberOfTrailingZeros_49 nz49
  by_cases c : a ≤ 16
  · rw [if_pos c, if_pos c, nz62_e]
  · rw [if_neg c, if_neg c, lq_s, nz62_e]
theorem nz34_e (M : Mm) (a b : Int32) : q_Integer_numberOfTrailingZeros_34 M a b = some (M, nz34 a b) := by
  unfold q_Integer_numberOfTrailingZeros_34 nz34
  by_cases c : a ≤ 256
  · rw [if_pos c, if_pos c, nz49_e]
  · rw [if_neg c, if_neg c, lq_s, nz49_e]
theorem nz_e (M : Mm) (a : Int32) : q_Integer_numberOfTrailingZeros M a = some (M, nzV a) := by
  unfold q_Integer_numberOfTrailingZeros nzV
  rw [lq_s]
  by_cases c : 0 < ((a ^^^ (-1)) &&& (a - 1))
  · rw [if_pos c, if_pos c]
    by_cases d : ((a ^^^ (-1)) &&& (a - 1)) ≤ 65536
    · rw [if_pos d, if_pos d, nz34_e]
    · rw [if_neg d, if_neg d, lq_s, nz34_e]
  · rw [if_neg c, if_neg c]
set_option maxRecDepth 100000 in
theorem nz_f2 : ∀ m : Fin 4096, m.val ≠ 0 → (0 ≤ (nzV (Int32.ofNat m.val)).toInt ∧ (nzV (Int32.ofNat m.val)).toInt < 12) ∧ m.val.testBit (nzV (Int32.ofNat m.val)).toNatClampNeg = true ∧ m.val % 2 ^ (nzV (Int32.ofNat m.val)).toNatClampNeg = 0 := by decide +kernel
theorem nz_fin (m : Fin 4096) (h : m.val ≠ 0) : (0 ≤ (nzV (Int32.ofNat m.val)).toInt ∧ (nzV (Int32.ofNat m.val)).toInt < 12) ∧ m.val.testBit (nzV (Int32.ofNat m.val)).toNatClampNeg = true ∧ ∀ k : Fin 12, k.val < (nzV (Int32.ofNat m.val)).toNatClampNeg → m.val.testBit k.val = false := by
  obtain ⟨h1, h2, h3⟩ := nz_f2 m h
  refine ⟨h1, h2, fun k hk => ?_⟩
  have z := Nat.testBit_mod_two_pow m.val (nzV (Int32.ofNat m.val)).toNatClampNeg k.val
  rw [h3, Nat.zero_testBit, decide_eq_true hk, Bool.true_and] at z
  exact z.symm
/-- a word whose bits lie below twelve -/
theorem m12 {m : Int32} (h : ∀ b, 12 ≤ b → tb m b = false) : ∃ k : Fin 4096, m = Int32.ofNat k.val ∧ ∀ b, tb m b = k.val.testBit b := by
  have hb : ∀ b, tb m b = m.toBitVec.toNat.testBit b := fun b => rfl
  have lt : m.toBitVec.toNat < 2 ^ 12 := Nat.lt_pow_two_of_testBit _ (fun i hi => by rw [← hb]; exact h i hi)
  refine ⟨⟨m.toBitVec.toNat, lt⟩, ?_, hb⟩
  apply Int32.toBitVec_inj.mp
  show m.toBitVec = BitVec.ofNat 32 m.toBitVec.toNat
  rw [BitVec.ofNat_toNat, BitVec.setWidth_eq]
end
section
-- a write of the reference: the rules armed, the fields stored
section WRM
variable {M : Mm} {fl : Int32} {wd : Nat → Int32}
theorem LF.n {N N' : Mm} (h : LF M N) (e : ∀ p, 23 ≤ p → p ≤ 27 → N'.1 p = N.1 p) : LF M N' := h.cg rfl rfl rfl rfl (e 23 (by decide) (by decide)) (e 24 (by decide) (by decide)) (e 25 (by decide) (by decide)) (e 26 (by decide) (by decide)) (e 27 (by decide) (by decide))
theorem LA.n {N N' : Mm} (h : LA M N) (e : ∀ p, 20 ≤ p → p ≤ 32 → N'.1 p = N.1 p) (e2 : ∀ j, j = 28 ∨ j = 38 → N'.1 0 j = N.1 0 j) : LA M N' := by
  unfold LA LAf LAg LAu at h ⊢
  rw [e 20 (by decide) (by decide), e 21 (by decide) (by decide), e 22 (by decide) (by decide), e 28 (by decide) (by decide), e 29 (by decide) (by decide), e 30 (by decide) (by decide), e 31 (by decide) (by decide), e 32 (by decide) (by decide), e2 28 (Or.inl rfl), e2 38 (Or.inr rfl)]
  exact h
theorem MV.n {N N' : Mm} (h : MV M wd N) (e : N'.1 33 = N.1 33) : MV M wd N' := by
  unfold MV
  rw [e]
  exact h
theorem nar_b {x : Int32} (hx : x = 0 ∨ x = 1) : vp_nar .boolean x = x := by
  rcases hx with rfl | rfl <;> rfl
theorem w127 {N : Mm} {kf : Mm → Int32 → Int32 → Int32 → Rs} {r v i : Int32} (k36 : vp_in i 36) {x : Int32} (hx : x = 0 ∨ x = 1) : q_ChipMapModel_write_127 kf N r v i x i = kf (stI N 36 (upd (N.1 36) i.toNatClampNeg x)) r v (i + 1) := by
  unfold q_ChipMapModel_write_127 q_ChipMapModel_write_128
  rw [ix_e k36, lq_s, nar_b hx]
theorem w73 {N : Mm} {kf : Mm → Int32 → Int32 → Int32 → Rs} {r v i u w : Int32} (kk : vp_in i 12) (k36 : vp_in i 36) {x : Int32} (hx : x = 0 ∨ x = 1) (hk : N.1 29 i.toNatClampNeg = 60) : q_ChipMapModel_write_73 kf N r v i u w x i = kf (stI N 36 (upd (N.1 36) i.toNatClampNeg x)) r v (i + 1) := by
  unfold q_ChipMapModel_write_73 q_ChipMapModel_write_74 q_ChipMapModel_write_128
  rw [ix_e k36, lq_s, ix_e kk, nar_b hx, if_neg (by
    show ¬ N.1 29 i.toNatClampNeg = 33
    rw [hk]; decide)]
/-- one rule of a write -/
theorem w2_s {N : Mm} (hl : LF M N) (la : LA M N) (h : MV M wd N) {i r v : Int32} (i0 : 0 ≤ i.toInt) (i1 : i.toInt < (M.1 43 0).toInt) (h12 : (M.1 43 0).toInt ≤ 12) (ar : N.1 36 i.toNatClampNeg = b2 (tb fl i.toNatClampNeg)) (n' : Nat) : ∃ N1 : Mm, q_ChipMapModel_write_2 (n' + 1) N r v i = q_ChipMapModel_write_2 n' N1 r v (i + 1) ∧ (∀ p, p ≠ 36 → N1.1 p = N.1 p) ∧ (∀ k, k ≠ i.toNatClampNeg → N1.1 36 k = N.1 36 k) ∧ N1.1 36 i.toNatClampNeg = b2 (nbb M wd r v i.toNatClampNeg (tb fl i.toNatClampNeg)) ∧ N1.2 = N.2 := by
  have t := tnc i0
  obtain ⟨⟨s0, s1⟩, e45, e46, e47, ⟨pa, a0, a1, a3⟩, pb, b0, bk, bw⟩ := la.2.2.2.2.2 i.toNatClampNeg (by omega)
  obtain ⟨j0, j1, j2⟩ := sg_k s0 s1
  have kk : vp_in i 12 := vI (by omega)
  have k36 : vp_in i 36 := vI (by omega)
  have c : ¬ N.1 0 38 ≤ i := fun z => by
    have := Int32.le_iff_toInt_le.mp z
    rw [← la.2.2.2.2.1] at this
    omega
  have bn1 : M.1 39 (M.1 46 i.toNatClampNeg).toNatClampNeg ≠ 1 := by
    by_cases c : M.1 44 i.toNatClampNeg = 1
    · intro z
      rcases bk c with y | y <;> rw [z] at y <;> exact absurd y (by decide)
    · exact (bw c).1
  have bn3 : M.1 39 (M.1 46 i.toNatClampNeg).toNatClampNeg ≠ 3 := by
    by_cases c : M.1 44 i.toNatClampNeg = 1
    · intro z
      rcases bk c with y | y <;> rw [z] at y <;> exact absurd y (by decide)
    · exact (bw c).2
  have fin : ∀ x : Int32, x = b2 (nbb M wd r v i.toNatClampNeg (tb fl i.toNatClampNeg)) → ∃ N1 : Mm, q_ChipMapModel_write_2 n' (stI N 36 (upd (N.1 36) i.toNatClampNeg x)) r v (i + 1) = q_ChipMapModel_write_2 n' N1 r v (i + 1) ∧ (∀ p, p ≠ 36 → N1.1 p = N.1 p) ∧ (∀ k, k ≠ i.toNatClampNeg → N1.1 36 k = N.1 36 k) ∧ N1.1 36 i.toNatClampNeg = b2 (nbb M wd r v i.toNatClampNeg (tb fl i.toNatClampNeg)) ∧ N1.2 = N.2 := by
    intro x hb
    refine ⟨_, rfl, fun p hp => stI_ne _ _ hp, fun k hk => ?_, ?_, rfl⟩
    · rw [stI_at, updN hk]
    · rw [stI_at, updS, hb]
  have same : tb fl i.toNatClampNeg = nbb M wd r v i.toNatClampNeg (tb fl i.toNatClampNeg) → ∃ N1 : Mm, q_ChipMapModel_write_2 n' N r v (i + 1) = q_ChipMapModel_write_2 n' N1 r v (i + 1) ∧ (∀ p, p ≠ 36 → N1.1 p = N.1 p) ∧ (∀ k, k ≠ i.toNatClampNeg → N1.1 36 k = N.1 36 k) ∧ N1.1 36 i.toNatClampNeg = b2 (nbb M wd r v i.toNatClampNeg (tb fl i.toNatClampNeg)) ∧ N1.2 = N.2 := by
    intro hb
    exact ⟨N, rfl, fun _ _ => rfl, fun _ _ => rfl, by rw [ar, ← hb], rfl⟩
  rw [q_ChipMapModel_write_2, if_neg c, ix_e kk, ← e45, iw_m hl la h a0 pa a1 a3, cal_s, ix_e kk, ← e46, iw_m hl la h b0 pb bn1 bn3, cal_s, ix_e kk]
  by_cases c0 : M.1 44 i.toNatClampNeg = 0
  · have h60 := j0.mp c0
    rw [if_pos h60, ix_e k36, ar]
    unfold q_ChipMapModel_write_68
    have nb : nbb M wd r v i.toNatClampNeg (tb fl i.toNatClampNeg) = (tb fl i.toNatClampNeg || wrb M wd (M.1 45 i.toNatClampNeg) r v) := by
      unfold nbb
      rw [if_pos c0]
    rw [nb] at fin ⊢
    by_cases ht : b2 (tb fl i.toNatClampNeg) = 0
    · rw [if_pos ht]
      rw [b2_0] at ht
      by_cases hw : b2 (wrb M wd (M.1 45 i.toNatClampNeg) r v) = 0
      · rw [if_pos hw, w73 kk k36 (Or.inl rfl) h60]
        rw [b2_0] at hw
        exact fin 0 (by rw [ht, hw]; rfl)
      · rw [if_neg hw, w73 kk k36 (Or.inr rfl) h60]
        refine fin 1 ?_
        cases hx : wrb M wd (M.1 45 i.toNatClampNeg) r v with
        | false => rw [hx] at hw; exact absurd rfl hw
        | true => rw [Bool.or_true]; rfl
    · rw [if_neg ht, w73 kk k36 (Or.inr rfl) h60]
      refine fin 1 ?_
      cases hx : tb fl i.toNatClampNeg with
      | false => rw [hx] at ht; exact absurd rfl ht
      | true => rw [Bool.true_or]; rfl
  · rw [if_neg (fun z => c0 (j0.mpr z))]
    unfold q_ChipMapModel_write_74 q_ChipMapModel_write_126
    rw [ix_e kk]
    by_cases c2 : M.1 44 i.toNatClampNeg = 2
    · rw [if_pos (j2.mp c2)]
      have nb : nbb M wd r v i.toNatClampNeg (tb fl i.toNatClampNeg) = (!wrb M wd (M.1 46 i.toNatClampNeg) r v && (tb fl i.toNatClampNeg || wrb M wd (M.1 45 i.toNatClampNeg) r v)) := by
        unfold nbb
        rw [if_neg c0, if_pos c2]
      rw [nb] at fin ⊢
      by_cases hw : b2 (wrb M wd (M.1 45 i.toNatClampNeg) r v) = 0
      · rw [if_pos hw, ix_e k36, ar]
        rw [b2_0] at hw
        rw [hw, Bool.or_false] at fin ⊢
        by_cases ht : b2 (tb fl i.toNatClampNeg) = 0
        · rw [if_pos ht, w127 k36 (Or.inl rfl)]
          rw [b2_0] at ht
          rw [ht, Bool.and_false] at fin ⊢
          exact fin 0 rfl
        · rw [if_neg ht]
          have ht' : tb fl i.toNatClampNeg = true := by
            cases hx : tb fl i.toNatClampNeg with
            | false => rw [hx] at ht; exact absurd rfl ht
            | true => rfl
          rw [ht', Bool.and_true] at fin ⊢
          by_cases hb : b2 (wrb M wd (M.1 46 i.toNatClampNeg) r v) = 0
          · rw [if_pos hb, w127 k36 (Or.inr rfl)]
            rw [b2_0] at hb
            rw [hb] at fin ⊢
            exact fin 1 rfl
          · rw [if_neg hb, w127 k36 (Or.inl rfl)]
            have hb' : wrb M wd (M.1 46 i.toNatClampNeg) r v = true := by
              cases hx : wrb M wd (M.1 46 i.toNatClampNeg) r v with
              | false => rw [hx] at hb; exact absurd rfl hb
              | true => rfl
            rw [hb'] at fin ⊢
            exact fin 0 rfl
      · rw [if_neg hw]
        have hw' : wrb M wd (M.1 45 i.toNatClampNeg) r v = true := by
          cases hx : wrb M wd (M.1 45 i.toNatClampNeg) r v with
          | false => rw [hx] at hw; exact absurd rfl hw
          | true => rfl
        rw [hw', Bool.or_true, Bool.and_true] at fin ⊢
        by_cases hb : b2 (wrb M wd (M.1 46 i.toNatClampNeg) r v) = 0
        · rw [if_pos hb, w127 k36 (Or.inr rfl)]
          rw [b2_0] at hb
          rw [hb] at fin ⊢
          exact fin 1 rfl
        · rw [if_neg hb, w127 k36 (Or.inl rfl)]
          have hb' : wrb M wd (M.1 46 i.toNatClampNeg) r v = true := by
            cases hx : wrb M wd (M.1 46 i.toNatClampNeg) r v with
            | false => rw [hx] at hb; exact absurd rfl hb
            | true => rfl
          rw [hb'] at fin ⊢
          exact fin 0 rfl
    · rw [if_neg (fun z => c2 (j2.mpr z))]
      unfold q_ChipMapModel_write_128
      refine same ?_
      unfold nbb
      rw [if_neg c0, if_neg c2]
theorem w2_l {B : Mm} (hl : LF M B) (la : LA M B) (h : MD M fl wd B) (h12 : 0 ≤ (M.1 43 0).toInt ∧ (M.1 43 0).toInt ≤ 12) {r v : Int32} : ∀ (j n' : Nat) (N : Mm) (i : Int32), (M.1 43 0).toInt - i.toInt = (j : Int) → 0 ≤ i.toInt → j < n' → (∀ p, p ≠ 36 → N.1 p = B.1 p) → N.2 = B.2 → (∀ k, i.toNatClampNeg ≤ k → N.1 36 k = B.1 36 k) → (∀ k, k < i.toNatClampNeg → N.1 36 k = b2 (nbb M wd r v k (tb fl k))) → ∃ N1 : Mm, q_ChipMapModel_write_2 n' N r v i = q_ChipMapModel_write_136 4000 N1 r v 0 ∧ (∀ p, p ≠ 36 → N1.1 p = B.1 p) ∧ N1.2 = B.2 ∧ (∀ k : Nat, (k : Int) < (M.1 43 0).toInt → N1.1 36 k = b2 (nbb M wd r v k (tb fl k))) ∧ ∀ k : Nat, (M.1 43 0).toNatClampNeg ≤ k → N1.1 36 k = B.1 36 k := by
  have tr := tnc h12.1
  intro j
  induction j with
  | zero =>
    intro n' N i hj i0 hn f1 f2 g1 g2
    obtain ⟨n', rfl⟩ : ∃ q, n' = q + 1 := ⟨n' - 1, by omega⟩
    have tn := tnc i0
    have c : N.1 0 38 ≤ i := Int32.le_iff_toInt_le.mpr (by rw [f1 0 (by decide), ← la.2.2.2.2.1]; omega)
    rw [q_ChipMapModel_write_2, if_pos c]
    exact ⟨N, rfl, f1, f2, fun k hk => g2 k (by omega), fun k hk => g1 k (by omega)⟩
  | succ j ih =>
    intro n' N i hj i0 hn f1 f2 g1 g2
    obtain ⟨n', rfl⟩ : ∃ q, n' = q + 1 := ⟨n' - 1, by omega⟩
    have tn := tnc i0
    have ez : (i + 1).toInt = i.toInt + 1 := iadd rfl (rfl : (1 : Int32).toInt = 1) (by omega) (by omega)
    have es : (i + 1).toNatClampNeg = i.toNatClampNeg + 1 := tnS (by omega)
    have hlN : LF M N := hl.n (fun p h1 h2 => f1 p (by omega))
    have laN : LA M N := la.n (fun p h1 h2 => f1 p (by omega)) (fun j _ => by rw [f1 0 (by decide)])
    have hN : MV M wd N := h.1.n (f1 33 (by decide))
    have ar : N.1 36 i.toNatClampNeg = b2 (tb fl i.toNatClampNeg) := by
      rw [g1 _ (Nat.le_refl _)]
      exact h.2 _ (by omega)
    obtain ⟨N1, q, x1, x2, x3, x4⟩ := w2_s (fl := fl) hlN laN hN (r := r) (v := v) i0 (by omega) h12.2 ar n'
    obtain ⟨N2, q2, y1, y2, y3⟩ := ih n' N1 (i + 1) (by omega) (by omega) (by omega) (fun p hp => by rw [x1 p hp, f1 p hp]) (by rw [x4, f2]) (fun k hk => by rw [x2 k (by omega), g1 k (by omega)]) (fun k hk => by
      by_cases ck : k = i.toNatClampNeg
      · rw [ck, x3]
      · rw [x2 k ck]
        exact g2 k (by omega))
    exact ⟨N2, by rw [q]; exact q2, y1, y2, y3⟩
end WRM
end
section
-- a write of the reference, field by field
def fw (N N1 : Mm) (i : Nat) : Prop := (∀ p, p ≠ 33 → p ≠ 34 → N1.1 p = N.1 p) ∧ (∀ k, k ≠ i → N1.1 33 k = N.1 33 k) ∧ N1.2 = N.2
theorem fw.rf (N : Mm) (i : Nat) : fw N N i := ⟨fun _ _ _ => rfl, fun _ _ => rfl, rfl⟩
theorem fw.s33 {A N : Mm} {i : Nat} (h : fw A N i) (x : Int32) : fw A (stI N 33 (upd (N.1 33) i x)) i := ⟨fun p h1 h2 => by rw [stI_ne _ _ h1]; exact h.1 p h1 h2, fun k hk => by rw [stI_at, updN hk]; exact h.2.1 k hk, h.2.2⟩
theorem fw.s34 {A N : Mm} {i : Nat} (h : fw A N i) (x : Int32) : fw A (stI N 34 (upd (N.1 34) i x)) i := ⟨fun p h1 h2 => by rw [stI_ne _ _ h2]; exact h.1 p h1 h2, fun k hk => by rw [stI_ne _ _ (by decide)]; exact h.2.1 k hk, h.2.2⟩
theorem w224 {A N : Mm} {kf : Mm → Int32 → Int32 → Int32 → Rs} {r v i p : Int32} (hi : 0 ≤ i.toInt ∧ i.toInt < 26) (h : fw A N i.toNatClampNeg) : ∃ N1 : Mm, q_ChipMapModel_write_224 kf N r v i p = kf N1 r v (i + 1) ∧ fw A N1 i.toNatClampNeg ∧ (N.1 24 i.toNatClampNeg ≠ 112 → N1 = N) := by
  have k : vp_in i 26 := vI (by omega)
  have k7 : vp_in i 78 := vI (by omega)
  unfold q_ChipMapModel_write_224 q_ChipMapModel_write_255
  rw [ix_e k]
  by_cases c : N.1 24 i.toNatClampNeg = 112
  · rw [if_pos c]
    by_cases d : p = 0
    · rw [if_pos d]
      exact ⟨N, rfl, h, fun _ => rfl⟩
    · rw [if_neg d, ix_e k7, lq_s, ix_e k7, lq_s]
      exact ⟨_, rfl, (h.s33 p).s34 2, fun z => absurd c z⟩
  · rw [if_neg c]
    exact ⟨N, rfl, h, fun _ => rfl⟩
theorem w202 {A N : Mm} {kf : Mm → Int32 → Int32 → Int32 → Rs} {r v i p : Int32} (hi : 0 ≤ i.toInt ∧ i.toInt < 26) (h : fw A N i.toNatClampNeg) : ∃ N1 : Mm, q_ChipMapModel_write_202 kf N r v i p = kf N1 r v (i + 1) ∧ fw A N1 i.toNatClampNeg ∧ (N.1 24 i.toNatClampNeg ≠ 115 → N.1 24 i.toNatClampNeg ≠ 112 → N1 = N) := by
  have k : vp_in i 26 := vI (by omega)
  have k7 : vp_in i 78 := vI (by omega)
  unfold q_ChipMapModel_write_202
  rw [ix_e k]
  by_cases c : N.1 24 i.toNatClampNeg = 115
  · rw [if_pos c, ix_e k7, ix_e k7, lq_s]
    obtain ⟨N1, q, f, -⟩ := w224 (kf := kf) (r := r) (v := v) (p := p) hi (h.s33 (N.1 33 i.toNatClampNeg ||| p))
    exact ⟨N1, q, f, fun z => absurd c z⟩
  · rw [if_neg c]
    obtain ⟨N1, q, f, e⟩ := w224 (kf := kf) (r := r) (v := v) (p := p) hi h
    exact ⟨N1, q, f, fun _ z => e z⟩
theorem w178 {A N : Mm} {kf : Mm → Int32 → Int32 → Int32 → Rs} {r v i p : Int32} (hi : 0 ≤ i.toInt ∧ i.toInt < 26) (h : fw A N i.toNatClampNeg) : ∃ N1 : Mm, q_ChipMapModel_write_178 kf N r v i p = kf N1 r v (i + 1) ∧ fw A N1 i.toNatClampNeg ∧ (N.1 24 i.toNatClampNeg ≠ 116 → N.1 24 i.toNatClampNeg ≠ 115 → N.1 24 i.toNatClampNeg ≠ 112 → N1 = N) := by
  have k : vp_in i 26 := vI (by omega)
  have k7 : vp_in i 78 := vI (by omega)
  unfold q_ChipMapModel_write_178
  rw [ix_e k]
  by_cases c : N.1 24 i.toNatClampNeg = 116
  · rw [if_pos c, ix_e k7, ix_e k7, lq_s]
    obtain ⟨N1, q, f, -⟩ := w202 (kf := kf) (r := r) (v := v) (p := p) hi (h.s33 (N.1 33 i.toNatClampNeg &&& (p ^^^ (-1))))
    exact ⟨N1, q, f, fun z => absurd c z⟩
  · rw [if_neg c]
    obtain ⟨N1, q, f, e⟩ := w202 (kf := kf) (r := r) (v := v) (p := p) hi h
    exact ⟨N1, q, f, fun _ z1 z2 => e z1 z2⟩
theorem kn_c {a c : Int32} (ha : 0 ≤ a.toInt ∧ a.toInt < 7) (hc : sB 0 a.toNatClampNeg = c) (hk : knA a) : c ≠ 116 ∧ c ≠ 115 ∧ c ≠ 112 := by
  rw [← hc]
  rcases hk with rfl | rfl <;> decide
theorem isin_0 {M N : Mm} (hl : LF M N) {f r : Int32} (f0 : 0 ≤ f.toInt ∧ f.toInt < 26) (hp : ¬ pf M f.toNatClampNeg) : q_ChipMapModel_isIn N f r = some (N, 0) := by
  have t := tnc f0.1
  have k : vp_in f 26 := vI (by omega)
  unfold q_ChipMapModel_isIn
  rw [ix_e k]
  rcases hl f.toNatClampNeg (by omega) with ⟨-, g⟩ | ⟨-, -, g3, -⟩
  · rw [if_pos g]
  · exfalso
    apply hp
    refine ⟨by omega, fun z => ?_⟩
    rw [z] at g3
    exact absurd g3 (by decide)
section WRF
variable {M : Mm} {fl : Int32} {wd : Nat → Int32}
theorem w136_s {N : Mm} (hl : LF M N) (la : LA M N) {i r v : Int32} (hi : 0 ≤ i.toInt ∧ i.toInt < 26) (n' : Nat) : ∃ N1 : Mm, q_ChipMapModel_write_136 (n' + 1) N r v i = q_ChipMapModel_write_136 n' N1 r v (i + 1) ∧ fw N N1 i.toNatClampNeg ∧ (pf M i.toNatClampNeg → knA (M.1 39 i.toNatClampNeg) → N1.1 33 i.toNatClampNeg = if M.1 38 i.toNatClampNeg = r then (v &&& M.1 42 i.toNatClampNeg) >>> (M.1 40 i.toNatClampNeg &&& 31) else N.1 33 i.toNatClampNeg) := by
  have k7 : vp_in i 78 := vI (by omega)
  have c : ¬ (26 : Int32) ≤ i := fun z => by
    have := Int32.le_iff_toInt_le.mp z
    have e : (26 : Int32).toInt = 26 := rfl
    omega
  rw [q_ChipMapModel_write_136, if_neg c]
  by_cases hp : pf M i.toNatClampNeg
  · rw [isin_m hl hi.1 hp, cal_s]
    by_cases cr : M.1 38 i.toNatClampNeg = r
    · rw [decide_eq_true cr, if_neg (show ¬ b2 true = 0 by decide), part_m hl la hi.1 hp, cal_s]
      obtain ⟨s, q, hs⟩ := sto_m hl hi.1 hp
      rw [q, cal_s]
      rcases hs with ⟨rfl, hk⟩ | ⟨rfl, hk⟩
      · rw [if_pos rfl]
        obtain ⟨N1, q1, f1, -⟩ := w178 (kf := q_ChipMapModel_write_136 n') (r := r) (v := v) (p := (v &&& M.1 42 i.toNatClampNeg) >>> (M.1 40 i.toNatClampNeg &&& 31)) hi (fw.rf N i.toNatClampNeg)
        exact ⟨N1, q1, f1, fun _ z => absurd z hk⟩
      · rw [if_neg (by decide : ¬ (1 : Int32) = 0), ix_e k7, lq_s]
        obtain ⟨-, -, -, ⟨g4, g5⟩, -, -, -⟩ := lf_p hl hp
        obtain ⟨n1, n2, n3⟩ := kn_c g4 g5 hk
        obtain ⟨N1, q1, f1, e1⟩ := w178 (kf := q_ChipMapModel_write_136 n') (r := r) (v := v) (p := (v &&& M.1 42 i.toNatClampNeg) >>> (M.1 40 i.toNatClampNeg &&& 31)) hi ((fw.rf N i.toNatClampNeg).s33 ((v &&& M.1 42 i.toNatClampNeg) >>> (M.1 40 i.toNatClampNeg &&& 31)))
        refine ⟨N1, q1, f1, fun _ _ => ?_⟩
        rw [e1 n1 n2 n3, if_pos cr, stI_at, updS]
    · rw [decide_eq_false cr, if_pos (show b2 false = 0 from rfl)]
      unfold q_ChipMapModel_write_255
      exact ⟨N, rfl, fw.rf N _, fun _ _ => by rw [if_neg cr]⟩
  · rw [isin_0 hl hi hp, cal_s, if_pos rfl]
    unfold q_ChipMapModel_write_255
    exact ⟨N, rfl, fw.rf N _, fun z => absurd z hp⟩
theorem w136_l {B : Mm} (hl : LF M B) (la : LA M B) {r v : Int32} : ∀ (j n' : Nat) (N : Mm) (i : Int32), 26 - i.toInt = (j : Int) → 0 ≤ i.toInt → j < n' → (∀ p, p ≠ 33 → p ≠ 34 → N.1 p = B.1 p) → N.2 = B.2 → (∀ f, i.toNatClampNeg ≤ f → N.1 33 f = B.1 33 f) → (∀ f, f < i.toNatClampNeg → pf M f → knA (M.1 39 f) → N.1 33 f = if M.1 38 f = r then (v &&& M.1 42 f) >>> (M.1 40 f &&& 31) else B.1 33 f) → ∃ N1 : Mm, q_ChipMapModel_write_136 n' N r v i = (cal (q_ChipMapModel_trace N1 1 r v) fun M1 _ => some (M1, 0)) ∧ (∀ p, p ≠ 33 → p ≠ 34 → N1.1 p = B.1 p) ∧ N1.2 = B.2 ∧ (∀ f, pf M f → knA (M.1 39 f) → N1.1 33 f = if M.1 38 f = r then (v &&& M.1 42 f) >>> (M.1 40 f &&& 31) else B.1 33 f) ∧ (∀ f, 26 ≤ f → N1.1 33 f = B.1 33 f) := by
  have e26 : (26 : Int32).toInt = 26 := rfl
  intro j
  induction j with
  | zero =>
    intro n' N i hj i0 hn f1 f2 g1 g2
    obtain ⟨n', rfl⟩ : ∃ q, n' = q + 1 := ⟨n' - 1, by omega⟩
    have tn := tnc i0
    have c : (26 : Int32) ≤ i := Int32.le_iff_toInt_le.mpr (by omega)
    rw [q_ChipMapModel_write_136, if_pos c]
    exact ⟨N, rfl, f1, f2, fun f hp hk => g2 f (by have := hp.1; omega) hp hk, fun f hf => g1 f (by omega)⟩
  | succ j ih =>
    intro n' N i hj i0 hn f1 f2 g1 g2
    obtain ⟨n', rfl⟩ : ∃ q, n' = q + 1 := ⟨n' - 1, by omega⟩
    have tn := tnc i0
    have ez : (i + 1).toInt = i.toInt + 1 := iadd rfl (rfl : (1 : Int32).toInt = 1) (by omega) (by omega)
    have es : (i + 1).toNatClampNeg = i.toNatClampNeg + 1 := tnS (by omega)
    have hlN : LF M N := hl.n (fun p h1 h2 => f1 p (by omega) (by omega))
    have laN : LA M N := la.n (fun p h1 h2 => f1 p (by omega) (by omega)) (fun j _ => by rw [f1 0 (by decide) (by decide)])
    obtain ⟨N1, q, x, y⟩ := w136_s hlN laN (r := r) (v := v) (i := i) ⟨i0, by omega⟩ n'
    obtain ⟨N2, q2, y1, y2, y3⟩ := ih n' N1 (i + 1) (by omega) (by omega) (by omega) (fun p h1 h2 => by rw [x.1 p h1 h2, f1 p h1 h2]) (by rw [x.2.2, f2]) (fun f hf => by rw [x.2.1 f (by omega), g1 f (by omega)]) (fun f hf hp hk => by
      by_cases cf : f = i.toNatClampNeg
      · subst cf
        rw [y hp hk, g1 _ (Nat.le_refl _)]
      · rw [x.2.1 f cf]
        exact g2 f (by omega) hp hk)
    exact ⟨N2, by rw [q]; exact q2, y1, y2, y3⟩
/-- an operation is traced, unless the device runs dry -/
def dz (N : Mm) : Int32 := if N.1 0 58 = 0 then 1 else 0
theorem tr_m {N : Mm} (h47 : 0 ≤ (N.1 0 47).toInt) {k r v : Int32} (hr : 0 ≤ r.toInt ∧ r.toInt ≤ 15) : ∃ N1 : Mm, q_ChipMapModel_trace N k r v = some (N1, 0) ∧ (∀ p, p ≠ 0 → p ≠ 37 → p ≠ 38 → p ≠ 39 → N1.1 p = N.1 p) ∧ (∀ j, j ≠ 47 → N1.1 0 j = N.1 0 j) ∧ N1.1 0 47 = N.1 0 47 + dz N ∧ N1.2 = N.2 := by
  have hx := irem (a := N.1 0 47) rfl h47 (by have := (N.1 0 47).toInt_lt; omega)
  have kx : vp_in (N.1 0 47 - N.1 0 47 / 64 * 64) 64 := vI (by omega)
  have kr : vp_in r 16 := vI (by omega)
  have go : ∀ t : Int32, ∃ N1 : Mm, q_ChipMapModel_trace_32 N r v (N.1 0 47 - N.1 0 47 / 64 * 64) t (N.1 0 47 - N.1 0 47 / 64 * 64) = some (N1, 0) ∧ (∀ p, p ≠ 0 → p ≠ 37 → p ≠ 38 → p ≠ 39 → N1.1 p = N.1 p) ∧ (∀ j, j ≠ 47 → N1.1 0 j = N.1 0 j) ∧ N1.1 0 47 = N.1 0 47 + 1 ∧ N1.2 = N.2 := by
    intro t
    unfold q_ChipMapModel_trace_32
    rw [ix_e kx, lq_s, ix_e kr, ix_e kx, lq_s, ix_e kx, lq_s, lq_s]
    refine ⟨_, rfl, fun p h0 h1 h2 h3 => ?_, fun j hj => ?_, ?_, rfl⟩
    · rw [stI_ne _ _ h0, stI_ne _ _ h3, stI_ne _ _ h2, stI_ne _ _ h1]
    · rw [stI_at, updN hj, stI_ne _ _ (by decide), stI_ne _ _ (by decide), stI_ne _ _ (by decide)]
    · rw [stI_at, updS, stI_ne _ _ (by decide), stI_ne _ _ (by decide), stI_ne _ _ (by decide)]
  unfold q_ChipMapModel_trace dz
  by_cases h58 : N.1 0 58 = 0
  rotate_left
  · rw [if_neg h58, if_neg h58]
    exact ⟨N, rfl, fun _ _ _ _ _ => rfl, fun _ _ => rfl, by rw [Int32.add_zero], rfl⟩
  rw [if_pos h58, if_pos h58, lq_s]
  by_cases c : k = 0
  · rw [if_pos c]; exact go 0
  · rw [if_neg c]; exact go 1
/-- a write of the reference keeps the relation with the class's mind behind the same write -/
theorem wr_m {N : Mm} (hl : LF M N) (la : LA M N) (h : MD M fl wd N) (h12 : 0 ≤ (M.1 43 0).toInt ∧ (M.1 43 0).toInt ≤ 12) (h47 : 0 ≤ (N.1 0 47).toInt) {r v : Int32} (hr : 0 ≤ r.toInt ∧ r.toInt ≤ 15) {fl' : Int32} (hf : ∀ k : Nat, (k : Int) < (M.1 43 0).toInt → tb fl' k = nbb M wd r v k (tb fl k)) : ∃ N1 : Mm, q_ChipMapModel_write N r v = some (N1, 0) ∧ MD M fl' (upd wd r.toNatClampNeg (v &&& M.1 29 r.toNatClampNeg)) N1 ∧ (∀ p, p ≠ 0 → (p < 33 ∨ 40 ≤ p ∨ p = 35) → N1.1 p = N.1 p) ∧ (∀ j, j ≠ 47 → N1.1 0 j = N.1 0 j) ∧ N1.1 0 47 = N.1 0 47 + dz N ∧ N1.2 = N.2 ∧ (∀ f, 26 ≤ f → N1.1 33 f = N.1 33 f) ∧ (∀ k, 12 ≤ k → N1.1 36 k = N.1 36 k) := by
  have z0 : (0 : Int32).toInt = 0 := rfl
  have tru := tnc h12.1
  have e0 : (0 : Int32).toNatClampNeg = 0 := rfl
  obtain ⟨N1, q1, x1, x2, x3⟩ := w2_l hl la h h12 (r := r) (v := v) (M.1 43 0).toInt.toNat 4000 N 0 (by omega) (by decide) (by omega) (fun _ _ => rfl) rfl (fun _ _ => rfl) (fun k hk => nlz (by rw [e0] at hk; exact hk))
  have hl1 : LF M N1 := hl.n (fun p h1 h2 => x1 p (by omega))
  have la1 : LA M N1 := la.n (fun p h1 h2 => x1 p (by omega)) (fun j _ => by rw [x1 0 (by decide)])
  obtain ⟨N2, q2, y1, y2, y3⟩ := w136_l hl1 la1 (r := r) (v := v) 26 4000 N1 0 (by decide) (by decide) (by decide) (fun _ _ _ => rfl) rfl (fun _ _ => rfl) (fun f hf => nlz (by rw [e0] at hf; exact hf))
  have s2 : N2.1 0 = N.1 0 := by rw [y1 0 (by decide) (by decide), x1 0 (by decide)]
  obtain ⟨N3, q3, t1, t2, t3, t4⟩ := tr_m (N := N2) (by rw [s2]; exact h47) (k := 1) (v := v) hr
  refine ⟨N3, ?_, ⟨⟨fun f hp hk => ?_, fun q hq b hb => ?_⟩, fun k hk => ?_⟩, fun p h0 hp => ?_, fun j hj => ?_, ?_, ?_, fun f hf => ?_, fun k hk => ?_⟩
  · unfold q_ChipMapModel_write
    rw [q1, q2, q3, cal_s]
  · obtain ⟨l1, l2, -, -⟩ := la.1 f hp
    have w1 := (lf_p hl hp).2.2.2.2.2.2
    rw [t1 33 (by decide) (by decide) (by decide) (by decide), y3.1 f hp hk, x1 33 (by decide)]
    by_cases cr : M.1 38 f = r
    · rw [if_pos cr]
      refine ⟨part_fit l1.1 w1 l1.2 l2, fun b hb => ?_⟩
      rw [part_tb l1.1 w1 l1.2 l2, cr, updS, tb_and, hb]
      have k29 : tb (M.1 29 r.toNatClampNeg) b = true := (la.2.2.1 _ b).mpr ⟨f, hp, by rw [cr], hk, hb⟩
      rw [k29]
    · rw [if_neg cr]
      obtain ⟨m1, m2⟩ := h.1.1 f hp hk
      refine ⟨m1, fun b hb => ?_⟩
      rw [updN (fun z => cr (tn_inj (lf_p hl hp).2.2.1 hr.1 z))]
      exact m2 b hb
  · by_cases cq : q = r.toNatClampNeg
    · rw [cq, updS, tb_and] at hb
      rw [cq]
      cases hx : tb (M.1 29 r.toNatClampNeg) b with
      | true => rfl
      | false => rw [hx, Bool.and_false] at hb; cases hb
    · rw [updN cq] at hb
      exact h.1.2 q hq b hb
  · rw [t1 36 (by decide) (by decide) (by decide) (by decide), y1 36 (by decide) (by decide), x3.1 k hk, hf k hk]
  · rw [t1 p h0 (by omega) (by omega) (by omega), y1 p (by omega) (by omega), x1 p (by omega)]
  · rw [t2 j hj, s2]
  · unfold dz at t3 ⊢
    rw [t3, s2]
  · rw [t4, y2, x2]
  · rw [t1 33 (by decide) (by decide) (by decide) (by decide), y3.2 f hf, x1 33 (by decide)]
  · rw [t1 36 (by decide) (by decide) (by decide) (by decide), y1 36 (by decide) (by decide), x3.2 k (by omega)]
end WRF
end
section
-- which register an offset means
section ATM
variable {M N : Mm} {wd : Nat → Int32}
theorem th_m (hl : LF M N) (la : LA M N) (h : MV M wd N) {r : Int32} (hr : 0 ≤ r.toInt ∧ r.toInt < (M.1 24 0).toInt) (h16 : (M.1 24 0).toInt ≤ 16) : q_ChipMapModel_isThere N r = some (N, b2 (thb M wd r)) := by
  have t := tnc hr.1
  have k : vp_in r 16 := vI (by omega)
  obtain ⟨e25, e26, e27⟩ := la.2.2.2.1.2 r.toNatClampNeg (by omega)
  unfold q_ChipMapModel_isThere thb
  rw [ix_e k, ← e26]
  by_cases c : M.1 26 r.toNatClampNeg = -1
  · rw [if_pos c, decide_eq_true c]
    rfl
  · obtain ⟨g1, g2, g3, g4⟩ := e27 c
    have t2 := tnc g3
    rw [if_neg c, ix_e k, ix_e (vI (by have := g2.1; omega)), ix_e k, ← g1, decide_eq_false c, kv_md hl la h g2 (Or.inl g4)]
    by_cases d : N.1 33 (M.1 26 r.toNatClampNeg).toNatClampNeg = M.1 27 r.toNatClampNeg
    · rw [if_pos d, decide_eq_true d]
      rfl
    · rw [if_neg d, decide_eq_false d]
      rfl
theorem th_b (hl : LF M N) (la : LA M N) (hh : ∀ f, (M.1 38 f).toInt ≤ 15) {r : Int32} (hr : 0 ≤ r.toInt ∧ r.toInt < (M.1 24 0).toInt) : M.1 26 r.toNatClampNeg ≠ -1 → (0 ≤ (M.1 26 r.toNatClampNeg).toInt ∧ (M.1 26 r.toNatClampNeg).toInt ≤ 25) ∧ (0 ≤ (M.1 38 (M.1 26 r.toNatClampNeg).toNatClampNeg).toInt ∧ (M.1 38 (M.1 26 r.toNatClampNeg).toNatClampNeg).toInt ≤ 15) := by
  have t := tnc hr.1
  intro c
  obtain ⟨g1, g2, g3, g4⟩ := (la.2.2.2.1.2 r.toNatClampNeg (by omega)).2.2 c
  have t2 := tnc g3
  exact ⟨⟨g3, by have := g2.1; omega⟩, (lf_p hl g2).2.2.1, hh _⟩
theorem ra_l (hl : LF M N) (la : LA M N) (h : MV M (M.1 52) N) (h16 : 0 ≤ (M.1 24 0).toInt ∧ (M.1 24 0).toInt ≤ 16) (hh : ∀ f, (M.1 38 f).toInt ≤ 15) (a : Int32) : ∀ (j n1 n2 : Nat) (i : Int32), (M.1 24 0).toInt - i.toInt = (j : Int) → 0 ≤ i.toInt → j < n1 → j < n2 → ∃ t : Int32, q_Device_registerAt_2 n1 M a i = some (M, t) ∧ q_ChipMapModel_registerAt_2 n2 N a i = some (N, t) ∧ (t = -1 ∨ (0 ≤ t.toInt ∧ t.toInt < (M.1 24 0).toInt)) := by
  have e28 := la.2.2.2.1.1
  intro j
  induction j with
  | zero =>
    intro n1 n2 i hj i0 hn1 hn2
    obtain ⟨n1, rfl⟩ : ∃ q, n1 = q + 1 := ⟨n1 - 1, by omega⟩
    obtain ⟨n2, rfl⟩ : ∃ q, n2 = q + 1 := ⟨n2 - 1, by omega⟩
    have c : M.1 24 0 ≤ i := Int32.le_iff_toInt_le.mpr (by omega)
    rw [q_Device_registerAt_2, if_pos c, q_ChipMapModel_registerAt_2, if_pos (show N.1 0 28 ≤ i by rw [← e28]; exact c)]
    exact ⟨-1, rfl, rfl, Or.inl rfl⟩
  | succ j ih =>
    intro n1 n2 i hj i0 hn1 hn2
    obtain ⟨n1, rfl⟩ : ∃ q, n1 = q + 1 := ⟨n1 - 1, by omega⟩
    obtain ⟨n2, rfl⟩ : ∃ q, n2 = q + 1 := ⟨n2 - 1, by omega⟩
    have ez : (i + 1).toInt = i.toInt + 1 := iadd rfl (rfl : (1 : Int32).toInt = 1) (by omega) (by omega)
    have tn := tnc i0
    have c : ¬ M.1 24 0 ≤ i := fun z => by have := Int32.le_iff_toInt_le.mp z; omega
    have k : vp_in i 16 := vI (by omega)
    have e25 := (la.2.2.2.1.2 i.toNatClampNeg (by omega)).1
    obtain ⟨t, q1, q2, q3⟩ := ih n1 n2 (i + 1) (by omega) (by omega) (by omega) (by omega)
    rw [q_Device_registerAt_2, if_neg c, q_ChipMapModel_registerAt_2, if_neg (show ¬ N.1 0 28 ≤ i by rw [← e28]; exact c), ix_e k, ix_e k, ← e25]
    unfold q_Device_registerAt_39 q_ChipMapModel_registerAt_30
    by_cases d : M.1 25 i.toNatClampNeg = a
    · rw [if_pos d, if_pos d, th (by omega) (th_b hl la hh (by omega)), th_m hl la h (by omega) h16.2, cal_s, cal_s]
      by_cases z : b2 (thb M (M.1 52) i) = 0
      · rw [if_pos z, if_pos z]
        exact ⟨t, q1, q2, q3⟩
      · rw [if_neg z, if_neg z]
        exact ⟨i, rfl, rfl, Or.inr ⟨i0, by omega⟩⟩
    · rw [if_neg d, if_neg d]
      exact ⟨t, q1, q2, q3⟩
theorem ra_e (hl : LF M N) (la : LA M N) (h : MV M (M.1 52) N) (h16 : 0 ≤ (M.1 24 0).toInt ∧ (M.1 24 0).toInt ≤ 16) (hh : ∀ f, (M.1 38 f).toInt ≤ 15) (a : Int32) : ∃ t : Int32, q_Device_registerAt M a = some (M, t) ∧ q_ChipMapModel_registerAt N a = some (N, t) ∧ (t = -1 ∨ (0 ≤ t.toInt ∧ t.toInt < (M.1 24 0).toInt)) := by
  have z0 : (0 : Int32).toInt = 0 := rfl
  exact ra_l hl la h h16 hh a (M.1 24 0).toInt.toNat 4000 4000 0 (by omega) (by decide) (by omega) (by omega)
end ATM
end
section
-- busWrite() of both sides
theorem log_i {M M' : Mm} {k o v x : Int32} (q : q_Log_add M k o v = some (M', x)) : (∀ p, p < 53 ∨ 57 ≤ p → M'.1 p = M.1 p) ∧ M'.1 53 0 = M.1 53 0 + 1 := by
  unfold q_Log_add at q
  rw [lq_s] at q
  have q := ix_r q
  rw [lq_s] at q
  have q := ix_r q
  rw [lq_s] at q
  have q := ix_r q
  rw [lq_s, lq_s] at q
  obtain ⟨rfl, -⟩ := rs_e q
  refine ⟨fun p hp => ?_, ?_⟩
  · rw [stI_ne _ _ (by omega), stI_ne _ _ (by omega), stI_ne _ _ (by omega), stI_ne _ _ (by omega)]
  · rw [stI_at, updS, stI_ne _ _ (by decide), stI_ne _ _ (by decide), stI_ne _ _ (by decide)]
theorem nbb_cg {A M : Mm} (h : ∀ p, 38 ≤ p → p ≤ 47 → M.1 p = A.1 p) (wd : Nat → Int32) (r v : Int32) (k : Nat) (old : Bool) : nbb M wd r v k old = nbb A wd r v k old := by
  unfold nbb wrb
  rw [h 38 (by decide) (by decide), h 42 (by decide) (by decide), h 44 (by decide) (by decide), h 45 (by decide) (by decide), h 46 (by decide) (by decide)]
theorem ruI.cg {A M : Mm} (h : ruI A) (e : ∀ p, 38 ≤ p → p ≤ 47 → M.1 p = A.1 p) : ruI M := by
  unfold ruI
  rw [e 38 (by decide) (by decide), e 43 (by decide) (by decide), e 45 (by decide) (by decide), e 46 (by decide) (by decide)]
  exact h
theorem dw_i {A M' : Mm} {r v x : Int32} (hu : ruI A) (hr : 0 ≤ r.toInt ∧ r.toInt ≤ 15) (q : q_Device_write A r v = some (M', x)) : (∀ p, (p < 51 ∨ 60 ≤ p ∨ p = 58) → M'.1 p = A.1 p) ∧ M'.1 53 0 = A.1 53 0 + 1 ∧ M'.1 52 = upd (A.1 52) r.toNatClampNeg (v &&& A.1 29 r.toNatClampNeg) ∧ ∀ b, tb (M'.1 51 2) b = if b < (A.1 43 0).toNatClampNeg then nbb A (A.1 52) r v b (tb (A.1 51 2) b) else tb (A.1 51 2) b := by
  unfold q_Device_write at q
  have q := ix_r q
  obtain ⟨M1, r2, p1, q⟩ := cal_o q
  obtain ⟨l1, l2⟩ := log_i p1
  obtain ⟨M3, r4, p3, q⟩ := cal_o q
  have u1 : ruI M1 := hu.cg (fun p h1 h2 => l1 p (by omega))
  obtain ⟨M3', q3, x1, x2, x3, x4, x5⟩ := mw u1 (v := v) hr
  rw [p3] at q3
  obtain ⟨rfl, -⟩ := rs_e q3
  have q := ix_r (ix_r (ix_r q))
  rw [lq_s] at q
  have q := ix_r (ix_r (ix_r q))
  rw [lq_s] at q
  have q := ix_r q
  have fin : ∀ M6 : Mm, (∀ p, p ≠ 57 → p ≠ 59 → M6.1 p = M3.1 p) → (∀ p, (p < 51 ∨ 60 ≤ p ∨ p = 58) → M6.1 p = A.1 p) ∧ M6.1 53 0 = A.1 53 0 + 1 ∧ M6.1 52 = upd (A.1 52) r.toNatClampNeg (v &&& A.1 29 r.toNatClampNeg) ∧ ∀ b, tb (M6.1 51 2) b = if b < (A.1 43 0).toNatClampNeg then nbb A (A.1 52) r v b (tb (A.1 51 2) b) else tb (A.1 51 2) b := by
    intro M6 f
    refine ⟨fun p hp => ?_, ?_, ?_, fun b => ?_⟩
    · rw [f p (by omega) (by omega), x1 p (by omega) (by omega), l1 p (by omega)]
    · rw [f 53 (by decide) (by decide), x1 53 (by decide) (by decide), l2]
    · rw [f 52 (by decide) (by decide), x4, l1 52 (by omega), l1 29 (by omega)]
    · rw [f 51 (by decide) (by decide), x5 b, l1 43 (by omega), l1 51 (by omega), l1 52 (by omega), nbb_cg (A := A) (fun p h1 h2 => l1 p (by omega))]
  split at q
  · obtain ⟨rfl, -⟩ := rs_e q
    exact fin _ (fun p h1 h2 => by rw [stI_ne _ _ h1, stI_ne _ _ h1])
  · obtain ⟨M7, r8, p7, q⟩ := cal_o q
    obtain ⟨rfl, -⟩ := rs_e q
    have kl := kl_Device_startPulses _ _ _ (kP.rf _) M7 r8 p7
    exact fin _ (fun p h1 h2 => by rw [kl p h1 h2, stI_ne _ _ h1, stI_ne _ _ h1])
theorem cnt_ext {p q : Nat → Bool} : ∀ n : Nat, (∀ k, k < n → p k = q k) → cnt p n = cnt q n := by
  intro n
  induction n with
  | zero => intro _; rfl
  | succ n ih =>
    intro h
    rw [cnt, cnt, ih (fun k hk => h k (by omega)), h n (by omega)]
theorem cnt_0 {p : Nat → Bool} (m : Nat) : ∀ n : Nat, m ≤ n → (∀ k, m ≤ k → k < n → p k = false) → cnt p n = cnt p m := by
  intro n
  induction n with
  | zero =>
    intro h _
    rw [show m = 0 by omega]
  | succ n ih =>
    intro h hp
    by_cases c : m = n + 1
    · rw [c]
    · rw [cnt, ih (by omega) (fun k h1 h2 => hp k h1 (by omega)), hp n (by omega) (by omega), if_neg (by decide), Nat.add_zero]
section BWM
variable {M : Mm} {fl : Int32} {wd : Nat → Int32}
theorem MD.n {N N' : Mm} (h : MD M fl wd N) (e : N'.1 33 = N.1 33) (e2 : N'.1 36 = N.1 36) : MD M fl wd N' := ⟨h.1.n e, fun k hk => by rw [e2]; exact h.2 k hk⟩
theorem b48_l {B : Mm} (hl : LF M B) (la : LA M B) (h : MD M fl wd B) (h12 : 0 ≤ (M.1 43 0).toInt ∧ (M.1 43 0).toInt ≤ 12) {r v t : Int32} : ∀ (j n' : Nat) (N : Mm) (i : Int32), (M.1 43 0).toInt - i.toInt = (j : Int) → 0 ≤ i.toInt → j < n' → (∀ p, p ≠ 0 → N.1 p = B.1 p) → (∀ j, j ≠ 48 → N.1 0 j = B.1 0 j) → N.2 = B.2 → N.1 0 48 = B.1 0 48 + Int32.ofNat (cnt (brb M fl wd r v) i.toNatClampNeg) → ∃ N1 : Mm, q_ChipMapModel_busWrite_48 n' N r v t i = (cal (q_ChipMapModel_write N1 r v) fun M1 _ => some (M1, t + 1)) ∧ (∀ p, p ≠ 0 → N1.1 p = B.1 p) ∧ (∀ j, j ≠ 48 → N1.1 0 j = B.1 0 j) ∧ N1.2 = B.2 ∧ N1.1 0 48 = B.1 0 48 + Int32.ofNat (cnt (brb M fl wd r v) (M.1 43 0).toNatClampNeg) := by
  have tr := tnc h12.1
  have e38 := la.2.2.2.2.1
  intro j
  induction j with
  | zero =>
    intro n' N i hj i0 hn f1 f2 f3 g
    obtain ⟨n', rfl⟩ : ∃ q, n' = q + 1 := ⟨n' - 1, by omega⟩
    have tn := tnc i0
    have c : N.1 0 38 ≤ i := Int32.le_iff_toInt_le.mpr (by rw [f2 38 (by decide), ← e38]; omega)
    rw [q_ChipMapModel_busWrite_48, if_pos c]
    have e : (M.1 43 0).toNatClampNeg = i.toNatClampNeg := by omega
    rw [e]
    exact ⟨N, rfl, f1, f2, f3, g⟩
  | succ j ih =>
    intro n' N i hj i0 hn f1 f2 f3 g
    obtain ⟨n', rfl⟩ : ∃ q, n' = q + 1 := ⟨n' - 1, by omega⟩
    have tn := tnc i0
    have ez : (i + 1).toInt = i.toInt + 1 := iadd rfl (rfl : (1 : Int32).toInt = 1) (by omega) (by omega)
    have es : (i + 1).toNatClampNeg = i.toNatClampNeg + 1 := tnS (by omega)
    have c : ¬ N.1 0 38 ≤ i := fun z => by
      have := Int32.le_iff_toInt_le.mp z
      rw [f2 38 (by decide), ← e38] at this
      omega
    have hlN : LF M N := hl.n (fun p h1 h2 => f1 p (by omega))
    have laN : LA M N := la.n (fun p h1 h2 => f1 p (by omega)) (fun j hj => f2 j (by omega))
    have hN : MD M fl wd N := h.n (f1 33 (by decide)) (f1 36 (by decide))
    have go : ∀ x : Int32, x = Int32.ofNat (if brb M fl wd r v i.toNatClampNeg = true then 1 else 0) → ∃ N1 : Mm, q_ChipMapModel_busWrite_79 (q_ChipMapModel_busWrite_48 n') N r v t i x (N.1 0 48) = (cal (q_ChipMapModel_write N1 r v) fun M1 _ => some (M1, t + 1)) ∧ (∀ p, p ≠ 0 → N1.1 p = B.1 p) ∧ (∀ j, j ≠ 48 → N1.1 0 j = B.1 0 j) ∧ N1.2 = B.2 ∧ N1.1 0 48 = B.1 0 48 + Int32.ofNat (cnt (brb M fl wd r v) (M.1 43 0).toNatClampNeg) := by
      intro x hx
      unfold q_ChipMapModel_busWrite_79
      rw [lq_s]
      refine ih n' _ (i + 1) (by omega) (by omega) (by omega) (fun p hp => by rw [stI_ne _ _ hp]; exact f1 p hp) (fun j hj => by rw [stI_at, updN hj]; exact f2 j hj) f3 ?_
      rw [stI_at, updS, g, es, cnt, hx, Int32.ofNat_add, Int32.add_assoc]
    rw [q_ChipMapModel_busWrite_48, if_neg c, br_m hlN laN hN i0 (by omega) h12.2, cal_s]
    cases hb : brb M fl wd r v i.toNatClampNeg with
    | false =>
      rw [if_pos (show b2 false = 0 from rfl)]
      exact go 0 (by rw [hb]; rfl)
    | true =>
      rw [if_neg (show ¬ b2 true = 0 by decide)]
      exact go 1 (by rw [hb]; rfl)
end BWM
/-- the mask of the rules that are broken, against the first of them and their number -/
theorem mask_e {M : Mm} {fl : Int32} {wd : Nat → Int32} {r v m t : Int32} (h12 : 0 ≤ (M.1 43 0).toInt ∧ (M.1 43 0).toInt ≤ 12) (hm : ∀ b, tb m b = (decide (b < (M.1 43 0).toNatClampNeg) && brb M fl wd r v b)) (ht : (t = -1 ∧ ∀ k : Nat, k < (M.1 43 0).toNatClampNeg → brb M fl wd r v k = false) ∨ (0 ≤ t.toInt ∧ t.toInt < (M.1 43 0).toInt ∧ brb M fl wd r v t.toNatClampNeg = true ∧ ∀ k : Nat, k < t.toNatClampNeg → brb M fl wd r v k = false)) : bcV m = Int32.ofNat (cnt (brb M fl wd r v) (M.1 43 0).toNatClampNeg) ∧ ((m = 0 ∧ t = -1) ∨ (m ≠ 0 ∧ nzV m = t)) := by
  have tr := tnc h12.1
  obtain ⟨k, ek, hk⟩ := m12 (m := m) (fun b hb => by rw [hm b, decide_eq_false (by omega)]; rfl)
  constructor
  · rw [ek, bc_fin k]
    congr 1
    have e1 : cnt (fun j => k.val.testBit j) 12 = cnt (fun j => k.val.testBit j) (M.1 43 0).toNatClampNeg := cnt_0 _ 12 (by omega) (fun j h1 h2 => by
      rw [← hk j, hm j, decide_eq_false (by omega)]
      rfl)
    rw [e1]
    exact cnt_ext _ (fun j hj => by rw [← hk j, hm j, decide_eq_true hj, Bool.true_and])
  · rcases ht with ⟨t1, t2⟩ | ⟨t0, t1, t2, t3⟩
    · refine Or.inl ⟨?_, t1⟩
      apply tb_ext
      intro b _
      rw [hm b, tb_0]
      by_cases c : b < (M.1 43 0).toNatClampNeg
      · rw [t2 b c, Bool.and_false]
      · rw [decide_eq_false c, Bool.false_and]
    · have tt := tnc t0
      have hbt : tb m t.toNatClampNeg = true := by rw [hm, decide_eq_true (by omega), t2]; rfl
      have hne : m ≠ 0 := fun z => by
        rw [z, tb_0] at hbt
        cases hbt
      refine Or.inr ⟨hne, ?_⟩
      have k0 : k.val ≠ 0 := fun z => by
        rw [hk, z, Nat.zero_testBit] at hbt
        cases hbt
      obtain ⟨n1, n2, n3⟩ := nz_fin k k0
      rw [← ek] at n1 n2 n3
      have tz := tnc n1.1
      rw [← hk] at n2
      apply tn_inj n1.1 t0
      rcases Nat.lt_trichotomy (nzV m).toNatClampNeg t.toNatClampNeg with c | c | c
      · rw [hm, t3 _ c, Bool.and_false] at n2
        cases n2
      · exact c
      · have z := n3 ⟨t.toNatClampNeg, by omega⟩ c
        rw [← hk, hbt] at z
        cases z
end
section
-- the relation of the two devices, through busWrite()
def jnR (M N : Mm) : Prop := M.1 65 0 = N.1 0 52 ∧ ∀ j : Nat, (j : Int) < (M.1 65 0).toInt → M.1 67 j = N.1 40 j ∧ M.1 68 j = N.1 41 j
def spR (M N : Mm) : Prop := M.1 69 0 = N.1 0 59 ∧ ∀ j : Nat, (j : Int) < (M.1 69 0).toInt → M.1 70 j = N.1 42 j ∧ M.1 71 j = N.1 43 j ∧ M.1 72 j = N.1 44 j
def RD (M N : Mm) : Prop := LF M N ∧ LA M N ∧ MD M (M.1 51 2) (M.1 52) N ∧ M.1 53 0 = N.1 0 47 ∧ M.1 50 3 = N.1 0 48 ∧ N.1 0 58 = 0 ∧ jnR M N ∧ spR M N
theorem jnR.cg {M N M' N' : Mm} (h : jnR M N) (e65 : M'.1 65 = M.1 65) (e67 : M'.1 67 = M.1 67) (e68 : M'.1 68 = M.1 68) (e52 : N'.1 0 52 = N.1 0 52) (e40 : N'.1 40 = N.1 40) (e41 : N'.1 41 = N.1 41) : jnR M' N' := by
  unfold jnR
  rw [e65, e67, e68, e52, e40, e41]
  exact h
theorem spR.cg {M N M' N' : Mm} (h : spR M N) (e69 : M'.1 69 = M.1 69) (e70 : M'.1 70 = M.1 70) (e71 : M'.1 71 = M.1 71) (e72 : M'.1 72 = M.1 72) (e59 : N'.1 0 59 = N.1 0 59) (e42 : N'.1 42 = N.1 42) (e43 : N'.1 43 = N.1 43) (e44 : N'.1 44 = N.1 44) : spR M' N' := by
  unfold spR
  rw [e69, e70, e71, e72, e59, e42, e43, e44]
  exact h
theorem MD.x {M M' N : Mm} {fl : Int32} {wd : Nat → Int32} (h : MD M fl wd N) (k : kX M M') : MD M' fl wd N := by
  unfold MD MV pf
  rw [k 29 (by decide), k 38 (by decide), k 39 (by decide), k 40 (by decide), k 41 (by decide), k 42 (by decide), k 43 (by decide)]
  exact h
theorem IX.hh {G : Gx} {K : Int} {M : Mm} (h : IX G K M) : ∀ f, (M.1 38 f).toInt ≤ 15 := by
  intro f
  have r1 := h.hmR f
  have r2 := h.rgR
  rw [← h.hmE] at r1
  omega
theorem IX.r16 {G : Gx} {K : Int} {M : Mm} (h : IX G K M) : 0 ≤ (M.1 24 0).toInt ∧ (M.1 24 0).toInt ≤ 16 := by
  rw [h.rgE]
  exact h.rgR
theorem IX.ru {G : Gx} {K : Int} {M : Mm} (h : IX G K M) : ruI M := by
  refine ⟨h.rc, fun k hk => ⟨h.ra k hk, ?_, ?_⟩⟩
  · have z := h.rb k hk
    exact ⟨z.1, z.2.1⟩
  · have z := (h.rb k hk).2.2
    rw [← h.hmE] at z
    exact ⟨z, h.hh _⟩
theorem bw_rel {G : Gx} {K : Int} {M N : Mm} (hI : IX G K M) (rq : RQ M N) (h : RD M N) {a1 a2 : Int32} {M' N' : Mm} {r1 r2 : Int32} (q1 : q_ChipMap_busWrite M a1 a2 = some (M', r1)) (q2 : q_ChipMapModel_busWrite N a1 a2 = some (N', r2)) (kx : kX M M') (ky : kY N N') : r1 = r2 ∧ RD M' N' := by
  obtain ⟨hl, la, md, e47, e48, e58, jn, sp⟩ := h
  have h16 := hI.r16
  have hh := hI.hh
  have hu := hI.ru
  have h12 := hu.1
  have hlg := hI.log
  unfold q_ChipMap_busWrite at q1
  unfold q_ChipMapModel_busWrite at q2
  rw [lq_s] at q2
  obtain ⟨N1, eN⟩ : ∃ z, z = stI N 0 (upd (N.1 0) 0 0) := ⟨_, rfl⟩
  rw [← eN] at q2
  have np : ∀ p, p ≠ 0 → N1.1 p = N.1 p := fun p hp => by rw [eN, stI_ne _ _ hp]
  have ns : ∀ j, j ≠ 0 → N1.1 0 j = N.1 0 j := fun j hj => by rw [eN, stI_at, updN hj]
  have hl1 : LF M N1 := hl.n (fun p h1 h2 => np p (by omega))
  have la1 : LA M N1 := la.n (fun p h1 h2 => np p (by omega)) (fun j hj => ns j (by omega))
  have md1 : MD M (M.1 51 2) (M.1 52) N1 := md.n (np 33 (by decide)) (np 36 (by decide))
  have same : RD M N1 := ⟨hl1, la1, md1, by rw [ns 47 (by decide)]; exact e47, by rw [ns 48 (by decide)]; exact e48, by rw [ns 58 (by decide)]; exact e58, jn.cg rfl rfl rfl (ns 52 (by decide)) (np 40 (by decide)) (np 41 (by decide)), sp.cg rfl rfl rfl rfl (ns 59 (by decide)) (np 42 (by decide)) (np 43 (by decide)) (np 44 (by decide))⟩
  obtain ⟨t, p1, p2, p3⟩ := ra_e hl1 la1 md1.1 h16 hh a1
  rw [p1, cal_s] at q1
  have e27 : N1.1 0 27 = N.1 0 27 := ns 27 (by decide)
  by_cases ct : t = -1
  · have q2' : q_ChipMapModel_busWrite_21 N1 a2 (-1) = some (N', r2) := by
      by_cases c27 : N1.1 0 27 = 0
      · rw [if_pos c27] at q2
        exact q2
      · rw [if_neg c27, p2, cal_s, ct] at q2
        exact q2
    unfold q_ChipMapModel_busWrite_21 at q2'
    rw [if_pos rfl] at q2'
    rw [if_pos ct] at q1
    obtain ⟨rfl, rfl⟩ := rs_e q1
    obtain ⟨rfl, rfl⟩ := rs_e q2'
    exact ⟨rfl, same⟩
  have tr : 0 ≤ t.toInt ∧ t.toInt < (M.1 24 0).toInt := by
    rcases p3 with z | z
    · exact absurd z ct
    · exact z
  have t15 : 0 ≤ t.toInt ∧ t.toInt ≤ 15 := by omega
  have c27 : ¬ N1.1 0 27 = 0 := by
    rw [e27]
    rcases rq.2.2.2 with ⟨m1, -⟩ | ⟨-, m2⟩
    · omega
    · rw [m2]; decide
  rw [if_neg c27, p2, cal_s] at q2
  unfold q_ChipMapModel_busWrite_21 at q2
  rw [if_neg ct, lq_s] at q2
  rw [if_neg ct] at q1
  obtain ⟨m, b1, bm⟩ := bby hu (v := a2 &&& 65535) t15
  rw [b1, cal_s] at q1
  obtain ⟨M5, r6, d1, q1⟩ := cal_o q1
  obtain ⟨w1, w2, w3, w4⟩ := dw_i hu t15 d1
  rw [bc_e, cal_s, lq_s] at q1
  obtain ⟨u, f1, fu⟩ := fb_m hl1 la1 md1 h12 t (a2 &&& 65535)
  rw [f1, cal_s] at q2
  obtain ⟨k1, k2⟩ := mask_e h12 bm fu
  have z0 : (0 : Int32).toInt = 0 := rfl
  have e0 : (0 : Int32).toNatClampNeg = 0 := rfl
  obtain ⟨N2, x1, x2, x3, x4, x5⟩ := b48_l hl1 la1 md1 h12 (r := t) (v := a2 &&& 65535) (t := u) (M.1 43 0).toInt.toNat 4000 N1 0 (by omega) (by decide) (by omega) (fun _ _ => rfl) (fun _ _ => rfl) rfl (by
    rw [e0]
    show _ = N1.1 0 48 + 0
    rw [Int32.add_zero])
  rw [x1] at q2
  have hl2 : LF M N2 := hl1.n (fun p h1 h2 => x2 p (by omega))
  have la2 : LA M N2 := la1.n (fun p h1 h2 => x2 p (by omega)) (fun j hj => x3 j (by omega))
  have md2 : MD M (M.1 51 2) (M.1 52) N2 := md1.n (x2 33 (by decide)) (x2 36 (by decide))
  have tru := tnc h12.1
  obtain ⟨N3, y1, y2, y3, y4, y5, y6, -, -⟩ := wr_m hl2 la2 md2 h12 (by rw [x3 47 (by decide), ns 47 (by decide), ← e47]; exact hlg.1) (v := a2 &&& 65535) t15 (fl' := M5.1 51 2) (fun k hk => by rw [w4 k, if_pos (by omega)])
  rw [y1, cal_s] at q2
  obtain ⟨rfl, rfl⟩ := rs_e q2
  obtain ⟨M9, e9⟩ : ∃ z, z = stI M5 50 (upd (M5.1 50) 3 (M5.1 50 3 + bcV m)) := ⟨_, rfl⟩
  rw [← e9] at q1
  have hq : M9 = M' ∧ r1 = u + 1 := by
    rcases k2 with ⟨m0, u0⟩ | ⟨m0, u0⟩
    · rw [if_pos m0] at q1
      obtain ⟨z1, z2⟩ := rs_e q1
      refine ⟨z1, ?_⟩
      rw [← z2, u0]
      decide
    · rw [if_neg m0, nz_e, cal_s] at q1
      obtain ⟨z1, z2⟩ := rs_e q1
      refine ⟨z1, ?_⟩
      rw [← z2, u0, Int32.add_comm]
  obtain ⟨rfl, rfl⟩ := hq
  refine ⟨rfl, hl.kp kx ky, la.cg kx ky, ?_, ?_, ?_, ?_, ?_, ?_⟩
  · have z : MD M (M9.1 51 2) (M9.1 52) N3 := by
      rw [e9, stI_ne _ _ (by decide), stI_ne _ _ (by decide), w3]
      exact y2
    exact z.x kx
  · have ed : dz N2 = 1 := if_pos (by rw [x3 58 (by decide), ns 58 (by decide)]; exact e58)
    rw [e9, stI_ne _ _ (by decide), w2, y5, ed, x3 47 (by decide), ns 47 (by decide), e47]
  · rw [e9, stI_at, updS, w1 50 (by omega), k1, y4 48 (by decide), x5, ns 48 (by decide), e48]
  · rw [y4 58 (by decide), x3 58 (by decide), ns 58 (by decide)]
    exact e58
  · refine jn.cg ?_ ?_ ?_ ?_ ?_ ?_
    · rw [e9, stI_ne _ _ (by decide), w1 65 (by omega)]
    · rw [e9, stI_ne _ _ (by decide), w1 67 (by omega)]
    · rw [e9, stI_ne _ _ (by decide), w1 68 (by omega)]
    · rw [y4 52 (by decide), x3 52 (by decide), ns 52 (by decide)]
    · rw [y3 40 (by decide) (by omega), x2 40 (by decide), np 40 (by decide)]
    · rw [y3 41 (by decide) (by omega), x2 41 (by decide), np 41 (by decide)]
  · refine sp.cg ?_ ?_ ?_ ?_ ?_ ?_ ?_ ?_
    · rw [e9, stI_ne _ _ (by decide), w1 69 (by omega)]
    · rw [e9, stI_ne _ _ (by decide), w1 70 (by omega)]
    · rw [e9, stI_ne _ _ (by decide), w1 71 (by omega)]
    · rw [e9, stI_ne _ _ (by decide), w1 72 (by omega)]
    · rw [y4 59 (by decide), x3 59 (by decide), ns 59 (by decide)]
    · rw [y3 42 (by decide) (by omega), x2 42 (by decide), np 42 (by decide)]
    · rw [y3 43 (by decide) (by omega), x2 43 (by decide), np 43 (by decide)]
    · rw [y3 44 (by decide) (by omega), x2 44 (by decide), np 44 (by decide)]
end
