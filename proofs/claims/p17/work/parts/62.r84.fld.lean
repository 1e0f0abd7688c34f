def w2 (x y : Rs) (Q : Mm → Int32 → Mm → Int32 → Prop) : Prop := ∃ (M : Mm) (r : Int32) (N : Mm) (s : Int32), x = some (M, r) ∧ y = some (N, s) ∧ Q M r N s
theorem w2.s {M N : Mm} {r s : Int32} {Q : Mm → Int32 → Mm → Int32 → Prop} (h : Q M r N s) : w2 (some (M, r)) (some (N, s)) Q := ⟨M, r, N, s, rfl, rfl, h⟩
theorem w2.cal {x y : Rs} {k l : Mm → Int32 → Rs} {P Q : Mm → Int32 → Mm → Int32 → Prop} (h : w2 x y P) (g : ∀ M r N s, P M r N s → w2 (k M r) (l N s) Q) : w2 (cal x k) (cal y l) Q := by
  obtain ⟨M, r, N, s, e1, e2, e3⟩ := h
  rw [e1, e2, cal_s, cal_s]
  exact g M r N s e3
theorem w2.mono {x y : Rs} {P Q : Mm → Int32 → Mm → Int32 → Prop} (h : w2 x y P) (g : ∀ M r N s, P M r N s → Q M r N s) : w2 x y Q := by
  obtain ⟨M, r, N, s, e1, e2, e3⟩ := h
  exact ⟨M, r, N, s, e1, e2, g M r N s e3⟩
theorem st_up {M : Mm} {p k : Nat} {f : Nat → Int32} {v : Int32} : (stI M p (upd f k v)).1 p k = v := by simp [stI, upd]
def eqTo (n : Nat) (f g : Nat → Int32) : Prop := ∀ i : Nat, i < n → f i = g i
theorem eqTo.up {n : Nat} {f g : Nat → Int32} {v : Int32} (h : eqTo n f g) : eqTo (n + 1) (upd f n v) (upd g n v) := by
  intro i hi
  by_cases c : i = n
  · rw [c, updS, updS]
  · rw [updN c, updN c]
    exact h i (by omega)
def acR (n : Nat) (f g : Nat → Int32) : Prop := ∀ i : Nat, i < n → ((0 ≤ (f i).toInt ∧ (f i).toInt < 7) ∧ sB 0 (f i).toNatClampNeg = g i)
theorem acR.up {n : Nat} {f g : Nat → Int32} {v w : Int32} (h : acR n f g) (hv : (0 ≤ v.toInt ∧ v.toInt < 7) ∧ sB 0 v.toNatClampNeg = w) : acR (n + 1) (upd f n v) (upd g n w) := by
  intro i hi
  by_cases c : i = n
  · rw [c, updS, updS]
    exact hv
  · rw [updN c, updN c]
    exact h i (by omega)
def rgTo (n : Nat) (lo hi : Int) (f : Nat → Int32) : Prop := ∀ i : Nat, i < n → lo ≤ (f i).toInt ∧ (f i).toInt ≤ hi
theorem rgTo.up {n : Nat} {lo hi : Int} {f : Nat → Int32} {v : Int32} (h : rgTo n lo hi f) (hv : lo ≤ v.toInt ∧ v.toInt ≤ hi) : rgTo (n + 1) lo hi (upd f n v) := by
  intro i hi
  by_cases c : i = n
  · rw [c, updS]
    exact hv
  · rw [updN c]
    exact h i (by omega)
def fR (n : Nat) (M N : Mm) : Prop := eqTo n (M.1 7) (N.1 7) ∧ eqTo n (M.1 8) (N.1 13) ∧ eqTo n (M.1 9) (N.1 12) ∧ acR n (M.1 10) (N.1 8) ∧ eqTo n (M.1 11) (N.1 9) ∧ eqTo n (M.1 12) (N.1 10) ∧ eqTo n (M.1 13) (N.1 11) ∧ rgTo n 0 25 (M.1 7) ∧ rgTo n 0 2147483647 (M.1 8) ∧ rgTo n 0 2147483647 (M.1 11) ∧ rgTo n 0 2147483647 (M.1 12) ∧ rgTo n 0 2147483647 (M.1 13)
def fl0 (M' : Mm) (r : Int32) (N' : Mm) (s : Int32) : Prop := r = 0 ∧ s = 0 ∧ rd0 M' N' ∧ flt N'
theorem tk0 {M N : Mm} {r : Int32} (h : rd0 M N) (g : (r = 1 ∧ nf N) ∨ (r = 0 ∧ flt N)) : (r = 1 ∧ rdR M N) ∨ fl0 M 0 N 0 ∧ r = 0 := by
  rcases g with g | g
  · exact Or.inl ⟨g.1, h.n g.2⟩
  · exact Or.inr ⟨⟨rfl, rfl, h, g.2⟩, g.1⟩
theorem fld_tail {M N : Mm} {x v : Int32} (h : rdR M N) (hi : 0 ≤ x.toInt ∧ x.toInt < 128) (hv : 0 ≤ v.toInt) : w2 (q_Reader_readField_187 M x v x) (q_ChipMapModel_readField_181 N) (fun M' r N' s => fl0 M' r N' s ∨ (r = 1 ∧ s = 1 ∧ rdR M' N' ∧ M'.1 13 = upd (M.1 13) x.toNatClampNeg v ∧ M'.1 1 = upd (M.1 1) 6 (x + 1) ∧ (∀ p, p ≠ 13 → p ≠ 1 → p ≠ 21 → M'.1 p = M.1 p) ∧ N'.1 0 12 = N.1 0 12 + 1 ∧ N'.1 0 6 = N.1 0 6 ∧ N'.1 0 20 = N.1 0 20 ∧ (∀ p, p ≠ 0 → N'.1 p = N.1 p))) := by
  have hx : vp_in x 128 := vI hi
  have em : (-1 : Int32).toInt = -1 := by decide
  unfold q_Reader_readField_187 q_ChipMapModel_readField_181
  rw [ix_e hx, lq_s, lq_s, ix_e hx]
  have e1 : (stI (stI M 13 (upd (M.1 13) x.toNatClampNeg v)) 1 (upd ((stI M 13 (upd (M.1 13) x.toNatClampNeg v)).1 1) 6 (x + 1))).1 13 x.toNatClampNeg = v := by
    show upd (M.1 13) x.toNatClampNeg v x.toNatClampNeg = v
    exact updS
  rw [e1, if_neg (fun z => by rw [z] at hv; omega), lq_s]
  have h2 : rdR (stI (stI M 13 (upd (M.1 13) x.toNatClampNeg v)) 1 (upd ((stI M 13 (upd (M.1 13) x.toNatClampNeg v)).1 1) 6 (x + 1))) (stI N 0 (upd (N.1 0) 12 (N.1 0 12 + 1))) := h
  obtain ⟨M', N', r, q1, q2, ht, hr⟩ := take_rel h2 59 (by decide)
  rw [q1, q2, cal_s, cal_s]
  rcases tk0 ht.1 hr with ⟨g, g1⟩ | ⟨g, g1⟩
  · rw [g, if_neg (by decide), bz_e1]
    refine w2.s (Or.inr ⟨rfl, rfl, g1, ht.2.1 13 (by decide), ht.2.1 1 (by decide), fun p p1 p2 p3 => ?_, ht.2.2.s12, ht.2.2.s6, ht.2.2.s20, fun p p1 => ?_⟩)
    · exact (ht.2.1 p p3).trans ((stI_ne _ _ p2).trans (stI_ne _ _ p1))
    · exact (ht.2.2.o p p1).trans (stI_ne _ _ p1)
  · rw [g1, if_pos rfl, bz_e0]
    exact w2.s (Or.inl g)
theorem fld_m {M : Mm} {x : Int32} (hi : 0 ≤ x.toInt ∧ x.toInt < 128) : ∃ M' : Mm, q_Reader_readField_187 M x (-1) x = some (M', 0) ∧ ∀ N : Mm, rd0 M N → rd0 M' N := by
  have hx : vp_in x 128 := vI hi
  unfold q_Reader_readField_187
  rw [ix_e hx, lq_s, lq_s, ix_e hx]
  have e1 : (stI (stI M 13 (upd (M.1 13) x.toNatClampNeg (-1))) 1 (upd ((stI M 13 (upd (M.1 13) x.toNatClampNeg (-1))).1 1) 6 (x + 1))).1 13 x.toNatClampNeg = -1 := by
    show upd (M.1 13) x.toNatClampNeg (-1) x.toNatClampNeg = -1
    exact updS
  rw [if_pos e1]
  exact ⟨_, rfl, fun N h => h⟩
