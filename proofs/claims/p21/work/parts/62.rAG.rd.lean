section
-- busRead() and poke(): what is known stays
def frd (N N1 : Mm) (i : Nat) : Prop := (∀ p, p ≠ 33 → p ≠ 34 → p ≠ 35 → N1.1 p = N.1 p) ∧ (∀ k, k ≠ i → N1.1 33 k = N.1 33 k) ∧ N1.2 = N.2
theorem frd.rf (N : Mm) (i : Nat) : frd N N i := ⟨fun _ _ _ _ => rfl, fun _ _ => rfl, rfl⟩
theorem frd.s33 {A N : Mm} {i : Nat} (h : frd A N i) (x : Int32) : frd A (stI N 33 (upd (N.1 33) i x)) i := ⟨fun p h1 h2 h3 => by rw [stI_ne _ _ h1]; exact h.1 p h1 h2 h3, fun k hk => by rw [stI_at, updN hk]; exact h.2.1 k hk, h.2.2⟩
theorem frd.s34 {A N : Mm} {i : Nat} (h : frd A N i) (x : Int32) : frd A (stI N 34 (upd (N.1 34) i x)) i := ⟨fun p h1 h2 h3 => by rw [stI_ne _ _ h2]; exact h.1 p h1 h2 h3, fun k hk => by rw [stI_ne _ _ (by decide)]; exact h.2.1 k hk, h.2.2⟩
theorem frd.s35 {A N : Mm} {i : Nat} (h : frd A N i) (x : Int32) : frd A (stI N 35 (upd (N.1 35) i x)) i := ⟨fun p h1 h2 h3 => by rw [stI_ne _ _ h3]; exact h.1 p h1 h2 h3, fun k hk => by rw [stI_ne _ _ (by decide)]; exact h.2.1 k hk, h.2.2⟩
theorem r82 {A N : Mm} {kf : Mm → Int32 → Int32 → Int32 → Rs} {r x i : Int32} (hi : 0 ≤ i.toInt ∧ i.toInt < 26) (h : frd A N i.toNatClampNeg) : ∃ N1 : Mm, q_ChipMapModel_read_82 kf N r x i = kf N1 r x (i + 1) ∧ frd A N1 i.toNatClampNeg ∧ (N.1 24 i.toNatClampNeg ≠ 112 → N1 = N) := by
  have k : vp_in i 26 := vI (by omega)
  have k7 : vp_in i 78 := vI (by omega)
  unfold q_ChipMapModel_read_82 q_ChipMapModel_read_119
  rw [ix_e k]
  by_cases c : N.1 24 i.toNatClampNeg = 112
  · rw [if_pos c, ix_e k7, ix_e k7, lq_s, ix_e k7]
    split
    · exact ⟨_, rfl, h.s34 _, fun z => absurd c z⟩
    · rw [ix_e k7, lq_s]
      exact ⟨_, rfl, (h.s34 _).s33 0, fun z => absurd c z⟩
  · rw [if_neg c]
    exact ⟨N, rfl, h, fun _ => rfl⟩
section RDM
variable {M : Mm} {fl : Int32} {wd : Nat → Int32}
theorem r4_s {N : Mm} (hl : LF M N) {i r x : Int32} (hi : 0 ≤ i.toInt ∧ i.toInt < 26) (n' : Nat) : ∃ (N1 : Mm) (x' : Int32), q_ChipMapModel_read_4 (n' + 1) N r x i = q_ChipMapModel_read_4 n' N1 r x' (i + 1) ∧ frd N N1 i.toNatClampNeg ∧ (pf M i.toNatClampNeg → knA (M.1 39 i.toNatClampNeg) → N1 = N) := by
  have k : vp_in i 26 := vI (by omega)
  have k7 : vp_in i 78 := vI (by omega)
  have c : ¬ (26 : Int32) ≤ i := fun z => by
    have := Int32.le_iff_toInt_le.mp z
    have e : (26 : Int32).toInt = 26 := rfl
    omega
  rw [q_ChipMapModel_read_4, if_neg c]
  have go : ∀ t : Int32, ∃ (N1 : Mm) (x' : Int32), (if t = 0 then (q_ChipMapModel_read_119 (q_ChipMapModel_read_4 n') N r x i) else (ix i 26 <| if (N.1 24 (i : Int32).toNatClampNeg) = 111 then (q_ChipMapModel_read_119 (q_ChipMapModel_read_4 n') N r x i) else (ix i 78 <| ix i 26 <| lt' (x ||| (((N.1 33 (i : Int32).toNatClampNeg) : Int32) <<< ((N.1 26 (i : Int32).toNatClampNeg) &&& 31))) fun x3 => ix i 26 <| if (N.1 24 (i : Int32).toNatClampNeg) = 99 then (ix i 78 <| ix i 78 <| ix i 78 <| lt' (stI N 35 (upd (N.1 35) (i : Int32).toNatClampNeg ((N.1 35 (i : Int32).toNatClampNeg) ||| (N.1 33 (i : Int32).toNatClampNeg)))) fun M4 => ix i 78 <| lt' (stI M4 33 (upd (M4.1 33) (i : Int32).toNatClampNeg 0)) fun M5 => q_ChipMapModel_read_82 (q_ChipMapModel_read_4 n') M5 r x3 i) else (q_ChipMapModel_read_82 (q_ChipMapModel_read_4 n') N r x3 i)))) = q_ChipMapModel_read_4 n' N1 r x' (i + 1) ∧ frd N N1 i.toNatClampNeg ∧ (pf M i.toNatClampNeg → knA (M.1 39 i.toNatClampNeg) → N1 = N) := by
    intro t
    by_cases ct : t = 0
    · rw [if_pos ct]
      exact ⟨N, x, rfl, frd.rf N _, fun _ _ => rfl⟩
    rw [if_neg ct, ix_e k]
    by_cases c1 : N.1 24 i.toNatClampNeg = 111
    · rw [if_pos c1]
      exact ⟨N, x, rfl, frd.rf N _, fun _ _ => rfl⟩
    rw [if_neg c1, ix_e k7, ix_e k, lq_s, ix_e k]
    by_cases c9 : N.1 24 i.toNatClampNeg = 99
    · rw [if_pos c9, ix_e k7, ix_e k7, ix_e k7, lq_s, ix_e k7, lq_s]
      obtain ⟨N1, q, f, -⟩ := r82 (kf := q_ChipMapModel_read_4 n') (r := r) (x := x ||| (N.1 33 i.toNatClampNeg <<< (N.1 26 i.toNatClampNeg &&& 31))) hi (((frd.rf N i.toNatClampNeg).s35 (N.1 35 i.toNatClampNeg ||| N.1 33 i.toNatClampNeg)).s33 0)
      refine ⟨N1, _, q, f, fun hp hk => ?_⟩
      obtain ⟨-, -, -, ⟨g4, g5⟩, -, -, -⟩ := lf_p hl hp
      obtain ⟨-, -, -, i3⟩ := ac_0 g4 g5
      have z := i3.mpr c9
      rcases hk with y | y <;> rw [z] at y <;> exact absurd y (by decide)
    · rw [if_neg c9]
      obtain ⟨N1, q, f, e⟩ := r82 (kf := q_ChipMapModel_read_4 n') (r := r) (x := x ||| (N.1 33 i.toNatClampNeg <<< (N.1 26 i.toNatClampNeg &&& 31))) hi (frd.rf N i.toNatClampNeg)
      refine ⟨N1, _, q, f, fun hp hk => ?_⟩
      obtain ⟨-, -, -, ⟨g4, g5⟩, -, -, -⟩ := lf_p hl hp
      exact e (kn_c g4 g5 hk).2.2
  by_cases hp : pf M i.toNatClampNeg
  · rw [isin_m hl hi.1 hp, cal_s]
    exact go _
  · rw [isin_0 hl hi hp, cal_s]
    exact go 0
theorem r4_l {B : Mm} (hl : LF M B) (h47 : 0 ≤ (B.1 0 47).toInt) {r : Int32} (hr : 0 ≤ r.toInt ∧ r.toInt ≤ 15) : ∀ (j n' : Nat) (N : Mm) (x i : Int32), 26 - i.toInt = (j : Int) → 0 ≤ i.toInt → j < n' → (∀ p, p ≠ 33 → p ≠ 34 → p ≠ 35 → N.1 p = B.1 p) → N.2 = B.2 → (∀ f, pf M f → knA (M.1 39 f) → N.1 33 f = B.1 33 f) → (∀ f, 26 ≤ f → N.1 33 f = B.1 33 f) → ∃ (N1 : Mm) (y : Int32), q_ChipMapModel_read_4 n' N r x i = some (N1, y) ∧ (∀ p, p ≠ 0 → (p < 33 ∨ 40 ≤ p ∨ p = 36) → N1.1 p = B.1 p) ∧ (∀ j, j ≠ 47 → N1.1 0 j = B.1 0 j) ∧ N1.1 0 47 = B.1 0 47 + dz B ∧ N1.2 = B.2 ∧ (∀ f, pf M f → knA (M.1 39 f) → N1.1 33 f = B.1 33 f) ∧ (∀ f, 26 ≤ f → N1.1 33 f = B.1 33 f) := by
  have e26 : (26 : Int32).toInt = 26 := rfl
  intro j
  induction j with
  | zero =>
    intro n' N x i hj i0 hn f1 f2 g g'
    obtain ⟨n', rfl⟩ : ∃ q, n' = q + 1 := ⟨n' - 1, by omega⟩
    have c : (26 : Int32) ≤ i := Int32.le_iff_toInt_le.mpr (by omega)
    have s0 : N.1 0 = B.1 0 := f1 0 (by decide) (by decide) (by decide)
    obtain ⟨N3, q3, t1, t2, t3, t4⟩ := tr_m (N := N) (by rw [s0]; exact h47) (k := 0) (v := x) hr
    rw [q_ChipMapModel_read_4, if_pos c, q3, cal_s]
    refine ⟨N3, x, rfl, fun p h0 hp => ?_, fun j hj => ?_, ?_, by rw [t4, f2], fun f hp hk => ?_, fun f hf => ?_⟩
    · rw [t1 p h0 (by omega) (by omega) (by omega), f1 p (by omega) (by omega) (by omega)]
    · rw [t2 j hj, s0]
    · unfold dz at t3 ⊢
      rw [t3, s0]
    · rw [t1 33 (by decide) (by decide) (by decide) (by decide)]
      exact g f hp hk
    · rw [t1 33 (by decide) (by decide) (by decide) (by decide)]
      exact g' f hf
  | succ j ih =>
    intro n' N x i hj i0 hn f1 f2 g g'
    obtain ⟨n', rfl⟩ : ∃ q, n' = q + 1 := ⟨n' - 1, by omega⟩
    have tn := tnc i0
    have ez : (i + 1).toInt = i.toInt + 1 := iadd rfl (rfl : (1 : Int32).toInt = 1) (by omega) (by omega)
    have hlN : LF M N := hl.n (fun p h1 h2 => f1 p (by omega) (by omega) (by omega))
    obtain ⟨N1, x', q, a, b⟩ := r4_s hlN (r := r) (x := x) (i := i) ⟨i0, by omega⟩ n'
    obtain ⟨N2, y, q2, y1, y2, y3, y4, y5⟩ := ih n' N1 x' (i + 1) (by omega) (by omega) (by omega) (fun p h1 h2 h3 => by rw [a.1 p h1 h2 h3, f1 p h1 h2 h3]) (by rw [a.2.2, f2]) (fun f hp hk => by
      by_cases cf : f = i.toNatClampNeg
      · subst cf
        rw [b hp hk]
        exact g _ hp hk
      · rw [a.2.1 f cf]
        exact g f hp hk) (fun f hf => by rw [a.2.1 f (by omega)]; exact g' f hf)
    exact ⟨N2, y, by rw [q]; exact q2, y1, y2, y3, y4, y5⟩
theorem MV.k {N N' : Mm} (h : MV M wd N) (e : ∀ f, pf M f → knA (M.1 39 f) → N'.1 33 f = N.1 33 f) : MV M wd N' := ⟨fun f hp hk => by rw [e f hp hk]; exact h.1 f hp hk, h.2⟩
end RDM
theorem dr_i {A M' : Mm} {r x : Int32} (q : q_Device_read A r = some (M', x)) : (∀ p, (p < 53 ∨ 60 ≤ p) → M'.1 p = A.1 p) ∧ M'.1 53 0 = A.1 53 0 + 1 := by
  unfold q_Device_read at q
  have q := ix_r (ix_r (ix_r q))
  rw [lq_s] at q
  have q := ix_r q
  obtain ⟨M2, r3, p1, q⟩ := cal_o q
  obtain ⟨l1, l2⟩ := log_i p1
  have q := ix_r (ix_r (ix_r (ix_r q)))
  rw [lq_s] at q
  have q := ix_r (ix_r (ix_r q))
  rw [lq_s] at q
  have q := ix_r q
  have fin : ∀ M6 : Mm, (∀ p, p < 57 ∨ 60 ≤ p → M6.1 p = M2.1 p) → (∀ p, (p < 53 ∨ 60 ≤ p) → M6.1 p = A.1 p) ∧ M6.1 53 0 = A.1 53 0 + 1 := by
    intro M6 f
    refine ⟨fun p hp => ?_, ?_⟩
    · rw [f p (by omega), l1 p (by omega)]
    · rw [f 53 (by omega), l2]
  split at q
  · obtain ⟨rfl, -⟩ := rs_e q
    exact fin _ (fun p hp => by rw [stI_ne _ _ (by omega), stI_ne _ _ (by omega)])
  · obtain ⟨M7, r8, p7, q⟩ := cal_o q
    obtain ⟨rfl, -⟩ := rs_e q
    have kl := kl_Device_countPulses _ _ (kP.rf _) M7 r8 p7
    exact fin _ (fun p hp => by rw [kl p (by omega) (by omega), stI_ne _ _ (by omega), stI_ne _ _ (by omega)])
end
section
-- busRead(), poke(), join(), drop() through the devices' relation
theorem n1_p {N : Mm} {p : Nat} (hp : p ≠ 0) : (stI N 0 (upd (N.1 0) 0 0)).1 p = N.1 p := stI_ne _ _ hp
theorem n1_s {N : Mm} {j : Nat} (hj : j ≠ 0) : (stI N 0 (upd (N.1 0) 0 0)).1 0 j = N.1 0 j := by rw [stI_at, updN hj]
theorem RD.n1 {M N : Mm} (h : RD M N) : RD M (stI N 0 (upd (N.1 0) 0 0)) := by
  obtain ⟨hl, la, md, e47, e48, e58, jn, sp⟩ := h
  exact ⟨hl.n (fun p h1 h2 => n1_p (by omega)), la.n (fun p h1 h2 => n1_p (by omega)) (fun j hj => n1_s (by omega)), md.n (n1_p (by decide)) (n1_p (by decide)), by rw [n1_s (by decide)]; exact e47, by rw [n1_s (by decide)]; exact e48, by rw [n1_s (by decide)]; exact e58, jn.cg rfl rfl rfl (n1_s (by decide)) (n1_p (by decide)) (n1_p (by decide)), sp.cg rfl rfl rfl rfl (n1_s (by decide)) (n1_p (by decide)) (n1_p (by decide)) (n1_p (by decide))⟩
theorem RQ.n1 {M N : Mm} (h : RQ M N) : RQ M (stI N 0 (upd (N.1 0) 0 0)) := h
/-- when the class writes none of what the relation speaks of but the log, and the reference as much -/
theorem RD.to {M N M' N' : Mm} (h : RD M N) (kx : kX M M') (ky : kY N N') (e51 : M'.1 51 = M.1 51) (e52 : M'.1 52 = M.1 52) (e50 : M'.1 50 3 = M.1 50 3) (eo : M'.1 53 0 = N'.1 0 47) (x65 : ∀ p, 65 ≤ p → p ≤ 72 → M'.1 p = M.1 p) (y33 : ∀ f, pf M f → knA (M.1 39 f) → N'.1 33 f = N.1 33 f) (y36 : N'.1 36 = N.1 36) (y48 : N'.1 0 48 = N.1 0 48) (y58 : N'.1 0 58 = N.1 0 58) (y52 : N'.1 0 52 = N.1 0 52) (y59 : N'.1 0 59 = N.1 0 59) (y40 : ∀ p, 40 ≤ p → p ≤ 44 → N'.1 p = N.1 p) : RD M' N' := by
  obtain ⟨hl, la, md, e47, e48, e58, jn, sp⟩ := h
  have md' : MD M (M.1 51 2) (M.1 52) N' := ⟨md.1.k y33, fun k hk => by rw [y36]; exact md.2 k hk⟩
  refine ⟨hl.kp kx ky, la.cg kx ky, ?_, eo, by rw [e50, y48]; exact e48, by rw [y58]; exact e58, jn.cg (x65 65 (by decide) (by decide)) (x65 67 (by decide) (by decide)) (x65 68 (by decide) (by decide)) y52 (y40 40 (by decide) (by decide)) (y40 41 (by decide) (by decide)), sp.cg (x65 69 (by decide) (by decide)) (x65 70 (by decide) (by decide)) (x65 71 (by decide) (by decide)) (x65 72 (by decide) (by decide)) y59 (y40 42 (by decide) (by decide)) (y40 43 (by decide) (by decide)) (y40 44 (by decide) (by decide))⟩
  rw [e51, e52]
  exact md'.x kx
theorem brd_rel {G : Gx} {K : Int} {M N : Mm} (hI : IX G K M) (rq : RQ M N) (h : RD M N) {a1 : Int32} {M' N' : Mm} {r1 r2 : Int32} (q1 : q_ChipMap_busRead M a1 = some (M', r1)) (q2 : q_ChipMapModel_busRead N a1 = some (N', r2)) (kx : kX M M') (ky : kY N N') : RD M' N' := by
  have hlg := hI.log
  have h16 := hI.r16
  unfold q_ChipMap_busRead at q1
  unfold q_ChipMapModel_busRead at q2
  rw [lq_s] at q2
  have h1 := h.n1
  obtain ⟨N1, eN⟩ : ∃ z, z = stI N 0 (upd (N.1 0) 0 0) := ⟨_, rfl⟩
  have np : ∀ p, p ≠ 0 → N1.1 p = N.1 p := fun p hp => by rw [eN]; exact n1_p hp
  have ns : ∀ j, j ≠ 0 → N1.1 0 j = N.1 0 j := fun j hj => by rw [eN]; exact n1_s hj
  rw [← eN] at q2 h1
  have h1' := h1
  obtain ⟨hl1, la1, md1, e47, e48, e58, jn, sp⟩ := h1'
  obtain ⟨t, p1, p2, p3⟩ := ra_e hl1 la1 md1.1 h16 hI.hh a1
  rw [p1, cal_s] at q1
  by_cases ct : t = -1
  · have q2' : q_ChipMapModel_busRead_21 N1 (-1) = some (N', r2) := by
      by_cases c27 : N1.1 0 27 = 0
      · rw [if_pos c27] at q2
        exact q2
      · rw [if_neg c27, p2, cal_s, ct] at q2
        exact q2
    unfold q_ChipMapModel_busRead_21 at q2'
    rw [if_pos rfl] at q2'
    rw [if_pos ct] at q1
    obtain ⟨rfl, -⟩ := rs_e q1
    obtain ⟨rfl, -⟩ := rs_e q2'
    exact h1
  have tr : 0 ≤ t.toInt ∧ t.toInt < (M.1 24 0).toInt := by
    rcases p3 with z | z
    · exact absurd z ct
    · exact z
  have c27 : ¬ N1.1 0 27 = 0 := by
    rw [ns 27 (by decide)]
    rcases rq.2.2.2 with ⟨m1, -⟩ | ⟨-, m2⟩
    · omega
    · rw [m2]; decide
  rw [if_neg c27, p2, cal_s] at q2
  unfold q_ChipMapModel_busRead_21 at q2
  rw [if_neg ct] at q1 q2
  obtain ⟨M3, r4, d1, q1⟩ := cal_o q1
  obtain ⟨rfl, -⟩ := rs_e q1
  obtain ⟨w1, w2⟩ := dr_i d1
  have z0 : (0 : Int32).toInt = 0 := rfl
  obtain ⟨N3, y, y1, y2, y3, y4, y5, y6, -⟩ := r4_l hl1 (by rw [← e47]; exact hlg.1) (r := t) (by omega) 26 4000 N1 0 0 (by decide) (by decide) (by decide) (fun _ _ _ _ => rfl) rfl (fun _ _ _ => rfl) (fun _ _ => rfl)
  unfold q_ChipMapModel_read at q2
  rw [y1, cal_s] at q2
  obtain ⟨rfl, -⟩ := rs_e q2
  refine h.to kx ky (w1 51 (by omega)) (w1 52 (by omega)) (by rw [w1 50 (by omega)]) (by rw [w2, y4, show dz N1 = 1 from if_pos e58, e47]) (fun p h1 h2 => w1 p (by omega)) (fun f hp hk => by rw [y6 f hp hk, np 33 (by decide)]) ?_ ?_ ?_ ?_ ?_ (fun p h1 h2 => ?_)
  · rw [y2 36 (by decide) (by omega), np 36 (by decide)]
  · rw [y3 48 (by decide), ns 48 (by decide)]
  · rw [y3 58 (by decide), ns 58 (by decide)]
  · rw [y3 52 (by decide), ns 52 (by decide)]
  · rw [y3 59 (by decide), ns 59 (by decide)]
  · rw [y2 p (by omega) (by omega), np p (by omega)]
theorem sl_i {M M' : Mm} {f v x : Int32} (q : q_Device_setLoose M f v = some (M', x)) : ∀ p, p ≠ 57 → M'.1 p = M.1 p := by
  unfold q_Device_setLoose at q
  have q := ix_r q
  rw [lq_s] at q
  have q := ix_r (ix_r (ix_r (ix_r q)))
  rw [lq_s] at q
  obtain ⟨rfl, -⟩ := rs_e q
  exact fun p hp => stI_ne _ _ hp
theorem pk_rel {G : Gx} {K : Int} {M N : Mm} (hI : IX G K M) (rq : RQ M N) (h : RD M N) {a v : Int32} {M' N' : Mm} {r1 r2 : Int32} (q1 : q_ChipMap_poke M a v = some (M', r1)) (q2 : q_ChipMapModel_poke N a v = some (N', r2)) (kx : kX M M') (ky : kY N N') : RD M' N' := by
  have fx : ∀ p, p ≠ 57 → M'.1 p = M.1 p := by
    unfold q_ChipMap_poke q_Layout_has q_Layout_fits at q1
    have p52 : ∀ {A : Mm}, q_ChipMap_poke_52 A a v = some (M', r1) → ∀ p, p ≠ 57 → M'.1 p = A.1 p := by
      intro A z
      unfold q_ChipMap_poke_52 at z
      obtain ⟨M1, s, z1, z2⟩ := cal_o z
      obtain ⟨rfl, -⟩ := rs_e z2
      exact sl_i z1
    obtain ⟨M1, s1, z1, q1⟩ := cal_o q1
    have e1 : M1 = M := by
      by_cases c0 : a < 0
      · rw [if_pos c0] at z1
        exact (rs_e z1).1.symm
      rw [if_neg c0] at z1
      by_cases c26 : 26 ≤ a
      · rw [if_pos c26] at z1
        exact (rs_e z1).1.symm
      rw [if_neg c26] at z1
      have z1 := ix_r z1
      split at z1
      · exact (rs_e z1).1.symm
      · exact (rs_e z1).1.symm
    rw [e1] at q1
    by_cases cs : s1 = 0
    · rw [if_pos cs] at q1
      obtain ⟨rfl, -⟩ := rs_e q1
      exact fun _ _ => rfl
    rw [if_neg cs] at q1
    obtain ⟨M3, s3, z3, q1⟩ := cal_o q1
    have e3 : M3 = M := by
      have z3 := ix_r z3
      split at z3
      · exact (rs_e z3).1.symm
      · exact (rs_e z3).1.symm
    rw [e3] at q1
    by_cases cs3 : s3 = 0
    · rw [if_pos cs3] at q1
      obtain ⟨rfl, -⟩ := rs_e q1
      exact fun _ _ => rfl
    rw [if_neg cs3] at q1
    have q1 := ix_r q1
    rw [lq_s] at q1
    split at q1
    · exact p52 q1
    split at q1
    · exact p52 q1
    split at q1
    · exact p52 q1
    · obtain ⟨rfl, -⟩ := rs_e q1
      exact fun _ _ => rfl
  unfold q_ChipMapModel_poke at q2
  rw [lq_s] at q2
  have h1 := h.n1
  obtain ⟨N1, eN⟩ : ∃ z, z = stI N 0 (upd (N.1 0) 0 0) := ⟨_, rfl⟩
  have np : ∀ p, p ≠ 0 → N1.1 p = N.1 p := fun p hp => by rw [eN]; exact n1_p hp
  have ns : ∀ j, j ≠ 0 → N1.1 0 j = N.1 0 j := fun j hj => by rw [eN]; exact n1_s hj
  rw [← eN] at q2 h1
  have rq1 : RQ M N1 := by rw [eN]; exact rq.n1
  have fin : ∀ N3 : Mm, N3 = N' → (∀ p, p ≠ 33 → N3.1 p = N1.1 p) → (∀ f, pf M f → knA (M.1 39 f) → N3.1 33 f = N1.1 33 f) → RD M' N' := by
    intro N3 e f1 f2
    subst e
    have s0 : N3.1 0 = N1.1 0 := f1 0 (by decide)
    refine h.to kx ky (fx 51 (by decide)) (fx 52 (by decide)) (by rw [fx 50 (by decide)]) ?_ (fun p h1 h2 => fx p (by omega)) (fun f hp hk => by rw [f2 f hp hk, np 33 (by decide)]) ?_ ?_ ?_ ?_ ?_ (fun p h1 h2 => ?_)
    · rw [fx 53 (by decide), s0]
      exact h1.2.2.2.1
    · rw [f1 36 (by decide), np 36 (by decide)]
    · rw [s0, ns 48 (by decide)]
    · rw [s0, ns 58 (by decide)]
    · rw [s0, ns 52 (by decide)]
    · rw [s0, ns 59 (by decide)]
    · rw [f1 p (by omega), np p (by omega)]
  rcases has_eq hI rq1 h1.1 a with ⟨-, y⟩ | ⟨-, y, a0, a1, ⟨ac, hc⟩, -, -⟩
  · rw [y, cal_s, if_pos rfl] at q2
    exact fin N1 (rs_e q2).1 (fun _ _ => rfl) (fun _ _ _ => rfl)
  rw [y, cal_s, if_neg (by decide : ¬ (1 : Int32) = 0)] at q2
  have q2 := ix_r q2
  have p46 : ¬ knA (M.1 39 a.toNatClampNeg) → q_ChipMapModel_poke_46 N1 a v = some (N', r2) → RD M' N' := by
    intro hk z
    unfold q_ChipMapModel_poke_46 at z
    obtain ⟨N2, s, z1, z⟩ := cal_o z
    have e2 : N2 = N1 := by
      unfold q_ChipMapModel_isFit at z1
      by_cases c : v < 0
      · rw [if_pos c] at z1
        exact (rs_e z1).1.symm
      rw [if_neg c] at z1
      have z1 := ix_r z1
      split at z1
      · exact (rs_e z1).1.symm
      · exact (rs_e z1).1.symm
    rw [e2] at z
    split at z
    · exact fin N1 (rs_e z).1 (fun _ _ => rfl) (fun _ _ _ => rfl)
    · have z := ix_r z
      rw [lq_s] at z
      refine fin _ (rs_e z).1 (fun p hp => stI_ne _ _ hp) (fun f hp hkf => ?_)
      rw [stI_at, updN (fun e => hk (by rw [← e]; exact hkf))]
  obtain ⟨i0, i1, i2, i3⟩ := ac_0 ac hc
  have nk : ∀ c : Int32, N1.1 24 a.toNatClampNeg = c → c ≠ 119 → c ≠ 111 → ¬ knA (M.1 39 a.toNatClampNeg) := by
    intro c hc1 n1 n2 hk
    rcases hk with z | z
    · exact n1 (hc1.symm.trans (i0.mp z))
    · exact n2 (hc1.symm.trans (i2.mp z))
  by_cases c1 : N1.1 24 a.toNatClampNeg = 114
  · rw [if_pos c1] at q2
    exact p46 (nk 114 c1 (by decide) (by decide)) q2
  rw [if_neg c1] at q2
  have q2 := ix_r q2
  by_cases c2 : N1.1 24 a.toNatClampNeg = 99
  · rw [if_pos c2] at q2
    exact p46 (nk 99 c2 (by decide) (by decide)) q2
  rw [if_neg c2] at q2
  have q2 := ix_r q2
  by_cases c3 : N1.1 24 a.toNatClampNeg = 116
  · rw [if_pos c3] at q2
    exact p46 (nk 116 c3 (by decide) (by decide)) q2
  rw [if_neg c3] at q2
  exact fin N1 (rs_e q2).1 (fun _ _ => rfl) (fun _ _ _ => rfl)
end
section
-- join(), drop(), step(), erase() through the devices' relation
theorem RD.j {M N M' N' : Mm} (h : RD M N) (kx : kX M M') (ky : kY N N') (x : ∀ p, 50 ≤ p → p < 54 → M'.1 p = M.1 p) (y33 : N'.1 33 = N.1 33) (y36 : N'.1 36 = N.1 36) (y47 : N'.1 0 47 = N.1 0 47) (y48 : N'.1 0 48 = N.1 0 48) (y58 : N'.1 0 58 = N.1 0 58) (jn : jnR M' N') (sp : spR M' N') : RD M' N' := by
  obtain ⟨hl, la, md, e47, e48, e58, -, -⟩ := h
  refine ⟨hl.kp kx ky, la.cg kx ky, ?_, ?_, ?_, by rw [y58]; exact e58, jn, sp⟩
  · rw [x 51 (by decide) (by decide), x 52 (by decide) (by decide)]
    exact (md.n y33 y36).x kx
  · rw [x 53 (by decide) (by decide), y47]
    exact e47
  · rw [x 50 (by decide) (by decide), y48]
    exact e48
theorem join_rel {G : Gx} {K : Int} {M N : Mm} (hI : IX G K M) (rq : RQ M N) (h : RD M N) {a1 a2 : Int32} {M' N' : Mm} {r1 r2 : Int32} (q1 : q_ChipMap_join M a1 a2 = some (M', r1)) (q2 : q_ChipMapModel_join N a1 a2 = some (N', r2)) (kx : kX M M') (ky : kY N N') : r1 = r2 ∧ RD M' N' := by
  have jc := hI.jc
  unfold q_ChipMap_join at q1
  unfold q_ChipMapModel_join at q2
  rw [lq_s] at q2
  have h1 := h.n1
  obtain ⟨N1, eN⟩ : ∃ z, z = stI N 0 (upd (N.1 0) 0 0) := ⟨_, rfl⟩
  have np : ∀ p, p ≠ 0 → N1.1 p = N.1 p := fun p hp => by rw [eN]; exact n1_p hp
  have ns : ∀ j, j ≠ 0 → N1.1 0 j = N.1 0 j := fun j hj => by rw [eN]; exact n1_s hj
  rw [← eN] at q2 h1
  have rq1 : RQ M N1 := by rw [eN]; exact rq.n1
  have jn1 := h1.2.2.2.2.2.2.1
  have sp1 := h1.2.2.2.2.2.2.2
  obtain ⟨t, x, y, ht⟩ := put_eq hI rq1 h1.1 a1 a2
  rw [x, cal_s] at q1
  rw [y, cal_s] at q2
  by_cases ct : t = 0
  · rw [if_pos ct] at q1 q2
    obtain ⟨rfl, rfl⟩ := rs_e q1
    obtain ⟨rfl, rfl⟩ := rs_e q2
    exact ⟨rfl, h1⟩
  rw [if_neg ct] at q1 q2
  unfold q_Steps_isFull at q1
  have z8 : (8 : Int32).toInt = 8 := rfl
  by_cases c8 : M.1 65 0 < 8
  · have g8 := Int32.lt_iff_toInt_lt.mp c8
    have c8' : ¬ N1.1 0 52 = 8 := fun z => by
      rw [← jn1.1] at z
      rw [z] at g8
      omega
    have t65 := tnc jc.1
    rw [if_pos c8, cal_s, if_pos rfl] at q1
    rw [if_neg c8'] at q2
    obtain ⟨M5, s, p, q1⟩ := cal_o q1
    unfold q_Steps_append at p
    have p := ix_r p
    rw [lq_s] at p
    have p := ix_r p
    rw [lq_s] at p
    have p := ix_r p
    rw [lq_s, lq_s] at p
    obtain ⟨e5, -⟩ := rs_e p
    have q2 := ix_r q2
    rw [lq_s] at q2
    have q2 := ix_r q2
    rw [lq_s, lq_s] at q2
    obtain ⟨e6, e6r⟩ := rs_e q2
    obtain ⟨rfl, rfl⟩ := rs_e q1
    have x65 : M5.1 65 = upd (M.1 65) 0 (M.1 65 0 + 1) := by rw [← e5]; rfl
    have x67 : M5.1 67 = upd (M.1 67) (M.1 65 0).toNatClampNeg a1 := by rw [← e5]; rfl
    have x68 : M5.1 68 = upd (M.1 68) (M.1 65 0).toNatClampNeg a2 := by rw [← e5]; rfl
    have xo : ∀ p, p < 65 ∨ 69 ≤ p → M5.1 p = M.1 p := fun p hp => by rw [← e5, stI_ne _ _ (by omega), stI_ne _ _ (by omega), stI_ne _ _ (by omega), stI_ne _ _ (by omega)]
    have y52 : N'.1 0 52 = N1.1 0 52 + 1 := by rw [← e6]; rfl
    have y40 : N'.1 40 = upd (N1.1 40) (N1.1 0 52).toNatClampNeg a1 := by rw [← e6]; rfl
    have y41 : N'.1 41 = upd (N1.1 41) (N1.1 0 52).toNatClampNeg a2 := by rw [← e6]; rfl
    have yo : ∀ p, p ≠ 0 → p ≠ 40 → p ≠ 41 → N'.1 p = N1.1 p := fun p h0 h1 h2 => by rw [← e6, stI_ne _ _ h0, stI_ne _ _ h2, stI_ne _ _ h1]
    have ys : ∀ j, j ≠ 52 → N'.1 0 j = N1.1 0 j := fun j hj => by rw [← e6, stI_at, updN hj, stI_ne _ _ (by decide), stI_ne _ _ (by decide)]
    have ec : (M.1 65 0 + 1).toInt = (M.1 65 0).toInt + 1 := iadd rfl (rfl : (1 : Int32).toInt = 1) (by omega) (by omega)
    have jn' : jnR M5 N' := by
      unfold jnR
      rw [x65, x67, x68, y52, y40, y41, updS, ← jn1.1]
      refine ⟨rfl, fun j hj => ?_⟩
      by_cases cj : j = (M.1 65 0).toNatClampNeg
      · rw [cj, updS, updS, updS, updS]
        exact ⟨rfl, rfl⟩
      · rw [updN cj, updN cj, updN cj, updN cj]
        exact jn1.2 j (by omega)
    have sp' : spR M5 N' := sp1.cg (xo 69 (by omega)) (xo 70 (by omega)) (xo 71 (by omega)) (xo 72 (by omega)) (ys 59 (by decide)) (yo 42 (by decide) (by decide) (by decide)) (yo 43 (by decide) (by decide) (by decide)) (yo 44 (by decide) (by decide) (by decide))
    refine ⟨?_, h.j kx ky (fun p h1 h2 => xo p (by omega)) ?_ ?_ ?_ ?_ ?_ jn' sp'⟩
    · rw [← e6r, e6]
      exact jn'.1
    · rw [yo 33 (by decide) (by decide) (by decide), np 33 (by decide)]
    · rw [yo 36 (by decide) (by decide) (by decide), np 36 (by decide)]
    · rw [ys 47 (by decide), ns 47 (by decide)]
    · rw [ys 48 (by decide), ns 48 (by decide)]
    · rw [ys 58 (by decide), ns 58 (by decide)]
  · have c8' : N1.1 0 52 = 8 := by
      rw [← jn1.1]
      apply Int32.toInt_inj.mp
      have g : ¬ (M.1 65 0).toInt < (8 : Int32).toInt := fun z => c8 (Int32.lt_iff_toInt_lt.mpr z)
      omega
    rw [if_neg c8, cal_s, if_neg (by decide : ¬ (1 : Int32) = 0)] at q1
    rw [if_pos c8'] at q2
    obtain ⟨rfl, rfl⟩ := rs_e q1
    obtain ⟨rfl, rfl⟩ := rs_e q2
    exact ⟨rfl, h1⟩
theorem drop_rel {M N : Mm} (h : RD M N) {M' N' : Mm} {r1 r2 : Int32} (q1 : q_ChipMap_drop M = some (M', r1)) (q2 : q_ChipMapModel_drop N = some (N', r2)) (kx : kX M M') (ky : kY N N') : r1 = r2 ∧ RD M' N' := by
  unfold q_ChipMap_drop q_Steps_empty at q1
  rw [lq_s, lq_s, cal_s] at q1
  obtain ⟨rfl, rfl⟩ := rs_e q1
  unfold q_ChipMapModel_drop at q2
  rw [lq_s, lq_s, lq_s] at q2
  obtain ⟨rfl, rfl⟩ := rs_e q2
  have jn := h.2.2.2.2.2.2.1
  have sp := h.2.2.2.2.2.2.2
  refine ⟨jn.1, h.j kx ky (fun p h1 h2 => stI_ne _ _ (by omega)) rfl rfl rfl rfl rfl ⟨rfl, fun j hj => ?_⟩ (sp.cg rfl rfl rfl rfl rfl rfl rfl rfl)⟩
  have z : (j : Int) < (0 : Int32).toInt := hj
  have z0 : (0 : Int32).toInt = 0 := rfl
  omega
end
section
-- reset(): both devices as the map has them at first
theorem mr_l : ∀ (j n' : Nat) (A M : Mm) (i : Int32), 16 - i.toInt = (j : Int) → 0 ≤ i.toInt → (∀ p, p ≠ 52 → M.1 p = A.1 p) → (∀ r, r < i.toNatClampNeg → M.1 52 r = A.1 28 r &&& A.1 29 r) → ∀ (M' : Mm) (x : Int32), q_Mind_restart_2 n' M i = some (M', x) → (∀ p, p ≠ 51 → p ≠ 52 → M'.1 p = A.1 p) ∧ M'.1 51 2 = 0 ∧ ∀ r, r < 16 → M'.1 52 r = A.1 28 r &&& A.1 29 r := by
  have e16 : (16 : Int32).toInt = 16 := rfl
  intro j
  induction j with
  | zero =>
    intro n' A M i hj i0 f g M' x q
    obtain ⟨n', rfl⟩ : ∃ m, n' = m + 1 := by
      cases n' with
      | zero => rw [q_Mind_restart_2] at q; cases q
      | succ m => exact ⟨m, rfl⟩
    have tn := tnc i0
    have c : (16 : Int32) ≤ i := Int32.le_iff_toInt_le.mpr (by omega)
    rw [q_Mind_restart_2, if_pos c, lq_s] at q
    obtain ⟨rfl, -⟩ := rs_e q
    refine ⟨fun p h1 h2 => ?_, ?_, fun r hr => ?_⟩
    · rw [stI_ne _ _ h1]; exact f p h2
    · rw [stI_at, updS]
    · rw [stI_ne _ _ (by decide)]; exact g r (by omega)
  | succ j ih =>
    intro n' A M i hj i0 f g M' x q
    obtain ⟨n', rfl⟩ : ∃ m, n' = m + 1 := by
      cases n' with
      | zero => rw [q_Mind_restart_2] at q; cases q
      | succ m => exact ⟨m, rfl⟩
    have tn := tnc i0
    have ez : (i + 1).toInt = i.toInt + 1 := iadd rfl (rfl : (1 : Int32).toInt = 1) (by omega) (by omega)
    have es : (i + 1).toNatClampNeg = i.toNatClampNeg + 1 := tnS (by omega)
    have c : ¬ (16 : Int32) ≤ i := fun z => by have := Int32.le_iff_toInt_le.mp z; omega
    rw [q_Mind_restart_2, if_neg c] at q
    have q := ix_r (ix_r (ix_r q))
    rw [lq_s] at q
    refine ih n' A _ (i + 1) (by omega) (by omega) (fun p hp => by rw [stI_ne _ _ hp]; exact f p hp) (fun r hr => ?_) M' x q
    rw [stI_at, f 28 (by decide), f 29 (by decide)]
    by_cases cr : r = i.toNatClampNeg
    · rw [cr, updS]
    · rw [updN cr]
      exact g r (by omega)
theorem dr9_l : ∀ (j n' : Nat) (A M : Mm) (i : Int32), 16 - i.toInt = (j : Int) → 0 ≤ i.toInt → (∀ p, p ≠ 57 → M.1 p = A.1 p) → ∀ (M' : Mm) (x : Int32), q_Device_restart_9 n' M i = some (M', x) → (∀ p, p ≠ 50 → p ≠ 53 → p ≠ 57 → p ≠ 58 → p ≠ 59 → M'.1 p = A.1 p) ∧ M'.1 50 3 = 0 ∧ M'.1 53 0 = 0 := by
  have e16 : (16 : Int32).toInt = 16 := rfl
  intro j
  induction j with
  | zero =>
    intro n' A M i hj i0 f M' x q
    obtain ⟨n', rfl⟩ : ∃ m, n' = m + 1 := by
      cases n' with
      | zero => rw [q_Device_restart_9] at q; cases q
      | succ m => exact ⟨m, rfl⟩
    have c : (16 : Int32) ≤ i := Int32.le_iff_toInt_le.mpr (by omega)
    rw [q_Device_restart_9, if_pos c, lq_s, lq_s, lq_s, lq_s] at q
    obtain ⟨rfl, -⟩ := rs_e q
    refine ⟨fun p h1 h2 h3 h4 h5 => ?_, ?_, ?_⟩
    · rw [stI_ne _ _ h2, stI_ne _ _ h1, stI_ne _ _ h5, stI_ne _ _ h4]; exact f p h3
    · rw [stI_ne _ _ (by decide), stI_at, updS]
    · rw [stI_at, updS]
  | succ j ih =>
    intro n' A M i hj i0 f M' x q
    obtain ⟨n', rfl⟩ : ∃ m, n' = m + 1 := by
      cases n' with
      | zero => rw [q_Device_restart_9] at q; cases q
      | succ m => exact ⟨m, rfl⟩
    have ez : (i + 1).toInt = i.toInt + 1 := iadd rfl (rfl : (1 : Int32).toInt = 1) (by omega) (by omega)
    have c : ¬ (16 : Int32) ≤ i := fun z => by have := Int32.le_iff_toInt_le.mp z; omega
    rw [q_Device_restart_9, if_neg c] at q
    have q := ix_r (ix_r (ix_r q))
    rw [lq_s] at q
    exact ih n' A _ (i + 1) (by omega) (by omega) (fun p hp => by rw [stI_ne _ _ hp]; exact f p hp) M' x q
theorem sa_i {A M' : Mm} {x : Int32} (q : q_ChipMap_startAgain A = some (M', x)) : (∀ p, p < 50 ∨ 60 ≤ p ∧ p ≠ 65 → M'.1 p = A.1 p) ∧ (∀ j, j ≠ 0 → M'.1 65 j = A.1 65 j) ∧ M'.1 65 0 = 0 ∧ M'.1 50 3 = 0 ∧ M'.1 53 0 = 0 ∧ M'.1 51 2 = 0 ∧ ∀ r, r < 16 → M'.1 52 r = A.1 28 r &&& A.1 29 r := by
  have z0 : (0 : Int32).toInt = 0 := rfl
  have e0 : (0 : Int32).toNatClampNeg = 0 := rfl
  unfold q_ChipMap_startAgain at q
  obtain ⟨M1, r1, p1, q⟩ := cal_o q
  rw [lq_s] at q
  obtain ⟨rfl, -⟩ := rs_e q
  unfold q_Device_restart at p1
  obtain ⟨M2, r2, p2, p1⟩ := cal_o p1
  unfold q_Mind_restart at p2
  obtain ⟨a1, a2, a3⟩ := mr_l 16 4000 A A 0 (by decide) (by decide) (fun _ _ => rfl) (fun r hr => nlz (by rw [e0] at hr; exact hr)) M2 r2 p2
  obtain ⟨b1, b2', b3⟩ := dr9_l 16 4000 M2 M2 0 (by decide) (by decide) (fun _ _ => rfl) M1 r1 p1
  refine ⟨fun p hp => ?_, fun j hj => ?_, ?_, ?_, ?_, ?_, fun r hr => ?_⟩
  · rw [stI_ne _ _ (by omega), b1 p (by omega) (by omega) (by omega) (by omega) (by omega), a1 p (by omega) (by omega)]
  · rw [stI_at, updN hj, b1 65 (by decide) (by decide) (by decide) (by decide) (by decide), a1 65 (by decide) (by decide)]
  · rw [stI_at, updS]
  · rw [stI_ne _ _ (by decide)]; exact b2'
  · rw [stI_ne _ _ (by decide)]; exact b3
  · rw [stI_ne _ _ (by decide), b1 51 (by decide) (by decide) (by decide) (by decide) (by decide)]; exact a2
  · rw [stI_ne _ _ (by decide), b1 52 (by decide) (by decide) (by decide) (by decide) (by decide)]; exact a3 r hr
theorem rd55_l : ∀ (j n' : Nat) (A N : Mm) (i : Int32), 12 - i.toInt = (j : Int) → 0 ≤ i.toInt → (∀ p, p ≠ 36 → N.1 p = A.1 p) → (∀ k, k < i.toNatClampNeg → N.1 36 k = 0) → ∀ (N' : Mm) (x : Int32), q_ChipMapModel_resetDevice_55 n' N i = some (N', x) → (∀ p, p ≠ 36 → N'.1 p = A.1 p) ∧ ∀ k, k < 12 → N'.1 36 k = 0 := by
  have e12 : (12 : Int32).toInt = 12 := rfl
  intro j
  induction j with
  | zero =>
    intro n' A N i hj i0 f g N' x q
    obtain ⟨n', rfl⟩ : ∃ m, n' = m + 1 := by
      cases n' with
      | zero => rw [q_ChipMapModel_resetDevice_55] at q; cases q
      | succ m => exact ⟨m, rfl⟩
    have tn := tnc i0
    have c : (12 : Int32) ≤ i := Int32.le_iff_toInt_le.mpr (by omega)
    rw [q_ChipMapModel_resetDevice_55, if_pos c] at q
    obtain ⟨rfl, -⟩ := rs_e q
    exact ⟨f, fun k hk => g k (by omega)⟩
  | succ j ih =>
    intro n' A N i hj i0 f g N' x q
    obtain ⟨n', rfl⟩ : ∃ m, n' = m + 1 := by
      cases n' with
      | zero => rw [q_ChipMapModel_resetDevice_55] at q; cases q
      | succ m => exact ⟨m, rfl⟩
    have tn := tnc i0
    have ez : (i + 1).toInt = i.toInt + 1 := iadd rfl (rfl : (1 : Int32).toInt = 1) (by omega) (by omega)
    have es : (i + 1).toNatClampNeg = i.toNatClampNeg + 1 := tnS (by omega)
    have c : ¬ (12 : Int32) ≤ i := fun z => by have := Int32.le_iff_toInt_le.mp z; omega
    rw [q_ChipMapModel_resetDevice_55, if_neg c] at q
    have q := ix_r q
    rw [lq_s] at q
    refine ih n' A _ (i + 1) (by omega) (by omega) (fun p hp => by rw [stI_ne _ _ hp]; exact f p hp) (fun k hk => ?_) N' x q
    rw [stI_at]
    by_cases ck : k = i.toNatClampNeg
    · rw [ck, updS]; rfl
    · rw [updN ck]
      exact g k (by omega)
theorem rd2_l : ∀ (j n' : Nat) (A N : Mm) (i : Int32), 26 - i.toInt = (j : Int) → 0 ≤ i.toInt → (∀ p, p ≠ 33 → p ≠ 34 → p ≠ 35 → N.1 p = A.1 p) → (∀ f, f < i.toNatClampNeg → A.1 23 f ≠ 0 → N.1 33 f = A.1 28 f) → ∀ (N' : Mm) (x : Int32), q_ChipMapModel_resetDevice_2 n' N i = some (N', x) → (∀ p, p < 33 ∨ 37 ≤ p → N'.1 p = A.1 p) ∧ (∀ f, f < 26 → A.1 23 f ≠ 0 → N'.1 33 f = A.1 28 f) ∧ ∀ k, k < 12 → N'.1 36 k = 0 := by
  have e26 : (26 : Int32).toInt = 26 := rfl
  have e0 : (0 : Int32).toNatClampNeg = 0 := rfl
  intro j
  induction j with
  | zero =>
    intro n' A N i hj i0 f g N' x q
    obtain ⟨n', rfl⟩ : ∃ m, n' = m + 1 := by
      cases n' with
      | zero => rw [q_ChipMapModel_resetDevice_2] at q; cases q
      | succ m => exact ⟨m, rfl⟩
    have tn := tnc i0
    have c : (26 : Int32) ≤ i := Int32.le_iff_toInt_le.mpr (by omega)
    rw [q_ChipMapModel_resetDevice_2, if_pos c] at q
    obtain ⟨a1, a2⟩ := rd55_l 12 4000 N N 0 (by decide) (by decide) (fun _ _ => rfl) (fun k hk => nlz (by rw [e0] at hk; exact hk)) N' x q
    refine ⟨fun p hp => ?_, fun h hh hz => ?_, a2⟩
    · rw [a1 p (by omega), f p (by omega) (by omega) (by omega)]
    · rw [a1 33 (by decide)]
      exact g h (by omega) hz
  | succ j ih =>
    intro n' A N i hj i0 f g N' x q
    obtain ⟨n', rfl⟩ : ∃ m, n' = m + 1 := by
      cases n' with
      | zero => rw [q_ChipMapModel_resetDevice_2] at q; cases q
      | succ m => exact ⟨m, rfl⟩
    have tn := tnc i0
    have ez : (i + 1).toInt = i.toInt + 1 := iadd rfl (rfl : (1 : Int32).toInt = 1) (by omega) (by omega)
    have es : (i + 1).toNatClampNeg = i.toNatClampNeg + 1 := tnS (by omega)
    have c : ¬ (26 : Int32) ≤ i := fun z => by have := Int32.le_iff_toInt_le.mp z; omega
    rw [q_ChipMapModel_resetDevice_2, if_neg c] at q
    have q := ix_r q
    have go : ∀ v : Int32, (A.1 23 i.toNatClampNeg ≠ 0 → v = A.1 28 i.toNatClampNeg) → q_ChipMapModel_resetDevice_32 (q_ChipMapModel_resetDevice_2 n') N i v i = some (N', x) → (∀ p, p < 33 ∨ 37 ≤ p → N'.1 p = A.1 p) ∧ (∀ f, f < 26 → A.1 23 f ≠ 0 → N'.1 33 f = A.1 28 f) ∧ ∀ k, k < 12 → N'.1 36 k = 0 := by
      intro v hv z
      unfold q_ChipMapModel_resetDevice_32 at z
      have z := ix_r z
      rw [lq_s] at z
      have z := ix_r z
      rw [lq_s] at z
      have z := ix_r z
      rw [lq_s] at z
      refine ih n' A _ (i + 1) (by omega) (by omega) (fun p h1 h2 h3 => by rw [stI_ne _ _ h3, stI_ne _ _ h2, stI_ne _ _ h1]; exact f p h1 h2 h3) (fun h hh hz => ?_) N' x z
      rw [stI_ne _ _ (by decide), stI_ne _ _ (by decide), stI_at]
      by_cases ch : h = i.toNatClampNeg
      · rw [ch] at hz ⊢
        rw [updS]
        exact hv hz
      · rw [updN ch]
        exact g h (by omega) hz
    by_cases c23 : N.1 23 i.toNatClampNeg = 0
    · rw [if_pos c23] at q
      rw [f 23 (by decide) (by decide) (by decide)] at c23
      exact go 0 (fun z => absurd c23 z) q
    · rw [if_neg c23] at q
      have q := ix_r q
      exact go _ (fun _ => by rw [f 28 (by decide) (by decide) (by decide)]) q
theorem ra_i {A N' : Mm} {x : Int32} (q : q_ChipMapModel_resetAll A = some (N', x)) : (∀ p, p ≠ 0 → (p < 33 ∨ 37 ≤ p) → N'.1 p = A.1 p) ∧ (∀ j, j ≠ 47 → j ≠ 48 → j ≠ 52 → N'.1 0 j = A.1 0 j) ∧ N'.1 0 47 = 0 ∧ N'.1 0 48 = 0 ∧ N'.1 0 52 = 0 ∧ (∀ f, f < 26 → A.1 23 f ≠ 0 → N'.1 33 f = A.1 28 f) ∧ ∀ k, k < 12 → N'.1 36 k = 0 := by
  have e0 : (0 : Int32).toNatClampNeg = 0 := rfl
  unfold q_ChipMapModel_resetAll at q
  obtain ⟨N1, r1, p1, q⟩ := cal_o q
  rw [lq_s, lq_s, lq_s] at q
  obtain ⟨rfl, -⟩ := rs_e q
  unfold q_ChipMapModel_resetDevice at p1
  obtain ⟨a1, a2, a3⟩ := rd2_l 26 4000 A A 0 (by decide) (by decide) (fun _ _ _ _ => rfl) (fun f hf => nlz (by rw [e0] at hf; exact hf)) N1 r1 p1
  refine ⟨fun p h0 hp => ?_, fun j h1 h2 h3 => ?_, ?_, ?_, ?_, fun f hf hz => ?_, fun k hk => ?_⟩
  · rw [stI_ne _ _ h0, stI_ne _ _ h0, stI_ne _ _ h0]; exact a1 p hp
  · rw [stI_at, updN h3, stI_at, updN h2, stI_at, updN h1, a1 0 (by omega)]
  · rw [stI_at, updN (by decide), stI_at, updN (by decide), stI_at, updS]
  · rw [stI_at, updN (by decide), stI_at, updS]
  · rw [stI_at, updS]
  · rw [stI_ne _ _ (by decide), stI_ne _ _ (by decide), stI_ne _ _ (by decide)]; exact a2 f hf hz
  · rw [stI_ne _ _ (by decide), stI_ne _ _ (by decide), stI_ne _ _ (by decide)]; exact a3 k hk
/-- both devices started again stand alike -/
theorem start_md {M N M' N' : Mm} {x y : Int32} (hl : LF M N) (la : LA M N) (h12 : (M.1 43 0).toInt ≤ 12) (q1 : q_ChipMap_startAgain M = some (M', x)) (q2 : q_ChipMapModel_resetAll N = some (N', y)) (kx : kX M M') : MD M' (M'.1 51 2) (M'.1 52) N' := by
  obtain ⟨a1, -, -, -, -, a6, a7⟩ := sa_i q1
  obtain ⟨-, -, -, -, -, b6, b7⟩ := ra_i q2
  have z : MD M (M'.1 51 2) (M'.1 52) N' := by
    refine ⟨⟨fun f hp hk => ?_, fun r hr b hb => ?_⟩, fun k hk => ?_⟩
    · obtain ⟨l1, l2, l3, l4, l5⟩ := la.1 f hp
      obtain ⟨g1, -, g3, -, -, -, -⟩ := lf_p hl hp
      have t := tnc g3
      rw [b6 f hp.1 (by rw [g1]; decide), a7 _ (by omega)]
      refine ⟨l3, fun b hb => ?_⟩
      rw [tb_and, l4 b hb]
      have k29 : tb (M.1 29 (M.1 38 f).toNatClampNeg) b = true := (la.2.2.1 _ b).mpr ⟨f, hp, rfl, hk, hb⟩
      rw [k29, Bool.and_true]
    · rw [a7 r hr, tb_and] at hb
      cases hx : tb (M.1 29 r) b with
      | true => rfl
      | false => rw [hx, Bool.and_false] at hb; cases hb
    · rw [b7 k (by omega), a6, tb_0]
      rfl
  exact z.x kx
end
section
-- reset() through the devices' relation
theorem reset_rel {G : Gx} {K : Int} {M N : Mm} (hI : IX G K M) (rq : RQ M N) (h : RD M N) {M' N' : Mm} {r1 r2 : Int32} (q1 : q_ChipMap_reset M = some (M', r1)) (q2 : q_ChipMapModel_reset N = some (N', r2)) (kx : kX M M') (ky : kY N N') : RD M' N' := by
  have h1 := h.n1
  unfold q_ChipMap_reset q_ChipMap_hasMap at q1
  unfold q_ChipMapModel_reset at q2
  rw [lq_s] at q2
  have z0 : (0 : Int32).toInt = 0 := rfl
  have e27 : (stI N 0 (upd (N.1 0) 0 0)).1 0 27 = N.1 0 27 := rfl
  rw [e27] at q2
  rcases rq.2.2.2 with ⟨g1, g2⟩ | ⟨g1, g2⟩
  · have c : M.1 24 0 ≤ 0 := Int32.le_iff_toInt_le.mpr (by omega)
    rw [if_pos c, cal_s, if_pos rfl] at q1
    rw [if_pos g2] at q2
    obtain ⟨rfl, -⟩ := rs_e q1
    obtain ⟨rfl, -⟩ := rs_e q2
    exact h1
  · have c : ¬ M.1 24 0 ≤ 0 := fun c => by
      have := Int32.le_iff_toInt_le.mp c
      omega
    rw [if_neg c, cal_s, if_neg (by decide : ¬ (1 : Int32) = 0)] at q1
    rw [if_neg (by rw [g2]; decide)] at q2
    obtain ⟨M1, s1, p1, q1⟩ := cal_o q1
    obtain ⟨N2, s2, p2, q2⟩ := cal_o q2
    obtain ⟨rfl, -⟩ := rs_e q1
    obtain ⟨rfl, -⟩ := rs_e q2
    have md := start_md h1.1 h1.2.1 hI.rc.2 p1 p2 kx
    obtain ⟨a1, a2, a3, a4, a5, a6, a7⟩ := sa_i p1
    obtain ⟨b1, b2', b3, b4, b5, b6, b7⟩ := ra_i p2
    obtain ⟨hl, la, -, -, -, e58, jn, sp⟩ := h
    refine ⟨hl.kp kx ky, la.cg kx ky, md, by rw [a5, b3], by rw [a4, b4], ?_, ⟨by rw [a3, b5], fun j hj => ?_⟩, ?_⟩
    · rw [b2' 58 (by decide) (by decide) (by decide), n1_s (by decide)]
      exact e58
    · rw [a3] at hj
      omega
    · refine sp.cg (a1 69 (by omega)) (a1 70 (by omega)) (a1 71 (by omega)) (a1 72 (by omega)) ?_ ?_ ?_ ?_
      · rw [b2' 59 (by decide) (by decide) (by decide), n1_s (by decide)]
      · rw [b1 42 (by decide) (by omega), n1_p (by decide)]
      · rw [b1 43 (by decide) (by omega), n1_p (by decide)]
      · rw [b1 44 (by decide) (by omega), n1_p (by decide)]
end
section
-- step() and erase() through the devices' relation
theorem step_rd {G : Gx} {K : Int} {M N : Mm} (hI : IX G K M) (rq : RQ M N) (h : RD M N) {a1 a2 a3 : Int32} {M' N' : Mm} {r1 r2 : Int32} (q1 : q_ChipMap_step M a1 a2 a3 = some (M', r1)) (q2 : q_ChipMapModel_step N a1 a2 a3 = some (N', r2)) (kx : kX M M') (ky : kY N N') : RD M' N' := by
  unfold q_ChipMap_step q_Steps_isFull_1 q_ChipMap_hasMap at q1
  unfold q_ChipMapModel_step at q2
  rw [lq_s] at q2
  have h1 := h.n1
  obtain ⟨N1, eN⟩ : ∃ z, z = stI N 0 (upd (N.1 0) 0 0) := ⟨_, rfl⟩
  have np : ∀ p, p ≠ 0 → N1.1 p = N.1 p := fun p hp => by rw [eN]; exact n1_p hp
  have ns : ∀ j, j ≠ 0 → N1.1 0 j = N.1 0 j := fun j hj => by rw [eN]; exact n1_s hj
  rw [← eN] at q2 h1
  have rq1 : RQ M N1 := by rw [eN]; exact rq.n1
  have hl := h1.1
  have jn := h1.2.2.2.2.2.2.1
  have sp := h1.2.2.2.2.2.2.2
  have hs := sp.1
  have sc := hI.sc
  have z0 : (0 : Int32).toInt = 0 := rfl
  have z40 : (40 : Int32).toInt = 40 := rfl
  by_cases c40 : M.1 69 0 < 40
  · have c40' : ¬ N1.1 0 59 = 40 := fun c => by
      rw [← hs] at c
      rw [c] at c40
      exact absurd c40 (by decide)
    have g40 := Int32.lt_iff_toInt_lt.mp c40
    rw [if_pos c40, cal_s, if_pos rfl] at q1
    rcases rq1.2.2.2 with ⟨m1, m2⟩ | ⟨m1, m2⟩
    · have c : M.1 24 0 ≤ 0 := Int32.le_iff_toInt_le.mpr (by omega)
      rw [if_pos c, cal_s, if_pos rfl] at q1
      rw [if_pos m2] at q2
      obtain ⟨rfl, rfl⟩ := rs_e q1
      obtain ⟨rfl, rfl⟩ := rs_e q2
      exact h1
    · have c : ¬ M.1 24 0 ≤ 0 := fun c => by
        have := Int32.le_iff_toInt_le.mp c
        omega
      rw [if_neg c, cal_s, if_neg (by decide : ¬ (1 : Int32) = 0)] at q1
      rw [if_neg (by rw [m2]; decide), if_neg c40'] at q2
      have q2 : stT N1 a1 a2 a3 = some (N', r2) := q2
      obtain ⟨t, x, y⟩ := stp_eq hI rq1 hl a1 a2 a3
      rw [x, cal_s] at q1
      rw [y] at q2
      by_cases ct : t = 0
      · rw [if_pos ct] at q1 q2
        obtain ⟨rfl, rfl⟩ := rs_e q1
        obtain ⟨rfl, rfl⟩ := rs_e q2
        exact h1
      · rw [if_neg ct] at q1 q2
        obtain ⟨M7, r8, p, q1⟩ := cal_o q1
        obtain ⟨rfl, -⟩ := rs_e q1
        unfold q_Steps_append_1 at p
        have p := ix_r p
        rw [lq_s] at p
        have p := ix_r p
        rw [lq_s] at p
        have p := ix_r p
        rw [lq_s, lq_s] at p
        obtain ⟨e7, -⟩ := rs_e p
        unfold q_ChipMapModel_step_73 at q2
        have q2 := ix_r q2
        rw [lq_s] at q2
        have q2 := ix_r q2
        rw [lq_s] at q2
        have q2 := ix_r q2
        rw [lq_s, lq_s] at q2
        obtain ⟨e4, -⟩ := rs_e q2
        have t69 := tnc sc.1
        have ec : (M.1 69 0 + 1).toInt = (M.1 69 0).toInt + 1 := iadd rfl (rfl : (1 : Int32).toInt = 1) (by omega) (by omega)
        have x69 : M7.1 69 = upd (M.1 69) 0 (M.1 69 0 + 1) := by rw [← e7]; rfl
        have x70 : M7.1 70 = upd (M.1 70) (M.1 69 0).toNatClampNeg a1 := by rw [← e7]; rfl
        have x71 : M7.1 71 = upd (M.1 71) (M.1 69 0).toNatClampNeg a2 := by rw [← e7]; rfl
        have x72 : M7.1 72 = upd (M.1 72) (M.1 69 0).toNatClampNeg a3 := by rw [← e7]; rfl
        have xo : ∀ p, p < 69 ∨ 73 ≤ p → M7.1 p = M.1 p := fun p hp => by rw [← e7, stI_ne _ _ (by omega), stI_ne _ _ (by omega), stI_ne _ _ (by omega), stI_ne _ _ (by omega)]
        have y59 : N'.1 0 59 = N1.1 0 59 + 1 := by rw [← e4]; rfl
        have y42 : N'.1 42 = upd (N1.1 42) (N1.1 0 59).toNatClampNeg a1 := by rw [← e4]; rfl
        have y43 : N'.1 43 = upd (N1.1 43) (N1.1 0 59).toNatClampNeg a2 := by rw [← e4]; rfl
        have y44 : N'.1 44 = upd (N1.1 44) (N1.1 0 59).toNatClampNeg a3 := by rw [← e4]; rfl
        have yo : ∀ p, p ≠ 0 → p ≠ 42 → p ≠ 43 → p ≠ 44 → N'.1 p = N1.1 p := fun p h0 h1 h2 h3 => by rw [← e4, stI_ne _ _ h0, stI_ne _ _ h3, stI_ne _ _ h2, stI_ne _ _ h1]
        have ys : ∀ j, j ≠ 59 → N'.1 0 j = N1.1 0 j := fun j hj => by rw [← e4, stI_at, updN hj, stI_ne _ _ (by decide), stI_ne _ _ (by decide), stI_ne _ _ (by decide)]
        have sp' : spR M7 N' := by
          unfold spR
          rw [x69, x70, x71, x72, y59, y42, y43, y44, updS, ← hs]
          refine ⟨rfl, fun j hj => ?_⟩
          by_cases cj : j = (M.1 69 0).toNatClampNeg
          · rw [cj, updS, updS, updS, updS, updS, updS]
            exact ⟨rfl, rfl, rfl⟩
          · rw [updN cj, updN cj, updN cj, updN cj, updN cj, updN cj]
            exact sp.2 j (by omega)
        refine h.j kx ky (fun p h1 h2 => xo p (by omega)) ?_ ?_ ?_ ?_ ?_ (jn.cg (xo 65 (by omega)) (xo 67 (by omega)) (xo 68 (by omega)) (ys 52 (by decide)) (yo 40 (by decide) (by decide) (by decide) (by decide)) (yo 41 (by decide) (by decide) (by decide) (by decide))) sp'
        · rw [yo 33 (by decide) (by decide) (by decide) (by decide), np 33 (by decide)]
        · rw [yo 36 (by decide) (by decide) (by decide) (by decide), np 36 (by decide)]
        · rw [ys 47 (by decide), ns 47 (by decide)]
        · rw [ys 48 (by decide), ns 48 (by decide)]
        · rw [ys 58 (by decide), ns 58 (by decide)]
  · have c40' : N1.1 0 59 = 40 := by
      rw [← hs]
      apply Int32.toInt_inj.mp
      have g : ¬ (M.1 69 0).toInt < (40 : Int32).toInt := fun z => c40 (Int32.lt_iff_toInt_lt.mpr z)
      omega
    rw [if_neg c40, cal_s, if_neg (by decide : ¬ (1 : Int32) = 0)] at q1
    obtain ⟨rfl, rfl⟩ := rs_e q1
    rw [if_pos c40'] at q2
    by_cases c27 : N1.1 0 27 = 0
    · rw [if_pos c27] at q2
      obtain ⟨rfl, rfl⟩ := rs_e q2
      exact h1
    · rw [if_neg c27] at q2
      obtain ⟨rfl, rfl⟩ := rs_e q2
      exact h1
theorem erase_rd {M N : Mm} (h : RD M N) {M' N' : Mm} {r1 r2 : Int32} (q1 : q_ChipMap_erase M = some (M', r1)) (q2 : q_ChipMapModel_erase N = some (N', r2)) (kx : kX M M') (ky : kY N N') : RD M' N' := by
  unfold q_ChipMap_erase q_Steps_empty_1 at q1
  rw [lq_s, lq_s, cal_s] at q1
  obtain ⟨rfl, rfl⟩ := rs_e q1
  unfold q_ChipMapModel_erase at q2
  rw [lq_s, lq_s, lq_s] at q2
  obtain ⟨rfl, rfl⟩ := rs_e q2
  have jn := h.2.2.2.2.2.2.1
  refine h.j kx ky (fun p h1 h2 => stI_ne _ _ (by omega)) rfl rfl rfl rfl rfl (jn.cg rfl rfl rfl rfl rfl rfl) ⟨rfl, fun j hj => ?_⟩
  have z : (j : Int) < (0 : Int32).toInt := hj
  have z0 : (0 : Int32).toInt = 0 := rfl
  omega
end
section
-- the plan of the class and the reference's operations, in step
section STM
variable {M N : Mm} {fl : Int32} {wd : Nat → Int32}
def stb (M N : Mm) (r : Int32) (n : Nat) (x : Int32) : Prop := ∀ b, tb x b = true ↔ ∃ f, f < n ∧ pf M f ∧ M.1 38 f = r ∧ knA (M.1 39 f) ∧ tb (N.1 33 f <<< (M.1 40 f &&& 31)) b = true
theorem st_l (hl : LF M N) {r : Int32} : ∀ (j n' : Nat) (acc i : Int32), 26 - i.toInt = (j : Int) → 0 ≤ i.toInt → j < n' → stb M N r i.toNatClampNeg acc → ∃ x : Int32, q_ChipMapModel_still_4 n' N r acc i = some (N, x) ∧ stb M N r 26 x := by
  have e26 : (26 : Int32).toInt = 26 := rfl
  intro j
  induction j with
  | zero =>
    intro n' acc i hj i0 hn h
    obtain ⟨n', rfl⟩ : ∃ q, n' = q + 1 := ⟨n' - 1, by omega⟩
    have tn := tnc i0
    have c : (26 : Int32) ≤ i := Int32.le_iff_toInt_le.mpr (by omega)
    rw [q_ChipMapModel_still_4, if_pos c]
    rw [show i.toNatClampNeg = 26 by omega] at h
    exact ⟨acc, rfl, h⟩
  | succ j ih =>
    intro n' acc i hj i0 hn h
    obtain ⟨n', rfl⟩ : ∃ q, n' = q + 1 := ⟨n' - 1, by omega⟩
    have tn := tnc i0
    have ez : (i + 1).toInt = i.toInt + 1 := iadd rfl (rfl : (1 : Int32).toInt = 1) (by omega) (by omega)
    have es : (i + 1).toNatClampNeg = i.toNatClampNeg + 1 := tnS (by omega)
    have c : ¬ (26 : Int32) ≤ i := fun z => by have := Int32.le_iff_toInt_le.mp z; omega
    have k : vp_in i 26 := vI (by omega)
    have k7 : vp_in i 78 := vI (by omega)
    have z0 : ∀ a : Int32, a ||| 0 = a := fun a => tb_ext (fun b _ => by rw [tb_or, tb_0, Bool.or_false])
    have skip : (¬ (pf M i.toNatClampNeg ∧ M.1 38 i.toNatClampNeg = r ∧ knA (M.1 39 i.toNatClampNeg))) → stb M N r (i + 1).toNatClampNeg acc := by
      intro hz b
      rw [h b, es]
      constructor
      · intro ⟨f, f1, f2⟩
        exact ⟨f, by omega, f2⟩
      · intro ⟨f, f1, f2, f3, f4, f5⟩
        by_cases cf : f = i.toNatClampNeg
        · rw [cf] at f2 f3 f4
          exact absurd ⟨f2, f3, f4⟩ hz
        · exact ⟨f, by omega, f2, f3, f4, f5⟩
    rw [q_ChipMapModel_still_4, if_neg c]
    by_cases hp : pf M i.toNatClampNeg
    · rw [isin_m hl i0 hp, cal_s]
      by_cases cr : M.1 38 i.toNatClampNeg = r
      · rw [decide_eq_true cr, if_neg (show ¬ b2 true = 0 by decide)]
        obtain ⟨s, q, hs⟩ := sto_m hl i0 hp
        rw [q, cal_s]
        rcases hs with ⟨rfl, hk⟩ | ⟨rfl, hk⟩
        · rw [if_pos rfl]
          unfold q_ChipMapModel_still_44 q_ChipMapModel_still_45
          rw [lq_s, z0]
          exact ih n' acc (i + 1) (by omega) (by omega) (by omega) (skip (fun z => hk z.2.2))
        · rw [if_neg (by decide : ¬ (1 : Int32) = 0), ix_e k7, ix_e k]
          unfold q_ChipMapModel_still_45
          rw [lq_s, ← (lf_p hl hp).2.2.2.2.1]
          refine ih n' _ (i + 1) (by omega) (by omega) (by omega) (fun b => ?_)
          rw [tb_or, Bool.or_eq_true, h b, es]
          constructor
          · intro z
            rcases z with ⟨f, f1, f2⟩ | z
            · exact ⟨f, by omega, f2⟩
            · exact ⟨_, by omega, hp, cr, hk, z⟩
          · intro ⟨f, f1, f2, f3, f4, f5⟩
            by_cases cf : f = i.toNatClampNeg
            · rw [cf] at f5
              exact Or.inr f5
            · exact Or.inl ⟨f, by omega, f2, f3, f4, f5⟩
      · rw [decide_eq_false cr, if_pos (show b2 false = 0 from rfl)]
        unfold q_ChipMapModel_still_44 q_ChipMapModel_still_45
        rw [lq_s, z0]
        exact ih n' acc (i + 1) (by omega) (by omega) (by omega) (skip (fun z => cr z.2.1))
    · rw [isin_0 hl ⟨i0, by omega⟩ hp, cal_s, if_pos rfl]
      unfold q_ChipMapModel_still_44 q_ChipMapModel_still_45
      rw [lq_s, z0]
      exact ih n' acc (i + 1) (by omega) (by omega) (by omega) (skip (fun z => hp z.1))
/-- what the reference still holds of a register is what the class has in mind of it -/
theorem st_e (hl : LF M N) (la : LA M N) (h : MV M wd N) {r : Int32} (hr : 0 ≤ r.toInt ∧ r.toInt ≤ 15) : q_ChipMapModel_still N r = some (N, wd r.toNatClampNeg) := by
  have e0 : (0 : Int32).toNatClampNeg = 0 := rfl
  have tr := tnc hr.1
  obtain ⟨x, q, hx⟩ := st_l hl (r := r) 26 4000 0 0 (by decide) (by decide) (by decide) (fun b => by
    rw [tb_0, e0]
    exact ⟨fun z => absurd z (by decide), fun ⟨f, f1, _⟩ => nlz f1⟩)
  have e : x = wd r.toNatClampNeg := by
    apply tb_ext
    intro b _
    cases hw : tb (wd r.toNatClampNeg) b with
    | true =>
      obtain ⟨f, f1, f2, f3, f4⟩ := (la.2.2.1 _ b).mp (h.2 _ (by omega) b hw)
      have e38 : M.1 38 f = r := tn_inj (lf_p hl f1).2.2.1 hr.1 f2
      have m2 := (h.1 f f1 f3).2 b f4
      rw [e38, hw] at m2
      exact (hx b).mpr ⟨f, f1.1, f1, e38, f3, m2.symm⟩
    | false =>
      cases hb : tb x b with
      | false => rfl
      | true =>
        exfalso
        obtain ⟨f, -, f1, f2, f3, f4⟩ := (hx b).mp hb
        obtain ⟨l1, l2, -, -⟩ := la.1 f f1
        have w1 := (lf_p hl f1).2.2.2.2.2.2
        obtain ⟨m1, m2⟩ := h.1 f f1 f3
        have hin := tb_pl l1.1 w1 l1.2 m1 b f4
        have mk : tb (M.1 42 f) b = true := by rw [l2 b, decide_eq_true_eq]; exact hin
        have z := m2 b mk
        rw [f2, hw, f4] at z
        cases z
  unfold q_ChipMapModel_still
  rw [q, e]
theorem wi_e (hl : LF M N) (la : LA M N) {a f v : Int32} (f0 : 0 ≤ f.toInt) (hp : pf M f.toNatClampNeg) : q_ChipMapModel_with N a f v = some (N, (a &&& (M.1 42 f.toNatClampNeg ^^^ (-1))) ||| (v <<< (M.1 40 f.toNatClampNeg &&& 31))) := by
  have t := tnc f0
  have k : vp_in f 26 := vI (by have := hp.1; omega)
  obtain ⟨l1, l2, -, -⟩ := la.1 _ hp
  obtain ⟨-, -, -, -, e40, e41, w1⟩ := lf_p hl hp
  have em : ((((1 : Int32) <<< (M.1 41 f.toNatClampNeg &&& 31)) - 1) <<< (M.1 40 f.toNatClampNeg &&& 31)) = M.1 42 f.toNatClampNeg := by
    apply tb_ext
    intro b hb
    rw [tb_shl (by omega), tb_lm (by omega), l2 b, decide_eq_true hb]
    by_cases c : (M.1 40 f.toNatClampNeg).toInt ≤ (b : Int) ∧ (b : Int) < (M.1 40 f.toNatClampNeg).toInt + (M.1 41 f.toNatClampNeg).toInt
    · rw [decide_eq_true c, decide_eq_false (show ¬ b < (M.1 40 f.toNatClampNeg).toInt.toNat by omega), decide_eq_true (show b - (M.1 40 f.toNatClampNeg).toInt.toNat < (M.1 41 f.toNatClampNeg).toInt.toNat by omega)]
      rfl
    · rw [decide_eq_false c]
      by_cases d : b < (M.1 40 f.toNatClampNeg).toInt.toNat
      · rw [decide_eq_true d]
        rfl
      · rw [decide_eq_false d, decide_eq_false (show ¬ b - (M.1 40 f.toNatClampNeg).toInt.toNat < (M.1 41 f.toNatClampNeg).toInt.toNat by omega)]
        rfl
  unfold q_ChipMapModel_with
  rw [ix_e k, ix_e k, ix_e k, ← e40, ← e41, em]
end STM
/-- a write in the mind: from (fl, wd) to (fl', wd') -/
def ST (A : Mm) (fl : Int32) (wd : Nat → Int32) (r v : Int32) (fl' : Int32) (wd' : Nat → Int32) : Prop := (∀ q, q < 16 → wd' q = upd wd r.toNatClampNeg (v &&& A.1 29 r.toNatClampNeg) q) ∧ ∀ b, tb fl' b = if b < (A.1 43 0).toNatClampNeg then nbb A wd r v b (tb fl b) else tb fl b
theorem nbb_w {A : Mm} {wd wd' : Nat → Int32} {r v : Int32} (h : wd r.toNatClampNeg = wd' r.toNatClampNeg) (k : Nat) (old : Bool) : nbb A wd r v k old = nbb A wd' r v k old := by
  unfold nbb wrb
  rw [h]
theorem ST.u {A : Mm} {fl fl1 fl2 : Int32} {wd wd0 wd1 wd2 : Nat → Int32} {r v : Int32} (hr : 0 ≤ r.toInt ∧ r.toInt ≤ 15) (h0 : ∀ q, q < 16 → wd q = wd0 q) (h1 : ST A fl wd r v fl1 wd1) (h2 : ST A fl wd0 r v fl2 wd2) : fl1 = fl2 ∧ ∀ q, q < 16 → wd1 q = wd2 q := by
  have t := tnc hr.1
  refine ⟨tb_ext (fun b _ => ?_), fun q hq => ?_⟩
  · rw [h1.2 b, h2.2 b, nbb_w (h0 _ (by omega))]
  · rw [h1.1 q hq, h2.1 q hq]
    by_cases c : q = r.toNatClampNeg
    · rw [c, updS, updS]
    · rw [updN c, updN c]
      exact h0 q hq
/-- the first n writes of a plan lead from the mind to (fl, wd) -/
def RP (A : Mm) (rs vs : Nat → Int32) : Nat → Int32 → (Nat → Int32) → Prop
  | 0, fl, wd => fl = A.1 51 2 ∧ ∀ q, q < 16 → wd q = A.1 52 q
  | n + 1, fl, wd => ∃ (fl0 : Int32) (wd0 : Nat → Int32), RP A rs vs n fl0 wd0 ∧ (0 ≤ (rs n).toInt ∧ (rs n).toInt ≤ 15) ∧ ST A fl0 wd0 (rs n) (vs n) fl wd
theorem RP.u {A : Mm} {rs vs : Nat → Int32} : ∀ (n : Nat) {fl fl' : Int32} {wd wd' : Nat → Int32}, RP A rs vs n fl wd → RP A rs vs n fl' wd' → fl = fl' ∧ ∀ q, q < 16 → wd q = wd' q := by
  intro n
  induction n with
  | zero =>
    intro fl fl' wd wd' h h'
    exact ⟨h.1.trans h'.1.symm, fun q hq => (h.2 q hq).trans (h'.2 q hq).symm⟩
  | succ n ih =>
    intro fl fl' wd wd' h h'
    obtain ⟨f0, w0, a1, a2, a3⟩ := h
    obtain ⟨f1, w1, b1, -, b3⟩ := h'
    obtain ⟨rfl, e⟩ := ih a1 b1
    exact a3.u a2 e b3
theorem RP.cg {A : Mm} {rs vs rs' vs' : Nat → Int32} : ∀ (n : Nat) {fl : Int32} {wd : Nat → Int32}, (∀ k, k < n → rs' k = rs k ∧ vs' k = vs k) → RP A rs vs n fl wd → RP A rs' vs' n fl wd := by
  intro n
  induction n with
  | zero => intro fl wd _ h; exact h
  | succ n ih =>
    intro fl wd e h
    obtain ⟨f0, w0, a1, a2, a3⟩ := h
    have z := e n (by omega)
    refine ⟨f0, w0, ih (fun k hk => e k (by omega)) a1, ?_, ?_⟩
    · rw [z.1]; exact a2
    · rw [z.1, z.2]; exact a3
end
section
-- one write told to the plan against one operation of the reference
def PL (A B M N : Mm) : Prop := (∀ p, p < 60 ∨ 65 ≤ p → M.1 p = A.1 p) ∧ (0 ≤ (M.1 60 2).toInt ∧ (M.1 60 2).toInt ≤ 16) ∧ RP A (M.1 63) (M.1 64) (M.1 60 2).toNatClampNeg (M.1 61 2) (M.1 62) ∧ LF A N ∧ LA A N ∧ MD A (M.1 61 2) (M.1 62) N ∧ ((M.1 60 5 = 0 ∧ N.1 0 55 = 0) ∨ (M.1 60 5 ≠ 0 ∧ N.1 0 55 ≠ 0)) ∧ N.1 0 58 = B.1 0 58 ∧ N.1 0 47 = B.1 0 47 + dz B * M.1 60 2 ∧ (∀ p, p ≠ 0 → p < 33 ∨ 40 ≤ p ∨ p = 35 → N.1 p = B.1 p) ∧ (∀ j, j ≠ 47 → j ≠ 55 → j ≠ 56 → j ≠ 57 → N.1 0 j = B.1 0 j) ∧ (∀ f, 26 ≤ f → N.1 33 f = B.1 33 f) ∧ (∀ k, 12 ≤ k → N.1 36 k = B.1 36 k)
theorem brb_cg {A M : Mm} (h : ∀ p, 38 ≤ p → p ≤ 47 → M.1 p = A.1 p) (fl : Int32) (wd : Nat → Int32) (r v : Int32) (k : Nat) : brb M fl wd r v k = brb A fl wd r v k := by
  unfold brb wrb kvl
  rw [h 38 (by decide) (by decide), h 40 (by decide) (by decide), h 42 (by decide) (by decide), h 44 (by decide) (by decide), h 45 (by decide) (by decide), h 46 (by decide) (by decide), h 47 (by decide) (by decide)]
theorem told_rel {A B M N : Mm} (h : PL A B M N) (hu : ruI A) {r mk val : Int32} (hr : 0 ≤ r.toInt ∧ r.toInt ≤ 15) (c16 : (M.1 60 2).toInt < 16) (h47 : 0 ≤ (N.1 0 47).toInt) {M' N' : Mm} {x y : Int32} (q1 : q_Plan_addTold M r mk val = some (M', x)) (q2 : q_ChipMapModel_operate N r ((M.1 62 r.toNatClampNeg &&& (mk ^^^ (-1))) ||| val) = some (N', y)) : PL A B M' N' ∧ (M'.1 60 2 = M.1 60 2 ∨ M'.1 60 2 = M.1 60 2 + 1) := by
  have h0 := h
  obtain ⟨f1, f2, rp, hl, la, md, rf, e58, e47, g1, g2, g3, g4⟩ := h0
  have h12 := hu.1
  have tr := tnc h12.1
  have t60 := tnc f2.1
  have huM : ruI M := hu.cg (fun p h1 h2 => f1 p (by omega))
  have z0 : (0 : Int32).toInt = 0 := rfl
  unfold q_Plan_addTold at q1
  unfold q_ChipMapModel_operate at q2
  rcases rf with ⟨r0, n0⟩ | ⟨r0, n0⟩
  rotate_left
  · rw [if_neg r0] at q1
    rw [if_neg n0] at q2
    obtain ⟨rfl, -⟩ := rs_e q1
    obtain ⟨rfl, -⟩ := rs_e q2
    exact ⟨h, Or.inl rfl⟩
  have c : M.1 60 2 < 16 := Int32.lt_iff_toInt_lt.mpr c16
  rw [if_pos r0, if_pos c] at q1
  have q1 := ix_r q1
  rw [lq_s] at q1
  rw [if_pos n0] at q2
  generalize hx : (M.1 62 r.toNatClampNeg &&& (mk ^^^ (-1))) ||| val = w at q1 q2
  obtain ⟨m, b1, bm⟩ := bby_1 huM (v := w) hr
  rw [b1, cal_s] at q1
  have bmA : ∀ b, tb m b = (decide (b < (A.1 43 0).toNatClampNeg) && brb A (M.1 61 2) (M.1 62) r w b) := fun b => by
    rw [bm b, f1 43 (by omega), brb_cg (A := A) (fun p h1 h2 => f1 p (by omega))]
  obtain ⟨u, u1, fu⟩ := fb_m hl la md h12 r w
  rw [u1, cal_s] at q2
  obtain ⟨-, k2⟩ := mask_e h12 bmA fu
  rcases k2 with ⟨m0, u0⟩ | ⟨m0, u0⟩
  · rw [if_pos m0] at q1
    rw [if_pos u0] at q2
    obtain ⟨M4, p1, x1, x2, x3, x4, x5⟩ := mw_1 huM (v := w) hr
    rw [p1, cal_s] at q1
    have q1 := ix_r q1
    rw [lq_s] at q1
    have q1 := ix_r q1
    rw [lq_s, lq_s] at q1
    obtain ⟨e8, -⟩ := rs_e q1
    have s60 : M4.1 60 = M.1 60 := x1 60 (by decide) (by decide)
    have y60 : M'.1 60 = upd (M.1 60) 2 (M.1 60 2 + 1) := by
      rw [← e8, stI_at, stI_ne _ _ (by decide), stI_ne _ _ (by decide), s60]
    have y63 : M'.1 63 = upd (M.1 63) (M.1 60 2).toNatClampNeg r := by
      rw [← e8, stI_ne _ _ (by decide), stI_ne _ _ (by decide), stI_at, s60, x1 63 (by decide) (by decide)]
    have y64 : M'.1 64 = upd (M.1 64) (M.1 60 2).toNatClampNeg w := by
      rw [← e8, stI_ne _ _ (by decide), stI_at, stI_ne _ _ (by decide), stI_ne _ _ (by decide), s60, x1 64 (by decide) (by decide)]
    have y61 : M'.1 61 = M4.1 61 := by rw [← e8, stI_ne _ _ (by decide), stI_ne _ _ (by decide), stI_ne _ _ (by decide)]
    have y62 : M'.1 62 = upd (M.1 62) r.toNatClampNeg (w &&& A.1 29 r.toNatClampNeg) := by
      rw [← e8, stI_ne _ _ (by decide), stI_ne _ _ (by decide), stI_ne _ _ (by decide), x4, f1 29 (by omega)]
    have yo : ∀ p, p < 60 ∨ 65 ≤ p → M'.1 p = A.1 p := fun p hp => by
      rw [← e8, stI_ne _ _ (by omega), stI_ne _ _ (by omega), stI_ne _ _ (by omega), x1 p (by omega) (by omega)]
      exact f1 p hp
    have ec : (M.1 60 2 + 1).toInt = (M.1 60 2).toInt + 1 := iadd rfl (rfl : (1 : Int32).toInt = 1) (by omega) (by omega)
    have es : (M.1 60 2 + 1).toNatClampNeg = (M.1 60 2).toNatClampNeg + 1 := tnS (by omega)
    have nb : ∀ b, tb (M'.1 61 2) b = if b < (A.1 43 0).toNatClampNeg then nbb A (M.1 62) r w b (tb (M.1 61 2) b) else tb (M.1 61 2) b := fun b => by
      rw [y61, x5 b, f1 43 (by omega), nbb_cg (A := A) (fun p h1 h2 => f1 p (by omega))]
    obtain ⟨N1, w1, w2, w3, w4, w5, w6, w7, w8⟩ := wr_m hl la md h12 h47 (v := w) hr (fl' := M'.1 61 2) (fun k hk => by rw [nb k, if_pos (by omega)])
    rw [w1, cal_s] at q2
    obtain ⟨rfl, -⟩ := rs_e q2
    refine ⟨⟨yo, ?_, ?_, ?_, ?_, ?_, ?_, ?_, ?_, fun p h1 h2 => ?_, fun j j1 j2 j3 j4 => ?_, fun f hf => ?_, fun k hk => ?_⟩, Or.inr ?_⟩
    · rw [y60, updS]; omega
    · rw [y60, updS, es]
      refine ⟨M.1 61 2, M.1 62, RP.cg _ (fun k hk => ?_) rp, ?_, ?_⟩
      · rw [y63, y64, updN (by omega), updN (by omega)]
        exact ⟨rfl, rfl⟩
      · rw [y63, updS]; exact hr
      · rw [y63, y64, updS, updS]
        exact ⟨fun q _ => by rw [y62], nb⟩
    · exact hl.n (fun p h1 h2 => w3 p (by omega) (by omega))
    · exact la.n (fun p h1 h2 => w3 p (by omega) (by omega)) (fun j hj => w4 j (by omega))
    · rw [y62]; exact w2
    · refine Or.inl ⟨?_, ?_⟩
      · rw [y60, updN (by decide)]; exact r0
      · rw [w4 55 (by decide)]; exact n0
    · rw [w4 58 (by decide)]; exact e58
    · have ed : dz N = dz B := by unfold dz; rw [e58]
      rw [w5, e47, ed, y60, updS, Int32.add_assoc, Int32.mul_add, Int32.mul_one]
    · rw [w3 p h1 h2]; exact g1 p h1 h2
    · rw [w4 j j1]; exact g2 j j1 j2 j3 j4
    · rw [w7 f hf]; exact g3 f hf
    · rw [w8 k hk]; exact g4 k hk
    · rw [y60, updS]
  · have u' : u ≠ -1 := by
      rcases fu with ⟨-, z2⟩ | ⟨z, -⟩
      · exfalso
        apply m0
        apply tb_ext
        intro b _
        rw [bmA b, tb_0]
        by_cases cb : b < (A.1 43 0).toNatClampNeg
        · rw [z2 b cb, Bool.and_false]
        · rw [decide_eq_false cb, Bool.false_and]
      · intro e
        rw [e] at z
        exact absurd z (by decide)
    have u0' : 0 ≤ u.toInt ∧ u.toInt < 12 := by
      rcases fu with ⟨z, -⟩ | ⟨z, z2, -⟩
      · exact absurd z u'
      · omega
    rw [if_neg m0, nz_e, cal_s, lq_s] at q1
    rw [if_neg u', lq_s, lq_s] at q2
    obtain ⟨e6, -⟩ := rs_e q1
    obtain ⟨e4, -⟩ := rs_e q2
    have y60 : M'.1 60 = upd (M.1 60) 5 (1 + nzV m) := by rw [← e6, stI_at]
    have yo : ∀ p, p ≠ 60 → M'.1 p = M.1 p := fun p hp => by rw [← e6, stI_ne _ _ hp]
    have np : ∀ p, p ≠ 0 → N'.1 p = N.1 p := fun p hp => by rw [← e4, stI_ne _ _ hp, stI_ne _ _ hp]
    have ns : ∀ j, j ≠ 55 → j ≠ 56 → N'.1 0 j = N.1 0 j := fun j j1 j2 => by rw [← e4, stI_at, updN j2, stI_at, updN j1]
    have n55 : N'.1 0 55 = 1 := by rw [← e4, stI_at, updN (by decide), stI_at, updS]
    have e1 : (1 + u).toInt = 1 + u.toInt := iadd (rfl : (1 : Int32).toInt = 1) rfl (by omega) (by omega)
    refine ⟨⟨fun p hp => ?_, ?_, ?_, ?_, ?_, ?_, Or.inr ⟨?_, ?_⟩, ?_, ?_, fun p h1 h2 => ?_, fun j j1 j2 j3 j4 => ?_, fun f hf => ?_, fun k hk => ?_⟩, Or.inl ?_⟩
    · rw [yo p (by omega)]; exact f1 p hp
    · rw [y60, updN (by decide)]; exact f2
    · rw [y60, updN (by decide), yo 61 (by decide), yo 62 (by decide), yo 63 (by decide), yo 64 (by decide)]; exact rp
    · exact hl.n (fun p h1 h2 => np p (by omega))
    · exact la.n (fun p h1 h2 => np p (by omega)) (fun j hj => ns j (by omega) (by omega))
    · rw [yo 61 (by decide), yo 62 (by decide)]
      exact md.n (np 33 (by decide)) (np 36 (by decide))
    · rw [y60, updS, u0]
      intro z
      have := congrArg Int32.toInt z
      omega
    · rw [n55]; decide
    · rw [ns 58 (by decide) (by decide)]; exact e58
    · rw [ns 47 (by decide) (by decide), y60, updN (by decide)]; exact e47
    · rw [np p h1]; exact g1 p h1 h2
    · rw [ns j j2 j3]; exact g2 j j1 j2 j3 j4
    · rw [np 33 (by decide)]; exact g3 f hf
    · rw [np 36 (by decide)]; exact g4 k hk
    · rw [y60, updN (by decide)]
end
section
-- a register reached, a put: told to the plan, and done by the reference
def PX (A B : Mm) : Prop := ruI A ∧ (∀ f, (A.1 38 f).toInt ≤ 15) ∧ (0 ≤ (A.1 24 0).toInt ∧ (A.1 24 0).toInt ≤ 16) ∧ (0 ≤ (B.1 0 47).toInt ∧ (B.1 0 47).toInt ≤ 2000000000)
theorem dz_01 (B : Mm) : dz B = 0 ∨ dz B = 1 := by
  unfold dz
  by_cases c : B.1 0 58 = 0
  · rw [if_pos c]; exact Or.inr rfl
  · rw [if_neg c]; exact Or.inl rfl
theorem PL.n47 {A B M N : Mm} (h : PL A B M N) (hx : PX A B) : 0 ≤ (N.1 0 47).toInt := by
  obtain ⟨-, f2, -, -, -, -, -, -, e47, -⟩ := h
  have hb := hx.2.2.2
  rw [e47]
  rcases dz_01 B with z | z
  · rw [z, Int32.zero_mul, Int32.add_zero]
    exact hb.1
  · rw [z, Int32.one_mul, iadd rfl rfl (by omega) (by omega)]
    omega
theorem thb_cg {A M : Mm} (h : ∀ p, p < 60 ∨ 65 ≤ p → M.1 p = A.1 p) (wd : Nat → Int32) (r : Int32) : thb M wd r = thb A wd r := by
  unfold thb kvl
  rw [h 26 (by omega), h 27 (by omega), h 38 (by omega), h 40 (by omega), h 42 (by omega)]
theorem reach_rel {A B M N : Mm} (h : PL A B M N) (hx : PX A B) {r : Int32} (hr : 0 ≤ r.toInt ∧ r.toInt < (A.1 24 0).toInt) (c16 : (M.1 60 2).toInt < 16) {M' N' : Mm} {x y : Int32} (q1 : q_Plan_addReach M r = some (M', x)) (q2 : q_ChipMapModel_reach N r = some (N', y)) : PL A B M' N' ∧ (M'.1 60 2 = M.1 60 2 ∨ M'.1 60 2 = M.1 60 2 + 1) := by
  have h47 := h.n47 hx
  obtain ⟨hu, hh, h16, -⟩ := hx
  have h0 := h
  obtain ⟨f1, f2, rp, hl, la, md, rf, e58, e47, g1, g2, g3, g4⟩ := h0
  have t := tnc hr.1
  have hb := th_b hl la hh hr
  have e1 : q_Mind_isThere_1 M r = some (M, b2 (thb A (M.1 62) r)) := by
    rw [th_1 (M := M) ⟨hr.1, by omega⟩ (by rw [f1 26 (by omega), f1 38 (by omega)]; exact hb), thb_cg f1]
  have e2 := th_m hl la md.1 hr h16.2
  unfold q_Plan_addReach at q1
  unfold q_ChipMapModel_reach at q2
  rw [e1, cal_s] at q1
  rw [e2, cal_s] at q2
  by_cases z : b2 (thb A (M.1 62) r) = 0
  · rw [if_pos z] at q1 q2
    have c : A.1 26 r.toNatClampNeg ≠ -1 := by
      intro c
      rw [b2_0] at z
      unfold thb at z
      rw [decide_eq_true c, Bool.true_or] at z
      cases z
    obtain ⟨l25, l26, l27⟩ := la.2.2.2.1.2 r.toNatClampNeg (by omega)
    obtain ⟨w27, wp, w0, w39⟩ := l27 c
    have lp := lf_p hl wp
    have q1 := ix_r q1
    rw [lq_s, f1 26 (by omega)] at q1
    have q1 := ix_r (ix_r (ix_r (ix_r q1)))
    rw [f1 27 (by omega), f1 38 (by omega), f1 40 (by omega), f1 42 (by omega)] at q1
    obtain ⟨M1, r1, p1, q1⟩ := cal_o q1
    obtain ⟨rfl, -⟩ := rs_e q1
    have q2 := ix_r q2
    rw [lq_s, ← l26] at q2
    have q2 := ix_r (ix_r q2)
    rw [← lp.2.1, st_e hl la md.1 ⟨lp.2.2.1, hh _⟩, cal_s] at q2
    have q2 := ix_r q2
    rw [← w27, wi_e hl la w0 wp, cal_s] at q2
    obtain ⟨N1, s1, p2, q2⟩ := cal_o q2
    obtain ⟨rfl, -⟩ := rs_e q2
    exact told_rel h hu ⟨lp.2.2.1, hh _⟩ c16 h47 p1 p2
  · rw [if_neg z] at q1 q2
    obtain ⟨rfl, -⟩ := rs_e q1
    obtain ⟨rfl, -⟩ := rs_e q2
    exact ⟨h, Or.inl rfl⟩
theorem up1 {m n : Int32} (h : m = n ∨ m = n + 1) (hn : 0 ≤ n.toInt ∧ n.toInt ≤ 100) : n.toInt ≤ m.toInt ∧ m.toInt ≤ n.toInt + 1 := by
  have e : (n + 1).toInt = n.toInt + 1 := iadd rfl (rfl : (1 : Int32).toInt = 1) (by omega) (by omega)
  rcases h with rfl | rfl
  · omega
  · omega
theorem put_pl {A B M N : Mm} (h : PL A B M N) (hx : PX A B) {f v : Int32} (f0 : 0 ≤ f.toInt) (hp : pf A f.toNatClampNeg) (hr : (A.1 38 f.toNatClampNeg).toInt < (A.1 24 0).toInt) (c15 : (M.1 60 2).toInt < 15) {M' N' : Mm} {x y : Int32} (q1 : q_Plan_addPut M f v = some (M', x)) (q2 : q_ChipMapModel_doPut N f v = some (N', y)) : PL A B M' N' := by
  have h0 := h
  obtain ⟨f1, f2, rp, hl, la, md, rf, e58, e47, g1, g2, g3, g4⟩ := h0
  have t := tnc f0
  have hp1 := hp.1
  have lp := lf_p hl hp
  have hh := hx.2.1
  obtain ⟨t1, k1, k2⟩ := kn_e (M := M) f ⟨f0, by omega⟩
  obtain ⟨t2, s1, s2⟩ := sto_m hl f0 hp
  rw [f1 39 (by omega)] at k2
  unfold q_Plan_addPut at q1
  unfold q_ChipMapModel_doPut at q2
  rw [k1, cal_s] at q1
  rw [s1, cal_s] at q2
  have go : q_Plan_addPut_24 M f v = some (M', x) → q_ChipMapModel_doPut_19 N f v = some (N', y) → PL A B M' N' := by
    intro q1 q2
    unfold q_Plan_addPut_24 at q1
    unfold q_ChipMapModel_doPut_19 at q2
    have q1 := ix_r q1
    rw [lq_s, f1 38 (by omega)] at q1
    obtain ⟨M1, r1, p1, q1⟩ := cal_o q1
    have q2 := ix_r q2
    rw [← lp.2.1] at q2
    obtain ⟨N1, s1, p2, q2⟩ := cal_o q2
    obtain ⟨h1, hc⟩ := reach_rel h hx ⟨lp.2.2.1, hr⟩ (by omega) p1 p2
    have hc' := up1 hc (by omega)
    have q1 := ix_r (ix_r q1)
    obtain ⟨M3, r3, p3, q1⟩ := cal_o q1
    obtain ⟨rfl, -⟩ := rs_e q1
    have q2 := ix_r (ix_r q2)
    have h1' := h1
    obtain ⟨f1', f2', -, hl', la', md', -⟩ := h1'
    have lp' := lf_p hl' hp
    rw [← lp'.2.1, st_e hl' la' md'.1 ⟨lp.2.2.1, hh _⟩, cal_s, wi_e hl' la' f0 hp, cal_s] at q2
    obtain ⟨N3, s3, p4, q2⟩ := cal_o q2
    obtain ⟨rfl, -⟩ := rs_e q2
    rw [f1' 42 (by omega), f1' 40 (by omega)] at p3
    exact (told_rel h1 hx.1 ⟨lp.2.2.1, hh _⟩ (by omega) (h1.n47 hx) p3 p4).1
  rcases k2 with ⟨rfl, nk⟩ | ⟨rfl, kk⟩
  · rcases s2 with ⟨rfl, -⟩ | ⟨rfl, kk⟩
    · rw [if_pos rfl] at q1 q2
      exact go q1 q2
    · exact absurd kk nk
  · rcases s2 with ⟨rfl, nk⟩ | ⟨rfl, -⟩
    · exact absurd kk nk
    · rw [if_neg (by decide : ¬ (1 : Int32) = 0)] at q1 q2
      have e1 : q_Mind_knownValue_1 M f = some (M, N.1 33 f.toNatClampNeg) := by
        rw [kve_1 (M := M) ⟨f0, by omega⟩ (by rw [f1 38 (by omega)]; exact ⟨lp.2.2.1, hh _⟩), ← kv_md hl la md.1 hp kk]
        unfold kvl
        rw [f1 38 (by omega), f1 42 (by omega), f1 40 (by omega)]
      rw [e1, cal_s] at q1
      have q2 := ix_r q2
      by_cases cv : N.1 33 f.toNatClampNeg = v
      · rw [if_pos cv] at q1 q2
        obtain ⟨rfl, -⟩ := rs_e q1
        obtain ⟨rfl, -⟩ := rs_e q2
        exact h
      · rw [if_neg cv] at q1 q2
        exact go q1 q2
end
section
-- the plan's writes, all of them
theorem RP.b {A : Mm} {rs vs : Nat → Int32} : ∀ (n : Nat) {fl : Int32} {wd : Nat → Int32}, RP A rs vs n fl wd → ∀ k, k < n → 0 ≤ (rs k).toInt ∧ (rs k).toInt ≤ 15 := by
  intro n
  induction n with
  | zero => intro fl wd h k hk; exact nlz hk
  | succ n ih =>
    intro fl wd h k hk
    obtain ⟨f0, w0, a1, a2, -⟩ := h
    by_cases c : k = n
    · rw [c]; exact a2
    · exact ih a1 k (by omega)
theorem dw_l {A B M N : Mm} (h : PL A B M N) (hu : ruI A) : ∀ (j n' : Nat) (C : Mm) (i : Int32), (M.1 60 2).toInt - i.toInt = (j : Int) → 0 ≤ i.toInt → (∀ p, p < 51 ∨ 60 ≤ p → C.1 p = M.1 p) → RP A (M.1 63) (M.1 64) i.toNatClampNeg (C.1 51 2) (C.1 52) → C.1 53 0 = A.1 53 0 + i → ∀ (M' : Mm) (x : Int32), q_ChipMap_doWrites_15 n' C i = some (M', x) → x = M.1 60 2 ∧ (∀ p, p < 51 ∨ 60 ≤ p → M'.1 p = M.1 p) ∧ M'.1 51 2 = M.1 61 2 ∧ (∀ q, q < 16 → M'.1 52 q = M.1 62 q) ∧ M'.1 53 0 = A.1 53 0 + M.1 60 2 := by
  obtain ⟨f1, f2, rp, -⟩ := h
  have t60 := tnc f2.1
  intro j
  induction j with
  | zero =>
    intro n' C i hj i0 g r e53 M' x q
    obtain ⟨n', rfl⟩ : ∃ m, n' = m + 1 := by
      cases n' with
      | zero => rw [q_ChipMap_doWrites_15] at q; cases q
      | succ m => exact ⟨m, rfl⟩
    have ei : i = M.1 60 2 := Int32.toInt_inj.mp (by omega)
    rw [q_ChipMap_doWrites_15, g 60 (by omega), if_pos (Int32.le_iff_toInt_le.mpr (by omega))] at q
    rw [ei] at r e53
    obtain ⟨rfl, rfl⟩ := rs_e q
    obtain ⟨u1, u2⟩ := RP.u _ r rp
    exact ⟨rfl, g, u1, u2, e53⟩
  | succ j ih =>
    intro n' C i hj i0 g r e53 M' x q
    obtain ⟨n', rfl⟩ : ∃ m, n' = m + 1 := by
      cases n' with
      | zero => rw [q_ChipMap_doWrites_15] at q; cases q
      | succ m => exact ⟨m, rfl⟩
    have tn := tnc i0
    have ez : (i + 1).toInt = i.toInt + 1 := iadd rfl (rfl : (1 : Int32).toInt = 1) (by omega) (by omega)
    have es : (i + 1).toNatClampNeg = i.toNatClampNeg + 1 := tnS (by omega)
    have c : ¬ M.1 60 2 ≤ i := fun z => by have := Int32.le_iff_toInt_le.mp z; omega
    rw [q_ChipMap_doWrites_15, g 60 (by omega), if_neg c] at q
    have q := ix_r (ix_r q)
    rw [g 63 (by omega), g 64 (by omega)] at q
    obtain ⟨C1, r1, p1, q⟩ := cal_o q
    have hr := RP.b _ rp i.toNatClampNeg (by omega)
    have huC : ruI C := hu.cg (fun p h1 h2 => by rw [g p (by omega)]; exact f1 p (by omega))
    obtain ⟨w1, w2, w3, w4⟩ := dw_i huC hr p1
    refine ih n' C1 (i + 1) (by omega) (by omega) (fun p hp => by rw [w1 p (by omega)]; exact g p hp) ?_ ?_ M' x q
    · rw [es]
      refine ⟨C.1 51 2, C.1 52, r, hr, fun q hq => ?_, fun b => ?_⟩
      · rw [w3, g 29 (by omega), f1 29 (by omega)]
      · rw [w4 b, g 43 (by omega), f1 43 (by omega), nbb_cg (A := A) (fun p h1 h2 => by rw [g p (by omega)]; exact f1 p (by omega))]
    · rw [w2, e53, Int32.add_assoc]
theorem dw_e {A B M N : Mm} (h : PL A B M N) (hu : ruI A) {M' : Mm} {x : Int32} (q : q_ChipMap_doWrites M = some (M', x)) : (M.1 60 5 ≠ 0 ∧ x = -2 ∧ M' = M) ∨ (M.1 60 5 = 0 ∧ x = M.1 60 2 ∧ (∀ p, p < 51 ∨ 60 ≤ p → M'.1 p = M.1 p) ∧ M'.1 51 2 = M.1 61 2 ∧ (∀ q, q < 16 → M'.1 52 q = M.1 62 q) ∧ M'.1 53 0 = A.1 53 0 + M.1 60 2) := by
  unfold q_ChipMap_doWrites at q
  have f1 := h.1
  have f2 := h.2.1
  have z0 : (0 : Int32).toInt = 0 := rfl
  have e0 : (0 : Int32).toNatClampNeg = 0 := rfl
  by_cases c : M.1 60 5 = 0
  · rw [if_pos c] at q
    exact Or.inr ⟨c, dw_l h hu (M.1 60 2).toInt.toNat 4000 M 0 (by omega) (by decide) (fun _ _ => rfl) (by rw [e0]; exact ⟨by rw [f1 51 (by omega)], fun q _ => by rw [f1 52 (by omega)]⟩) (by rw [f1 53 (by omega), Int32.add_zero]) M' x q⟩
  · rw [if_neg c] at q
    obtain ⟨rfl, rfl⟩ := rs_e q
    exact Or.inl ⟨c, rfl, rfl⟩
-- the reference's devices: copied, begun, ended
theorem ad26 {v w : Int32} (hv : 0 ≤ v.toInt ∧ v.toInt ≤ 1000) (hw : 0 ≤ w.toInt ∧ w.toInt ≤ 26) : ((26 * v) + w).toNatClampNeg = 26 * v.toNatClampNeg + w.toNatClampNeg := by
  have e1 := imul (a := 26) (b := v) (x := 26) (y := v.toInt) rfl rfl (by omega) (by omega)
  have e2 := iadd e1 (y := w.toInt) rfl (by omega) (by omega)
  have t1 := tnc hv.1
  have t2 := tnc hw.1
  have t3 := tnc (i := 26 * v + w) (by omega)
  omega
theorem ad12 {v w : Int32} (hv : 0 ≤ v.toInt ∧ v.toInt ≤ 1000) (hw : 0 ≤ w.toInt ∧ w.toInt ≤ 26) : ((12 * v) + w).toNatClampNeg = 12 * v.toNatClampNeg + w.toNatClampNeg := by
  have e1 := imul (a := 12) (b := v) (x := 12) (y := v.toInt) rfl rfl (by omega) (by omega)
  have e2 := iadd e1 (y := w.toInt) rfl (by omega) (by omega)
  have t1 := tnc hv.1
  have t2 := tnc hw.1
  have t3 := tnc (i := 12 * v + w) (by omega)
  omega
def CD (A N : Mm) (a b : Nat) : Prop := (∀ p, p < 33 ∨ 37 ≤ p → N.1 p = A.1 p) ∧ (∀ f, f < 26 → N.1 33 (26 * b + f) = A.1 33 (26 * a + f)) ∧ (∀ f, (f < 26 * b ∨ 26 * b + 26 ≤ f) → N.1 33 f = A.1 33 f) ∧ (∀ k, k < 12 → N.1 36 (12 * b + k) = vp_nar .boolean (A.1 36 (12 * a + k))) ∧ (∀ k, (k < 12 * b ∨ 12 * b + 12 ≤ k) → N.1 36 k = A.1 36 k)
section CDS
variable {a b : Int32}
theorem cd82_l (ha : 0 ≤ a.toInt ∧ a.toInt ≤ 2) (hb : 0 ≤ b.toInt ∧ b.toInt ≤ 2) (hab : a.toNatClampNeg ≠ b.toNatClampNeg) : ∀ (j n' : Nat) (A N : Mm) (i : Int32), 12 - i.toInt = (j : Int) → 0 ≤ i.toInt → (∀ p, p ≠ 36 → N.1 p = A.1 p) → (∀ k, k < i.toNatClampNeg → N.1 36 (12 * b.toNatClampNeg + k) = vp_nar .boolean (A.1 36 (12 * a.toNatClampNeg + k))) → (∀ k, (k < 12 * b.toNatClampNeg ∨ 12 * b.toNatClampNeg + i.toNatClampNeg ≤ k) → N.1 36 k = A.1 36 k) → ∀ (N' : Mm) (x : Int32), q_ChipMapModel_copyDevice_82 n' N a b i = some (N', x) → (∀ p, p ≠ 36 → N'.1 p = A.1 p) ∧ (∀ k, k < 12 → N'.1 36 (12 * b.toNatClampNeg + k) = vp_nar .boolean (A.1 36 (12 * a.toNatClampNeg + k))) ∧ (∀ k, (k < 12 * b.toNatClampNeg ∨ 12 * b.toNatClampNeg + 12 ≤ k) → N'.1 36 k = A.1 36 k) := by
  have e12 : (12 : Int32).toInt = 12 := rfl
  intro j
  induction j with
  | zero =>
    intro n' A N i hj i0 f g o N' x q
    obtain ⟨n', rfl⟩ : ∃ m, n' = m + 1 := by
      cases n' with
      | zero => rw [q_ChipMapModel_copyDevice_82] at q; cases q
      | succ m => exact ⟨m, rfl⟩
    have tn := tnc i0
    have c : (12 : Int32) ≤ i := Int32.le_iff_toInt_le.mpr (by omega)
    rw [q_ChipMapModel_copyDevice_82, if_pos c] at q
    obtain ⟨rfl, -⟩ := rs_e q
    exact ⟨f, fun k hk => g k (by omega), fun k hk => o k (by omega)⟩
  | succ j ih =>
    intro n' A N i hj i0 f g o N' x q
    obtain ⟨n', rfl⟩ : ∃ m, n' = m + 1 := by
      cases n' with
      | zero => rw [q_ChipMapModel_copyDevice_82] at q; cases q
      | succ m => exact ⟨m, rfl⟩
    have tn := tnc i0
    have ez : (i + 1).toInt = i.toInt + 1 := iadd rfl (rfl : (1 : Int32).toInt = 1) (by omega) (by omega)
    have es : (i + 1).toNatClampNeg = i.toNatClampNeg + 1 := tnS (by omega)
    have c : ¬ (12 : Int32) ≤ i := fun z => by have := Int32.le_iff_toInt_le.mp z; omega
    rw [q_ChipMapModel_copyDevice_82, if_neg c] at q
    have q := ix_r (ix_r q)
    rw [lq_s, ad12 (v := a) (by omega) (by omega), ad12 (v := b) (by omega) (by omega)] at q
    refine ih n' A _ (i + 1) (by omega) (by omega) (fun p hp => by rw [stI_ne _ _ hp]; exact f p hp) (fun k hk => ?_) (fun k hk => ?_) N' x q
    · rw [stI_at]
      by_cases ck : k = i.toNatClampNeg
      · rw [ck, updS, o _ (by omega)]
      · rw [updN (by omega)]
        exact g k (by omega)
    · rw [stI_at, updN (by omega)]
      exact o k (by omega)
theorem cd2_l (ha : 0 ≤ a.toInt ∧ a.toInt ≤ 2) (hb : 0 ≤ b.toInt ∧ b.toInt ≤ 2) (hab : a.toNatClampNeg ≠ b.toNatClampNeg) : ∀ (j n' : Nat) (A N : Mm) (i : Int32), 26 - i.toInt = (j : Int) → 0 ≤ i.toInt → (∀ p, p < 33 ∨ 36 ≤ p → N.1 p = A.1 p) → (∀ k, k < i.toNatClampNeg → N.1 33 (26 * b.toNatClampNeg + k) = A.1 33 (26 * a.toNatClampNeg + k)) → (∀ k, (k < 26 * b.toNatClampNeg ∨ 26 * b.toNatClampNeg + i.toNatClampNeg ≤ k) → N.1 33 k = A.1 33 k) → ∀ (N' : Mm) (x : Int32), q_ChipMapModel_copyDevice_2 n' N a b i = some (N', x) → CD A N' a.toNatClampNeg b.toNatClampNeg := by
  have e26 : (26 : Int32).toInt = 26 := rfl
  have e0 : (0 : Int32).toNatClampNeg = 0 := rfl
  intro j
  induction j with
  | zero =>
    intro n' A N i hj i0 f g o N' x q
    obtain ⟨n', rfl⟩ : ∃ m, n' = m + 1 := by
      cases n' with
      | zero => rw [q_ChipMapModel_copyDevice_2] at q; cases q
      | succ m => exact ⟨m, rfl⟩
    have tn := tnc i0
    have c : (26 : Int32) ≤ i := Int32.le_iff_toInt_le.mpr (by omega)
    rw [q_ChipMapModel_copyDevice_2, if_pos c] at q
    obtain ⟨a1, a2, a3⟩ := cd82_l ha hb hab 12 4000 N N 0 (by decide) (by decide) (fun _ _ => rfl) (fun k hk => nlz (by rw [e0] at hk; exact hk)) (fun _ _ => rfl) N' x q
    refine ⟨fun p hp => ?_, fun k hk => ?_, fun k hk => ?_, fun k hk => ?_, fun k hk => ?_⟩
    · rw [a1 p (by omega), f p (by omega)]
    · rw [a1 33 (by decide)]; exact g k (by omega)
    · rw [a1 33 (by decide)]; exact o k (by omega)
    · rw [a2 k hk, f 36 (by omega)]
    · rw [a3 k hk, f 36 (by omega)]
  | succ j ih =>
    intro n' A N i hj i0 f g o N' x q
    obtain ⟨n', rfl⟩ : ∃ m, n' = m + 1 := by
      cases n' with
      | zero => rw [q_ChipMapModel_copyDevice_2] at q; cases q
      | succ m => exact ⟨m, rfl⟩
    have tn := tnc i0
    have ez : (i + 1).toInt = i.toInt + 1 := iadd rfl (rfl : (1 : Int32).toInt = 1) (by omega) (by omega)
    have es : (i + 1).toNatClampNeg = i.toNatClampNeg + 1 := tnS (by omega)
    have c : ¬ (26 : Int32) ≤ i := fun z => by have := Int32.le_iff_toInt_le.mp z; omega
    rw [q_ChipMapModel_copyDevice_2, if_neg c] at q
    have q := ix_r (ix_r q)
    rw [lq_s] at q
    have q := ix_r (ix_r q)
    rw [lq_s] at q
    have q := ix_r (ix_r q)
    rw [lq_s, ad26 (v := a) (by omega) (by omega), ad26 (v := b) (by omega) (by omega)] at q
    refine ih n' A _ (i + 1) (by omega) (by omega) (fun p hp => by rw [stI_ne _ _ (by omega), stI_ne _ _ (by omega), stI_ne _ _ (by omega)]; exact f p hp) (fun k hk => ?_) (fun k hk => ?_) N' x q
    · rw [stI_ne _ _ (by decide), stI_ne _ _ (by decide), stI_at]
      by_cases ck : k = i.toNatClampNeg
      · rw [ck, updS]
        exact o _ (by omega)
      · rw [updN (by omega)]
        exact g k (by omega)
    · rw [stI_ne _ _ (by decide), stI_ne _ _ (by decide), stI_at, updN (by omega)]
      exact o k (by omega)
theorem cd_e (ha : 0 ≤ a.toInt ∧ a.toInt ≤ 2) (hb : 0 ≤ b.toInt ∧ b.toInt ≤ 2) (hab : a.toNatClampNeg ≠ b.toNatClampNeg) {A N' : Mm} {x : Int32} (q : q_ChipMapModel_copyDevice A a b = some (N', x)) : CD A N' a.toNatClampNeg b.toNatClampNeg := by
  have e0 : (0 : Int32).toNatClampNeg = 0 := rfl
  unfold q_ChipMapModel_copyDevice at q
  exact cd2_l ha hb hab 26 4000 A A 0 (by decide) (by decide) (fun _ _ => rfl) (fun k hk => nlz (by rw [e0] at hk; exact hk)) (fun _ _ => rfl) N' x q
end CDS
theorem cd01 {A N' : Mm} {x : Int32} (q : q_ChipMapModel_copyDevice A 0 1 = some (N', x)) : CD A N' 0 1 := cd_e (a := 0) (b := 1) (by decide) (by decide) (by decide) q
theorem cd10 {A N' : Mm} {x : Int32} (q : q_ChipMapModel_copyDevice A 1 0 = some (N', x)) : CD A N' 1 0 := cd_e (a := 1) (b := 0) (by decide) (by decide) (by decide) q
theorem cd02 {A N' : Mm} {x : Int32} (q : q_ChipMapModel_copyDevice A 0 2 = some (N', x)) : CD A N' 0 2 := cd_e (a := 0) (b := 2) (by decide) (by decide) (by decide) q
theorem cd20 {A N' : Mm} {x : Int32} (q : q_ChipMapModel_copyDevice A 2 0 = some (N', x)) : CD A N' 2 0 := cd_e (a := 2) (b := 0) (by decide) (by decide) (by decide) q
theorem b21_i : ∀ (n' : Nat) (A : Mm) (i : Int32) (N' : Mm) (x : Int32), q_ChipMapModel_begin_21 n' A i = some (N', x) → ∀ p, p < 48 → N'.1 p = A.1 p := by
  intro n'
  induction n' with
  | zero =>
    intro A i N' x q
    rw [q_ChipMapModel_begin_21] at q
    cases q
  | succ n' ih =>
    intro A i N' x q p hp
    rw [q_ChipMapModel_begin_21] at q
    by_cases c : 64 ≤ i
    · rw [if_pos c] at q
      obtain ⟨rfl, -⟩ := rs_e q
      rfl
    · rw [if_neg c] at q
      have q := ix_r (ix_r q)
      rw [lq_s] at q
      have q := ix_r (ix_r q)
      rw [lq_s] at q
      have q := ix_r (ix_r q)
      rw [lq_s] at q
      rw [ih _ _ N' x q p hp, stI_ne _ _ (by omega), stI_ne _ _ (by omega), stI_ne _ _ (by omega)]
theorem e33_i : ∀ (n' : Nat) (A : Mm) (i : Int32) (N' : Mm) (x : Int32), q_ChipMapModel_end_33 n' A i = some (N', x) → x = -2 ∧ ∀ p, p < 37 ∨ 40 ≤ p → N'.1 p = A.1 p := by
  intro n'
  induction n' with
  | zero =>
    intro A i N' x q
    rw [q_ChipMapModel_end_33] at q
    cases q
  | succ n' ih =>
    intro A i N' x q
    rw [q_ChipMapModel_end_33] at q
    by_cases c : 64 ≤ i
    · rw [if_pos c] at q
      obtain ⟨rfl, rfl⟩ := rs_e q
      exact ⟨rfl, fun _ _ => rfl⟩
    · rw [if_neg c] at q
      have q := ix_r (ix_r q)
      rw [lq_s] at q
      have q := ix_r (ix_r q)
      rw [lq_s] at q
      have q := ix_r (ix_r q)
      rw [lq_s] at q
      obtain ⟨z1, z2⟩ := ih _ _ N' x q
      exact ⟨z1, fun p hp => by rw [z2 p hp, stI_ne _ _ (by omega), stI_ne _ _ (by omega), stI_ne _ _ (by omega)]⟩
/-- what begin() leaves -/
def BG (A B : Mm) : Prop := (∀ p, p ≠ 0 → p < 33 ∨ (37 ≤ p ∧ p < 48) → B.1 p = A.1 p) ∧ (∀ j, j ≠ 55 → j ≠ 71 → B.1 0 j = A.1 0 j) ∧ B.1 0 55 = 0 ∧ B.1 0 71 = A.1 0 47 ∧ (∀ f, f < 26 → B.1 33 (26 + f) = A.1 33 f ∧ B.1 33 f = A.1 33 f) ∧ (∀ k, k < 12 → B.1 36 (12 + k) = vp_nar .boolean (A.1 36 k) ∧ B.1 36 k = A.1 36 k)
theorem beg_e {A B : Mm} {x : Int32} (q : q_ChipMapModel_begin A = some (B, x)) : BG A B := by
  unfold q_ChipMapModel_begin at q
  rw [lq_s] at q
  obtain ⟨N1, r1, p1, q⟩ := cal_o q
  rw [lq_s] at q
  have w := b21_i _ _ _ B x q
  obtain ⟨c1, c2, c3, c4, c5⟩ := cd01 p1
  refine ⟨fun p h0 hp => ?_, fun j h1 h2 => ?_, ?_, ?_, fun f hf => ⟨?_, ?_⟩, fun k hk => ⟨?_, ?_⟩⟩
  · rw [w p (by omega), stI_ne _ _ h0, c1 p (by omega), stI_ne _ _ h0]
  · rw [w 0 (by decide), stI_at, updN h2, c1 0 (by decide), stI_at, updN h1]
  · rw [w 0 (by decide), stI_at, updN (by decide), c1 0 (by decide), stI_at, updS]
  · rw [w 0 (by decide), stI_at, updS, c1 0 (by decide), stI_at, updN (by decide)]
  · have z := c2 f hf
    rw [show 26 * 1 + f = 26 + f by omega, show 26 * 0 + f = f by omega] at z
    rw [w 33 (by decide), stI_ne _ _ (by decide), z, stI_ne _ _ (by decide)]
  · rw [w 33 (by decide), stI_ne _ _ (by decide), c3 f (by omega), stI_ne _ _ (by decide)]
  · have z := c4 k hk
    rw [show 12 * 1 + k = 12 + k by omega, show 12 * 0 + k = k by omega] at z
    rw [w 36 (by decide), stI_ne _ _ (by decide), z, stI_ne _ _ (by decide)]
  · rw [w 36 (by decide), stI_ne _ _ (by decide), c5 k (by omega), stI_ne _ _ (by decide)]
theorem end_0 {N N' : Mm} {x : Int32} (h : N.1 0 55 = 0) (q : q_ChipMapModel_end N = some (N', x)) : N' = N ∧ x = N.1 0 47 - N.1 0 71 := by
  unfold q_ChipMapModel_end at q
  rw [if_pos h] at q
  obtain ⟨rfl, rfl⟩ := rs_e q
  exact ⟨rfl, rfl⟩
theorem end_1 {N N' : Mm} {x : Int32} (h : N.1 0 55 ≠ 0) (q : q_ChipMapModel_end N = some (N', x)) : x = -2 ∧ (∀ p, p ≠ 0 → p < 33 ∨ 40 ≤ p → N'.1 p = N.1 p) ∧ (∀ j, j ≠ 47 → N'.1 0 j = N.1 0 j) ∧ N'.1 0 47 = N.1 0 71 ∧ (∀ f, f < 26 → N'.1 33 f = N.1 33 (26 + f)) ∧ (∀ k, k < 12 → N'.1 36 k = vp_nar .boolean (N.1 36 (12 + k))) := by
  unfold q_ChipMapModel_end at q
  rw [if_neg h] at q
  obtain ⟨N1, r1, p1, q⟩ := cal_o q
  rw [lq_s] at q
  obtain ⟨w0, w⟩ := e33_i _ _ _ N' x q
  obtain ⟨c1, c2, c3, c4, c5⟩ := cd10 p1
  refine ⟨w0, fun p h0 hp => ?_, fun j hj => ?_, ?_, fun f hf => ?_, fun k hk => ?_⟩
  · rw [w p (by omega), stI_ne _ _ h0, c1 p (by omega)]
  · rw [w 0 (by decide), stI_at, updN hj, c1 0 (by decide)]
  · rw [w 0 (by decide), stI_at, updS, c1 0 (by decide)]
  · have z := c2 f hf
    rw [show 26 * 0 + f = f by omega, show 26 * 1 + f = 26 + f by omega] at z
    rw [w 33 (by decide), stI_ne _ _ (by decide), z]
  · have z := c4 k hk
    rw [show 12 * 0 + k = k by omega, show 12 * 1 + k = 12 + k by omega] at z
    rw [w 36 (by decide), stI_ne _ _ (by decide), z]
end
section
-- one doing of the driver, from its beginning to its end
theorem MD.w {A N : Mm} {fl : Int32} {wd wd' : Nat → Int32} (hl : LF A N) (la : LA A N) (h : MD A fl wd N) (e : ∀ q, q < 16 → wd' q = wd q) : MD A fl wd' N := by
  refine ⟨⟨fun f hp hk => ?_, fun r hr b hb => ?_⟩, h.2⟩
  · obtain ⟨m1, m2⟩ := h.1.1 f hp hk
    have l5 := (la.1 f hp).2.2.2.2
    have t38 := tnc (lf_p hl hp).2.2.1
    refine ⟨m1, fun b hb => ?_⟩
    rw [e _ (by omega)]
    exact m2 b hb
  · rw [e r hr] at hb
    exact h.1.2 r hr b hb
theorem pb_e {A M : Mm} {x : Int32} (q : q_Plan_begin A = some (M, x)) : (∀ p, p < 60 ∨ 65 ≤ p → M.1 p = A.1 p) ∧ M.1 60 2 = 0 ∧ M.1 60 5 = 0 ∧ M.1 61 2 = A.1 51 2 ∧ ∀ k, k < 16 → M.1 62 k = A.1 52 k := by
  unfold q_Plan_begin q_Mind_copy q_Plan_beginHere at q
  have cpo : cp_ok 0 0 16 16 16 := by unfold cp_ok; decide
  have cpe : ∀ k : Rs, cpk 0 0 16 16 16 k = k := fun k => by
    unfold cpk
    unfold cp_ok at cpo
    rw [if_pos cpo]
  rw [cpe, lq_s] at q
  obtain ⟨M1, e1⟩ : ∃ z, z = stI A 62 (va_cpy (A.1 52) (A.1 62) (0 : Int32).toNatClampNeg (0 : Int32).toNatClampNeg (16 : Int32).toNatClampNeg) := ⟨_, rfl⟩
  rw [← e1, lq_s] at q
  obtain ⟨M2, e2⟩ : ∃ z, z = stI M1 61 (upd (M1.1 61) 2 (M1.1 51 2)) := ⟨_, rfl⟩
  rw [← e2, cal_s, lq_s] at q
  obtain ⟨M3, e3⟩ : ∃ z, z = stI M2 60 (upd (M2.1 60) 2 0) := ⟨_, rfl⟩
  rw [← e3, lq_s, cal_s] at q
  obtain ⟨e4, -⟩ := rs_e q
  refine ⟨fun p hp => ?_, ?_, ?_, ?_, fun k hk => ?_⟩
  · rw [← e4, stI_ne _ _ (by omega), e3, stI_ne _ _ (by omega), e2, stI_ne _ _ (by omega), e1, stI_ne _ _ (by omega)]
  · rw [← e4, stI_at, updN (by decide), e3, stI_at, updS]
  · rw [← e4, stI_at, updS]
  · rw [← e4, stI_ne _ _ (by decide), e3, stI_ne _ _ (by decide), e2, stI_at, updS, e1, stI_ne _ _ (by decide)]
  · rw [← e4, stI_ne _ _ (by decide), e3, stI_ne _ _ (by decide), e2, stI_ne _ _ (by decide), e1, stI_at]
    show (if (0 : Nat) ≤ k ∧ k < 0 + 16 then A.1 52 (0 + (k - 0)) else A.1 62 k) = A.1 52 k
    rw [if_pos (by omega), Nat.sub_zero, Nat.zero_add]
/-- what is begun is a plan of no writes -/
theorem pl_0 {A N B M : Mm} (hl : LF A N) (la : LA A N) (md : MD A (A.1 51 2) (A.1 52) N) (hb : BG N B) (h12 : (A.1 43 0).toInt ≤ 12) (h1 : ∀ p, p < 60 ∨ 65 ≤ p → M.1 p = A.1 p) (h2 : M.1 60 2 = 0) (h3 : M.1 60 5 = 0) (h4 : M.1 61 2 = A.1 51 2) (h5 : ∀ k, k < 16 → M.1 62 k = A.1 52 k) : PL A B M B := by
  obtain ⟨b1, b2', b3, b4, b5, b6⟩ := hb
  have hlB : LF A B := hl.n (fun p g1 g2 => b1 p (by omega) (by omega))
  have laB : LA A B := la.n (fun p g1 g2 => b1 p (by omega) (by omega)) (fun j hj => b2' j (by omega) (by omega))
  have mdB : MD A (A.1 51 2) (A.1 52) B := ⟨md.1.k (fun f hp _ => (b5 f hp.1).2), fun k hk => by rw [(b6 k (by omega)).2]; exact md.2 k hk⟩
  have e0 : (0 : Int32).toNatClampNeg = 0 := rfl
  have z0 : (0 : Int32).toInt = 0 := rfl
  refine ⟨h1, by rw [h2]; decide, ?_, hlB, laB, ?_, Or.inl ⟨h3, b3⟩, rfl, ?_, fun _ _ _ => rfl, fun _ _ _ _ _ => rfl, fun _ _ => rfl, fun _ _ => rfl⟩
  · rw [h2, e0]
    exact ⟨h4, h5⟩
  · rw [h4]
    exact mdB.w hlB laB h5
  · rw [h2, Int32.mul_zero, Int32.add_zero]
/-- the writes of the plan are done, the reference goes on -/
theorem pl_done {A N B M N1 M' : Mm} (h : RD A N) (hb : BG N B) (pl : PL A B M N1) (hM : (∀ p, p < 51 ∨ 60 ≤ p → M'.1 p = M.1 p) ∧ M'.1 51 2 = M.1 61 2 ∧ (∀ q, q < 16 → M'.1 52 q = M.1 62 q) ∧ M'.1 53 0 = A.1 53 0 + M.1 60 2) : RD M' N1 ∧ kX A M' := by
  obtain ⟨hl, la, md, e47, e48, e58, jn, sp⟩ := h
  obtain ⟨b1, b2', b3, b4, b5, b6⟩ := hb
  obtain ⟨f1, f2, rp, hl1, la1, md1, rf, g58, g47, g1, g2, g3, g4⟩ := pl
  obtain ⟨m1, m2, m3, m4⟩ := hM
  have mA : ∀ p, p < 51 ∨ 65 ≤ p → M'.1 p = A.1 p := fun p hp => by rw [m1 p (by omega), f1 p (by omega)]
  have kx : kX A M' := fun p hp => mA p (by omega)
  have ky : kY N1 N1 := kY.rf N1
  refine ⟨⟨hl1.kp kx ky, la1.cg kx ky, ?_, ?_, ?_, ?_, ?_, ?_⟩, kx⟩
  · rw [m2]
    exact (md1.w hl1 la1 m3).x kx
  · have ed : dz B = 1 := if_pos (by rw [b2' 58 (by decide) (by decide)]; exact e58)
    rw [m4, g47, ed, Int32.one_mul, b2' 47 (by decide) (by decide), e47]
  · rw [mA 50 (by omega), g2 48 (by decide) (by decide) (by decide) (by decide), b2' 48 (by decide) (by decide)]
    exact e48
  · rw [g58, b2' 58 (by decide) (by decide)]
    exact e58
  · refine jn.cg (mA 65 (by omega)) (mA 67 (by omega)) (mA 68 (by omega)) ?_ ?_ ?_
    · rw [g2 52 (by decide) (by decide) (by decide) (by decide), b2' 52 (by decide) (by decide)]
    · rw [g1 40 (by decide) (by omega), b1 40 (by decide) (by omega)]
    · rw [g1 41 (by decide) (by omega), b1 41 (by decide) (by omega)]
  · refine sp.cg (mA 69 (by omega)) (mA 70 (by omega)) (mA 71 (by omega)) (mA 72 (by omega)) ?_ ?_ ?_ ?_
    · rw [g2 59 (by decide) (by decide) (by decide) (by decide), b2' 59 (by decide) (by decide)]
    · rw [g1 42 (by decide) (by omega), b1 42 (by decide) (by omega)]
    · rw [g1 43 (by decide) (by omega), b1 43 (by decide) (by omega)]
    · rw [g1 44 (by decide) (by omega), b1 44 (by decide) (by omega)]
/-- it is refused: both sides are as they were -/
theorem pl_ref {A N B M N1 N' : Mm} {y : Int32} (h : RD A N) (h12 : (A.1 43 0).toInt ≤ 12) (hb : BG N B) (pl : PL A B M N1) (n55 : N1.1 0 55 ≠ 0) (q2 : q_ChipMapModel_end N1 = some (N', y)) : y = -2 ∧ RD M N' := by
  obtain ⟨hl, la, md, e47, e48, e58, jn, sp⟩ := h
  obtain ⟨b1, b2', b3, b4, b5, b6⟩ := hb
  obtain ⟨f1, f2, rp, hl1, la1, md1, rf, g58, g47, g1, g2, g3, g4⟩ := pl
  obtain ⟨y0, y1, y2, y3, y4, y5⟩ := end_1 n55 q2
  have kx : kX A M := fun p hp => f1 p (by omega)
  have ny : ∀ p, p ≠ 0 → p < 33 ∨ (40 ≤ p ∧ p < 48) → N'.1 p = N.1 p := fun p h0 hp => by rw [y1 p h0 (by omega), g1 p h0 (by omega), b1 p h0 (by omega)]
  have ns : ∀ j, j ≠ 47 → j ≠ 55 → j ≠ 56 → j ≠ 57 → j ≠ 71 → N'.1 0 j = N.1 0 j := fun j j1 j2 j3 j4 j5 => by rw [y2 j j1, g2 j j1 j2 j3 j4, b2' j j2 j5]
  have ky : kY N N' := ⟨fun p h0 hp => ny p h0 (by omega), fun j h0 hj => ns j (by omega) (by omega) (by omega) (by omega) (by omega)⟩
  refine ⟨y0, hl.kp kx ky, la.cg kx ky, ?_, ?_, ?_, ?_, ?_, ?_⟩
  · rw [f1 51 (by omega), f1 52 (by omega)]
    have z : MD A (A.1 51 2) (A.1 52) N' := by
      refine ⟨md.1.k (fun f hp _ => ?_), fun k hk => ?_⟩
      · rw [y4 f hp.1, g3 _ (by omega), (b5 f hp.1).1]
      · rw [y5 k (by omega), g4 _ (by omega), (b6 k (by omega)).1, md.2 k hk]
        cases tb (A.1 51 2) k <;> rfl
    exact z.x kx
  · rw [f1 53 (by omega), y3, g2 71 (by decide) (by decide) (by decide) (by decide), b4]
    exact e47
  · rw [f1 50 (by omega), ns 48 (by decide) (by decide) (by decide) (by decide) (by decide)]
    exact e48
  · rw [ns 58 (by decide) (by decide) (by decide) (by decide) (by decide)]
    exact e58
  · exact jn.cg (f1 65 (by omega)) (f1 67 (by omega)) (f1 68 (by omega)) (ns 52 (by decide) (by decide) (by decide) (by decide) (by decide)) (ny 40 (by decide) (by omega)) (ny 41 (by decide) (by omega))
  · exact sp.cg (f1 69 (by omega)) (f1 70 (by omega)) (f1 71 (by omega)) (f1 72 (by omega)) (ns 59 (by decide) (by decide) (by decide) (by decide) (by decide)) (ny 42 (by decide) (by omega)) (ny 43 (by decide) (by omega)) (ny 44 (by decide) (by omega))
/-- the end of what is all writes -/
theorem pl_end {A N B M N1 M' N' : Mm} {x y : Int32} (h : RD A N) (hu : ruI A) (hb : BG N B) (pl : PL A B M N1) (q1 : q_ChipMap_doWrites M = some (M', x)) (q2 : q_ChipMapModel_end N1 = some (N', y)) : x = y ∧ RD M' N' ∧ kX A M' := by
  have f1 := pl.1
  have f2 := pl.2.1
  have rf := pl.2.2.2.2.2.2.1
  rcases dw_e pl hu q1 with ⟨c, rfl, rfl⟩ | ⟨c, rfl, hM⟩
  · have n55 : N1.1 0 55 ≠ 0 := by
      rcases rf with ⟨z, -⟩ | ⟨-, z⟩
      · exact absurd z c
      · exact z
    obtain ⟨y0, r⟩ := pl_ref h hu.1.2 hb pl n55 q2
    exact ⟨y0.symm, r, fun p hp => f1 p (by omega)⟩
  · have n55 : N1.1 0 55 = 0 := by
      rcases rf with ⟨-, z⟩ | ⟨z, -⟩
      · exact z
      · exact absurd c z
    obtain ⟨rfl, rfl⟩ := end_0 n55 q2
    obtain ⟨r, kx⟩ := pl_done h hb pl hM
    refine ⟨?_, r, kx⟩
    obtain ⟨-, -, -, -, -, -, -, -, g47, -, g2, -, -⟩ := pl
    have ed : dz B = 1 := if_pos (by rw [hb.2.1 58 (by decide) (by decide)]; exact h.2.2.2.2.2.1)
    rw [g47, g2 71 (by decide) (by decide) (by decide) (by decide), hb.2.2.2.1, hb.2.1 47 (by decide) (by decide), ed, Int32.one_mul, Int32.add_comm, Int32.add_sub_cancel]
theorem PX.of {G : Gx} {K : Int} {A N B : Mm} (hI : IX G K A) (hK : K ≤ 2000000000) (h : RD A N) (hb : BG N B) : PX A B := by
  have hlg := hI.log
  refine ⟨hI.ru, hI.hh, hI.r16, ?_⟩
  rw [hb.2.1 47 (by decide) (by decide), ← h.2.2.2.1]
  omega
theorem RD.s0 {M N : Mm} (h : RD M N) {j : Nat} (x : Int32) (hj : j ≠ 28 ∧ j ≠ 38 ∧ j ≠ 47 ∧ j ≠ 48 ∧ j ≠ 52 ∧ j ≠ 58 ∧ j ≠ 59) : RD M (stI N 0 (upd (N.1 0) j x)) := by
  obtain ⟨hl, la, md, e47, e48, e58, jn, sp⟩ := h
  have np : ∀ p, p ≠ 0 → (stI N 0 (upd (N.1 0) j x)).1 p = N.1 p := fun p hp => stI_ne _ _ hp
  have ns : ∀ i, i ≠ j → (stI N 0 (upd (N.1 0) j x)).1 0 i = N.1 0 i := fun i hi => by rw [stI_at, updN hi]
  exact ⟨hl.n (fun p h1 h2 => np p (by omega)), la.n (fun p h1 h2 => np p (by omega)) (fun i hi => ns i (by omega)), md.n (np 33 (by decide)) (np 36 (by decide)), by rw [ns 47 (by omega)]; exact e47, by rw [ns 48 (by omega)]; exact e48, by rw [ns 58 (by omega)]; exact e58, jn.cg rfl rfl rfl (ns 52 (by omega)) (np 40 (by decide)) (np 41 (by decide)), sp.cg rfl rfl rfl rfl (ns 59 (by omega)) (np 42 (by decide)) (np 43 (by decide)) (np 44 (by decide))⟩
/-- there is such a field, by the answer of both sides -/
theorem pf_put {M : Mm} {a v : Int32} (h : q_Layout_canPut M a v = some (M, 1)) : 0 ≤ a.toInt ∧ pf M a.toNatClampNeg ∧ M.1 39 a.toNatClampNeg ≠ 1 ∧ M.1 39 a.toNatClampNeg ≠ 3 ∧ v >>> (M.1 41 a.toNatClampNeg &&& 31) = 0 := by
  have z26 : (26 : Int32).toInt = 26 := rfl
  have z0 : (0 : Int32).toInt = 0 := rfl
  unfold q_Layout_canPut q_Layout_has at h
  by_cases c0 : a < 0
  · rw [if_pos c0, cal_s, if_pos rfl] at h
    exact absurd (rs_e h).2 (by decide)
  rw [if_neg c0] at h
  by_cases c26 : 26 ≤ a
  · rw [if_pos c26, cal_s, if_pos rfl] at h
    exact absurd (rs_e h).2 (by decide)
  rw [if_neg c26] at h
  have a0 : 0 ≤ a.toInt := by
    by_cases c : 0 ≤ a.toInt
    · exact c
    · exact absurd (Int32.lt_iff_toInt_lt.mpr (by omega)) c0
  have a1 : a.toInt < 26 := by
    by_cases c : 26 ≤ a.toInt
    · exact absurd (Int32.le_iff_toInt_le.mpr (by omega)) c26
    · omega
  have t := tnc a0
  have k : vp_in a 26 := vI (by omega)
  rw [ix_e k] at h
  by_cases c1 : M.1 38 a.toNatClampNeg = -1
  · rw [if_pos c1, cal_s, if_pos rfl] at h
    exact absurd (rs_e h).2 (by decide)
  rw [if_neg c1, cal_s, if_neg (by decide : ¬ (1 : Int32) = 0), ix_e k] at h
  by_cases d1 : M.1 39 a.toNatClampNeg = 1
  · rw [if_pos d1] at h
    exact absurd (rs_e h).2 (by decide)
  rw [if_neg d1, ix_e k] at h
  by_cases d3 : M.1 39 a.toNatClampNeg = 3
  · rw [if_pos d3] at h
    exact absurd (rs_e h).2 (by decide)
  rw [if_neg d3] at h
  unfold q_Layout_fits at h
  rw [ix_e k] at h
  by_cases cf : v >>> (M.1 41 a.toNatClampNeg &&& 31) = 0
  · exact ⟨a0, ⟨by omega, c1⟩, d1, d3, cf⟩
  · rw [if_neg cf, cal_s, if_pos rfl] at h
    exact absurd (rs_e h).2 (by decide)
theorem IX.hr {G : Gx} {K : Int} {M : Mm} (hI : IX G K M) (f : Nat) : (M.1 38 f).toInt < (M.1 24 0).toInt := by
  have r1 := hI.hmR f
  rw [hI.hmE, hI.rgE]
  exact r1.2
theorem put_rd {G : Gx} {K : Int} {M N : Mm} (hI : IX G K M) (hK : K ≤ 2000000000) (rq : RQ M N) (h : RD M N) {a1 a2 : Int32} {M' N' : Mm} {r1 r2 : Int32} (q1 : q_ChipMap_put M a1 a2 = some (M', r1)) (q2 : q_ChipMapModel_put N a1 a2 = some (N', r2)) : r1 = r2 ∧ RD M' N' := by
  have jc := hI.jc
  have z0 : (0 : Int32).toInt = 0 := rfl
  unfold q_ChipMap_put at q1
  unfold q_ChipMapModel_put at q2
  rw [lq_s] at q2
  have h1 := h.n1
  have rq1 := rq.n1
  generalize stI N 0 (upd (N.1 0) 0 0) = N1 at q2 h1 rq1
  obtain ⟨t, x, y, ht⟩ := put_eq hI rq1 h1.1 a1 a2
  rw [x, cal_s] at q1
  rw [y, cal_s] at q2
  rcases ht with rfl | rfl
  · rw [if_pos rfl] at q1 q2
    obtain ⟨rfl, rfl⟩ := rs_e q1
    obtain ⟨rfl, rfl⟩ := rs_e q2
    exact ⟨rfl, h1⟩
  rw [if_neg (by decide : ¬ (1 : Int32) = 0)] at q1 q2
  have jn := h1.2.2.2.2.2.2.1.1
  rw [← jn] at q2
  by_cases cj : M.1 65 0 ≤ 0
  · rw [if_pos cj] at q1 q2
    obtain ⟨M3, s3, p3, q1⟩ := cal_o q1
    obtain ⟨M5, s5, p5, q1⟩ := cal_o q1
    obtain ⟨M7, s7, p7, q1⟩ := cal_o q1
    obtain ⟨rfl, rfl⟩ := rs_e q1
    obtain ⟨B, t3, u3, q2⟩ := cal_o q2
    obtain ⟨N5, t5, u5, q2⟩ := cal_o q2
    obtain ⟨N7, t7, u7, q2⟩ := cal_o q2
    obtain ⟨rfl, rfl⟩ := rs_e q2
    have hb := beg_e u3
    obtain ⟨g1, g2, g3, g4, g5⟩ := pb_e p3
    have px := PX.of hI hK h1 hb
    have pl := pl_0 h1.1 h1.2.1 h1.2.2.1 hb px.1.1.2 g1 g2 g3 g4 g5
    obtain ⟨a0, hp, -, -, -⟩ := pf_put x
    have pl2 := put_pl pl px a0 hp (hI.hr _) (by rw [g2]; decide) p5 u5
    obtain ⟨e, r, -⟩ := pl_end h1 px.1 hb pl2 p7 u7
    exact ⟨e, r⟩
  · rw [if_neg cj] at q1 q2
    obtain ⟨rfl, rfl⟩ := rs_e q1
    obtain ⟨rfl, rfl⟩ := rs_e q2
    exact ⟨rfl, h1⟩
end
