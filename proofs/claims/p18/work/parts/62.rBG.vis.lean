section
-- the class's visit of a situation, and its whole search
def Vm (C M : Mm) : Prop := (∀ r, r < 16 → ∀ b, tb (M.1 62 r) b = true → tb (C.1 29 r) b = true) ∧ ∀ b, (C.1 43 0).toNatClampNeg ≤ b → tb (M.1 61 2) b = false
def QV (C M0 M : Mm) : Prop := (∀ p, p < 60 ∨ 65 ≤ p → M.1 p = M0.1 p) ∧ Vm C M
theorem told_v {C M0 M M' : Mm} (hw : PW C) (e : ∀ p, 24 ≤ p → p < 50 → M0.1 p = C.1 p) (h : QV C M0 M) {r mk val x : Int32} (hr : 0 ≤ r.toInt ∧ r.toInt ≤ 15) (q : q_Plan_addTold M r mk val = some (M', x)) : QV C M0 M' := by
  have eM : ∀ p, 24 ≤ p → p < 50 → M.1 p = C.1 p := fun p h1 h2 => by rw [h.1 p (by omega)]; exact e p h1 h2
  rcases told_i (hw.1.cg (fun p h1 h2 => eM p (by omega) (by omega))) hr q with ⟨-, rfl⟩ | ⟨-, -, w, m, -, -, fp, hm⟩
  · exact h
  · have f : ∀ p, p < 60 ∨ 65 ≤ p → M'.1 p = M0.1 p := fun p hp => by rw [fp p hp]; exact h.1 p hp
    rcases hm with ⟨-, -, -, a3, a4⟩ | ⟨-, -, -, a3, a4⟩
    · refine ⟨f, ?_, ?_⟩
      · rw [a4]; exact h.2.1
      · rw [a3]; exact h.2.2
    · refine ⟨f, fun q hq b hb => ?_, fun b hb => ?_⟩
      · rw [a4, eM 29 (by decide) (by decide)] at hb
        by_cases cq : q = r.toNatClampNeg
        · rw [cq, updS, tb_and, Bool.and_eq_true] at hb
          rw [cq]
          exact hb.2
        · rw [updN cq] at hb
          exact h.2.1 q hq b hb
      · rw [a3 b, if_neg (by rw [eM 43 (by decide) (by decide)]; omega)]
        exact h.2.2 b hb
theorem reach_v {C M0 M M' : Mm} (hw : PW C) (e : ∀ p, 24 ≤ p → p < 50 → M0.1 p = C.1 p) (h : QV C M0 M) {r x : Int32} (hr : 0 ≤ r.toInt ∧ r.toInt < (C.1 24 0).toInt) (q : q_Plan_addReach M r = some (M', x)) : QV C M0 M' := by
  have eM : ∀ p, 24 ≤ p → p < 50 → M.1 p = C.1 p := fun p h1 h2 => by rw [h.1 p (by omega)]; exact e p h1 h2
  have t := tnc hr.1
  have h16 := hw.2.2.1
  unfold q_Plan_addReach at q
  have hb : C.1 26 r.toNatClampNeg ≠ -1 → (0 ≤ (C.1 26 r.toNatClampNeg).toInt ∧ (C.1 26 r.toNatClampNeg).toInt ≤ 25) ∧ (0 ≤ (C.1 38 (C.1 26 r.toNatClampNeg).toNatClampNeg).toInt ∧ (C.1 38 (C.1 26 r.toNatClampNeg).toNatClampNeg).toInt ≤ 15) := fun c => by
    have z := hw.2.2.2 r.toNatClampNeg (by omega) c
    exact ⟨z.1, z.2, hw.2.1 _⟩
  rw [th_1 (M := M) ⟨hr.1, by omega⟩ (by rw [eM 26 (by decide) (by decide), eM 38 (by decide) (by decide)]; exact hb), cal_s] at q
  by_cases z : b2 (thb M (M.1 62) r) = 0
  · rw [if_pos z] at q
    have c : C.1 26 r.toNatClampNeg ≠ -1 := by
      intro c
      rw [b2_0] at z
      unfold thb at z
      rw [eM 26 (by decide) (by decide), decide_eq_true c, Bool.true_or] at z
      cases z
    have q := ix_r q
    rw [lq_s] at q
    have q := ix_r (ix_r (ix_r (ix_r q)))
    obtain ⟨A1, s1, p1, q⟩ := cal_o q
    obtain ⟨rfl, -⟩ := rs_e q
    exact told_v hw e h (by rw [eM 38 (by decide) (by decide), eM 26 (by decide) (by decide)]; exact (hb c).2) p1
  · rw [if_neg z] at q
    obtain ⟨rfl, -⟩ := rs_e q
    exact h
theorem put_v {C M0 M M' : Mm} (hw : PW C) (e : ∀ p, 24 ≤ p → p < 50 → M0.1 p = C.1 p) (h : QV C M0 M) {f v x : Int32} (hf : 0 ≤ f.toInt ∧ f.toInt ≤ 25) (hh : 0 ≤ (C.1 38 f.toNatClampNeg).toInt ∧ (C.1 38 f.toNatClampNeg).toInt < (C.1 24 0).toInt) (q : q_Plan_addPut M f v = some (M', x)) : QV C M0 M' := by
  have eM : ∀ p, 24 ≤ p → p < 50 → M.1 p = C.1 p := fun p h1 h2 => by rw [h.1 p (by omega)]; exact e p h1 h2
  have h16 := hw.2.2.1
  have go : q_Plan_addPut_24 M f v = some (M', x) → QV C M0 M' := by
    intro q
    unfold q_Plan_addPut_24 at q
    have q := ix_r q
    rw [lq_s, eM 38 (by decide) (by decide)] at q
    obtain ⟨A1, s1, p1, q⟩ := cal_o q
    have h1 := reach_v hw e h hh p1
    have q := ix_r (ix_r q)
    obtain ⟨A3, s3, p3, q⟩ := cal_o q
    obtain ⟨rfl, -⟩ := rs_e q
    exact told_v hw e h1 (by omega) p3
  unfold q_Plan_addPut at q
  obtain ⟨t1, k1, k2⟩ := kn_e (M := M) f hf
  rw [k1, cal_s] at q
  rcases k2 with ⟨rfl, nk⟩ | ⟨rfl, kk⟩
  · rw [if_pos rfl] at q
    exact go q
  · rw [if_neg (by decide : ¬ (1 : Int32) = 0), kve_1 (M := M) hf (by rw [eM 38 (by decide) (by decide)]; omega), cal_s] at q
    by_cases cv : kvl M (M.1 62) f = v
    · rw [if_pos cv] at q
      obtain ⟨rfl, -⟩ := rs_e q
      exact h
    · rw [if_neg cv] at q
      exact go q
theorem fet_v {C M0 M M' : Mm} (hw : PW C) (e : ∀ p, 24 ≤ p → p < 50 → M0.1 p = C.1 p) (h : QV C M0 M) {f x : Int32} (hh : 0 ≤ (C.1 38 f.toNatClampNeg).toInt ∧ (C.1 38 f.toNatClampNeg).toInt < (C.1 24 0).toInt) (q : q_Plan_addFetch M f = some (M', x)) : QV C M0 M' := by
  have eM : ∀ p, 24 ≤ p → p < 50 → M.1 p = C.1 p := fun p h1 h2 => by rw [h.1 p (by omega)]; exact e p h1 h2
  unfold q_Plan_addFetch at q
  have q := ix_r q
  rw [eM 38 (by decide) (by decide)] at q
  by_cases c : M.1 39 f.toNatClampNeg = 0
  · rw [if_pos c] at q
    obtain ⟨rfl, -⟩ := rs_e q
    exact h
  · rw [if_neg c] at q
    have q := ix_r q
    obtain ⟨A1, s1, p1, q⟩ := cal_o q
    obtain ⟨rfl, -⟩ := rs_e q
    exact reach_v hw e h hh p1
theorem HT.k2 {A M : Mm} (h : HT A) (e1 : M.1 73 6 = A.1 73 6) (e2 : M.1 76 = A.1 76) (e3 : M.2 74 = A.2 74) : HT M := by
  unfold HT nzS rwK
  rw [e1, e2, e3]
  exact h
theorem CS.k {C : Mm} {S : Nat → Sit} {A M : Mm} (h : CS C S A) (hp : ∀ p, p < 60 ∨ (65 ≤ p ∧ p ≤ 72) → M.1 p = A.1 p) (e6 : M.1 73 6 = A.1 73 6) (e7 : M.1 73 7 = A.1 73 7) (e2 : M.1 76 = A.1 76) (e3 : M.2 74 = A.2 74) : CS C S M := by
  obtain ⟨h1, h2, h3, h4, h5⟩ := h
  have er : ∀ j, rwK M j = rwK A j := fun j => by unfold rwK; rw [e3]
  refine ⟨fun p q => by rw [hp p q]; exact h1 p q, h2.k2 e6 e2 e3, ?_, ?_, ?_⟩
  · rw [e6]
    intro j hj
    rw [er]
    exact h3 j hj
  · rw [e6]; exact h4
  · rw [e6, e7]; exact h5
/-- the plan's run at a situation is the situation's own -/
theorem PS.d {C : Mm} (hc : CX C) {a : Nat} (ha : (a : Int) < (C.1 69 0).toInt) {fl : Int32} {wd : Nat → Int32} {M1 M1' M2 M2' : Mm} (h1 : PM C fl wd M1) (h2 : PM C fl wd M2) (p1 : PS C a M1 M1') (p2 : PS C a M2 M2') : M1'.1 60 5 = M2'.1 60 5 ∧ M1'.1 61 2 = M2'.1 61 2 ∧ cw (M1'.1 62) = cw (M2'.1 62) := by
  have sm : SM M1 M2 := ⟨fun p g1 g2 => by rw [h1.1 p (by omega), h2.1 p (by omega)], by rw [h1.2.2.2.1, h2.2.2.2.1], fun r hr => by rw [h1.2.2.2.2 r hr, h2.2.2.2.2 r hr], by rw [h1.2.1, h2.2.1], by rw [h1.2.2.1, h2.2.2.1]⟩
  have hw1 : PW M1 := hc.1.k (fun p g1 g2 => h1.1 p (by omega))
  have e38 := h1.1 38 (by omega)
  have e24 := h1.1 24 (by omega)
  have key : SM M1' M2' := by
    rcases p1 with ⟨k1, x1, q1⟩ | ⟨k1, x1, q1⟩
    · rcases p2 with ⟨k2, x2, q2⟩ | ⟨k2, x2, q2⟩
      · rcases hc.2.2.2.2.2 a ha with z | z | ⟨-, z1, z2⟩
        · rw [k1] at z; exact absurd z (by decide)
        · rw [k1] at z; exact absurd z.1 (by decide)
        · exact put_d sm hw1 z1 (by rw [e38, e24]; exact z2) q1 q2
      · rw [k1] at k2; exact absurd k2 (by decide)
    · rcases p2 with ⟨k2, x2, q2⟩ | ⟨k2, x2, q2⟩
      · rw [k1] at k2; exact absurd k2 (by decide)
      · rcases hc.2.2.2.2.2 a ha with z | z | ⟨-, z1, z2⟩
        · rw [k1] at z; exact absurd z (by decide)
        · rw [k1] at z; exact absurd z.1 (by decide)
        · exact fet_d sm hw1 (by rw [e38, e24]; exact z2) q1 q2
  exact ⟨key.2.2.2.2, key.2.1, cw_x key.2.2.1⟩
theorem PS.v {C : Mm} (hc : CX C) {a : Nat} (ha : (a : Int) < (C.1 69 0).toInt) {M M' : Mm} (e : ∀ p, 24 ≤ p → p < 50 → M.1 p = C.1 p) (h : Vm C M) (p : PS C a M M') : QV C M M' := by
  have q0 : QV C M M := ⟨fun _ _ => rfl, h⟩
  rcases p with ⟨k1, x1, q1⟩ | ⟨k1, x1, q1⟩
  · rcases hc.2.2.2.2.2 a ha with z | z | ⟨-, z1, z2⟩
    · rw [k1] at z; exact absurd z (by decide)
    · rw [k1] at z; exact absurd z.1 (by decide)
    · exact put_v hc.1 e q0 z1 z2 q1
  · rcases hc.2.2.2.2.2 a ha with z | z | ⟨-, z1, z2⟩
    · rw [k1] at z; exact absurd z (by decide)
    · rw [k1] at z; exact absurd z.1 (by decide)
    · exact fet_v hc.1 e q0 z2 q1
def tR (old a new : Int32) : Prop := new = if old = -1 then a else if old ≤ a then old else a
theorem tell_e {M M' : Mm} {a b x : Int32} (q : q_Checker_tell M a b = some (M', x)) : (∀ p, p ≠ 73 → M'.1 p = M.1 p) ∧ M'.2 = M.2 ∧ (∀ j, j ≠ 8 → j ≠ 9 → M'.1 73 j = M.1 73 j) ∧ tR (M.1 73 8) a (M'.1 73 8) := by
  unfold q_Checker_tell q_Checker_tell_16 at q
  unfold tR
  have set : ∀ {N : Mm}, N = stI (stI M 73 (upd (M.1 73) 8 a)) 73 (upd ((stI M 73 (upd (M.1 73) 8 a)).1 73) 9 b) → (∀ p, p ≠ 73 → N.1 p = M.1 p) ∧ N.2 = M.2 ∧ (∀ j, j ≠ 8 → j ≠ 9 → N.1 73 j = M.1 73 j) ∧ N.1 73 8 = a := by
    intro N e
    subst e
    refine ⟨fun p hp => by rw [stI_ne _ _ hp, stI_ne _ _ hp], rfl, fun j j1 j2 => by rw [stI_at, updN j2, stI_at, updN j1], by rw [stI_at, updN (by decide), stI_at, updS]⟩
  by_cases c1 : M.1 73 8 = -1
  · rw [if_pos c1, lq_s, lq_s] at q
    obtain ⟨s1, s2, s3, s4⟩ := set (rs_e q).1.symm
    rw [if_pos c1]
    exact ⟨s1, s2, s3, s4⟩
  rw [if_neg c1] at q ⊢
  by_cases c2 : M.1 73 8 ≤ a
  · rw [if_pos c2] at q ⊢
    by_cases c3 : a = M.1 73 8
    · rw [if_pos c3] at q
      by_cases c4 : M.1 73 9 ≤ b
      · rw [if_pos c4] at q
        obtain ⟨rfl, -⟩ := rs_e q
        exact ⟨fun _ _ => rfl, rfl, fun _ _ _ => rfl, rfl⟩
      · rw [if_neg c4, lq_s] at q
        obtain ⟨rfl, -⟩ := rs_e q
        exact ⟨fun p hp => stI_ne _ _ hp, rfl, fun j _ j2 => by rw [stI_at, updN j2], by rw [stI_at, updN (by decide)]⟩
    · rw [if_neg c3] at q
      obtain ⟨rfl, -⟩ := rs_e q
      exact ⟨fun _ _ => rfl, rfl, fun _ _ _ => rfl, rfl⟩
  · rw [if_neg c2, lq_s, lq_s] at q
    obtain ⟨s1, s2, s3, s4⟩ := set (rs_e q).1.symm
    rw [if_neg c2]
    exact ⟨s1, s2, s3, s4⟩
/-- one situation of the class's search is gone on from -/
def VR (C : Mm) (S S' : Nat → Sit) (M M' : Mm) (s : Sit) : Prop := CS C S' M' ∧ Vm C M' ∧ (∀ j, j < (M.1 73 6).toNatClampNeg → S' j = S j) ∧ (M.1 73 6).toNatClampNeg ≤ (M'.1 73 6).toNatClampNeg ∧ (M'.1 73 7 = 0 → ∀ s', Es C s s' → ∃ k, k < (M'.1 73 6).toNatClampNeg ∧ S' k = s') ∧ ((¬ Ts C s ∧ M'.1 73 8 = M.1 73 8) ∨ (Ts C s ∧ tR (M.1 73 8) s.1 (M'.1 73 8)))
theorem visit_s {C : Mm} (hc : CX C) {S : Nat → Sit} {M : Mm} (h : CS C S M) (hv : Vm C M) {i : Int32} (i0 : 0 ≤ i.toInt) (hi : i.toNatClampNeg < (M.1 73 6).toNatClampNeg) {M' : Mm} {x : Int32} (q : q_Checker_visit M i = some (M', x)) : ∃ S' : Nat → Sit, VR C S S' M M' (S i.toNatClampNeg) := by
  have h0 := h
  obtain ⟨h1, h2, h3, h4, h5⟩ := h0
  have t24 := tnc hc.2.1
  have h16 := hc.1.2.2.1
  have l40 := hc.2.2.1
  have c0 := h2.1
  have tc := tnc c0.1
  have ti := tnc i0
  obtain ⟨v1, v2, v3⟩ := h3 _ hi
  have ok := v1.ok hc
  generalize hs : S i.toNatClampNeg = s at v1 v2 v3 ok ⊢
  have ta := tnc v1.1.1
  unfold q_Checker_visit at q
  obtain ⟨M1, a, p1, q⟩ := cal_o q
  unfold q_Checker_load at p1
  rw [lq_s] at p1
  have e5 : (i * 5).toInt = i.toInt * 5 := imul rfl (rfl : (5 : Int32).toInt = 5) (by omega) (by omega)
  have t5 := tnc (i := i * 5) (by omega)
  have z0 : (0 : Int32).toInt = 0 := rfl
  have e0 : (0 : Int32).toNatClampNeg = 0 := rfl
  obtain ⟨ea, l2, l1, -, lf, lw, lw2⟩ := ld_l (A := M) (n := (C.1 24 0).toNatClampNeg) (by rw [h1 24 (by omega)]; omega) (by omega) ok (s := i * 5) (by omega) (by
    rw [show (i * 5).toNatClampNeg = 5 * i.toNatClampNeg by omega]
    exact v3) (C.1 24 0).toNatClampNeg 4000 M 0 (by omega) (by decide) rfl (fun _ _ => rfl) (fun r hr => nlz (by rw [e0] at hr; exact hr)) (fun _ _ => rfl) M1 a p1
  subst ea
  have l62 : ∀ r, r < 16 → M1.1 62 r = s.2.2 r := fun r hr => by
    by_cases c : r < (C.1 24 0).toNatClampNeg
    · exact lw r c
    · rw [lw2 r (by omega)]
      have z := hc.2.2.2.2.1 r hr (by omega)
      have o : ∀ w : Int32, (∀ b, tb w b = true → tb (C.1 29 r) b = true) → w = 0 := fun w hw => by
        apply tb_ext
        intro b _
        rw [tb_0]
        cases y : tb w b with
        | false => rfl
        | true =>
          have x := hw b y
          rw [z, tb_0] at x
          cases x
      rw [o _ (hv.1 r hr), o _ (v1.2.2.1 r hr)]
  have cs1 : CS C S M1 := h.k (fun p hp => l1 p (by omega) (by omega)) (by rw [l1 73 (by decide) (by decide)]) (by rw [l1 73 (by decide) (by decide)]) (l1 76 (by decide) (by decide)) (by rw [l2])
  have hv1 : Vm C M1 := ⟨fun r hr b hb => by
    rw [l62 r hr] at hb
    exact v1.2.2.1 r hr b hb, by rw [lf]; exact v1.2.1⟩
  have e73 : M1.1 73 = M.1 73 := l1 73 (by decide) (by decide)
  have s69 : M1.1 69 = C.1 69 := cs1.1 69 (by omega)
  have s70 : M1.1 70 = C.1 70 := cs1.1 70 (by omega)
  have s71 : M1.1 71 = C.1 71 := cs1.1 71 (by omega)
  have s72 : M1.1 72 = C.1 72 := cs1.1 72 (by omega)
  rw [s69, s70] at q
  by_cases cl : s.1 < C.1 69 0
  rotate_left
  · rw [if_neg cl] at q
    obtain ⟨rfl, -⟩ := rs_e q
    have nl : ¬ s.1.toInt < (C.1 69 0).toInt := fun z => cl (Int32.lt_iff_toInt_lt.mpr z)
    exact ⟨S, cs1, hv1, fun _ _ => rfl, by rw [e73]; omega, fun _ s' e => absurd e.1 nl, Or.inl ⟨fun t => nl t.1, by rw [e73]⟩⟩
  have al : s.1.toInt < (C.1 69 0).toInt := Int32.lt_iff_toInt_lt.mp cl
  rw [if_pos cl] at q
  have q := ix_r q
  rw [lq_s] at q
  have an : (s.1.toNatClampNeg : Int) < (C.1 69 0).toInt := by omega
  have ea1 : (s.1 + 1).toInt = s.1.toInt + 1 := iadd rfl (rfl : (1 : Int32).toInt = 1) (by omega) (by omega)
  have em : mn (s.1 + 1) (C.1 69 0) = s.1 + 1 := by
    unfold mn
    rw [if_neg (fun z => by have := Int32.lt_iff_toInt_lt.mp z; omega)]
  have notT : (C.1 70 s.1.toNatClampNeg = 3 ∨ C.1 70 s.1.toNatClampNeg = 2) → ¬ Ts C s := by
    intro k t
    obtain ⟨-, Ma, Mb, -, ps, -⟩ := t
    rcases ps with ⟨k1, -⟩ | ⟨k1, -⟩ <;> rcases k with k | k <;> rw [k1] at k <;> exact absurd k (by decide)
  by_cases c3 : C.1 70 s.1.toNatClampNeg = 3
  · rw [if_pos c3] at q
    obtain ⟨M4, s4, p4, q⟩ := cal_o q
    obtain ⟨rfl, -⟩ := rs_e q
    have ml : mn (C.1 69 0) (C.1 69 0) = C.1 69 0 := by unfold mn; split <;> rfl
    obtain ⟨S', a1, a2, a3, a4, a5, a6, -⟩ := meet_s hc cs1 (s := (C.1 69 0, s.2)) ml.symm lf.symm (fun r hr => (l62 r hr).symm) ⟨by show 0 ≤ (C.1 69 0).toInt ∧ (C.1 69 0).toInt ≤ _; omega, v1.2⟩ (v2.e ⟨al, Or.inl ⟨c3, rfl⟩⟩) p4
    rw [e73] at a2 a3
    refine ⟨S', a1, ⟨by rw [a5 62 (by decide) (by decide)]; exact hv1.1, by rw [a5 61 (by decide) (by decide)]; exact hv1.2⟩, a2, a3, fun z s' e => ?_, Or.inl ⟨notT (Or.inl c3), by rw [a6 8 (by decide) (by decide), e73]⟩⟩
    obtain ⟨-, k, k1, k2⟩ := a4 z
    refine ⟨k, k1, ?_⟩
    rw [k2]
    rcases e.2 with ⟨-, e⟩ | ⟨k3, -⟩ | ⟨Ma, Mb, -, ps, -⟩
    · exact e.symm
    · rw [c3] at k3; exact absurd k3 (by decide)
    · rcases ps with ⟨k3, -⟩ | ⟨k3, -⟩ <;> rw [c3] at k3 <;> exact absurd k3 (by decide)
  rw [if_neg c3] at q
  by_cases c2 : C.1 70 s.1.toNatClampNeg = 2
  · rw [if_pos c2] at q
    obtain ⟨M4, s4, p4, q⟩ := cal_o q
    have q := ix_r q
    obtain ⟨M6, s6, p6, q⟩ := cal_o q
    obtain ⟨rfl, -⟩ := rs_e q
    obtain ⟨S1, a1, a2, a3, a4, a5, a6, -⟩ := meet_s hc cs1 (s := (s.1 + 1, s.2)) em.symm lf.symm (fun r hr => (l62 r hr).symm) ⟨by show 0 ≤ (s.1 + 1).toInt ∧ (s.1 + 1).toInt ≤ _; omega, v1.2⟩ (v2.e ⟨al, Or.inr (Or.inl ⟨c2, Or.inl rfl⟩)⟩) p4
    rw [a5 72 (by decide) (by decide), s72] at p6
    have hvv : 0 ≤ (C.1 72 s.1.toNatClampNeg).toInt := by
      rcases hc.2.2.2.2.2 s.1.toNatClampNeg an with z | z | z
      · exact absurd z c3
      · exact z.2.1
      · rcases z.1 with y | y <;> rw [c2] at y <;> exact absurd y (by decide)
    have mv : 0 ≤ (mn (C.1 72 s.1.toNatClampNeg) (C.1 69 0)).toInt ∧ (mn (C.1 72 s.1.toNatClampNeg) (C.1 69 0)).toInt ≤ (C.1 69 0).toInt := by
      unfold mn
      by_cases z : C.1 69 0 < C.1 72 s.1.toNatClampNeg
      · rw [if_pos z]; omega
      · rw [if_neg z]
        have : ¬ (C.1 69 0).toInt < (C.1 72 s.1.toNatClampNeg).toInt := fun y => z (Int32.lt_iff_toInt_lt.mpr y)
        omega
    obtain ⟨S2, b1, b2', b3, b4, b5, b6, -⟩ := meet_s hc a1 (s := (mn (C.1 72 s.1.toNatClampNeg) (C.1 69 0), s.2)) rfl (by rw [a5 61 (by decide) (by decide)]; exact lf.symm) (fun r hr => by rw [a5 62 (by decide) (by decide)]; exact (l62 r hr).symm) ⟨mv, v1.2⟩ (v2.e ⟨al, Or.inr (Or.inl ⟨c2, Or.inr rfl⟩)⟩) p6
    rw [e73] at a2 a3
    refine ⟨S2, b1, ⟨by rw [b5 62 (by decide) (by decide), a5 62 (by decide) (by decide)]; exact hv1.1, by rw [b5 61 (by decide) (by decide), a5 61 (by decide) (by decide)]; exact hv1.2⟩, fun j hj => by rw [b2' j (by omega), a2 j hj], by omega, fun z s' e => ?_, Or.inl ⟨notT (Or.inr c2), by rw [b6 8 (by decide) (by decide), a6 8 (by decide) (by decide), e73]⟩⟩
    obtain ⟨z1, k, k1, k2⟩ := b4 z
    obtain ⟨-, k', k1', k2'⟩ := a4 z1
    rcases e.2 with ⟨k3, -⟩ | ⟨-, e | e⟩ | ⟨Ma, Mb, -, ps, -⟩
    · rw [c2] at k3; exact absurd k3 (by decide)
    · exact ⟨k', by omega, by rw [b2' k' k1', k2']; exact e.symm⟩
    · exact ⟨k, k1, by rw [k2]; exact e.symm⟩
    · rcases ps with ⟨k3, -⟩ | ⟨k3, -⟩ <;> rw [c2] at k3 <;> exact absurd k3 (by decide)
  rw [if_neg c2] at q
  obtain ⟨M4, s4, p4, q⟩ := cal_o q
  unfold q_Plan_beginHere at p4
  rw [lq_s, lq_s] at p4
  obtain ⟨e4, -⟩ := rs_e p4
  have y4 : ∀ p, p ≠ 60 → M4.1 p = M1.1 p := fun p hp => by rw [← e4, stI_ne _ _ hp, stI_ne _ _ hp]
  have pm : PM C s.2.1 s.2.2 M4 := ⟨fun p hp => by rw [y4 p (by omega)]; exact cs1.1 p hp, by rw [← e4, stI_at, updN (by decide), stI_at, updS], by rw [← e4, stI_at, updS], by rw [y4 61 (by decide)]; exact lf, fun r hr => by rw [y4 62 (by decide)]; exact l62 r hr⟩
  have cs4 : CS C S M4 := cs1.k (fun p hp => y4 p (by omega)) (by rw [y4 73 (by decide)]) (by rw [y4 73 (by decide)]) (y4 76 (by decide)) (by rw [← e4]; rfl)
  have hv4 : Vm C M4 := ⟨by rw [y4 62 (by decide)]; exact hv1.1, by rw [y4 61 (by decide)]; exact hv1.2⟩
  have s70' : M4.1 70 = C.1 70 := cs4.1 70 (by omega)
  have s71' : M4.1 71 = C.1 71 := cs4.1 71 (by omega)
  have s72' : M4.1 72 = C.1 72 := cs4.1 72 (by omega)
  have e73' : M4.1 73 = M.1 73 := by rw [y4 73 (by decide), e73]
  have fin : ∀ M6 : Mm, PS C s.1.toNatClampNeg M4 M6 → M6.2 = M4.2 → q_Checker_visit_130 M6 s.1 = some (M', x) → ∃ S' : Nat → Sit, VR C S S' M M' s := by
    intro M6 ps e62 q
    obtain ⟨qv1, qv2⟩ := ps.v hc an (fun p g1 g2 => cs4.1 p (by omega)) hv4
    have cs6 : CS C S M6 := cs4.k (fun p hp => qv1 p (by omega)) (by rw [qv1 73 (by omega)]) (by rw [qv1 73 (by omega)]) (qv1 76 (by omega)) (by rw [e62])
    have e736 : M6.1 73 = M.1 73 := by rw [qv1 73 (by omega), e73']
    unfold q_Checker_visit_130 at q
    by_cases c5 : M6.1 60 5 = 0
    · rw [if_pos c5] at q
      obtain ⟨M8, s8, p8, q⟩ := cal_o q
      obtain ⟨rfl, -⟩ := rs_e q
      have es : Es C s (s.1 + 1, M6.1 61 2, cw (M6.1 62)) := ⟨al, Or.inr (Or.inr ⟨M4, M6, pm, ps, c5, rfl⟩)⟩
      obtain ⟨S', a1, a2, a3, a4, a5, a6, -⟩ := meet_s hc cs6 (s := (s.1 + 1, M6.1 61 2, cw (M6.1 62))) em.symm rfl (fun r hr => cw_e hr) ⟨by show 0 ≤ (s.1 + 1).toInt ∧ (s.1 + 1).toInt ≤ _; omega, qv2.2, fun r hr b hb => qv2.1 r hr b (by rw [← cw_e (w := M6.1 62) hr]; exact hb), cw_cw⟩ (v2.e es) p8
      rw [e736] at a2 a3
      refine ⟨S', a1, ⟨by rw [a5 62 (by decide) (by decide)]; exact qv2.1, by rw [a5 61 (by decide) (by decide)]; exact qv2.2⟩, a2, a3, fun z s' e => ?_, Or.inl ⟨fun t => ?_, by rw [a6 8 (by decide) (by decide), e736]⟩⟩
      · obtain ⟨-, k, k1, k2⟩ := a4 z
        refine ⟨k, k1, ?_⟩
        rw [k2]
        rcases e.2 with ⟨k3, -⟩ | ⟨k3, -⟩ | ⟨Ma, Mb, pm2, ps2, -, e⟩
        · exact absurd k3 c3
        · exact absurd k3 c2
        · obtain ⟨-, d2, d3⟩ := PS.d hc an pm pm2 ps ps2
          rw [e, d2, d3]
      · obtain ⟨-, Ma, Mb, pm2, ps2, n5⟩ := t
        obtain ⟨d1, -, -⟩ := PS.d hc an pm pm2 ps ps2
        exact n5 (by rw [← d1]; exact c5)
    · rw [if_neg c5] at q
      obtain ⟨M8, s8, p8, q⟩ := cal_o q
      obtain ⟨rfl, -⟩ := rs_e q
      obtain ⟨t1, t2, t3, t4⟩ := tell_e p8
      rw [e736] at t4
      have e6 : M8.1 73 6 = M.1 73 6 := by rw [t3 6 (by decide) (by decide), e736]
      refine ⟨S, cs6.k (fun p hp => t1 p (by omega)) (t3 6 (by decide) (by decide)) (t3 7 (by decide) (by decide)) (t1 76 (by decide)) (by rw [t2]), ⟨by rw [t1 62 (by decide)]; exact qv2.1, by rw [t1 61 (by decide)]; exact qv2.2⟩, fun _ _ => rfl, by rw [e6]; omega, fun z s' e => ?_, Or.inr ⟨⟨al, M4, M6, pm, ps, c5⟩, t4⟩⟩
      rcases e.2 with ⟨k3, -⟩ | ⟨k3, -⟩ | ⟨Ma, Mb, pm2, ps2, n5, e⟩
      · exact absurd k3 c3
      · exact absurd k3 c2
      · obtain ⟨d1, -, -⟩ := PS.d hc an pm pm2 ps ps2
        exact absurd (d1.trans n5) c5
  by_cases ck : C.1 70 s.1.toNatClampNeg = 0
  · rw [if_pos ck] at q
    have q := ix_r (ix_r q)
    rw [s71', s72'] at q
    obtain ⟨M6, s6, p6, q⟩ := cal_o q
    exact fin M6 (Or.inl ⟨ck, s6, p6⟩) (pj_Plan_addPut M4 _ _ (show kI M4 M4 from rfl) M6 s6 p6) q
  · rw [if_neg ck] at q
    have q := ix_r q
    rw [s71'] at q
    obtain ⟨M6, s6, p6, q⟩ := cal_o q
    have c1 : C.1 70 s.1.toNatClampNeg = 1 := by
      rcases hc.2.2.2.2.2 s.1.toNatClampNeg an with z | z | z
      · exact absurd z c3
      · exact absurd z.1 c2
      · rcases z.1 with y | y
        · exact absurd y ck
        · exact y
    exact fin M6 (Or.inr ⟨c1, s6, p6⟩) (pj_Plan_addFetch M4 _ (show kI M4 M4 from rfl) M6 s6 p6) q
end
section
-- the class's search to its end
def TD (C : Mm) (S : Nat → Sit) (st : Int32) (i : Nat) : Prop := (st = -1 ∧ ∀ j, j < i → ¬ Ts C (S j)) ∨ ((∃ j, j < i ∧ Ts C (S j) ∧ st = (S j).1) ∧ ∀ j, j < i → Ts C (S j) → st.toInt ≤ (S j).1.toInt)
/-- what a search answers -/
def FIN (C : Mm) (r : Int32) : Prop := ∃ (S : Nat → Sit) (c : Nat), c ≤ 1000 ∧ (∀ j, j < c → Rch C (S j)) ∧ (∀ i j, i < j → j < c → S i ≠ S j) ∧ ((r = -2 ∧ c = 1000 ∧ ∃ s', Rch C s' ∧ ∀ k, k < c → S k ≠ s') ∨ ∃ st : Int32, r = 1 + st ∧ (∀ s, Rch C s → ∃ k, k < c ∧ S k = s) ∧ TD C S st c)
theorem TD.up {C : Mm} {S S' : Nat → Sit} {old new : Int32} {i : Nat} (h : TD C S old i) (e : ∀ j, j ≤ i → S' j = S j) (v : ∀ j, j ≤ i → 0 ≤ (S j).1.toInt) (ht : (¬ Ts C (S i) ∧ new = old) ∨ (Ts C (S i) ∧ tR old (S i).1 new)) : TD C S' new (i + 1) := by
  have m1 : (-1 : Int32).toInt = -1 := rfl
  rcases ht with ⟨nt, rfl⟩ | ⟨t, ht⟩
  · rcases h with ⟨h1, h2⟩ | ⟨⟨j, j1, j2, j3⟩, h2⟩
    · refine Or.inl ⟨h1, fun j hj => ?_⟩
      rw [e j (by omega)]
      by_cases c : j = i
      · rw [c]; exact nt
      · exact h2 j (by omega)
    · refine Or.inr ⟨⟨j, by omega, by rw [e j (by omega)]; exact j2, by rw [e j (by omega)]; exact j3⟩, fun j hj ht => ?_⟩
      rw [e j (by omega)] at ht ⊢
      by_cases c : j = i
      · rw [c] at ht; exact absurd ht nt
      · exact h2 j (by omega) ht
  · unfold tR at ht
    rcases h with ⟨h1, h2⟩ | ⟨⟨j, j1, j2, j3⟩, h2⟩
    · rw [if_pos h1] at ht
      refine Or.inr ⟨⟨i, by omega, by rw [e i (by omega)]; exact t, by rw [e i (by omega)]; exact ht⟩, fun j hj hT => ?_⟩
      rw [e j (by omega)] at hT ⊢
      by_cases c : j = i
      · rw [c, ht]; omega
      · exact absurd hT (h2 j (by omega))
    · have n1 : old ≠ -1 := fun z => by
        have := v j (by omega)
        rw [← j3, z] at this
        omega
      rw [if_neg n1] at ht
      by_cases c : old ≤ (S i).1
      · rw [if_pos c] at ht
        subst ht
        refine Or.inr ⟨⟨j, by omega, by rw [e j (by omega)]; exact j2, by rw [e j (by omega)]; exact j3⟩, fun j hj hT => ?_⟩
        rw [e j (by omega)] at hT ⊢
        by_cases cj : j = i
        · rw [cj]; exact Int32.le_iff_toInt_le.mp c
        · exact h2 j (by omega) hT
      · rw [if_neg c] at ht
        have lt : (S i).1.toInt < old.toInt := by
          by_cases z : old.toInt ≤ (S i).1.toInt
          · exact absurd (Int32.le_iff_toInt_le.mpr z) c
          · omega
        refine Or.inr ⟨⟨i, by omega, by rw [e i (by omega)]; exact t, by rw [e i (by omega)]; exact ht⟩, fun j hj hT => ?_⟩
        rw [e j (by omega)] at hT ⊢
        rw [ht]
        by_cases cj : j = i
        · rw [cj]; omega
        · have := h2 j (by omega) hT
          omega
/-- what is true ahead of the i-th visit -/
def LI (C : Mm) (S : Nat → Sit) (M : Mm) (i : Nat) : Prop := CS C S M ∧ Vm C M ∧ i ≤ (M.1 73 6).toNatClampNeg ∧ (∃ k, k < (M.1 73 6).toNatClampNeg ∧ S k = s0 C) ∧ (M.1 73 7 = 0 → ∀ j, j < i → ∀ s', Es C (S j) s' → ∃ k, k < (M.1 73 6).toNatClampNeg ∧ S k = s') ∧ TD C S (M.1 73 8) i
theorem LI.fin {C : Mm} {S : Nat → Sit} {M : Mm} {i : Nat} (h : LI C S M i) (hi : M.1 73 7 = 0 → (M.1 73 6).toNatClampNeg ≤ i) {M' : Mm} {r : Int32} (q : q_ChipMap_check_63 M = some (M', r)) : FIN C r := by
  obtain ⟨⟨h1, h2, h3, h4, h5⟩, hv, hl, hz, hcl, htd⟩ := h
  have c0 := h2.1
  have tc := tnc c0.1
  unfold q_ChipMap_check_63 at q
  refine ⟨S, (M.1 73 6).toNatClampNeg, by omega, fun j hj => (h3 j hj).2.1, h4, ?_⟩
  by_cases c7 : M.1 73 7 = 0
  · rw [if_pos c7] at q
    have ei : (M.1 73 6).toNatClampNeg = i := by have := hi c7; omega
    refine Or.inr ⟨M.1 73 8, (rs_e q).2.symm, fun s hs => ?_, by rw [ei]; exact htd⟩
    refine hs (fun s => ∃ k, k < (M.1 73 6).toNatClampNeg ∧ S k = s) hz (fun a b ⟨k, k1, k2⟩ e => ?_)
    rw [← k2] at e
    exact hcl c7 k (by omega) b e
  · rw [if_neg c7] at q
    obtain ⟨g1, g2⟩ := h5 c7
    exact Or.inl ⟨(rs_e q).2.symm, by omega, g2⟩
theorem loop_c {C : Mm} (hc : CX C) : ∀ (n' : Nat) (M : Mm) (S : Nat → Sit) (i : Int32), (0 ≤ i.toInt ∧ i.toInt ≤ 1000) → LI C S M i.toNatClampNeg → ∀ (M' : Mm) (r : Int32), q_ChipMap_check_18 n' M i = some (M', r) → FIN C r := by
  have e1000 : (1000 : Int32).toInt = 1000 := rfl
  intro n'
  induction n' with
  | zero =>
    intro M S i hi h M' r q
    rw [q_ChipMap_check_18] at q
    cases q
  | succ n' ih =>
    intro M S i hi h M' r q
    have ti := tnc hi.1
    have c0 := h.1.2.1.1
    have tc := tnc c0.1
    rw [q_ChipMap_check_18] at q
    by_cases c1 : 1000 ≤ i
    · rw [if_pos c1] at q
      have := Int32.le_iff_toInt_le.mp c1
      exact h.fin (fun _ => by omega) q
    rw [if_neg c1] at q
    by_cases c2 : M.1 73 6 ≤ i
    · rw [if_pos c2] at q
      have := Int32.le_iff_toInt_le.mp c2
      exact h.fin (fun _ => by omega) q
    rw [if_neg c2] at q
    have l1 : i.toInt < 1000 := by
      by_cases z : 1000 ≤ i.toInt
      · exact absurd (Int32.le_iff_toInt_le.mpr (by omega)) c1
      · omega
    have l2 : i.toInt < (M.1 73 6).toInt := by
      by_cases z : (M.1 73 6).toInt ≤ i.toInt
      · exact absurd (Int32.le_iff_toInt_le.mpr z) c2
      · omega
    by_cases c7 : M.1 73 7 = 0
    rotate_left
    · rw [if_neg c7] at q
      exact h.fin (fun z => absurd z c7) q
    rw [if_pos c7] at q
    obtain ⟨M1, x1, p1, q⟩ := cal_o q
    obtain ⟨cs, hv, hl, hz, hcl, htd⟩ := h
    obtain ⟨S', a1, a2, a3, a4, a5, a6⟩ := visit_s hc cs hv hi.1 (by omega) p1
    have ez : (i + 1).toInt = i.toInt + 1 := iadd rfl (rfl : (1 : Int32).toInt = 1) (by omega) (by omega)
    have es : (i + 1).toNatClampNeg = i.toNatClampNeg + 1 := by
      have := tnc (i := i + 1) (by omega)
      omega
    refine ih M1 S' (i + 1) (by omega) ?_ M' r q
    rw [es]
    refine ⟨a1, a2, by omega, ?_, fun z j hj s' e => ?_, htd.up (fun j hj => a3 j (by omega)) (fun j hj => ((cs.2.2.1 j (by omega)).1).1.1) a6⟩
    · obtain ⟨k, k1, k2⟩ := hz
      exact ⟨k, by omega, by rw [a3 k k1]; exact k2⟩
    · by_cases cj : j = i.toNatClampNeg
      · rw [cj, a3 _ (by omega)] at e
        exact a5 z s' e
      · rw [a3 j (by omega)] at e
        have z1 : M.1 73 7 = 0 := c7
        obtain ⟨k, k1, k2⟩ := hcl z1 j (by omega) s' e
        exact ⟨k, by omega, by rw [a3 k k1]; exact k2⟩
theorem cnt_none {p : Nat → Bool} : ∀ n : Nat, (∀ k, k < n → p k = false) → cnt p n = 0 := by
  intro n
  induction n with
  | zero => intro _; rfl
  | succ n ih =>
    intro h
    rw [cnt, ih (fun k hk => h k (by omega)), h n (by omega), if_neg (by decide)]
theorem mr1_l : ∀ (j n' : Nat) (A M : Mm) (i : Int32), 16 - i.toInt = (j : Int) → 0 ≤ i.toInt → (∀ p, p ≠ 62 → M.1 p = A.1 p) → (∀ r, r < i.toNatClampNeg → M.1 62 r = A.1 28 r &&& A.1 29 r) → ∀ (M' : Mm) (x : Int32), q_Mind_restart_1_2 n' M i = some (M', x) → (∀ p, p ≠ 61 → p ≠ 62 → M'.1 p = A.1 p) ∧ M'.1 61 2 = 0 ∧ ∀ r, r < 16 → M'.1 62 r = A.1 28 r &&& A.1 29 r := by
  have e16 : (16 : Int32).toInt = 16 := rfl
  intro j
  induction j with
  | zero =>
    intro n' A M i hj i0 f g M' x q
    obtain ⟨n', rfl⟩ : ∃ m, n' = m + 1 := by
      cases n' with
      | zero => rw [q_Mind_restart_1_2] at q; cases q
      | succ m => exact ⟨m, rfl⟩
    have tn := tnc i0
    have c : (16 : Int32) ≤ i := Int32.le_iff_toInt_le.mpr (by omega)
    rw [q_Mind_restart_1_2, if_pos c, lq_s] at q
    obtain ⟨rfl, -⟩ := rs_e q
    refine ⟨fun p h1 h2 => ?_, ?_, fun r hr => ?_⟩
    · rw [stI_ne _ _ h1]; exact f p h2
    · rw [stI_at, updS]
    · rw [stI_ne _ _ (by decide)]; exact g r (by omega)
  | succ j ih =>
    intro n' A M i hj i0 f g M' x q
    obtain ⟨n', rfl⟩ : ∃ m, n' = m + 1 := by
      cases n' with
      | zero => rw [q_Mind_restart_1_2] at q; cases q
      | succ m => exact ⟨m, rfl⟩
    have tn := tnc i0
    have ez : (i + 1).toInt = i.toInt + 1 := iadd rfl (rfl : (1 : Int32).toInt = 1) (by omega) (by omega)
    have es : (i + 1).toNatClampNeg = i.toNatClampNeg + 1 := tnS (by omega)
    have c : ¬ (16 : Int32) ≤ i := fun z => by have := Int32.le_iff_toInt_le.mp z; omega
    rw [q_Mind_restart_1_2, if_neg c] at q
    have q := ix_r (ix_r (ix_r q))
    rw [lq_s] at q
    refine ih n' A _ (i + 1) (by omega) (by omega) (fun p hp => by rw [stI_ne _ _ hp]; exact f p hp) (fun r hr => ?_) M' x q
    rw [stI_at, f 28 (by decide), f 29 (by decide)]
    by_cases cr : r = i.toNatClampNeg
    · rw [cr, updS]
    · rw [updN cr]
      exact g r (by omega)
/-- check() of the class -/
theorem check_c {C : Mm} (hc : CX C) {M' : Mm} {r : Int32} (hm : ¬ C.1 24 0 ≤ 0) (q : q_ChipMap_check C = some (M', r)) : FIN C r := by
  have z0 : (0 : Int32).toInt = 0 := rfl
  have e0 : (0 : Int32).toNatClampNeg = 0 := rfl
  have l40 := hc.2.2.1
  unfold q_ChipMap_check q_ChipMap_hasMap at q
  rw [if_neg hm, cal_s, if_neg (by decide : ¬ (1 : Int32) = 0)] at q
  obtain ⟨M3, x3, p3, q⟩ := cal_o q
  unfold q_Checker_begin at p3
  rw [lq_s, lq_s, lq_s, lq_s, lq_s] at p3
  obtain ⟨M5, e5⟩ : ∃ z, z = stI (stI (stI (stI (stI C 76 (fun _ => 0)) 73 (upd (C.1 73) 6 0)) 73 (upd (upd (C.1 73) 6 0) 7 0)) 73 (upd (upd (upd (C.1 73) 6 0) 7 0) 8 (-1))) 73 (upd (upd (upd (upd (C.1 73) 6 0) 7 0) 8 (-1)) 9 0) := ⟨_, rfl⟩
  have p3 : (cal (q_Mind_restart_1 M5) fun M6 r7 => cal (q_Checker_meet M6 0) fun M8 r9 => some (M8, 0)) = some (M3, x3) := by
    rw [e5]
    exact p3
  have y73 : M5.1 73 = upd (upd (upd (upd (C.1 73) 6 0) 7 0) 8 (-1)) 9 0 := by rw [e5, stI_at]
  have y76 : M5.1 76 = fun _ => 0 := by rw [e5]; rfl
  have yo : ∀ p, p ≠ 73 → p ≠ 76 → M5.1 p = C.1 p := fun p p1 p2 => by rw [e5, stI_ne _ _ p1, stI_ne _ _ p1, stI_ne _ _ p1, stI_ne _ _ p1, stI_ne _ _ p2]
  obtain ⟨M6, x6, p6, p3⟩ := cal_o p3
  obtain ⟨M8, x8, p8, p3⟩ := cal_o p3
  obtain ⟨rfl, -⟩ := rs_e p3
  unfold q_Mind_restart_1 at p6
  obtain ⟨r1, r2, r3⟩ := mr1_l 16 4000 M5 M5 0 (by decide) (by decide) (fun _ _ => rfl) (fun r hr => nlz (by rw [e0] at hr; exact hr)) M6 x6 p6
  have v6 : M6.1 73 6 = 0 := by rw [r1 73 (by decide) (by decide), y73]; rfl
  have v7 : M6.1 73 7 = 0 := by rw [r1 73 (by decide) (by decide), y73]; rfl
  have v8 : M6.1 73 8 = -1 := by rw [r1 73 (by decide) (by decide), y73]; rfl
  have v76 : M6.1 76 = fun _ => 0 := by rw [r1 76 (by decide) (by decide), y76]
  have hp : ∀ p, p < 60 ∨ (65 ≤ p ∧ p ≤ 72) → M6.1 p = C.1 p := fun p h => by rw [r1 p (by omega) (by omega), yo p (by omega) (by omega)]
  have ht : HT M6 := by
    refine ⟨by rw [v6]; decide, fun k => by rw [v6, show M6.1 76 k = 0 by rw [v76]]; decide, ?_, fun i hi => ?_⟩
    · rw [v6, cnt_none 2048 (fun k _ => by unfold nzS; rw [v76]; rfl)]
      rfl
    · rw [v6] at hi
      exact nlz hi
  have cs : CS C (fun _ => s0 C) M6 := ⟨hp, ht, fun j hj => by rw [v6] at hj; exact nlz hj, fun i j _ hj => by rw [v6] at hj; exact nlz hj, fun z => absurd v7 z⟩
  have w62 : ∀ r, r < 16 → M6.1 62 r = C.1 28 r &&& C.1 29 r := fun r hr => by rw [r3 r hr, yo 28 (by decide) (by decide), yo 29 (by decide) (by decide)]
  have em : (s0 C).1 = mn 0 (C.1 69 0) := by
    show (0 : Int32) = if C.1 69 0 < 0 then C.1 69 0 else 0
    exact (if_neg (fun z => by have := Int32.lt_iff_toInt_lt.mp z; omega)).symm
  have sub : ∀ r, r < 16 → ∀ b, tb (C.1 28 r &&& C.1 29 r) b = true → tb (C.1 29 r) b = true := fun r hr b hb => by
    rw [tb_and, Bool.and_eq_true] at hb
    exact hb.2
  have vs : Vs C (s0 C) := ⟨⟨show (0 : Int) ≤ (0 : Int32).toInt by decide, by show (0 : Int32).toInt ≤ _; omega⟩, fun b _ => tb_0, fun r hr b hb => sub r hr b (by
    have z : (s0 C).2.2 r = C.1 28 r &&& C.1 29 r := cw_e (w := fun r => C.1 28 r &&& C.1 29 r) hr
    rw [← z]; exact hb), cw_cw⟩
  obtain ⟨S', a1, a2, a3, a4, a5, a6, a7⟩ := meet_s hc cs em r2.symm (fun r hr => by
    have z : (s0 C).2.2 r = C.1 28 r &&& C.1 29 r := cw_e (w := fun r => C.1 28 r &&& C.1 29 r) hr
    rw [z, w62 r hr]) vs (Rch.z C) p8
  have f7 : M8.1 73 7 = 0 := by rw [a7 (by rw [v6]; decide)]; exact v7
  refine loop_c hc 4000 M8 S' 0 (by decide) ⟨a1, ⟨fun r hr b hb => ?_, fun b _ => ?_⟩, Nat.zero_le _, (a4 f7).2, fun _ j hj => nlz (by rw [e0] at hj; exact hj), Or.inl ⟨?_, fun j hj => nlz (by rw [e0] at hj; exact hj)⟩⟩ M' r q
  · rw [a5 62 (by decide) (by decide), w62 r hr] at hb
    exact sub r hr b hb
  · rw [a5 61 (by decide) (by decide), r2]
    exact tb_0
  · rw [a6 8 (by decide) (by decide)]
    exact v8
end
section
-- the reference's situations
theorem mem_l {C N : Mm} {fl : Int32} (h12 : 0 ≤ (C.1 43 0).toInt ∧ (C.1 43 0).toInt ≤ 12) (e38 : N.1 0 38 = C.1 43 0) (ar : ∀ k : Nat, (k : Int) < (C.1 43 0).toInt → N.1 36 k = b2 (tb fl k)) (hf : ∀ b, (C.1 43 0).toNatClampNeg ≤ b → tb fl b = false) : ∀ (j n' : Nat) (acc i : Int32), (C.1 43 0).toInt - i.toInt = (j : Int) → 0 ≤ i.toInt → (∀ b, tb acc b = (decide (b < i.toNatClampNeg) && tb fl b)) → ∀ (N' : Mm) (x : Int32), q_ChipMapModel_memoryWord_4 n' N acc i = some (N', x) → N' = N ∧ x = fl := by
  have tr := tnc h12.1
  intro j
  induction j with
  | zero =>
    intro n' acc i hj i0 ha N' x q
    obtain ⟨n', rfl⟩ : ∃ m, n' = m + 1 := by
      cases n' with
      | zero => rw [q_ChipMapModel_memoryWord_4] at q; cases q
      | succ m => exact ⟨m, rfl⟩
    have tn := tnc i0
    rw [q_ChipMapModel_memoryWord_4, e38, if_pos (Int32.le_iff_toInt_le.mpr (by omega))] at q
    obtain ⟨rfl, rfl⟩ := rs_e q
    refine ⟨rfl, tb_ext (fun b _ => ?_)⟩
    rw [ha b]
    by_cases c : b < i.toNatClampNeg
    · rw [decide_eq_true c, Bool.true_and]
    · rw [decide_eq_false c, hf b (by omega)]
      rfl
  | succ j ih =>
    intro n' acc i hj i0 ha N' x q
    obtain ⟨n', rfl⟩ : ∃ m, n' = m + 1 := by
      cases n' with
      | zero => rw [q_ChipMapModel_memoryWord_4] at q; cases q
      | succ m => exact ⟨m, rfl⟩
    have tn := tnc i0
    have ez : (i + 1).toInt = i.toInt + 1 := iadd rfl (rfl : (1 : Int32).toInt = 1) (by omega) (by omega)
    have es : (i + 1).toNatClampNeg = i.toNatClampNeg + 1 := tnS (by omega)
    have c : ¬ C.1 43 0 ≤ i := fun z => by have := Int32.le_iff_toInt_le.mp z; omega
    rw [q_ChipMapModel_memoryWord_4, e38, if_neg c] at q
    have q := ix_r q
    rw [ar i.toNatClampNeg (by omega)] at q
    unfold q_ChipMapModel_memoryWord_29 at q
    have hb : ∀ b, (decide (b < i.toNatClampNeg + 1) && tb fl b) = ((decide (b < i.toNatClampNeg) && tb fl b) || (decide (b = i.toNatClampNeg) && tb fl b)) := fun b => by
      by_cases c1 : b < i.toNatClampNeg
      · rw [decide_eq_true c1, decide_eq_true (show b < i.toNatClampNeg + 1 by omega), decide_eq_false (show ¬ b = i.toNatClampNeg by omega)]
        cases tb fl b <;> rfl
      · by_cases c2 : b = i.toNatClampNeg
        · rw [decide_eq_false c1, decide_eq_true (show b < i.toNatClampNeg + 1 by omega), decide_eq_true c2]
          cases tb fl b <;> rfl
        · rw [decide_eq_false c1, decide_eq_false (show ¬ b < i.toNatClampNeg + 1 by omega), decide_eq_false c2]
          rfl
    by_cases c2 : b2 (tb fl i.toNatClampNeg) = 0
    · rw [if_pos c2, lq_s] at q
      rw [b2_0] at c2
      refine ih n' _ (i + 1) (by omega) (by omega) (fun b => ?_) N' x q
      rw [es, hb b, tb_or, tb_0, ha b, Bool.or_false]
      by_cases cb : b = i.toNatClampNeg
      · rw [cb, c2]
        cases decide (i.toNatClampNeg < i.toNatClampNeg) <;> cases decide (i.toNatClampNeg = i.toNatClampNeg) <;> rfl
      · rw [decide_eq_false cb, Bool.false_and, Bool.or_false]
    · rw [if_neg c2, lq_s] at q
      have ht : tb fl i.toNatClampNeg = true := by
        cases z : tb fl i.toNatClampNeg with
        | true => rfl
        | false => rw [z] at c2; exact absurd rfl c2
      refine ih n' _ (i + 1) (by omega) (by omega) (fun b => ?_) N' x q
      rw [es, hb b, tb_or, tb_one (by omega), ha b]
      by_cases cb : b = i.toNatClampNeg
      · rw [cb, ht, decide_eq_true (rfl : i.toNatClampNeg = i.toNatClampNeg)]
        cases decide (i.toNatClampNeg < i.toNatClampNeg) <;> rfl
      · rw [decide_eq_false cb, Bool.false_and]
/-- the reference at a search: the map and the script are the class's -/
def FX (C N : Mm) : Prop := LF C N ∧ LA C N ∧ N.1 0 58 ≠ 0 ∧ (0 ≤ (N.1 0 47).toInt ∧ (N.1 0 47).toInt ≤ 2000000000) ∧ spR C N
theorem FX.k {C N N' : Mm} (h : FX C N) (k : kD N N') : FX C N' := by
  obtain ⟨hl, la, e58, e47, sp⟩ := h
  refine ⟨hl.n (fun p h1 h2 => k.1 p (by omega) (by omega)), la.n (fun p h1 h2 => k.1 p (by omega) (by omega)) (fun j hj => k.2.1 j (by omega)), k.2.2.2.2.1, by rw [k.2.1 47 (by omega)]; exact e47, sp.cg rfl rfl rfl rfl (k.2.1 59 (by omega)) (k.1 42 (by decide) (by omega)) (k.1 43 (by decide) (by omega)) (k.1 44 (by decide) (by omega))⟩
theorem kD.rf {N : Mm} (h1 : N.1 0 58 ≠ 0) (h2 : (N.1 0 38).toInt ≤ 12) : kD N N := ⟨fun _ _ _ => rfl, fun _ _ => rfl, fun _ _ => rfl, fun _ _ => rfl, h1, h2⟩
theorem kD.tr {A B D : Mm} (h : kD A B) (g : kD B D) : kD A D := ⟨fun p h0 hp => by rw [g.1 p h0 hp]; exact h.1 p h0 hp, fun j hj => by rw [g.2.1 j hj]; exact h.2.1 j hj, fun f hf => by rw [g.2.2.1 f hf]; exact h.2.2.1 f hf, fun k hk => by rw [g.2.2.2.1 k hk]; exact h.2.2.2.1 k hk, g.2.2.2.2⟩
def whr (C : Mm) (a : Int32) : Int32 := if a.toInt < (C.1 69 0).toInt then a else 40
/-- a row of the reference's table holds a situation -/
def RK (C N : Mm) (s : Nat) (u : Sit) : Prop := N.1 45 s = whr C u.1 ∧ N.1 47 s = u.2.1 ∧ ∀ f, pf C f → knA (C.1 39 f) → (N.1 46 (26 * s + f) >>> (C.1 41 f &&& 31) = 0) ∧ ∀ b, tb (C.1 42 f) b = true → tb (u.2.2 (C.1 38 f).toNatClampNeg) b = tb (N.1 46 (26 * s + f) <<< (C.1 40 f &&& 31)) b
/-- the same values, the same words -/
theorem wd_eq {C N : Mm} (hl : LF C N) (la : LA C N) {w w' : Nat → Int32} {v v' : Nat → Int32} (h1 : ∀ r, r < 16 → ∀ b, tb (w r) b = true → tb (C.1 29 r) b = true) (h1' : ∀ r, r < 16 → ∀ b, tb (w' r) b = true → tb (C.1 29 r) b = true) (h2 : ∀ f, pf C f → knA (C.1 39 f) → ∀ b, tb (C.1 42 f) b = true → tb (w (C.1 38 f).toNatClampNeg) b = tb (v f <<< (C.1 40 f &&& 31)) b) (h2' : ∀ f, pf C f → knA (C.1 39 f) → ∀ b, tb (C.1 42 f) b = true → tb (w' (C.1 38 f).toNatClampNeg) b = tb (v' f <<< (C.1 40 f &&& 31)) b) (e : ∀ f, pf C f → knA (C.1 39 f) → v f = v' f) : ∀ r, r < 16 → w r = w' r := by
  intro r hr
  apply tb_ext
  intro b _
  have go : ∀ f, pf C f → (C.1 38 f).toNatClampNeg = r → knA (C.1 39 f) → tb (C.1 42 f) b = true → tb (w r) b = tb (w' r) b := fun f f1 f2 f3 f4 => by
    have z1 := h2 f f1 f3 b f4
    have z2 := h2' f f1 f3 b f4
    rw [f2] at z1 z2
    rw [z1, z2, e f f1 f3]
  cases z : tb (w r) b with
  | true =>
    obtain ⟨f, f1, f2, f3, f4⟩ := (la.2.2.1 r b).mp (h1 r hr b z)
    rw [← z]
    exact go f f1 f2 f3 f4
  | false =>
    cases z' : tb (w' r) b with
    | false => rfl
    | true =>
      obtain ⟨f, f1, f2, f3, f4⟩ := (la.2.2.1 r b).mp (h1' r hr b z')
      have y := go f f1 f2 f3 f4
      rw [z, z'] at y
      exact y
theorem is_27 {C N : Mm} (hl : LF C N) {s : Int32} (hs : 0 ≤ s.toInt ∧ s.toInt ≤ 1000) : ∀ (j n' : Nat) (i : Int32), 26 - i.toInt = (j : Int) → 0 ≤ i.toInt → (∀ f, f < i.toNatClampNeg → pf C f → knA (C.1 39 f) → N.1 46 (26 * s.toNatClampNeg + f) = N.1 33 f) → ∀ (N' : Mm) (x : Int32), q_ChipMapModel_isSituation_27 n' N s i = some (N', x) → N' = N ∧ ((x = 1 ∧ ∀ f, pf C f → knA (C.1 39 f) → N.1 46 (26 * s.toNatClampNeg + f) = N.1 33 f) ∨ (x = 0 ∧ ¬ ∀ f, pf C f → knA (C.1 39 f) → N.1 46 (26 * s.toNatClampNeg + f) = N.1 33 f)) := by
  have e26 : (26 : Int32).toInt = 26 := rfl
  intro j
  induction j with
  | zero =>
    intro n' i hj i0 h N' x q
    obtain ⟨n', rfl⟩ : ∃ m, n' = m + 1 := by
      cases n' with
      | zero => rw [q_ChipMapModel_isSituation_27] at q; cases q
      | succ m => exact ⟨m, rfl⟩
    have tn := tnc i0
    rw [q_ChipMapModel_isSituation_27, if_pos (Int32.le_iff_toInt_le.mpr (by omega))] at q
    obtain ⟨rfl, rfl⟩ := rs_e q
    exact ⟨rfl, Or.inl ⟨rfl, fun f hp hk => h f (by have := hp.1; omega) hp hk⟩⟩
  | succ j ih =>
    intro n' i hj i0 h N' x q
    obtain ⟨n', rfl⟩ : ∃ m, n' = m + 1 := by
      cases n' with
      | zero => rw [q_ChipMapModel_isSituation_27] at q; cases q
      | succ m => exact ⟨m, rfl⟩
    have tn := tnc i0
    have ez : (i + 1).toInt = i.toInt + 1 := iadd rfl (rfl : (1 : Int32).toInt = 1) (by omega) (by omega)
    have es : (i + 1).toNatClampNeg = i.toNatClampNeg + 1 := tnS (by omega)
    have c : ¬ (26 : Int32) ≤ i := fun z => by have := Int32.le_iff_toInt_le.mp z; omega
    rw [q_ChipMapModel_isSituation_27, if_neg c] at q
    have q := ix_r q
    unfold q_ChipMapModel_isSituation_72 at q
    have next : (pf C i.toNatClampNeg → knA (C.1 39 i.toNatClampNeg) → N.1 46 (26 * s.toNatClampNeg + i.toNatClampNeg) = N.1 33 i.toNatClampNeg) → q_ChipMapModel_isSituation_27 n' N s (i + 1) = some (N', x) → N' = N ∧ ((x = 1 ∧ ∀ f, pf C f → knA (C.1 39 f) → N.1 46 (26 * s.toNatClampNeg + f) = N.1 33 f) ∨ (x = 0 ∧ ¬ ∀ f, pf C f → knA (C.1 39 f) → N.1 46 (26 * s.toNatClampNeg + f) = N.1 33 f)) := by
      intro hi q
      refine ih n' (i + 1) (by omega) (by omega) (fun f hf hp hk => ?_) N' x q
      by_cases cf : f = i.toNatClampNeg
      · rw [cf] at hp hk ⊢
        exact hi hp hk
      · exact h f (by omega) hp hk
    by_cases c23 : N.1 23 i.toNatClampNeg = 0
    · rw [if_pos c23] at q
      refine next (fun hp _ => ?_) q
      have z := (lf_p hl hp).1
      rw [c23] at z
      exact absurd z (by decide)
    rw [if_neg c23] at q
    have hp : pf C i.toNatClampNeg := by
      rcases hl i.toNatClampNeg (by omega) with ⟨-, z⟩ | ⟨-, -, z, -⟩
      · exact absurd z c23
      · refine ⟨by omega, fun y => ?_⟩
        rw [y] at z
        exact absurd z (by decide)
    obtain ⟨t, k1, k2⟩ := sto_m hl i0 hp
    rw [k1, cal_s] at q
    rcases k2 with ⟨rfl, nk⟩ | ⟨rfl, kk⟩
    · rw [if_pos rfl] at q
      exact next (fun _ hk => absurd hk nk) q
    · rw [if_neg (by decide : ¬ (1 : Int32) = 0)] at q
      have q := ix_r (ix_r q)
      rw [ad26 hs (by omega)] at q
      by_cases ce : N.1 46 (26 * s.toNatClampNeg + i.toNatClampNeg) = N.1 33 i.toNatClampNeg
      · rw [if_pos ce] at q
        exact next (fun _ _ => ce) q
      · rw [if_neg ce] at q
        obtain ⟨rfl, rfl⟩ := rs_e q
        exact ⟨rfl, Or.inr ⟨rfl, fun z => ce (z _ hp kk)⟩⟩
/-- is it this situation: the rows' values against the device's -/
theorem is_S {C N : Mm} (hx : FX C N) (h12 : 0 ≤ (C.1 43 0).toInt ∧ (C.1 43 0).toInt ≤ 12) {u : Sit} (hv : Vs C u) (md : MD C u.2.1 u.2.2 N) {s : Int32} (hs : 0 ≤ s.toInt ∧ s.toInt ≤ 1000) {t : Sit} (ht : Vs C t) (rk : RK C N s.toNatClampNeg t) (l40 : (C.1 69 0).toInt ≤ 40) {N' : Mm} {x : Int32} (q : q_ChipMapModel_isSituation N s (whr C u.1) = some (N', x)) : N' = N ∧ ((x = 1 ∧ t = u) ∨ (x = 0 ∧ t ≠ u)) := by
  obtain ⟨hl, la, -, -, -⟩ := hx
  have e38 := la.2.2.2.2.1
  unfold q_ChipMapModel_isSituation at q
  have q := ix_r q
  have fit : ∀ f, pf C f → knA (C.1 39 f) → t = u → N.1 46 (26 * s.toNatClampNeg + f) = N.1 33 f := fun f hp hk e => by
    subst e
    obtain ⟨l1, l2, -, -⟩ := la.1 f hp
    have w1 := (lf_p hl hp).2.2.2.2.2.2
    obtain ⟨r1, r2⟩ := rk.2.2 f hp hk
    obtain ⟨m1, m2⟩ := md.1.1 f hp hk
    rw [← kv_e l1.1 w1 l1.2 l2 r1 r2, ← kv_e l1.1 w1 l1.2 l2 m1 m2]
  by_cases c1 : N.1 45 s.toNatClampNeg = whr C u.1
  rotate_left
  · rw [if_neg c1] at q
    obtain ⟨rfl, rfl⟩ := rs_e q
    refine ⟨rfl, Or.inr ⟨rfl, fun e => c1 ?_⟩⟩
    rw [← e]
    exact rk.1
  rw [if_pos c1] at q
  have q := ix_r q
  obtain ⟨N1, w, p1, q⟩ := cal_o q
  unfold q_ChipMapModel_memoryWord at p1
  have z0 : (0 : Int32).toInt = 0 := rfl
  have e0 : (0 : Int32).toNatClampNeg = 0 := rfl
  obtain ⟨rfl, rfl⟩ := mem_l h12 e38.symm md.2 hv.2.1 (C.1 43 0).toInt.toNat 4000 0 0 (by omega) (by decide) (fun b => by rw [tb_0, e0, decide_eq_false (Nat.not_lt_zero b), Bool.false_and]) N1 w p1
  by_cases c2 : N1.1 47 s.toNatClampNeg = u.2.1
  rotate_left
  · rw [if_neg c2] at q
    obtain ⟨rfl, rfl⟩ := rs_e q
    refine ⟨rfl, Or.inr ⟨rfl, fun e => c2 ?_⟩⟩
    rw [← e]
    exact rk.2.1
  rw [if_pos c2] at q
  obtain ⟨e1, h27⟩ := is_27 hl hs 26 4000 0 (by decide) (by decide) (fun f hf => nlz (by rw [e0] at hf; exact hf)) N' x q
  refine ⟨e1, ?_⟩
  rcases h27 with ⟨x1, h27⟩ | ⟨x0, h27⟩
  · refine Or.inl ⟨x1, ?_⟩
    have ew := wd_eq hl la ht.2.2.1 hv.2.2.1 (v := fun f => N1.1 46 (26 * s.toNatClampNeg + f)) (v' := N1.1 33) (fun f hp hk b hb => (rk.2.2 f hp hk).2 b hb) (fun f hp hk b hb => (md.1.1 f hp hk).2 b hb) h27
    have e2 : t.2.1 = u.2.1 := by rw [← rk.2.1]; exact c2
    have e3 : t.2.2 = u.2.2 := by rw [← ht.2.2.2, ← hv.2.2.2]; exact cw_x ew
    have e4 : t.1 = u.1 := by
      have z := rk.1
      rw [c1] at z
      unfold whr at z
      have n40 : (40 : Int32).toInt = 40 := rfl
      have a1 := ht.1
      have a2 := hv.1
      by_cases g1 : t.1.toInt < (C.1 69 0).toInt
      · rw [if_pos g1] at z
        by_cases g2 : u.1.toInt < (C.1 69 0).toInt
        · rw [if_pos g2] at z
          exact z.symm
        · rw [if_neg g2] at z
          rw [← z] at g1
          omega
      · rw [if_neg g1] at z
        by_cases g2 : u.1.toInt < (C.1 69 0).toInt
        · rw [if_pos g2] at z
          rw [z] at g2
          omega
        · exact Int32.toInt_inj.mp (by omega)
    obtain ⟨t1, t2, t3⟩ := t
    obtain ⟨u1, u2, u3⟩ := u
    have e2 : t2 = u2 := e2
    have e3 : t3 = u3 := e3
    have e4 : t1 = u1 := e4
    rw [e2, e3, e4]
  · exact Or.inr ⟨x0, fun e => h27 (fun f hp hk => fit f hp hk e)⟩
/-- the reference's table -/
def RT (C : Mm) (S : Nat → Sit) (N : Mm) : Prop := (0 ≤ (N.1 0 63).toInt ∧ (N.1 0 63).toInt ≤ 1000) ∧ (∀ j, j < (N.1 0 63).toNatClampNeg → Vs C (S j) ∧ Rch C (S j) ∧ RK C N j (S j)) ∧ (∀ i j, i < j → j < (N.1 0 63).toNatClampNeg → S i ≠ S j) ∧ (N.1 0 69 ≠ 0 → (N.1 0 63).toInt = 1000 ∧ ∃ s', Rch C s' ∧ ∀ k, k < (N.1 0 63).toNatClampNeg → S k ≠ s')
theorem RK.k {C N N' : Mm} {s : Nat} {u : Sit} (h : RK C N s u) (e45 : N'.1 45 s = N.1 45 s) (e47 : N'.1 47 s = N.1 47 s) (e46 : ∀ f, f < 26 → N'.1 46 (26 * s + f) = N.1 46 (26 * s + f)) : RK C N' s u := by
  refine ⟨by rw [e45]; exact h.1, by rw [e47]; exact h.2.1, fun f hp hk => ?_⟩
  rw [e46 f hp.1]
  exact h.2.2 f hp hk
theorem RT.k {C : Mm} {S : Nat → Sit} {N N' : Mm} (h : RT C S N) (e : ∀ p, 45 ≤ p → p ≤ 47 → N'.1 p = N.1 p) (e63 : N'.1 0 63 = N.1 0 63) (e69 : N'.1 0 69 = N.1 0 69) : RT C S N' := by
  unfold RT RK
  rw [e63, e69, e 45 (by decide) (by decide), e 46 (by decide) (by decide), e 47 (by decide) (by decide)]
  exact h
theorem mt82 {A : Mm} {m : Nat} (hm : (A.1 0 63).toInt = (m : Int)) (h9 : m ≤ 999) : ∀ (j n' : Nat) (N : Mm) (i : Int32), 26 - i.toInt = (j : Int) → 0 ≤ i.toInt → (∀ p, p ≠ 46 → N.1 p = A.1 p) → (∀ f, f < i.toNatClampNeg → N.1 46 (26 * m + f) = A.1 33 f) → (∀ k, k < 26 * m → N.1 46 k = A.1 46 k) → ∀ (N' : Mm) (x : Int32), q_ChipMapModel_meet_82 n' N i = some (N', x) → (∀ p, p ≠ 0 → p ≠ 46 → N'.1 p = A.1 p) ∧ (∀ j, j ≠ 63 → N'.1 0 j = A.1 0 j) ∧ N'.1 0 63 = A.1 0 63 + 1 ∧ (∀ f, f < 26 → N'.1 46 (26 * m + f) = A.1 33 f) ∧ (∀ k, k < 26 * m → N'.1 46 k = A.1 46 k) := by
  have e26 : (26 : Int32).toInt = 26 := rfl
  intro j
  induction j with
  | zero =>
    intro n' N i hj i0 h1 h2 h3 N' x q
    obtain ⟨n', rfl⟩ : ∃ m, n' = m + 1 := by
      cases n' with
      | zero => rw [q_ChipMapModel_meet_82] at q; cases q
      | succ m => exact ⟨m, rfl⟩
    have tn := tnc i0
    rw [q_ChipMapModel_meet_82, if_pos (Int32.le_iff_toInt_le.mpr (by omega)), lq_s] at q
    obtain ⟨rfl, -⟩ := rs_e q
    refine ⟨fun p p0 p1 => ?_, fun j hj => ?_, ?_, fun f hf => ?_, fun k hk => ?_⟩
    · rw [stI_ne _ _ p0]; exact h1 p p1
    · rw [stI_at, updN hj, h1 0 (by decide)]
    · rw [stI_at, updS, h1 0 (by decide)]
    · rw [stI_ne _ _ (by decide)]; exact h2 f (by omega)
    · rw [stI_ne _ _ (by decide)]; exact h3 k hk
  | succ j ih =>
    intro n' N i hj i0 h1 h2 h3 N' x q
    obtain ⟨n', rfl⟩ : ∃ m, n' = m + 1 := by
      cases n' with
      | zero => rw [q_ChipMapModel_meet_82] at q; cases q
      | succ m => exact ⟨m, rfl⟩
    have tn := tnc i0
    have ez : (i + 1).toInt = i.toInt + 1 := iadd rfl (rfl : (1 : Int32).toInt = 1) (by omega) (by omega)
    have es : (i + 1).toNatClampNeg = i.toNatClampNeg + 1 := tnS (by omega)
    have c : ¬ (26 : Int32) ≤ i := fun z => by have := Int32.le_iff_toInt_le.mp z; omega
    have tm := tnc (i := A.1 0 63) (by omega)
    rw [q_ChipMapModel_meet_82, if_neg c] at q
    have q := ix_r (ix_r q)
    rw [lq_s, h1 0 (by decide), h1 33 (by decide), ad26 (v := A.1 0 63) (by omega) (by omega), show (A.1 0 63).toNatClampNeg = m by omega] at q
    refine ih n' _ (i + 1) (by omega) (by omega) (fun p hp => by rw [stI_ne _ _ hp]; exact h1 p hp) (fun f hf => ?_) (fun k hk => ?_) N' x q
    · rw [stI_at]
      by_cases cf : f = i.toNatClampNeg
      · rw [cf, updS]
      · rw [updN (by omega)]
        exact h2 f (by omega)
    · rw [stI_at, updN (by omega)]
      exact h3 k hk
/-- what meeting a situation does to the reference's table -/
def MR (C : Mm) (S S' : Nat → Sit) (N N' : Mm) (u : Sit) : Prop := RT C S' N' ∧ (∀ j, j < (N.1 0 63).toNatClampNeg → S' j = S j) ∧ (N.1 0 63).toNatClampNeg ≤ (N'.1 0 63).toNatClampNeg ∧ (N'.1 0 69 = 0 → N.1 0 69 = 0 ∧ ∃ k, k < (N'.1 0 63).toNatClampNeg ∧ S' k = u) ∧ (∀ p, p ≠ 0 → p < 45 ∨ 48 ≤ p → N'.1 p = N.1 p) ∧ (∀ j, j ≠ 63 → j ≠ 69 → N'.1 0 j = N.1 0 j) ∧ ((N.1 0 63).toInt < 1000 → N'.1 0 69 = N.1 0 69)
theorem mt17 {C : Mm} (hc : CX C) {S : Nat → Sit} {N : Mm} (hx : FX C N) (h : RT C S N) {u : Sit} (hv : Vs C u) (hr : Rch C u) (md : MD C u.2.1 u.2.2 N) : ∀ (j n' : Nat) (s : Int32), (N.1 0 63).toInt - s.toInt = (j : Int) → 0 ≤ s.toInt → (∀ k, k < s.toNatClampNeg → S k ≠ u) → ∀ (N' : Mm) (x : Int32), q_ChipMapModel_meet_17 n' N (whr C u.1) s = some (N', x) → ∃ S' : Nat → Sit, MR C S S' N N' u := by
  obtain ⟨m0, h3, h4, h5⟩ := id h
  have tm := tnc m0.1
  have h12 := hc.1.1.1
  have l40 := hc.2.2.1
  have e38 := hx.2.1.2.2.2.2.1
  have z0 : (0 : Int32).toInt = 0 := rfl
  have e0 : (0 : Int32).toNatClampNeg = 0 := rfl
  intro j
  induction j with
  | zero =>
    intro n' s hj s0' hn N' x q
    obtain ⟨n', rfl⟩ : ∃ m, n' = m + 1 := by
      cases n' with
      | zero => rw [q_ChipMapModel_meet_17] at q; cases q
      | succ m => exact ⟨m, rfl⟩
    have ts := tnc s0'
    have es : s.toNatClampNeg = (N.1 0 63).toNatClampNeg := by omega
    rw [es] at hn
    rw [q_ChipMapModel_meet_17, if_pos (Int32.le_iff_toInt_le.mpr (by omega))] at q
    by_cases c : N.1 0 63 = 1000
    · rw [if_pos c, lq_s] at q
      obtain ⟨rfl, -⟩ := rs_e q
      have cm : (N.1 0 63).toInt = 1000 := by rw [c]; rfl
      have y63 : (stI N 0 (upd (N.1 0) 69 1)).1 0 63 = N.1 0 63 := by rw [stI_at, updN (by decide)]
      have y69 : (stI N 0 (upd (N.1 0) 69 1)).1 0 69 = 1 := by rw [stI_at, updS]
      refine ⟨S, ⟨by rw [y63]; exact m0, ?_, ?_, ?_⟩, fun _ _ => rfl, by rw [y63]; omega, fun z => absurd (y69.symm.trans z) (by decide), fun p p0 _ => stI_ne _ _ p0, fun j j1 j2 => by rw [stI_at, updN j2], fun z => by omega⟩
      · rw [y63]; exact h3
      · rw [y63]; exact h4
      · rw [y63]
        exact fun _ => ⟨cm, u, hr, hn⟩
    rw [if_neg c] at q
    have m9 : (N.1 0 63).toInt ≤ 999 := by
      have : (N.1 0 63).toInt ≠ 1000 := fun z => c (Int32.toInt_inj.mp z)
      omega
    have q := ix_r q
    rw [lq_s] at q
    obtain ⟨N1, w, p1, q⟩ := cal_o q
    unfold q_ChipMapModel_memoryWord at p1
    obtain ⟨N0, eN0⟩ : ∃ z, z = stI N 45 (upd (N.1 45) (N.1 0 63).toNatClampNeg (whr C u.1)) := ⟨_, rfl⟩
    rw [← eN0] at p1 q
    have n0 : ∀ p, p ≠ 45 → N0.1 p = N.1 p := fun p hp => by rw [eN0, stI_ne _ _ hp]
    obtain ⟨rfl, rfl⟩ := mem_l h12 (by rw [n0 0 (by decide)]; exact e38.symm) (by rw [n0 36 (by decide)]; exact md.2) hv.2.1 (C.1 43 0).toInt.toNat 4000 0 0 (by omega) (by decide) (fun b => by rw [tb_0, e0, decide_eq_false (Nat.not_lt_zero b), Bool.false_and]) N1 w p1
    have q := ix_r q
    rw [lq_s] at q
    obtain ⟨N2, eN2⟩ : ∃ z, z = stI N1 47 (upd (N1.1 47) (N1.1 0 63).toNatClampNeg u.2.1) := ⟨_, rfl⟩
    rw [← eN2] at q
    have n2 : ∀ p, p ≠ 45 → p ≠ 47 → N2.1 p = N.1 p := fun p p1 p2 => by rw [eN2, stI_ne _ _ p2, n0 p p1]
    have e63 : N2.1 0 63 = N.1 0 63 := by rw [n2 0 (by decide) (by decide)]
    obtain ⟨a1, a2, a3, a4, a5⟩ := mt82 (A := N2) (m := (N.1 0 63).toNatClampNeg) (by rw [e63]; omega) (by omega) 26 4000 N2 0 (by decide) (by decide) (fun _ _ => rfl) (fun f hf => nlz (by rw [e0] at hf; exact hf)) (fun _ _ => rfl) N' x q
    have ec : (N.1 0 63 + 1).toInt = (N.1 0 63).toInt + 1 := iadd rfl (rfl : (1 : Int32).toInt = 1) (by omega) (by omega)
    have tc' := tnc (i := N.1 0 63 + 1) (by omega)
    have y63 : N'.1 0 63 = N.1 0 63 + 1 := by rw [a3, e63]
    have yn : (N'.1 0 63).toNatClampNeg = (N.1 0 63).toNatClampNeg + 1 := by rw [y63]; omega
    have y69 : N'.1 0 69 = N.1 0 69 := by rw [a2 69 (by decide), n2 0 (by decide) (by decide)]
    have y45 : N'.1 45 = upd (N.1 45) (N.1 0 63).toNatClampNeg (whr C u.1) := by rw [a1 45 (by decide) (by decide), eN2, stI_ne _ _ (by decide), eN0, stI_at]
    have y47 : N'.1 47 = upd (N.1 47) (N.1 0 63).toNatClampNeg u.2.1 := by rw [a1 47 (by decide) (by decide), eN2, stI_at, n0 0 (by decide), n0 47 (by decide)]
    have y46o : ∀ k, k < 26 * (N.1 0 63).toNatClampNeg → N'.1 46 k = N.1 46 k := fun k hk => by rw [a5 k hk, n2 46 (by decide) (by decide)]
    have y46n : ∀ f, f < 26 → N'.1 46 (26 * (N.1 0 63).toNatClampNeg + f) = N.1 33 f := fun f hf => by rw [a4 f hf, n2 33 (by decide) (by decide)]
    refine ⟨nxt S (N.1 0 63).toNatClampNeg u, ⟨by rw [y63]; omega, fun j hj => ?_, fun i j hij hj => ?_, fun z => ?_⟩, fun j hj => nxt_o hj, by omega, fun z => ⟨by rw [← y69]; exact z, (N.1 0 63).toNatClampNeg, by omega, nxt_n (Nat.lt_irrefl _)⟩, fun p p0 hp => ?_, fun j j1 j2 => ?_, fun _ => y69⟩
    · by_cases cj : j < (N.1 0 63).toNatClampNeg
      · rw [nxt_o cj]
        obtain ⟨v1, v2, v3⟩ := h3 j cj
        exact ⟨v1, v2, v3.k (by rw [y45, updN (by omega)]) (by rw [y47, updN (by omega)]) (fun f hf => y46o _ (by omega))⟩
      · rw [nxt_n cj, show j = (N.1 0 63).toNatClampNeg by omega]
        refine ⟨hv, hr, by rw [y45, updS], by rw [y47, updS], fun f hp hk => ?_⟩
        rw [y46n f hp.1]
        exact md.1.1 f hp hk
    · rw [nxt_o (show i < (N.1 0 63).toNatClampNeg by omega)]
      by_cases cj : j < (N.1 0 63).toNatClampNeg
      · rw [nxt_o cj]
        exact h4 i j hij cj
      · rw [nxt_n cj]
        exact hn i (by omega)
    · rw [y69] at z
      have := (h5 z).1
      omega
    · rw [a1 p p0 (by omega), n2 p (by omega) (by omega)]
    · rw [a2 j j1, n2 0 (by decide) (by decide)]
  | succ j ih =>
    intro n' s hj s0' hn N' x q
    obtain ⟨n', rfl⟩ : ∃ m, n' = m + 1 := by
      cases n' with
      | zero => rw [q_ChipMapModel_meet_17] at q; cases q
      | succ m => exact ⟨m, rfl⟩
    have ts := tnc s0'
    have ez : (s + 1).toInt = s.toInt + 1 := iadd rfl (rfl : (1 : Int32).toInt = 1) (by omega) (by omega)
    have es : (s + 1).toNatClampNeg = s.toNatClampNeg + 1 := by
      have := tnc (i := s + 1) (by omega)
      omega
    have c : ¬ N.1 0 63 ≤ s := fun z => by have := Int32.le_iff_toInt_le.mp z; omega
    rw [q_ChipMapModel_meet_17, if_neg c] at q
    obtain ⟨N1, t, p1, q⟩ := cal_o q
    obtain ⟨v1, v2, v3⟩ := h3 s.toNatClampNeg (by omega)
    obtain ⟨rfl, ht⟩ := is_S hx h12 hv md ⟨s0', by omega⟩ v1 v3 l40.2 p1
    rcases ht with ⟨rfl, ht⟩ | ⟨rfl, ht⟩
    · rw [if_neg (by decide : ¬ (1 : Int32) = 0)] at q
      obtain ⟨rfl, -⟩ := rs_e q
      exact ⟨S, h, fun _ _ => rfl, Nat.le_refl _, fun z => ⟨z, _, by omega, ht⟩, fun _ _ _ => rfl, fun _ _ _ => rfl, fun _ => rfl⟩
    · rw [if_pos rfl] at q
      refine ih n' (s + 1) (by omega) (by omega) (fun k hk => ?_) N' x q
      by_cases ck : k = s.toNatClampNeg
      · rw [ck]; exact ht
      · exact hn k (by omega)
theorem meet_r {C : Mm} (hc : CX C) {S : Nat → Sit} {N : Mm} (hx : FX C N) (h : RT C S N) {u : Sit} (hv : Vs C u) (hr : Rch C u) (md : MD C u.2.1 u.2.2 N) {a : Int32} (a0 : 0 ≤ a.toInt) (ea : u.1 = mn a (C.1 69 0)) {N' : Mm} {x : Int32} (q : q_ChipMapModel_meet N a = some (N', x)) : ∃ S' : Nat → Sit, MR C S S' N N' u := by
  have l40 := hc.2.2.1
  have m0 := h.1
  have e59 := hx.2.2.2.2.1
  have z0 : (0 : Int32).toInt = 0 := rfl
  have e0 : (0 : Int32).toNatClampNeg = 0 := rfl
  have q : q_ChipMapModel_meet_17 4000 N (whr C u.1) 0 = some (N', x) := by
    unfold q_ChipMapModel_meet q_ChipMapModel_meet_14 at q
    rw [← e59] at q
    by_cases c : a < C.1 69 0
    · rw [if_pos c] at q
      have cl := Int32.lt_iff_toInt_lt.mp c
      have e : u.1 = a := by
        rw [ea]
        unfold mn
        rw [if_neg (fun z => by have := Int32.lt_iff_toInt_lt.mp z; omega)]
      unfold whr
      rw [e, if_pos cl]
      exact q
    · rw [if_neg c] at q
      have cl : ¬ a.toInt < (C.1 69 0).toInt := fun z => c (Int32.lt_iff_toInt_lt.mpr z)
      have e : ¬ u.1.toInt < (C.1 69 0).toInt := by
        rw [ea]
        unfold mn
        by_cases z : C.1 69 0 < a
        · rw [if_pos z]; omega
        · rw [if_neg z]; exact cl
      unfold whr
      rw [if_neg e]
      exact q
  exact mt17 hc hx h hv hr md (N.1 0 63).toInt.toNat 4000 0 (by omega) (by decide) (fun k hk => nlz (by rw [e0] at hk; exact hk)) N' x q
end
section
-- the reference stands at a situation, and goes on from it
theorem st33_l {C A : Mm} {s w : Int32} (ew : A.1 47 s.toNatClampNeg = w) (h12 : 0 ≤ (C.1 43 0).toInt ∧ (C.1 43 0).toInt ≤ 12) (e38 : A.1 0 38 = C.1 43 0) : ∀ (j n' : Nat) (N : Mm) (i : Int32), (C.1 43 0).toInt - i.toInt = (j : Int) → 0 ≤ i.toInt → (∀ p, p ≠ 36 → N.1 p = A.1 p) → (∀ k, k < i.toNatClampNeg → N.1 36 k = b2 (tb w k)) → ∀ (N' : Mm) (x : Int32), q_ChipMapModel_stand_33 n' N s i = some (N', x) → (∀ p, p ≠ 36 → N'.1 p = A.1 p) ∧ ∀ k : Nat, (k : Int) < (C.1 43 0).toInt → N'.1 36 k = b2 (tb w k) := by
  intro j
  induction j with
  | zero =>
    intro n' N i hj i0 h1 h2 N' x q
    obtain ⟨n', rfl⟩ : ∃ m, n' = m + 1 := by
      cases n' with
      | zero => rw [q_ChipMapModel_stand_33] at q; cases q
      | succ m => exact ⟨m, rfl⟩
    have tn := tnc i0
    rw [q_ChipMapModel_stand_33, h1 0 (by decide), e38, if_pos (Int32.le_iff_toInt_le.mpr (by omega))] at q
    obtain ⟨rfl, -⟩ := rs_e q
    exact ⟨h1, fun k hk => h2 k (by omega)⟩
  | succ j ih =>
    intro n' N i hj i0 h1 h2 N' x q
    obtain ⟨n', rfl⟩ : ∃ m, n' = m + 1 := by
      cases n' with
      | zero => rw [q_ChipMapModel_stand_33] at q; cases q
      | succ m => exact ⟨m, rfl⟩
    have tn := tnc i0
    have ez : (i + 1).toInt = i.toInt + 1 := iadd rfl (rfl : (1 : Int32).toInt = 1) (by omega) (by omega)
    have es : (i + 1).toNatClampNeg = i.toNatClampNeg + 1 := tnS (by omega)
    have c : ¬ C.1 43 0 ≤ i := fun z => by have := Int32.le_iff_toInt_le.mp z; omega
    rw [q_ChipMapModel_stand_33, h1 0 (by decide), e38, if_neg c] at q
    have q := ix_r q
    rw [h1 47 (by decide), ew] at q
    unfold q_ChipMapModel_stand_65 at q
    have go : ∀ t : Int32, (t = 0 ∨ t = 1) → t = b2 (tb w i.toNatClampNeg) → q_ChipMapModel_stand_33 n' (stI N 36 (upd (N.1 36) i.toNatClampNeg (vp_nar .boolean t))) s (i + 1) = some (N', x) → (∀ p, p ≠ 36 → N'.1 p = A.1 p) ∧ ∀ k : Nat, (k : Int) < (C.1 43 0).toInt → N'.1 36 k = b2 (tb w k) := by
      intro t t01 et q
      rw [nar_b t01] at q
      refine ih n' _ (i + 1) (by omega) (by omega) (fun p hp => by rw [stI_ne _ _ hp]; exact h1 p hp) (fun k hk => ?_) N' x q
      rw [stI_at]
      by_cases ck : k = i.toNatClampNeg
      · rw [ck, updS]; exact et
      · rw [updN ck]
        exact h2 k (by omega)
    have b1 := bit_1 (x := w) (i := i) (by omega)
    by_cases cb : (w >>> (i &&& 31)) &&& 1 = 1
    · rw [if_pos cb] at q
      have q := ix_r q
      rw [lq_s] at q
      exact go 1 (Or.inr rfl) (by rw [b1.mp cb]; rfl) q
    · rw [if_neg cb] at q
      have q := ix_r q
      rw [lq_s] at q
      refine go 0 (Or.inl rfl) ?_ q
      cases z : tb w i.toNatClampNeg with
      | false => rfl
      | true => exact absurd (b1.mpr z) cb
theorem st2_l {C A : Mm} {s : Int32} (hs : 0 ≤ s.toInt ∧ s.toInt ≤ 1000) (h12 : 0 ≤ (C.1 43 0).toInt ∧ (C.1 43 0).toInt ≤ 12) (e38 : A.1 0 38 = C.1 43 0) : ∀ (j n' : Nat) (N : Mm) (i : Int32), 26 - i.toInt = (j : Int) → 0 ≤ i.toInt → (∀ p, p ≠ 33 → N.1 p = A.1 p) → (∀ f, f < i.toNatClampNeg → N.1 33 f = A.1 46 (26 * s.toNatClampNeg + f)) → ∀ (N' : Mm) (x : Int32), q_ChipMapModel_stand_2 n' N s i = some (N', x) → (∀ p, p ≠ 33 → p ≠ 36 → N'.1 p = A.1 p) ∧ (∀ f, f < 26 → N'.1 33 f = A.1 46 (26 * s.toNatClampNeg + f)) ∧ ∀ k : Nat, (k : Int) < (C.1 43 0).toInt → N'.1 36 k = b2 (tb (A.1 47 s.toNatClampNeg) k) := by
  have e26 : (26 : Int32).toInt = 26 := rfl
  have z0 : (0 : Int32).toInt = 0 := rfl
  have e0 : (0 : Int32).toNatClampNeg = 0 := rfl
  intro j
  induction j with
  | zero =>
    intro n' N i hj i0 h1 h2 N' x q
    obtain ⟨n', rfl⟩ : ∃ m, n' = m + 1 := by
      cases n' with
      | zero => rw [q_ChipMapModel_stand_2] at q; cases q
      | succ m => exact ⟨m, rfl⟩
    have tn := tnc i0
    rw [q_ChipMapModel_stand_2, if_pos (Int32.le_iff_toInt_le.mpr (by omega))] at q
    obtain ⟨a1, a2⟩ := st33_l (A := N) (C := C) rfl h12 (by rw [h1 0 (by decide)]; exact e38) (C.1 43 0).toInt.toNat 4000 N 0 (by omega) (by decide) (fun _ _ => rfl) (fun k hk => nlz (by rw [e0] at hk; exact hk)) N' x q
    refine ⟨fun p p1 p2 => ?_, fun f hf => ?_, fun k hk => ?_⟩
    · rw [a1 p p2]; exact h1 p p1
    · rw [a1 33 (by decide)]; exact h2 f (by omega)
    · rw [a2 k hk, h1 47 (by decide)]
  | succ j ih =>
    intro n' N i hj i0 h1 h2 N' x q
    obtain ⟨n', rfl⟩ : ∃ m, n' = m + 1 := by
      cases n' with
      | zero => rw [q_ChipMapModel_stand_2] at q; cases q
      | succ m => exact ⟨m, rfl⟩
    have tn := tnc i0
    have ez : (i + 1).toInt = i.toInt + 1 := iadd rfl (rfl : (1 : Int32).toInt = 1) (by omega) (by omega)
    have es : (i + 1).toNatClampNeg = i.toNatClampNeg + 1 := tnS (by omega)
    have c : ¬ (26 : Int32) ≤ i := fun z => by have := Int32.le_iff_toInt_le.mp z; omega
    rw [q_ChipMapModel_stand_2, if_neg c] at q
    have q := ix_r (ix_r q)
    rw [lq_s, ad26 hs (by omega), h1 46 (by decide)] at q
    refine ih n' _ (i + 1) (by omega) (by omega) (fun p hp => by rw [stI_ne _ _ hp]; exact h1 p hp) (fun f hf => ?_) N' x q
    rw [stI_at]
    by_cases cf : f = i.toNatClampNeg
    · rw [cf, updS]
    · rw [updN cf]
      exact h2 f (by omega)
theorem stand_r {C N : Mm} (h12 : 0 ≤ (C.1 43 0).toInt ∧ (C.1 43 0).toInt ≤ 12) (e38 : N.1 0 38 = C.1 43 0) {s : Int32} (hs : 0 ≤ s.toInt ∧ s.toInt ≤ 1000) {u : Sit} (hv : Vs C u) (rk : RK C N s.toNatClampNeg u) {N' : Mm} {x : Int32} (q : q_ChipMapModel_stand N s = some (N', x)) : MD C u.2.1 u.2.2 N' ∧ ∀ p, p ≠ 33 → p ≠ 36 → N'.1 p = N.1 p := by
  have e0 : (0 : Int32).toNatClampNeg = 0 := rfl
  unfold q_ChipMapModel_stand at q
  obtain ⟨a1, a2, a3⟩ := st2_l hs h12 e38 26 4000 N 0 (by decide) (by decide) (fun _ _ => rfl) (fun f hf => nlz (by rw [e0] at hf; exact hf)) N' x q
  refine ⟨⟨⟨fun f hp hk => ?_, hv.2.2.1⟩, fun k hk => ?_⟩, a1⟩
  · rw [a2 f hp.1]
    exact rk.2.2 f hp hk
  · rw [a3 k hk, rk.2.1]
theorem PQ.s57 {A B M N : Mm} (h : PQ A B M N) (x : Int32) : PQ A B M (stI N 0 (upd (N.1 0) 57 x)) := by
  obtain ⟨f1, f2, hl, la, md, rf, e58, e47, g1, g2, g3, g4⟩ := h
  have np : ∀ p, p ≠ 0 → (stI N 0 (upd (N.1 0) 57 x)).1 p = N.1 p := fun p hp => stI_ne _ _ hp
  have ns : ∀ i, i ≠ 57 → (stI N 0 (upd (N.1 0) 57 x)).1 0 i = N.1 0 i := fun i hi => by rw [stI_at, updN hi]
  refine ⟨f1, f2, hl.n (fun p h1 h2 => np p (by omega)), la.n (fun p h1 h2 => np p (by omega)) (fun i hi => ns i (by omega)), md.n (np 33 (by decide)) (np 36 (by decide)), ?_, ?_, ?_, fun p h1 h2 => ?_, fun j j1 j2 j3 j4 => ?_, fun f hf => ?_, fun k hk => ?_⟩
  · rw [ns 55 (by decide)]; exact rf
  · rw [ns 58 (by decide)]; exact e58
  · rw [ns 47 (by decide)]; exact e47
  · rw [np p h1]; exact g1 p h1 h2
  · rw [ns j j4]; exact g2 j j1 j2 j3 j4
  · rw [np 33 (by decide)]; exact g3 f hf
  · rw [np 36 (by decide)]; exact g4 k hk
/-- behind a put or a fetch of the search -/
def PO (A B M' N' : Mm) : Prop := MD A (M'.1 61 2) (M'.1 62) N' ∧ ((M'.1 60 5 = 0 ∧ N'.1 0 55 = 0) ∨ (M'.1 60 5 ≠ 0 ∧ N'.1 0 55 ≠ 0)) ∧ (∀ p, 40 ≤ p → N'.1 p = B.1 p) ∧ ∀ j, j ≠ 47 → j ≠ 55 → j ≠ 56 → j ≠ 57 → N'.1 0 j = B.1 0 j
theorem PQ.o {A B M N : Mm} (h : PQ A B M N) : PO A B M N := by
  obtain ⟨f1, f2, hl, la, md, rf, e58, e47, g1, g2, g3, g4⟩ := h
  exact ⟨md, rf, fun p hp => g1 p (by omega) (by omega), g2⟩
theorem fet_q {A B M N : Mm} (h : PQ A B M N) (hx : PX A B) {f : Int32} (f0 : 0 ≤ f.toInt) (hp : pf A f.toNatClampNeg) (hr : (A.1 38 f.toNatClampNeg).toInt < (A.1 24 0).toInt) (c15 : (M.1 60 2).toInt < 15) {M' N' : Mm} {x y : Int32} (q1 : q_Plan_addFetch M f = some (M', x)) (q2 : q_ChipMapModel_doFetch N f = some (N', y)) : PO A B M' N' := by
  have f1 := h.1
  have t := tnc f0
  have hp1 := hp.1
  unfold q_Plan_addFetch at q1
  have q1 := ix_r q1
  rw [f1 39 (by omega)] at q1
  unfold q_ChipMapModel_doFetch at q2
  have q2 := ix_r q2
  rw [lq_s] at q2
  have h1 := h.s57 (N.1 33 f.toNatClampNeg)
  generalize stI N 0 (upd (N.1 0) 57 (N.1 33 f.toNatClampNeg)) = N1 at q2 h1
  have q2 := ix_r q2
  have hl1 := h1.2.2.1
  have lp := lf_p hl1 hp
  obtain ⟨i0, -, -, i3⟩ := ac_0 lp.2.2.2.1.1 lp.2.2.2.1.2
  by_cases cw0 : A.1 39 f.toNatClampNeg = 0
  · rw [if_pos cw0] at q1
    rw [if_pos (i0.mp cw0)] at q2
    obtain ⟨rfl, -⟩ := rs_e q1
    obtain ⟨rfl, -⟩ := rs_e q2
    exact h1.o
  rw [if_neg cw0] at q1
  have q1 := ix_r q1
  rw [f1 38 (by omega)] at q1
  obtain ⟨M1, s1, p1, q1⟩ := cal_o q1
  obtain ⟨rfl, -⟩ := rs_e q1
  rw [if_neg (fun z => cw0 (i0.mpr z))] at q2
  have q2 := ix_r q2
  rw [← lp.2.1] at q2
  obtain ⟨N2, s2, p2, q2⟩ := cal_o q2
  obtain ⟨h2, -⟩ := reach_q h1 hx ⟨lp.2.2.1, hr⟩ (by omega) p1 p2
  by_cases c55 : N2.1 0 55 = 0
  rotate_left
  · rw [if_neg c55] at q2
    obtain ⟨rfl, -⟩ := rs_e q2
    exact h2.o
  rw [if_pos c55] at q2
  have q2 := ix_r q2
  rw [lq_s] at q2
  have h3 := h2.s57 (N2.1 33 f.toNatClampNeg)
  have n55 : (stI N2 0 (upd (N2.1 0) 57 (N2.1 33 f.toNatClampNeg))).1 0 55 = 0 := by rw [stI_at, updN (by decide)]; exact c55
  generalize stI N2 0 (upd (N2.1 0) 57 (N2.1 33 f.toNatClampNeg)) = N3 at q2 h3 n55
  have q2 := ix_r q2
  have h47 := h3.n47 hx
  obtain ⟨md3, rf3, g13, g23⟩ := h3.o
  have hl3 := h3.2.2.1
  have lp3 := lf_p hl3 hp
  rw [← lp3.2.1] at q2
  obtain ⟨N4, s4, p4, q2⟩ := cal_o q2
  obtain ⟨N5, y', y1, y2, y3, y4, y5, y6, -⟩ := r4_l hl3 h47 (r := A.1 38 f.toNatClampNeg) ⟨lp.2.2.1, hx.2.1 _⟩ 26 4000 N3 0 0 (by decide) (by decide) (by decide) (fun _ _ _ _ => rfl) rfl (fun _ _ _ => rfl) (fun _ _ => rfl)
  unfold q_ChipMapModel_read at p4
  rw [y1] at p4
  obtain ⟨rfl, -⟩ := rs_e p4
  have po5 : PO A B M1 N5 := by
    refine ⟨⟨md3.1.k y6, fun k hk => by rw [y2 36 (by decide) (by omega)]; exact md3.2 k hk⟩, ?_, fun p hq => by rw [y2 p (by omega) (by omega)]; exact g13 p hq, fun j j1 j2 j3 j4 => by rw [y3 j j1]; exact g23 j j1 j2 j3 j4⟩
    rw [y3 55 (by decide)]
    exact rf3
  have q2 := ix_r q2
  by_cases c9 : N5.1 24 f.toNatClampNeg = 99
  · rw [if_pos c9] at q2
    have q2 := ix_r q2
    rw [lq_s] at q2
    have q2 := ix_r q2
    rw [lq_s] at q2
    obtain ⟨rfl, -⟩ := rs_e q2
    obtain ⟨o1, o2, o3, o4⟩ := po5
    refine ⟨o1.n (by rw [stI_ne _ _ (by decide), stI_ne _ _ (by decide)]) (by rw [stI_ne _ _ (by decide), stI_ne _ _ (by decide)]), ?_, fun p hq => by rw [stI_ne _ _ (by omega), stI_ne _ _ (by omega)]; exact o3 p hq, fun j j1 j2 j3 j4 => by rw [stI_ne _ _ (by decide), stI_at, updN j4]; exact o4 j j1 j2 j3 j4⟩
    rw [stI_ne _ _ (by decide), stI_at, updN (by decide)]
    exact o2
  · rw [if_neg c9] at q2
    obtain ⟨rfl, -⟩ := rs_e q2
    exact po5
/-- one situation of the reference's search is gone on from -/
def GRr (C : Mm) (S S' : Nat → Sit) (N N' : Mm) (s : Sit) : Prop := RT C S' N' ∧ (∀ j, j < (N.1 0 63).toNatClampNeg → S' j = S j) ∧ (N.1 0 63).toNatClampNeg ≤ (N'.1 0 63).toNatClampNeg ∧ (N'.1 0 69 = 0 → ∀ s', Es C s s' → ∃ k, k < (N'.1 0 63).toNatClampNeg ∧ S' k = s') ∧ ((¬ Ts C s ∧ N'.1 0 75 = N.1 0 75) ∨ (Ts C s ∧ tR (N.1 0 75) s.1 (N'.1 0 75)))
def Tot (C : Mm) : Prop := ∀ u : Sit, Vs C u → u.1.toInt < (C.1 69 0).toInt → (C.1 70 u.1.toNatClampNeg = 0 ∨ C.1 70 u.1.toNatClampNeg = 1) → ∃ M M', PM C u.2.1 u.2.2 M ∧ PS C u.1.toNatClampNeg M M'
theorem goOn_r {C : Mm} (hc : CX C) (tot : Tot C) {S : Nat → Sit} {N : Mm} (hx : FX C N) (h38 : (N.1 0 38).toInt ≤ 12) (h : RT C S N) {s : Int32} (s0' : 0 ≤ s.toInt) (hs : s.toNatClampNeg < (N.1 0 63).toNatClampNeg) {N' : Mm} {x : Int32} (q : q_ChipMapModel_goOn N s = some (N', x)) : ∃ S' : Nat → Sit, GRr C S S' N N' (S s.toNatClampNeg) := by
  obtain ⟨m0, h3, h4, h5⟩ := id h
  have tm := tnc m0.1
  have ts := tnc s0'
  have h12 := hc.1.1.1
  have l40 := hc.2.2.1
  have t24 := tnc hc.2.1
  obtain ⟨hl, la, e58, e47, sp⟩ := id hx
  have e38 := la.2.2.2.2.1
  have kd0 : kD N N := kD.rf e58 h38
  obtain ⟨v1, v2, rk⟩ := h3 _ hs
  generalize hS : S s.toNatClampNeg = u at v1 v2 rk ⊢
  have ta := tnc v1.1.1
  have n40 : (40 : Int32).toInt = 40 := rfl
  unfold q_ChipMapModel_goOn at q
  have q := ix_r q
  rw [lq_s, rk.1] at q
  have hs1 : 0 ≤ s.toInt ∧ s.toInt ≤ 1000 := by omega
  by_cases al : u.1.toInt < (C.1 69 0).toInt
  rotate_left
  · have ew : whr C u.1 = 40 := if_neg al
    rw [ew, if_pos rfl] at q
    unfold q_ChipMapModel_goOn_23 at q
    obtain ⟨N1, x1, p1, q⟩ := cal_o q
    rw [if_pos rfl] at q
    obtain ⟨rfl, -⟩ := rs_e q
    obtain ⟨-, st⟩ := stand_r h12 e38.symm hs1 v1 rk p1
    refine ⟨S, h.k (fun p p1 p2 => st p (by omega) (by omega)) (by rw [st 0 (by decide) (by decide)]) (by rw [st 0 (by decide) (by decide)]), fun _ _ => rfl, by rw [st 0 (by decide) (by decide)]; omega, fun _ s' e => absurd e.1 al, Or.inl ⟨fun t => al t.1, by rw [st 0 (by decide) (by decide)]⟩⟩
  have ew : whr C u.1 = u.1 := if_pos al
  have an : (u.1.toNatClampNeg : Int) < (C.1 69 0).toInt := by omega
  obtain ⟨s70, s71, s72⟩ := sp.2 u.1.toNatClampNeg an
  have ea1 : (u.1 + 1).toInt = u.1.toInt + 1 := iadd rfl (rfl : (1 : Int32).toInt = 1) (by omega) (by omega)
  have em : mn (u.1 + 1) (C.1 69 0) = u.1 + 1 := by
    unfold mn
    rw [if_neg (fun z => by have := Int32.lt_iff_toInt_lt.mp z; omega)]
  have c40 : ¬ u.1 = 40 := fun z => by rw [z] at al; omega
  rw [ew, if_neg c40] at q
  have q := ix_r q
  rw [← s70] at q
  have notT : (C.1 70 u.1.toNatClampNeg = 3 ∨ C.1 70 u.1.toNatClampNeg = 2) → ¬ Ts C u := by
    intro k t
    obtain ⟨-, Ma, Mb, -, ps, -⟩ := t
    rcases ps with ⟨k1, -⟩ | ⟨k1, -⟩ <;> rcases k with k | k <;> rw [k1] at k <;> exact absurd k (by decide)
  have stood : ∀ {N1 : Mm} {x1 : Int32}, q_ChipMapModel_stand N s = some (N1, x1) → FX C N1 ∧ RT C S N1 ∧ MD C u.2.1 u.2.2 N1 ∧ N1.1 0 = N.1 0 ∧ (∀ p, p ≠ 33 → p ≠ 36 → N1.1 p = N.1 p) ∧ kD N N1 := by
    intro N1 x1 p1
    obtain ⟨md, st⟩ := stand_r h12 e38.symm hs1 v1 rk p1
    have kd := kd_ChipMapModel_stand N s kd0 N1 x1 p1
    exact ⟨hx.k kd, h.k (fun p p1 p2 => st p (by omega) (by omega)) (by rw [st 0 (by decide) (by decide)]) (by rw [st 0 (by decide) (by decide)]), md, st 0 (by decide) (by decide), st, kd⟩
  by_cases c3 : C.1 70 u.1.toNatClampNeg = 3
  · rw [if_pos c3] at q
    unfold q_ChipMapModel_goOn_23 at q
    obtain ⟨N1, x1, p1, q⟩ := cal_o q
    rw [if_neg c40] at q
    obtain ⟨N2, x2, p2, q⟩ := cal_o q
    obtain ⟨rfl, -⟩ := rs_e q
    obtain ⟨fx1, rt1, md1, z1, -, -⟩ := stood p1
    have ml : mn 40 (C.1 69 0) = C.1 69 0 := by
      unfold mn
      by_cases z : C.1 69 0 < 40
      · rw [if_pos z]
      · rw [if_neg z]
        have : ¬ (C.1 69 0).toInt < (40 : Int32).toInt := fun y => z (Int32.lt_iff_toInt_lt.mpr y)
        exact Int32.toInt_inj.mp (by omega)
    obtain ⟨S', a1, a2, a3, a4, a5, a6, -⟩ := meet_r hc fx1 rt1 (u := (C.1 69 0, u.2)) ⟨by show 0 ≤ (C.1 69 0).toInt ∧ (C.1 69 0).toInt ≤ _; omega, v1.2⟩ (v2.e ⟨al, Or.inl ⟨c3, rfl⟩⟩) md1 (by decide) ml.symm p2
    rw [z1] at a2 a3
    refine ⟨S', a1, a2, a3, fun z s' e => ?_, Or.inl ⟨notT (Or.inl c3), by rw [a6 75 (by decide) (by decide), z1]⟩⟩
    obtain ⟨-, k, k1, k2⟩ := a4 z
    refine ⟨k, k1, ?_⟩
    rw [k2]
    rcases e.2 with ⟨-, e⟩ | ⟨k3, -⟩ | ⟨Ma, Mb, -, ps, -⟩
    · exact e.symm
    · rw [c3] at k3; exact absurd k3 (by decide)
    · rcases ps with ⟨k3, -⟩ | ⟨k3, -⟩ <;> rw [c3] at k3 <;> exact absurd k3 (by decide)
  rw [if_neg c3] at q
  obtain ⟨N1, x1, p1, q⟩ := cal_o q
  obtain ⟨fx1, rt1, md1, z1, st1, kd1⟩ := stood p1
  have q := ix_r q
  rw [st1 42 (by decide) (by decide), ← s70] at q
  by_cases c2 : C.1 70 u.1.toNatClampNeg = 2
  · rw [if_pos c2] at q
    have q := ix_r q
    rw [st1 44 (by decide) (by decide), ← s72] at q
    obtain ⟨N4, x4, p4, q⟩ := cal_o q
    obtain ⟨N6, x6, p6, q⟩ := cal_o q
    obtain ⟨rfl, -⟩ := rs_e q
    have hvv : 0 ≤ (C.1 72 u.1.toNatClampNeg).toInt := by
      rcases hc.2.2.2.2.2 u.1.toNatClampNeg an with z | z | z
      · exact absurd z c3
      · exact z.2.1
      · rcases z.1 with y | y <;> rw [c2] at y <;> exact absurd y (by decide)
    have mv : 0 ≤ (mn (C.1 72 u.1.toNatClampNeg) (C.1 69 0)).toInt ∧ (mn (C.1 72 u.1.toNatClampNeg) (C.1 69 0)).toInt ≤ (C.1 69 0).toInt := by
      unfold mn
      by_cases z : C.1 69 0 < C.1 72 u.1.toNatClampNeg
      · rw [if_pos z]; omega
      · rw [if_neg z]
        have : ¬ (C.1 69 0).toInt < (C.1 72 u.1.toNatClampNeg).toInt := fun y => z (Int32.lt_iff_toInt_lt.mpr y)
        omega
    obtain ⟨S1, a1, a2, a3, a4, a5, a6, -⟩ := meet_r hc fx1 rt1 (u := (mn (C.1 72 u.1.toNatClampNeg) (C.1 69 0), u.2)) ⟨mv, v1.2⟩ (v2.e ⟨al, Or.inr (Or.inl ⟨c2, Or.inr rfl⟩)⟩) md1 hvv rfl p4
    have fx4 : FX C N4 := fx1.k (kd_ChipMapModel_meet N1 _ (kD.rf fx1.2.2.1 (by rw [z1]; exact h38)) N4 x4 p4)
    have md4 : MD C u.2.1 u.2.2 N4 := md1.n (a5 33 (by decide) (by omega)) (a5 36 (by decide) (by omega))
    obtain ⟨S2, b1, b2', b3, b4, b5, b6, -⟩ := meet_r hc fx4 a1 (u := (u.1 + 1, u.2)) ⟨by show 0 ≤ (u.1 + 1).toInt ∧ (u.1 + 1).toInt ≤ _; omega, v1.2⟩ (v2.e ⟨al, Or.inr (Or.inl ⟨c2, Or.inl rfl⟩)⟩) md4 (by omega) em.symm p6
    rw [z1] at a2 a3
    refine ⟨S2, b1, fun j hj => by rw [b2' j (by omega), a2 j hj], by omega, fun z s' e => ?_, Or.inl ⟨notT (Or.inr c2), by rw [b6 75 (by decide) (by decide), a6 75 (by decide) (by decide), z1]⟩⟩
    obtain ⟨z1', k, k1, k2⟩ := b4 z
    obtain ⟨-, k', k1', k2'⟩ := a4 z1'
    rcases e.2 with ⟨k3, -⟩ | ⟨-, e | e⟩ | ⟨Ma, Mb, -, ps, -⟩
    · rw [c2] at k3; exact absurd k3 (by decide)
    · exact ⟨k, k1, by rw [k2]; exact e.symm⟩
    · exact ⟨k', by omega, by rw [b2' k' k1', k2']; exact e.symm⟩
    · rcases ps with ⟨k3, -⟩ | ⟨k3, -⟩ <;> rw [c2] at k3 <;> exact absurd k3 (by decide)
  rw [if_neg c2, lq_s] at q
  obtain ⟨N4, e4⟩ : ∃ z, z = stI N1 0 (upd (N1.1 0) 55 0) := ⟨_, rfl⟩
  rw [← e4] at q
  have n4p : ∀ p, p ≠ 0 → N4.1 p = N1.1 p := fun p hp => by rw [e4, stI_ne _ _ hp]
  have n4s : ∀ j, j ≠ 55 → N4.1 0 j = N1.1 0 j := fun j hj => by rw [e4, stI_at, updN hj]
  have n455 : N4.1 0 55 = 0 := by rw [e4, stI_at, updS]
  have q := ix_r q
  rw [n4p 42 (by decide), st1 42 (by decide) (by decide), ← s70] at q
  obtain ⟨kf, hf, hh⟩ : (C.1 70 u.1.toNatClampNeg = 0 ∨ C.1 70 u.1.toNatClampNeg = 1) ∧ (0 ≤ (C.1 71 u.1.toNatClampNeg).toInt ∧ (C.1 71 u.1.toNatClampNeg).toInt ≤ 25) ∧ (0 ≤ (C.1 38 (C.1 71 u.1.toNatClampNeg).toNatClampNeg).toInt ∧ (C.1 38 (C.1 71 u.1.toNatClampNeg).toNatClampNeg).toInt < (C.1 24 0).toInt) := by
    rcases hc.2.2.2.2.2 u.1.toNatClampNeg an with z | z | z
    · exact absurd z c3
    · exact absurd z.1 c2
    · exact z
  obtain ⟨M, M', pm, ps⟩ := tot u v1 al kf
  have em1 : ∀ p, p < 60 ∨ (65 ≤ p ∧ p ≤ 72) → M.1 p = C.1 p := pm.1
  have kxM : ∀ p, 24 ≤ p → p < 50 → M.1 p = C.1 p := fun p g1 g2 => em1 p (by omega)
  have vmM : Vm C M := ⟨fun r hr b hb => by
    rw [pm.2.2.2.2 r hr] at hb
    exact v1.2.2.1 r hr b hb, by rw [pm.2.2.2.1]; exact v1.2.1⟩
  have lfM : LF M N4 := (fx1.1.n (fun p g1 g2 => n4p p (by omega))).cg (em1 38 (by omega)) (em1 39 (by omega)) (em1 40 (by omega)) (em1 41 (by omega)) rfl rfl rfl rfl rfl
  have laC4 : LA C N4 := fx1.2.1.n (fun p g1 g2 => n4p p (by omega)) (fun j hj => n4s j (by omega))
  have laM : LA M N4 := laC4.c2 kxM (fun _ _ _ => rfl) (fun _ _ => rfl)
  have md4 : MD C u.2.1 u.2.2 N4 := md1.n (n4p 33 (by decide)) (n4p 36 (by decide))
  have mdM : MD M (M.1 61 2) (M.1 62) N4 := by
    have z := (md4.w (fx1.1.n (fun p g1 g2 => n4p p (by omega))) laC4 pm.2.2.2.2).c2 (M' := M) (N' := N4) kxM rfl rfl
    rw [pm.2.2.2.1]
    exact z
  have px : PX M N4 := ⟨hc.1.1.cg (fun p g1 g2 => kxM p (by omega) (by omega)), by rw [kxM 38 (by decide) (by decide)]; exact hc.1.2.1, by rw [kxM 24 (by decide) (by decide)]; exact ⟨hc.2.1, hc.1.2.2.1⟩, by rw [n4s 47 (by decide), z1]; exact e47⟩
  have pq : PQ M N4 M N4 := ⟨fun _ _ => rfl, by rw [pm.2.1]; decide, lfM, laM, mdM, Or.inl ⟨pm.2.2.1, n455⟩, rfl, by rw [pm.2.1, Int32.mul_zero, Int32.add_zero], fun _ _ _ => rfl, fun _ _ _ _ _ => rfl, fun _ _ => rfl, fun _ _ => rfl⟩
  have pfM : pf M (C.1 71 u.1.toNatClampNeg).toNatClampNeg := by
    have tf := tnc hf.1
    refine ⟨by omega, ?_⟩
    rw [kxM 38 (by decide) (by decide)]
    intro z
    rw [z] at hh
    exact absurd hh.1 (by decide)
  have hrM : (M.1 38 (C.1 71 u.1.toNatClampNeg).toNatClampNeg).toInt < (M.1 24 0).toInt := by
    rw [kxM 38 (by decide) (by decide), kxM 24 (by decide) (by decide)]
    exact hh.2
  have c15 : (M.1 60 2).toInt < 15 := by rw [pm.2.1]; decide
  obtain ⟨-, qv2⟩ := ps.v hc an kxM vmM
  have kd4 : kD N1 N4 := by
    rw [e4]
    exact (kD.rf fx1.2.2.1 (by rw [z1]; exact h38)).s0 (by decide)
  have fx4 : FX C N4 := fx1.k kd4
  have h384 : (N4.1 0 38).toInt ≤ 12 := by rw [n4s 38 (by decide), z1]; exact h38
  have fin : ∀ N5 : Mm, PO M N4 M' N5 → kD N4 N5 → q_ChipMapModel_goOn_117 N5 u.1 = some (N', x) → ∃ S' : Nat → Sit, GRr C S S' N N' u := by
    intro N5 po kd5 q
    obtain ⟨o1, o2, o3, o4⟩ := po
    have w5 : ∀ j, j ≠ 47 → j ≠ 55 → j ≠ 56 → j ≠ 57 → N5.1 0 j = N.1 0 j := fun j j1 j2 j3 j4 => by rw [o4 j j1 j2 j3 j4, n4s j j2, z1]
    have rt5 : RT C S N5 := rt1.k (fun p p1 p2 => by rw [o3 p (by omega), n4p p (by omega)]) (by rw [w5 63 (by decide) (by decide) (by decide) (by decide), z1]) (by rw [w5 69 (by decide) (by decide) (by decide) (by decide), z1])
    have fx5 : FX C N5 := fx4.k kd5
    unfold q_ChipMapModel_goOn_117 at q
    by_cases c5 : N5.1 0 55 = 0
    · rw [if_pos c5] at q
      obtain ⟨N6, x6, p6, q⟩ := cal_o q
      obtain ⟨rfl, -⟩ := rs_e q
      have m5 : M'.1 60 5 = 0 := by
        rcases o2 with ⟨y, -⟩ | ⟨-, y⟩
        · exact y
        · exact absurd c5 y
      have es : Es C u (u.1 + 1, M'.1 61 2, cw (M'.1 62)) := ⟨al, Or.inr (Or.inr ⟨M, M', pm, ps, m5, rfl⟩)⟩
      have md5 : MD C (M'.1 61 2) (cw (M'.1 62)) N5 := by
        have z := o1.c2 (M' := C) (N' := N5) (fun p g1 g2 => (kxM p g1 g2).symm) rfl rfl
        exact z.w fx5.1 fx5.2.1 (fun r hr => cw_e hr)
      obtain ⟨S', a1, a2, a3, a4, a5, a6, -⟩ := meet_r hc fx5 rt5 (u := (u.1 + 1, M'.1 61 2, cw (M'.1 62))) ⟨by show 0 ≤ (u.1 + 1).toInt ∧ (u.1 + 1).toInt ≤ _; omega, qv2.2, fun r hr b hb => qv2.1 r hr b (by rw [← cw_e (w := M'.1 62) hr]; exact hb), cw_cw⟩ (v2.e es) md5 (by omega) em.symm p6
      rw [w5 63 (by decide) (by decide) (by decide) (by decide)] at a2 a3
      refine ⟨S', a1, a2, a3, fun z s' e => ?_, Or.inl ⟨fun t => ?_, by rw [a6 75 (by decide) (by decide), w5 75 (by decide) (by decide) (by decide) (by decide)]⟩⟩
      · obtain ⟨-, k, k1, k2⟩ := a4 z
        refine ⟨k, k1, ?_⟩
        rw [k2]
        rcases e.2 with ⟨k3, -⟩ | ⟨k3, -⟩ | ⟨Ma, Mb, pm2, ps2, -, e⟩
        · exact absurd k3 c3
        · exact absurd k3 c2
        · obtain ⟨-, d2, d3⟩ := PS.d hc an pm pm2 ps ps2
          rw [e, d2, d3]
      · obtain ⟨-, Ma, Mb, pm2, ps2, n5⟩ := t
        obtain ⟨d1, -, -⟩ := PS.d hc an pm pm2 ps ps2
        exact n5 (by rw [← d1]; exact m5)
    · rw [if_neg c5] at q
      have m5 : M'.1 60 5 ≠ 0 := by
        rcases o2 with ⟨-, y⟩ | ⟨y, -⟩
        · exact absurd y c5
        · exact y
      have tS : Ts C u := ⟨al, M, M', pm, ps, m5⟩
      have noE : ∀ s', Es C u s' → ∃ k, k < (N'.1 0 63).toNatClampNeg ∧ S k = s' := fun s' e => by
        rcases e.2 with ⟨k3, -⟩ | ⟨k3, -⟩ | ⟨Ma, Mb, pm2, ps2, n5, e⟩
        · exact absurd k3 c3
        · exact absurd k3 c2
        · obtain ⟨d1, -, -⟩ := PS.d hc an pm pm2 ps ps2
          exact absurd (d1.trans n5) m5
      have e75 := w5 75 (by decide) (by decide) (by decide) (by decide)
      have done : (∀ p, p ≠ 0 → N'.1 p = N5.1 p) → (∀ j, j ≠ 75 → j ≠ 68 → N'.1 0 j = N5.1 0 j) → tR (N5.1 0 75) u.1 (N'.1 0 75) → ∃ S' : Nat → Sit, GRr C S S' N N' u := by
        intro d1 d2 d3
        rw [e75] at d3
        refine ⟨S, rt5.k (fun p p1 p2 => d1 p (by omega)) (d2 63 (by decide) (by decide)) (d2 69 (by decide) (by decide)), fun _ _ => rfl, by rw [d2 63 (by decide) (by decide), w5 63 (by decide) (by decide) (by decide) (by decide)]; omega, fun _ => noE, Or.inr ⟨tS, d3⟩⟩
      unfold q_ChipMapModel_goOn_171 at q
      have set : ∀ {Z : Mm}, some (stI (stI N5 0 (upd (N5.1 0) 75 u.1)) 0 (upd ((stI N5 0 (upd (N5.1 0) 75 u.1)).1 0) 68 ((stI N5 0 (upd (N5.1 0) 75 u.1)).1 0 56 + 1)), (0 : Int32)) = some (Z, x) → (∀ p, p ≠ 0 → Z.1 p = N5.1 p) ∧ (∀ j, j ≠ 75 → j ≠ 68 → Z.1 0 j = N5.1 0 j) ∧ Z.1 0 75 = u.1 := by
        intro Z e
        obtain ⟨rfl, -⟩ := rs_e e
        exact ⟨fun p hp => by rw [stI_ne _ _ hp, stI_ne _ _ hp], fun j j1 j2 => by rw [stI_at, updN j2, stI_at, updN j1], by rw [stI_at, updN (by decide), stI_at, updS]⟩
      by_cases d1 : N5.1 0 75 = -1
      · rw [if_pos d1, lq_s, lq_s] at q
        obtain ⟨t1, t2, t3⟩ := set q
        exact done t1 t2 (by unfold tR; rw [if_pos d1]; exact t3)
      rw [if_neg d1] at q
      by_cases d2 : u.1 < N5.1 0 75
      · rw [if_pos d2, lq_s, lq_s] at q
        obtain ⟨t1, t2, t3⟩ := set q
        refine done t1 t2 ?_
        unfold tR
        rw [if_neg d1, if_neg (fun z => by have := Int32.le_iff_toInt_le.mp z; have := Int32.lt_iff_toInt_lt.mp d2; omega)]
        exact t3
      rw [if_neg d2] at q
      have d2' : N5.1 0 75 ≤ u.1 := by
        apply Int32.le_iff_toInt_le.mpr
        have : ¬ u.1.toInt < (N5.1 0 75).toInt := fun z => d2 (Int32.lt_iff_toInt_lt.mpr z)
        omega
      have keep : tR (N5.1 0 75) u.1 (N5.1 0 75) := by unfold tR; rw [if_neg d1, if_pos d2']
      by_cases d3 : u.1 = N5.1 0 75
      · rw [if_pos d3] at q
        by_cases d4 : N5.1 0 68 - 1 ≤ N5.1 0 56
        · rw [if_pos d4] at q
          obtain ⟨rfl, -⟩ := rs_e q
          exact done (fun _ _ => rfl) (fun _ _ _ => rfl) keep
        · rw [if_neg d4, lq_s, lq_s] at q
          obtain ⟨t1, t2, t3⟩ := set q
          exact done t1 t2 (by rw [t3]; unfold tR; rw [if_neg d1, if_pos d2']; exact d3)
      · rw [if_neg d3] at q
        obtain ⟨rfl, -⟩ := rs_e q
        exact done (fun _ _ => rfl) (fun _ _ _ => rfl) keep
  rcases ps with ⟨ck, y1, r1⟩ | ⟨ck, y1, r1⟩
  · rw [if_pos ck] at q
    have q := ix_r (ix_r q)
    rw [n4p 43 (by decide), n4p 44 (by decide), st1 43 (by decide) (by decide), st1 44 (by decide) (by decide), ← s71, ← s72] at q
    obtain ⟨N5, x5, p5, q⟩ := cal_o q
    exact fin N5 (put_q pq px hf.1 pfM hrM c15 r1 p5).o (kd_ChipMapModel_doPut N4 _ _ (kD.rf fx4.2.2.1 h384) N5 x5 p5) q
  · rw [if_neg (by rw [ck]; decide)] at q
    have q := ix_r q
    rw [n4p 43 (by decide), st1 43 (by decide) (by decide), ← s71] at q
    obtain ⟨N5, x5, p5, q⟩ := cal_o q
    exact fin N5 (fet_q pq px hf.1 pfM hrM c15 r1 p5) (kd_ChipMapModel_doFetch N4 _ (kD.rf fx4.2.2.1 h384) N5 x5 p5) q
end
section
-- the reference's search to its end; check() of both sides
def LR (C : Mm) (S : Nat → Sit) (N : Mm) (i : Nat) : Prop := FX C N ∧ (N.1 0 38).toInt ≤ 12 ∧ RT C S N ∧ i ≤ (N.1 0 63).toNatClampNeg ∧ (∃ k, k < (N.1 0 63).toNatClampNeg ∧ S k = s0 C) ∧ (N.1 0 69 = 0 → ∀ j, j < i → ∀ s', Es C (S j) s' → ∃ k, k < (N.1 0 63).toNatClampNeg ∧ S k = s') ∧ TD C S (N.1 0 75) i
theorem LR.fin {C : Mm} {S : Nat → Sit} {N : Mm} {i : Nat} (h : LR C S N i) (hi : N.1 0 69 = 0 → (N.1 0 63).toNatClampNeg ≤ i) {N' : Mm} {r : Int32} (q : q_ChipMapModel_check_82 N = some (N', r)) : FIN C r := by
  obtain ⟨hx, -, ⟨m0, h3, h4, h5⟩, hl, hz, hcl, htd⟩ := h
  have tm := tnc m0.1
  unfold q_ChipMapModel_check_82 at q
  rw [lq_s] at q
  obtain ⟨N2, x2, p2, q⟩ := cal_o q
  obtain ⟨d1, -⟩ := cd20 p2
  rw [lq_s] at q
  have e69 : (stI N2 0 (upd (N2.1 0) 67 (N2.1 0 63))).1 0 69 = N.1 0 69 := by rw [stI_at, updN (by decide), d1 0 (by omega), stI_at, updN (by decide)]
  have e75 : (stI N2 0 (upd (N2.1 0) 67 (N2.1 0 63))).1 0 75 = N.1 0 75 := by rw [stI_at, updN (by decide), d1 0 (by omega), stI_at, updN (by decide)]
  rw [e69, e75] at q
  refine ⟨S, (N.1 0 63).toNatClampNeg, by omega, fun j hj => (h3 j hj).2.1, h4, ?_⟩
  by_cases c7 : N.1 0 69 = 0
  · rw [if_pos c7] at q
    have ei : (N.1 0 63).toNatClampNeg = i := by have := hi c7; omega
    refine Or.inr ⟨N.1 0 75, by rw [← (rs_e q).2, Int32.add_comm], fun s hs => ?_, by rw [ei]; exact htd⟩
    refine hs (fun s => ∃ k, k < (N.1 0 63).toNatClampNeg ∧ S k = s) hz (fun a b ⟨k, k1, k2⟩ e => ?_)
    rw [← k2] at e
    exact hcl c7 k (by omega) b e
  · rw [if_neg c7, lq_s] at q
    obtain ⟨g1, g2⟩ := h5 c7
    exact Or.inl ⟨(rs_e q).2.symm, by omega, g2⟩
theorem loop_r {C : Mm} (hc : CX C) (tot : Tot C) : ∀ (n' : Nat) (N : Mm) (S : Nat → Sit) (i : Int32), (0 ≤ i.toInt ∧ i.toInt ≤ 1000) → LR C S N i.toNatClampNeg → ∀ (N' : Mm) (r : Int32), q_ChipMapModel_check_56 n' N i = some (N', r) → FIN C r := by
  intro n'
  induction n' with
  | zero =>
    intro N S i hi h N' r q
    rw [q_ChipMapModel_check_56] at q
    cases q
  | succ n' ih =>
    intro N S i hi h N' r q
    have ti := tnc hi.1
    have m0 := h.2.2.1.1
    have tm := tnc m0.1
    rw [q_ChipMapModel_check_56] at q
    by_cases c2 : N.1 0 63 ≤ i
    · rw [if_pos c2] at q
      have := Int32.le_iff_toInt_le.mp c2
      exact h.fin (fun _ => by omega) q
    rw [if_neg c2] at q
    have l2 : i.toInt < (N.1 0 63).toInt := by
      by_cases z : (N.1 0 63).toInt ≤ i.toInt
      · exact absurd (Int32.le_iff_toInt_le.mpr z) c2
      · omega
    by_cases c7 : N.1 0 69 = 0
    rotate_left
    · rw [if_neg c7] at q
      exact h.fin (fun z => absurd z c7) q
    rw [if_pos c7] at q
    obtain ⟨N1, x1, p1, q⟩ := cal_o q
    obtain ⟨hx, h38, rt, hl, hz, hcl, htd⟩ := h
    obtain ⟨S', a1, a3, a4, a5, a6⟩ := goOn_r hc tot hx h38 rt hi.1 (by omega) p1
    have kd := kd_ChipMapModel_goOn N i (kD.rf hx.2.2.1 h38) N1 x1 p1
    have ez : (i + 1).toInt = i.toInt + 1 := iadd rfl (rfl : (1 : Int32).toInt = 1) (by omega) (by omega)
    have es : (i + 1).toNatClampNeg = i.toNatClampNeg + 1 := by
      have := tnc (i := i + 1) (by omega)
      omega
    refine ih N1 S' (i + 1) (by omega) ?_ N' r q
    rw [es]
    refine ⟨hx.k kd, kd.2.2.2.2.2, a1, by omega, ?_, fun z j hj s' e => ?_, htd.up (fun j hj => a3 j (by omega)) (fun j hj => ((rt.2.1 j (by omega)).1).1.1) a6⟩
    · obtain ⟨k, k1, k2⟩ := hz
      exact ⟨k, by omega, by rw [a3 k k1]; exact k2⟩
    · by_cases cj : j = i.toNatClampNeg
      · rw [cj, a3 _ (by omega)] at e
        exact a5 z s' e
      · rw [a3 j (by omega)] at e
        obtain ⟨k, k1, k2⟩ := hcl c7 j (by omega) s' e
        exact ⟨k, by omega, by rw [a3 k k1]; exact k2⟩
theorem CX.of {G : Gx} {K : Int} {M N : Mm} (hI : IX G K M) (hl : LF M N) (la : LA M N) : CX M := by
  have r16 := hI.r16
  refine ⟨⟨hI.ru, hI.hh, r16.2, fun r hr hb => ?_⟩, r16.1, hI.sc, fun r hr b hb => ?_, fun r hr hn => ?_, fun a ha => ?_⟩
  · rcases hI.bank r (by rw [← hI.rgE]; exact hr) with z | z
    · exact absurd (Int32.toInt_inj.mp z) hb
    · refine ⟨⟨z.1, z.2.1⟩, ?_⟩
      rw [hI.hmE]
      exact z.2.2
  · cases z : tb (M.1 29 r) b with
    | false => rfl
    | true =>
      exfalso
      obtain ⟨f, f1, f2, f3, f4⟩ := (la.2.2.1 r b).mp z
      obtain ⟨l1, l2, -, -⟩ := la.1 f f1
      rw [l2 b] at f4
      have := of_decide_eq_true f4
      omega
  · apply tb_ext
    intro b _
    rw [tb_0]
    cases z : tb (M.1 29 r) b with
    | false => rfl
    | true =>
      exfalso
      obtain ⟨f, f1, f2, f3, f4⟩ := (la.2.2.1 r b).mp z
      have h1 := hI.hr f
      have t := tnc (lf_p hl f1).2.2.1
      omega
  · have st := hI.stE a ha
    unfold stp at st
    rw [← hI.skE, ← hI.sfE, ← hI.svE] at st
    rcases st with z | ⟨z, z2⟩ | ⟨z, z2⟩
    · exact Or.inl (Int32.toInt_inj.mp z)
    · exact Or.inr (Or.inl ⟨Int32.toInt_inj.mp z, z2⟩)
    · refine Or.inr (Or.inr ⟨?_, ⟨z2.1, z2.2.1⟩, ?_, hI.hr _⟩)
      · rcases z with z | z
        · exact Or.inl (Int32.toInt_inj.mp z)
        · exact Or.inr (Int32.toInt_inj.mp z)
      · rw [hI.hmE]
        exact z2.2.2
theorem Tot.of {G : Gx} {K : Int} {C : Mm} (hI : IX G K C) : Tot C := by
  intro u hv al kf
  have ta := tnc hv.1.1
  have st := hI.stE u.1.toNatClampNeg (by omega)
  unfold stp at st
  rw [← hI.skE, ← hI.sfE, ← hI.svE] at st
  have hf : HasF G.hm (C.1 71 u.1.toNatClampNeg) := by
    rcases st with z | ⟨z, -⟩ | ⟨-, z⟩
    · rcases kf with k | k <;> rw [k] at z <;> exact absurd z (by decide)
    · rcases kf with k | k <;> rw [k] at z <;> exact absurd z (by decide)
    · exact z
  have hM := ((((hI.s62 u.2.2).s61_2 u.2.1).s60_2 (x := 0) (by decide)).s60_5 0)
  generalize hm : stI (stI (stI (stI C 62 u.2.2) 61 (upd ((stI C 62 u.2.2).1 61) 2 u.2.1)) 60 (upd ((stI (stI C 62 u.2.2) 61 (upd ((stI C 62 u.2.2).1 61) 2 u.2.1)).1 60) 2 0)) 60 (upd ((stI (stI (stI C 62 u.2.2) 61 (upd ((stI C 62 u.2.2).1 61) 2 u.2.1)) 60 (upd ((stI (stI C 62 u.2.2) 61 (upd ((stI C 62 u.2.2).1 61) 2 u.2.1)).1 60) 2 0)).1 60) 5 0) = M at hM
  have pm : PM C u.2.1 u.2.2 M := by
    rw [← hm]
    refine ⟨fun p hp => by rw [stI_ne _ _ (by omega), stI_ne _ _ (by omega), stI_ne _ _ (by omega), stI_ne _ _ (by omega)], by rw [stI_at, updN (by decide), stI_at, updS], by rw [stI_at, updS], by rw [stI_ne _ _ (by decide), stI_ne _ _ (by decide), stI_at, updS], fun r _ => by rw [stI_ne _ _ (by decide), stI_ne _ _ (by decide), stI_ne _ _ (by decide), stI_at]⟩
  rcases kf with k | k
  · obtain ⟨M', x, q, -⟩ := w_Plan_addPut hM (C.1 71 u.1.toNatClampNeg) (C.1 72 u.1.toNatClampNeg) hf
    exact ⟨M, M', pm, Or.inl ⟨k, x, q⟩⟩
  · obtain ⟨M', x, q, -⟩ := w_Plan_addFetch hM (C.1 71 u.1.toNatClampNeg) hf
    exact ⟨M, M', pm, Or.inr ⟨k, x, q⟩⟩
/-- check() of the reference -/
theorem check_r {G : Gx} {K : Int} {C N : Mm} (hI : IX G K C) (hK : K ≤ 2000000000) (h : RD C N) (hm : N.1 0 27 ≠ 0) {N' : Mm} {r : Int32} (q : q_ChipMapModel_check N = some (N', r)) : FIN C r := by
  have e0 : (0 : Int32).toNatClampNeg = 0 := rfl
  have z0 : (0 : Int32).toInt = 0 := rfl
  have hlg := hI.log
  have rc := hI.rc
  unfold q_ChipMapModel_check at q
  rw [lq_s] at q
  have h1 := h.n1
  have hm1 : (stI N 0 (upd (N.1 0) 0 0)).1 0 27 ≠ 0 := hm
  generalize stI N 0 (upd (N.1 0) 0 0) = N1 at q h1 hm1
  rw [if_neg hm1] at q
  obtain ⟨hl1, la1, md1, e47, e48, e58, jn, sp⟩ := h1
  have hc : CX C := CX.of hI hl1 la1
  have e38 := la1.2.2.2.2.1
  obtain ⟨N2, s2, u2, q⟩ := cal_o q
  obtain ⟨b1, -⟩ := cd02 u2
  rw [lq_s] at q
  have s2' : N2.1 0 = N1.1 0 := b1 0 (by omega)
  obtain ⟨N4, e4⟩ : ∃ z, z = stI N2 0 (upd (N2.1 0) 58 1) := ⟨_, rfl⟩
  rw [← e4] at q
  have n4p : ∀ p, p ≠ 0 → p < 33 ∨ 37 ≤ p → N4.1 p = N1.1 p := fun p p0 hp => by rw [e4, stI_ne _ _ p0, b1 p hp]
  have n4s : ∀ j, j ≠ 58 → N4.1 0 j = N1.1 0 j := fun j hj => by rw [e4, stI_at, updN hj, s2']
  have n458 : N4.1 0 58 = 1 := by rw [e4, stI_at, updS]
  have h384 : (N4.1 0 38).toInt ≤ 12 := by rw [n4s 38 (by decide), ← e38]; exact rc.2
  have k4 : kD N4 N4 := kD.rf (by rw [n458]; decide) h384
  have fx4 : FX C N4 := ⟨hl1.n (fun p g1 g2 => n4p p (by omega) (by omega)), la1.n (fun p g1 g2 => n4p p (by omega) (by omega)) (fun j hj => n4s j (by omega)), by rw [n458]; decide, by rw [n4s 47 (by decide), ← e47]; omega, sp.cg rfl rfl rfl rfl (n4s 59 (by decide)) (n4p 42 (by decide) (by omega)) (n4p 43 (by decide) (by omega)) (n4p 44 (by decide) (by omega))⟩
  obtain ⟨N5, s5, u5, q⟩ := cal_o q
  have k5 := kd_ChipMapModel_resetDevice N4 k4 N5 s5 u5
  unfold q_ChipMapModel_resetDevice at u5
  obtain ⟨a1, a2, a3⟩ := rd2_l 26 4000 N4 N4 0 (by decide) (by decide) (fun _ _ _ _ => rfl) (fun f hf => nlz (by rw [e0] at hf; exact hf)) N5 s5 u5
  have fx5 : FX C N5 := fx4.k k5
  have md5 : MD C (s0 C).2.1 (s0 C).2.2 N5 := by
    refine ⟨⟨fun f hp hk => ?_, fun r hr b hb => ?_⟩, fun k hk => ?_⟩
    · obtain ⟨l1, l2, l3, l4, l5⟩ := fx4.2.1.1 f hp
      obtain ⟨g1, -, g3, -, -, -, -⟩ := lf_p fx4.1 hp
      have t := tnc g3
      rw [a2 f hp.1 (by rw [g1]; decide)]
      refine ⟨l3, fun b hb => ?_⟩
      have z : (s0 C).2.2 (C.1 38 f).toNatClampNeg = C.1 28 (C.1 38 f).toNatClampNeg &&& C.1 29 (C.1 38 f).toNatClampNeg := cw_e (w := fun r => C.1 28 r &&& C.1 29 r) (by omega)
      have k29 : tb (C.1 29 (C.1 38 f).toNatClampNeg) b = true := (la1.2.2.1 _ b).mpr ⟨f, hp, rfl, hk, hb⟩
      rw [z, tb_and, l4 b hb, k29, Bool.and_true]
    · have z : (s0 C).2.2 r = C.1 28 r &&& C.1 29 r := cw_e (w := fun r => C.1 28 r &&& C.1 29 r) hr
      rw [z, tb_and, Bool.and_eq_true] at hb
      exact hb.2
    · rw [a3 k (by omega)]
      show 0 = b2 (tb 0 k)
      rw [tb_0]
      rfl
  rw [lq_s, lq_s, lq_s, lq_s] at q
  obtain ⟨N9, e9⟩ : ∃ z, z = stI (stI (stI (stI N5 0 (upd (N5.1 0) 63 0)) 0 (upd (upd (N5.1 0) 63 0) 69 0)) 0 (upd (upd (upd (N5.1 0) 63 0) 69 0) 75 (-1))) 0 (upd (upd (upd (upd (N5.1 0) 63 0) 69 0) 75 (-1)) 68 0) := ⟨_, rfl⟩
  have q : (cal (q_ChipMapModel_meet N9 0) fun M11 _ => q_ChipMapModel_check_56 4000 M11 0) = some (N', r) := by
    rw [e9]
    exact q
  have n9p : ∀ p, p ≠ 0 → N9.1 p = N5.1 p := fun p hp => by rw [e9, stI_ne _ _ hp, stI_ne _ _ hp, stI_ne _ _ hp, stI_ne _ _ hp]
  have n90 : N9.1 0 = upd (upd (upd (upd (N5.1 0) 63 0) 69 0) 75 (-1)) 68 0 := by rw [e9, stI_at]
  have n9s : ∀ j, j ≠ 63 → j ≠ 69 → j ≠ 75 → j ≠ 68 → N9.1 0 j = N5.1 0 j := fun j j1 j2 j3 j4 => by rw [n90, updN j4, updN j3, updN j2, updN j1]
  have v63 : N9.1 0 63 = 0 := by rw [n90]; rfl
  have v69 : N9.1 0 69 = 0 := by rw [n90]; rfl
  have v75 : N9.1 0 75 = -1 := by rw [n90]; rfl
  have k9 : kD N5 N9 := ⟨fun p p0 _ => n9p p p0, fun j hj => n9s j (by omega) (by omega) (by omega) (by omega), fun f _ => by rw [n9p 33 (by decide)], fun k _ => by rw [n9p 36 (by decide)], by rw [n9s 58 (by decide) (by decide) (by decide) (by decide)]; exact k5.2.2.2.2.1, by rw [n9s 38 (by decide) (by decide) (by decide) (by decide)]; exact k5.2.2.2.2.2⟩
  have fx9 : FX C N9 := fx5.k k9
  have rt9 : RT C (fun _ => s0 C) N9 := ⟨by rw [v63]; decide, fun j hj => by rw [v63] at hj; exact nlz hj, fun i j _ hj => by rw [v63] at hj; exact nlz hj, fun z => absurd v69 z⟩
  have em : (s0 C).1 = mn 0 (C.1 69 0) := by
    have l40 := hc.2.2.1
    show (0 : Int32) = if C.1 69 0 < 0 then C.1 69 0 else 0
    exact (if_neg (fun z => by have := Int32.lt_iff_toInt_lt.mp z; omega)).symm
  have vs : Vs C (s0 C) := ⟨⟨show (0 : Int) ≤ (0 : Int32).toInt by decide, by have l40 := hc.2.2.1; show (0 : Int32).toInt ≤ _; omega⟩, fun b _ => tb_0, md5.1.2, cw_cw⟩
  obtain ⟨N11, x11, p11, q⟩ := cal_o q
  obtain ⟨S', c1, c2, c3, c4, c5, c6, c7⟩ := meet_r hc fx9 rt9 vs (Rch.z C) (md5.n (n9p 33 (by decide)) (n9p 36 (by decide))) (by decide) em p11
  have k11 := kd_ChipMapModel_meet N9 _ (kD.rf fx9.2.2.1 k9.2.2.2.2.2) N11 x11 p11
  have f69 : N11.1 0 69 = 0 := by rw [c7 (by rw [v63]; decide)]; exact v69
  refine loop_r hc (Tot.of hI) 4000 N11 S' 0 (by decide) ⟨fx9.k k11, k11.2.2.2.2.2, c1, Nat.zero_le _, (c4 f69).2, fun _ j hj => nlz (by rw [e0] at hj; exact hj), Or.inl ⟨?_, fun j hj => nlz (by rw [e0] at hj; exact hj)⟩⟩ N' r q
  rw [c6 75 (by decide) (by decide)]
  exact v75
-- more than so many don't fit
theorem pigeon : ∀ (m : Nat) (f : Nat → Nat), (∀ i, i ≤ m → f i < m) → ∃ i j, i < j ∧ j ≤ m ∧ f i = f j := by
  intro m
  induction m with
  | zero =>
    intro f h
    exact nlz (h 0 (Nat.le_refl 0))
  | succ m ih =>
    intro f h
    by_cases c : ∃ i, i < m + 1 ∧ f i = f (m + 1)
    · obtain ⟨i, i1, i2⟩ := c
      exact ⟨i, m + 1, i1, Nat.le_refl _, i2⟩
    · have ne : ∀ i, i ≤ m → f i ≠ f (m + 1) := fun i hi z => c ⟨i, by omega, z⟩
      have hv := h (m + 1) (Nat.le_refl _)
      obtain ⟨i, j, h1, h2, h3⟩ := ih (fun i => if f i < f (m + 1) then f i else f i - 1) (fun i hi => by
        have a := ne i hi
        have b := h i (by omega)
        show (if f i < f (m + 1) then f i else f i - 1) < m
        by_cases d : f i < f (m + 1)
        · rw [if_pos d]; omega
        · rw [if_neg d]; omega)
      refine ⟨i, j, h1, by omega, ?_⟩
      have a1 := ne i (by omega)
      have a2 := ne j h2
      have h3 : (if f i < f (m + 1) then f i else f i - 1) = (if f j < f (m + 1) then f j else f j - 1) := h3
      by_cases d1 : f i < f (m + 1)
      · rw [if_pos d1] at h3
        by_cases d2 : f j < f (m + 1)
        · rw [if_pos d2] at h3; exact h3
        · rw [if_neg d2] at h3; omega
      · rw [if_neg d1] at h3
        by_cases d2 : f j < f (m + 1)
        · rw [if_pos d2] at h3; omega
        · rw [if_neg d2] at h3; omega
theorem too_many {C : Mm} {S S' : Nat → Sit} {c' : Nat} (h1 : ∀ j, j < 1000 → Rch C (S j)) (h2 : ∀ i j, i < j → j < 1000 → S i ≠ S j) {s' : Sit} (h3 : Rch C s') (h4 : ∀ k, k < 1000 → S k ≠ s') (hc : c' ≤ 1000) (h5 : ∀ s, Rch C s → ∃ k, k < c' ∧ S' k = s) : False := by
  have key : ∀ i, ∃ k, i ≤ 1000 → k < 1000 ∧ S' k = (if i < 1000 then S i else s') := fun i => by
    by_cases z : i < 1000
    · obtain ⟨k, k1, k2⟩ := h5 _ (h1 i z)
      exact ⟨k, fun _ => ⟨by omega, by rw [if_pos z]; exact k2⟩⟩
    · obtain ⟨k, k1, k2⟩ := h5 _ h3
      exact ⟨k, fun _ => ⟨by omega, by rw [if_neg z]; exact k2⟩⟩
  obtain ⟨i, j, g1, g2, g3⟩ := pigeon 1000 (fun i => Classical.choose (key i)) (fun i hi => (Classical.choose_spec (key i) hi).1)
  have e1 := (Classical.choose_spec (key i) (by omega)).2
  have e2 := (Classical.choose_spec (key j) g2).2
  have g3 : Classical.choose (key i) = Classical.choose (key j) := g3
  rw [g3, e2, if_pos (show i < 1000 by omega)] at e1
  by_cases z : j < 1000
  · rw [if_pos z] at e1
    exact h2 i j g1 z e1.symm
  · rw [if_neg z] at e1
    exact h4 i (by omega) e1.symm
theorem fin_eq {C : Mm} {r1 r2 : Int32} (h1 : FIN C r1) (h2 : FIN C r2) : r1 = r2 := by
  obtain ⟨S, c, c1, hr, hi, h⟩ := h1
  obtain ⟨S', c', c1', hr', hi', h'⟩ := h2
  rcases h with ⟨e, ec, s', g1, g2⟩ | ⟨st, e, g1, g2⟩
  · rcases h' with ⟨e', -⟩ | ⟨st', e', g1', -⟩
    · rw [e, e']
    · subst ec
      exact (too_many hr hi g1 g2 c1' g1').elim
  · rcases h' with ⟨e', ec', s', g1', g2'⟩ | ⟨st', e', g1', g2'⟩
    · subst ec'
      exact (too_many hr' hi' g1' g2' c1 g1).elim
    · have es : st = st' := by
        rcases g2 with ⟨t1, t2⟩ | ⟨⟨j, j1, j2, j3⟩, t2⟩
        · rcases g2' with ⟨t1', t2'⟩ | ⟨⟨j', j1', j2', j3'⟩, t2'⟩
          · rw [t1, t1']
          · obtain ⟨k, k1, k2⟩ := g1 _ (hr' j' j1')
            rw [← k2] at j2'
            exact absurd j2' (t2 k k1)
        · rcases g2' with ⟨t1', t2'⟩ | ⟨⟨j', j1', j2', j3'⟩, t2'⟩
          · obtain ⟨k, k1, k2⟩ := g1' _ (hr j j1)
            rw [← k2] at j2
            exact absurd j2 (t2' k k1)
          · obtain ⟨k, k1, k2⟩ := g1' _ (hr j j1)
            obtain ⟨k', k1', k2'⟩ := g1 _ (hr' j' j1')
            have a := t2' k k1 (by rw [k2]; exact j2)
            have b := t2 k' k1' (by rw [k2']; exact j2')
            rw [k2, ← j3] at a
            rw [k2', ← j3'] at b
            exact Int32.toInt_inj.mp (by omega)
      rw [e, e', es]
/-- check() of both sides answers alike -/
theorem check_eq {G : Gx} {K : Int} {M N : Mm} (hI : IX G K M) (hK : K ≤ 2000000000) (rq : RQ M N) (h : RD M N) {M' N' : Mm} {r1 r2 : Int32} (q1 : q_ChipMap_check M = some (M', r1)) (q2 : q_ChipMapModel_check N = some (N', r2)) : r1 = r2 := by
  have z0 : (0 : Int32).toInt = 0 := rfl
  rcases rq.2.2.2 with ⟨g1, g2⟩ | ⟨g1, g2⟩
  · have c : M.1 24 0 ≤ 0 := Int32.le_iff_toInt_le.mpr (by omega)
    unfold q_ChipMap_check q_ChipMap_hasMap at q1
    rw [if_pos c, cal_s, if_pos rfl] at q1
    unfold q_ChipMapModel_check at q2
    rw [lq_s] at q2
    have e27 : (stI N 0 (upd (N.1 0) 0 0)).1 0 27 = 0 := g2
    rw [if_pos e27] at q2
    rw [← (rs_e q1).2, ← (rs_e q2).2]
  · have c : ¬ M.1 24 0 ≤ 0 := fun z => by
      have := Int32.le_iff_toInt_le.mp z
      omega
    exact fin_eq (check_c (CX.of hI h.1 h.2.1) c q1) (check_r hI hK h (by rw [g2]; decide) q2)
end
