-- a world as a memory: places by number, their contents by a function; a method's answer by a function of its own ('none': it goes wrong, or on too long)
abbrev Mm : Type := (Nat → Nat → Int32) × (Nat → Nat → Int64)
abbrev Rs : Type := Option (Mm × Int32)
def stI (M : Mm) (k : Nat) (f : Nat → Int32) : Mm := (fun j => if j = k then f else M.1 j, M.2)
def stJ (M : Mm) (k : Nat) (f : Nat → Int64) : Mm := (M.1, fun j => if j = k then f else M.2 j)
def gd (c : Prop) [Decidable c] (k : Rs) : Rs := if c then k else none
theorem gd_l {c : Prop} [Decidable c] {k : Rs} {r : Mm × Int32} (h : gd c k = some r) : c := by
  unfold gd at h
  split at h
  · assumption
  · cases h
theorem gd_r {c : Prop} [Decidable c] {k : Rs} {r : Mm × Int32} (h : gd c k = some r) : k = some r := by
  unfold gd at h
  split at h
  · exact h
  · cases h
theorem br_T {c : Prop} [Decidable c] {a b : Rs} {r : Mm × Int32} (hc : c) (h : (if c then a else b) = some r) : a = some r := by rw [if_pos hc] at h; exact h
theorem br_F {c : Prop} [Decidable c] {a b : Rs} {r : Mm × Int32} (hc : ¬ c) (h : (if c then a else b) = some r) : b = some r := by rw [if_neg hc] at h; exact h
def lt' {α : Type} (x : α) (k : α → Rs) : Rs := k x
theorem lt_o {α : Type} {x z : α} {k : α → Rs} {r : Mm × Int32} (hz : z = x) (h : lt' x k = some r) : k z = some r := by subst hz; exact h
def cal (t : Rs) (k : Mm → Int32 → Rs) : Rs := match t with
  | none => none
  | some z => k z.1 z.2
theorem cal_o {t : Rs} {k : Mm → Int32 → Rs} {r : Mm × Int32} (h : cal t k = some r) : ∃ (M : Mm) (v : Int32), t = some (M, v) ∧ k M v = some r := by
  cases t with
  | none => cases h
  | some z => exact ⟨z.1, z.2, rfl, h⟩
theorem rs_e {M M' : Mm} {v r : Int32} (h : (some (M, v) : Rs) = some (M', r)) : M = M' ∧ v = r := by
  cases h
  exact ⟨rfl, rfl⟩
theorem rs_n {r : Mm × Int32} (h : (none : Rs) = some r) : False := by cases h
def vp_inD (i : Int32) (n : Nat) : Decidable (vp_in i n) := inferInstanceAs (Decidable (¬ (i < 0 ∨ n ≤ i.toNatClampNeg)))
def ix (i : Int32) (n : Nat) (k : Rs) : Rs := if i < 0 ∨ n ≤ i.toNatClampNeg then none else k
theorem ix_l {i : Int32} {n : Nat} {k : Rs} {r : Mm × Int32} (h : ix i n k = some r) : vp_in i n := by
  unfold ix at h
  split at h
  · cases h
  · assumption
theorem ix_r {i : Int32} {n : Nat} {k : Rs} {r : Mm × Int32} (h : ix i n k = some r) : k = some r := by
  unfold ix at h
  split at h
  · cases h
  · exact h
def aP (P : Nat → Nat) (n : Nat) : Nat → Prop := fun q => ∃ k, k < n ∧ P k = q
def gPre (s0 : State) (D : va_G) (tys : List (ClassId × FieldType)) (A : Nat → Prop) (w : va_W) (U : State) : Prop := va_P D vwCl w U.heap ∧ va_K D vwCl tys U ∧ va_D A w ∧ Old s0 U
theorem gPre.fb {s0 : State} {D : va_G} {tys : List (ClassId × FieldType)} {A : Nat → Prop} {w : va_W} {U : State} {g : JFrame} {mk : MethodId} {a : Array Value} (h : gPre s0 D tys A w U) : gPre s0 D tys A w (U.calling g mk a) := ⟨h.1, va_K.moved (u := U) (U := U.calling g mk a) (Vm.Alike.refl U.vm) h.2.1, h.2.2.1, h.2.2.2⟩
theorem gPre.go {s0 s U : State} {D : va_G} {tys : List (ClassId × FieldType)} {A : Nat → Prop} {w : va_W} {H : Heap} {locs : List Loc} (hP : va_P D vwCl w H) (hK : va_K D vwCl tys s) (hD : va_D A w) (hO : Old s0 s) (hAO : ∀ q, A q → s0.heap.size ≤ q) (hS : va_S A s.heap H locs) (hU : U.heap = H) (hW : s.WarmedH U.vm) : gPre s0 D tys A w U := ⟨by rw [hU]; exact hP, va_K.moved hW.alike hK, hD, Old.step hO hAO hS hU hW⟩
def gQi (D : va_G) (A : Nat → Prop) (w : va_W) (x : Int32) : Array Value → State → Outcome → State → Prop := va_Qi (fun (r : Int32) (_ : Unit) => r = x) (fun _ t => va_P D vwCl w t.heap ∧ va_D A w) A
def gQv (D : va_G) (A : Nat → Prop) (w : va_W) : Array Value → State → Outcome → State → Prop := va_Qv (fun (_ : Unit) => True) (fun _ t => va_P D vwCl w t.heap ∧ va_D A w) A
section PR
variable {p : Program} {l : Launch} {e : Env} {R : Room} {s s0 : State} {m : MethodId} {args : Array Value} {below : List Frame} {meth : Method} {c : Code} {H H0 : Heap} {locs : List Loc} {cells slots : Nat} {Q : State → Prop}
variable {cc : ByteArray} {pc : Nat} {ls : Array Slot} {rest st0 : List Value} {D : va_G} {A : Nat → Prop} {tys : List (ClassId × FieldType)} {w : Mm → va_W} {M : Mm} {a : Nat}
theorem prV {C : String} {b : Addr} {As : List Value} {ws : va_W} (hP : va_P D vwCl ws H) (hK : va_K D vwCl tys s) (hD : va_D A ws) (hO : Old s0 s) (hAO : ∀ q, A q → s0.heap.size ≤ q) (hS : va_S A s.heap H locs) (hrecv : ∃ cell : Cell, H[b]? = some cell ∧ cell.vm.isStatics = false ∧ s.vm.findClass C = some cell.cls) : PreV s H C b (va_Pc (.ref b :: As) (gPre s0 D tys A ws)) As :=
  ⟨fun a U g mk q => ⟨q.1, q.2.fb⟩, hrecv, fun U hU hW => ⟨rfl, gPre.go hP hK hD hO hAO hS hU hW⟩⟩
theorem prS {As : List Value} {ws : va_W} (hP : va_P D vwCl ws H) (hK : va_K D vwCl tys s) (hD : va_D A ws) (hO : Old s0 s) (hAO : ∀ q, A q → s0.heap.size ≤ q) (hS : va_S A s.heap H locs) : PreS s H (va_Pc As (gPre s0 D tys A ws)) As :=
  ⟨fun a U g mk q => ⟨q.1, q.2.fb⟩, fun U hU hW => ⟨rfl, gPre.go hP hK hD hO hAO hS hU hW⟩⟩
theorem cx_i {ar : Array Value} {ws : va_W} {x : Int32} (hr : va_Run p l e R s m args below meth c H locs 0 0 0 0 (F0 m pc ls st0) rest (gQi D A ws x ar) A) (hS : va_S A H0 H locs)
    (kk : ∀ (H1 : Heap) (locs1 : List Loc), va_P D vwCl ws H1 → va_D A ws → va_S A H0 H1 locs1 → W p l e R s m args below meth c H1 locs1 0 0 Q (F0 m (pc + 3) ls (.int x :: rest))) : W p l e R s m args below meth c H locs 0 0 Q (F0 m pc ls st0) :=
  va_calli hr hS (fun _ _ h => h) (fun _ h => h) (fun r u t H1 locs1 ht _ hw hB _ _ hS1 => by
    subst hw
    exact kk H1 locs1 (by rw [← ht]; exact hB.1) hB.2 hS1)
theorem cx_v {ar : Array Value} {ws : va_W} (hr : va_Run p l e R s m args below meth c H locs 0 0 0 0 (F0 m pc ls st0) rest (gQv D A ws ar) A) (hS : va_S A H0 H locs)
    (kk : ∀ (H1 : Heap) (locs1 : List Loc), va_P D vwCl ws H1 → va_D A ws → va_S A H0 H1 locs1 → W p l e R s m args below meth c H1 locs1 0 0 Q (F0 m (pc + 3) ls rest)) : W p l e R s m args below meth c H locs 0 0 Q (F0 m pc ls st0) :=
  va_callv hr hS (fun _ _ h => h) (fun _ h => h) (fun u t H1 locs1 ht _ _ hB _ _ hS1 => kk H1 locs1 (by rw [← ht]; exact hB.1) hB.2 hS1)
theorem rt_i {M' : Mm} {v r : Int32} (hx : p.tables.exec = Jvm.exec) (hb : c.code = cc) (hr : meth.sig.returnType = some .int) (hlk : meth.locks = false) (hP : va_P D vwCl (w M) H) (hD : va_D A (w M)) (hS : va_S A s.heap H locs) (h : (some (M, v) : Rs) = some (M', r)) (hd : decode cc pc = .ok (.ireturn, 1)) : W p l e R s m args below meth c H locs 0 0 (MQ below (gQi D A (w M') r) args s 0 0 A) (F0 m pc ls [.int v]) := by
  obtain ⟨rfl, rfl⟩ := rs_e h
  exact W.iret hx hb hr (fun t ht hW => ⟨⟨v, (), rfl, rfl, by rw [ht]; exact hP, hD⟩, hS.F ht⟩) hS.2.2 hd
theorem rt_z {M' : Mm} {v r : Int32} {ty : FieldType} (hx : p.tables.exec = Jvm.exec) (hb : c.code = cc) (hr : meth.sig.returnType = some ty) (hlk : meth.locks = false) (hn : narrow ty (.int v) = .int v) (hP : va_P D vwCl (w M) H) (hD : va_D A (w M)) (hS : va_S A s.heap H locs) (h : (some (M, v) : Rs) = some (M', r)) (hd : decode cc pc = .ok (.ireturn, 1)) : W p l e R s m args below meth c H locs 0 0 (MQ below (gQi D A (w M') r) args s 0 0 A) (F0 m pc ls [.int v]) := by
  obtain ⟨rfl, rfl⟩ := rs_e h
  exact W.zret (ty := ty) hx hb hr hn (fun t ht hW => ⟨⟨v, (), rfl, rfl, by rw [ht]; exact hP, hD⟩, hS.F ht⟩) hS.2.2 hd
theorem rt_v {M' : Mm} {v r : Int32} (hx : p.tables.exec = Jvm.exec) (hb : c.code = cc) (hr : meth.sig.returnType = none) (hlk : meth.locks = false) (hP : va_P D vwCl (w M) H) (hD : va_D A (w M)) (hS : va_S A s.heap H locs) (h : (some (M, v) : Rs) = some (M', r)) (hd : decode cc pc = .ok (.return_, 1)) : W p l e R s m args below meth c H locs 0 0 (MQ below (gQv D A (w M')) args s 0 0 A) (F0 m pc ls []) := by
  obtain ⟨rfl, rfl⟩ := rs_e h
  exact W.vret hx hb hr (fun t ht hW => ⟨⟨(), rfl, trivial, by rw [ht]; exact hP, hD⟩, hS.F ht⟩) hS.2.2 hd
def isB (v : Int32) : Prop := v = 0 ∨ v = 1
theorem isB_n {v : Int32} (h : isB v) : narrow .boolean (.int v) = .int v := by
  rcases h with rfl | rfl <;> rfl
def bz (v : Int32) (k : Rs) : Rs := if v = 0 ∨ v = 1 then k else none
theorem bz_l {v : Int32} {k : Rs} {r : Mm × Int32} (h : bz v k = some r) : narrow .boolean (.int v) = .int v := by
  unfold bz at h
  split at h
  · exact isB_n (by assumption)
  · cases h
theorem bz_r {v : Int32} {k : Rs} {r : Mm × Int32} (h : bz v k = some r) : k = some r := by
  unfold bz at h
  split at h
  · exact h
  · cases h
def cz (v : Int32) (k : Rs) : Rs := if (v.toUInt32 % 65536).toInt32 = v then k else none
theorem cz_l {v : Int32} {k : Rs} {r : Mm × Int32} (h : cz v k = some r) : narrow .char (.int v) = .int v := by
  unfold cz at h
  split at h
  · rename_i hh
    have e : narrow .char (.int v) = .int (v.toUInt32.toUInt16.toUInt32.toInt32) := rfl
    rw [e]
    have e2 : v.toUInt32.toUInt16.toUInt32 = v.toUInt32 % 65536 := by
      apply UInt32.toNat_inj.mp
      simp
    rw [e2, hh]
  · cases h
theorem cz_r {v : Int32} {k : Rs} {r : Mm × Int32} (h : cz v k = some r) : k = some r := by
  unfold cz at h
  split at h
  · exact h
  · cases h
theorem pm_iast (hexec : p.tables.exec = Jvm.exec) (hb : c.code = cc) (hK : va_K D vwCl tys s) (hP : va_P D vwCl (w M) H) (hD : va_D A (w M)) (hS : va_S A H0 H locs) (q0 t0 : Nat) {cA : ClassId} {n : Nat} {f : Nat → Int32} (ha : (w M)[q0]? = some (a, .inl (cA, n, .inl f))) (ht : tys[t0]? = some (cA, .int)) {i x : Int32} (hset : ∀ f', (w M).set q0 (a, .inl (cA, n, .inl f')) = w (stI M q0 f')) (hin : vp_in i n) (hdg : decode cc pc = .ok (.iastore, 1))
    (kk : ∀ M1, M1 = stI M q0 (upd f i.toNatClampNeg x) → ∀ (H1 : Heap) (locs1 : List Loc), va_P D vwCl (w M1) H1 → va_D A (w M1) → va_S A H0 H1 locs1 → W p l e R s m args below meth c H1 locs1 cells slots Q (F0 m (pc + 1) ls rest)) : W p l e R s m args below meth c H locs cells slots Q (F0 m pc ls (.int x :: .int i :: .ref a :: rest)) :=
  va_iast hexec hb hK hP hD hS q0 t0 ha ht hin hdg (fun H1 locs1 h1 h2 h3 => kk _ rfl H1 locs1 (by rw [← hset]; exact h1) (by rw [← hset]; exact h2) h3)
theorem pm_zast (hexec : p.tables.exec = Jvm.exec) (hb : c.code = cc) (hK : va_K D vwCl tys s) (hP : va_P D vwCl (w M) H) (hD : va_D A (w M)) (hS : va_S A H0 H locs) (q0 t0 : Nat) {cA : ClassId} {n : Nat} {f : Nat → Int32} (ha : (w M)[q0]? = some (a, .inl (cA, n, .inl f))) (ht : tys[t0]? = some (cA, .boolean)) {i x : Int32} (hset : ∀ f', (w M).set q0 (a, .inl (cA, n, .inl f')) = w (stI M q0 f')) (hin : vp_in i n) (hdg : decode cc pc = .ok (.bastore, 1))
    (kk : ∀ M1, M1 = stI M q0 (upd f i.toNatClampNeg (vp_nar .boolean x)) → ∀ (H1 : Heap) (locs1 : List Loc), va_P D vwCl (w M1) H1 → va_D A (w M1) → va_S A H0 H1 locs1 → W p l e R s m args below meth c H1 locs1 cells slots Q (F0 m (pc + 1) ls rest)) : W p l e R s m args below meth c H locs cells slots Q (F0 m pc ls (.int x :: .int i :: .ref a :: rest)) :=
  va_zast hexec hb hK hP hD hS q0 t0 ha ht hin hdg (fun H1 locs1 h1 h2 h3 => kk _ rfl H1 locs1 (by rw [← hset]; exact h1) (by rw [← hset]; exact h2) h3)
theorem pm_cast (hexec : p.tables.exec = Jvm.exec) (hb : c.code = cc) (hK : va_K D vwCl tys s) (hP : va_P D vwCl (w M) H) (hD : va_D A (w M)) (hS : va_S A H0 H locs) (q0 t0 : Nat) {cA : ClassId} {n : Nat} {f : Nat → Int32} (ha : (w M)[q0]? = some (a, .inl (cA, n, .inl f))) (ht : tys[t0]? = some (cA, .char)) {i x : Int32} (hset : ∀ f', (w M).set q0 (a, .inl (cA, n, .inl f')) = w (stI M q0 f')) (hin : vp_in i n) (hdg : decode cc pc = .ok (.castore, 1))
    (kk : ∀ M1, M1 = stI M q0 (upd f i.toNatClampNeg (vp_nar .char x)) → ∀ (H1 : Heap) (locs1 : List Loc), va_P D vwCl (w M1) H1 → va_D A (w M1) → va_S A H0 H1 locs1 → W p l e R s m args below meth c H1 locs1 cells slots Q (F0 m (pc + 1) ls rest)) : W p l e R s m args below meth c H locs cells slots Q (F0 m pc ls (.int x :: .int i :: .ref a :: rest)) :=
  va_cast hexec hb hK hP hD hS q0 t0 ha ht hin hdg (fun H1 locs1 h1 h2 h3 => kk _ rfl H1 locs1 (by rw [← hset]; exact h1) (by rw [← hset]; exact h2) h3)
theorem pm_last (hexec : p.tables.exec = Jvm.exec) (hb : c.code = cc) (hK : va_K D vwCl tys s) (hP : va_P D vwCl (w M) H) (hD : va_D A (w M)) (hS : va_S A H0 H locs) (q0 t0 : Nat) {cA : ClassId} {n : Nat} {f : Nat → Int64} (ha : (w M)[q0]? = some (a, .inl (cA, n, .inr (.inl f)))) (ht : tys[t0]? = some (cA, .long)) {i : Int32} {x : Int64} (hset : ∀ f', (w M).set q0 (a, .inl (cA, n, .inr (.inl f'))) = w (stJ M q0 f')) (hin : vp_in i n) (hdg : decode cc pc = .ok (.lastore, 1))
    (kk : ∀ M1, M1 = stJ M q0 (vp_updL f i.toNatClampNeg x) → ∀ (H1 : Heap) (locs1 : List Loc), va_P D vwCl (w M1) H1 → va_D A (w M1) → va_S A H0 H1 locs1 → W p l e R s m args below meth c H1 locs1 cells slots Q (F0 m (pc + 1) ls rest)) : W p l e R s m args below meth c H locs cells slots Q (F0 m pc ls (.long x :: .int i :: .ref a :: rest)) :=
  va_last hexec hb hK hP hD hS q0 t0 ha ht hin hdg (fun H1 locs1 h1 h2 h3 => kk _ rfl H1 locs1 (by rw [← hset]; exact h1) (by rw [← hset]; exact h2) h3)
theorem pm_put (hexec : p.tables.exec = Jvm.exec) (hb : c.code = cc) {own ref C : String} {T : u_T} {N ci index : Nat} {Ts : List Cond} (hts : ∀ w ∈ Ts, w.before args s = true) (hin : ∀ w ∈ u_ws C T N, w ∈ Ts) (ty0 : Nat → FieldType) (hty : ∀ k, k < N → parseFieldDescriptor (T k).2.2.1 = some (ty0 k)) (hnm : ∀ a, a < N → ∀ b, b < N → a ≠ b → (T a).2.1 ≠ (T b).2.1) (hown : s.vm.findClass own = some m.cls) (hK : va_K D vwCl tys s) (hP : va_P D vwCl (w M) H) (hD : va_D A (w M)) (hS : va_S A H0 H locs) (q0 : Nat) {fs : List Value} (he : (w M)[q0]? = some (a, .inr (ci, fs))) (hc : vwCl[ci]? = some (C, T, N)) (k : Nat) (hk : k < N) (hlink : (Cond.fieldLink own index ref (T k).2.1 (T k).2.2.1).before args s = true) (hsame : ∀ x, s.fieldFound? (T k).1 (T k).2.1 (T k).2.2.1 = some x → s.fieldFound? ref (T k).2.1 (T k).2.2.1 = some x) (hfin : (T k).2.2.2 = false) {ty : FieldType} {x : Int32} (hd : parseFieldDescriptor (T k).2.2.1 = some ty) (hn : narrow ty (.int x) = .int x) (hfit : fits ty (.int x) = true) (hl : k < fs.length)
    {f : Nat → Int32} (hset : (w M).set q0 (a, .inr (ci, fs.set k (.int x))) = w (stI M q0 (upd f k x))) (hdg : decode cc pc = .ok (.putfield index, 3)) (kk : ∀ M1, M1 = stI M q0 (upd f k x) → ∀ (H1 : Heap) (locs1 : List Loc), va_P D vwCl (w M1) H1 → va_D A (w M1) → va_S A H0 H1 locs1 → W p l e R s m args below meth c H1 locs1 cells slots Q (F0 m (pc + 3) ls rest)) : W p l e R s m args below meth c H locs cells slots Q (F0 m pc ls (.int x :: .ref a :: rest)) :=
  va_put hexec hb hts hin ty0 hty hnm hown hK hP hD hS q0 he hc k hk hlink hsame hfin hd hn hfit hl hdg (fun H1 locs1 h1 h2 h3 => kk _ rfl H1 locs1 (by rw [← hset]; exact h1) (by rw [← hset]; exact h2) h3)
end PR
