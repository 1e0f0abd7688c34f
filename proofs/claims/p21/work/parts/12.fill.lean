-- arrays of arrays, copies, fill: over a world that is a memory
theorem stI_stI (M : Mm) (k : Nat) (f g : Nat → Int32) : stI (stI M k f) k g = stI M k g := by
  unfold stI
  refine Prod.ext ?_ rfl
  funext j
  by_cases h : j = k
  · simp [h]
  · simp [h]
theorem stJ_stJ (M : Mm) (k : Nat) (f g : Nat → Int64) : stJ (stJ M k f) k g = stJ M k g := by
  unfold stJ
  refine Prod.ext rfl ?_
  funext j
  by_cases h : j = k
  · simp [h]
  · simp [h]
theorem stI_self (M : Mm) (k : Nat) : stI M k (M.1 k) = M := by
  unfold stI
  refine Prod.ext ?_ rfl
  funext j
  by_cases h : j = k
  · simp [h]
  · simp [h]
theorem stJ_self (M : Mm) (k : Nat) : stJ M k (M.2 k) = M := by
  unfold stJ
  refine Prod.ext rfl ?_
  funext j
  by_cases h : j = k
  · simp [h]
  · simp [h]
theorem stI_at (M : Mm) (k : Nat) (f : Nat → Int32) : (stI M k f).1 k = f := by simp [stI]
theorem stJ_at (M : Mm) (k : Nat) (f : Nat → Int64) : (stJ M k f).2 k = f := by simp [stJ]
theorem wP_c {D : va_G} {cl : List vw_C} {H : Heap} {ws : va_W} {k a : Nat} {x y : ClassId × vp_A} (hxy : vp_cell x.1 x.2 = vp_cell y.1 y.2) (h : va_P D cl (ws.set k (a, .inl x)) H) : va_P D cl (ws.set k (a, .inl y)) H := by
  intro i q hq
  have h0 := h i
  rw [List.getElem?_set] at hq h0
  by_cases hik : k = i
  · rw [if_pos hik] at hq h0
    by_cases hk : k < ws.length
    · rw [if_pos hk] at hq h0
      cases hq
      have h1 := h0 _ rfl
      show H[a]? = some (vp_cell y.1 y.2)
      rw [← hxy]
      exact h1
    · rw [if_neg hk] at hq
      cases hq
  · rw [if_neg hik] at hq h0
    exact h0 q hq
theorem cell_i {cI : ClassId} {n : Nat} {f g : Nat → Int32} (h : ∀ j, j < n → f j = g j) : vp_cell cI (n, .inl f) = vp_cell cI (n, .inl g) := by
  rw [vp_cell_i, vp_cell_i]
  unfold arrV
  have : (fun j : Fin n => Value.int (f j.val)) = (fun j : Fin n => Value.int (g j.val)) := by
    funext j
    rw [h j.val j.isLt]
  rw [this]
theorem cell_j {cI : ClassId} {n : Nat} {f g : Nat → Int64} (h : ∀ j, j < n → f j = g j) : vp_cell cI (n, .inr (.inl f)) = vp_cell cI (n, .inr (.inl g)) := by
  rw [vp_cell_l, vp_cell_l]
  unfold arrV
  have : (fun j : Fin n => Value.long (f j.val)) = (fun j : Fin n => Value.long (g j.val)) := by
    funext j
    rw [h j.val j.isLt]
  rw [this]
def cp_ok (sp dp n : Int32) (n0 n1 : Nat) : Prop := ¬ sp < 0 ∧ ¬ dp < 0 ∧ ¬ n < 0 ∧ sp.toNatClampNeg + n.toNatClampNeg ≤ n0 ∧ dp.toNatClampNeg + n.toNatClampNeg ≤ n1
section PC
variable {p : Program} {l : Launch} {e : Env} {R : Room} {s s0 : State} {m : MethodId} {args : Array Value} {below : List Frame} {meth : Method} {c : Code} {H H0 : Heap} {locs : List Loc} {cells slots : Nat} {Q : State → Prop}
variable {cc : ByteArray} {pc : Nat} {ls : Array Slot} {rest st0 : List Value} {D : va_G} {A : Nat → Prop} {tys : List (ClassId × FieldType)} {w : Mm → va_W} {M : Mm} {a : Nat}
theorem pm_aald {ws : va_W} (hexec : p.tables.exec = Jvm.exec) (hb : c.code = cc) (hK : va_K D vwCl tys s) (hP : va_P D vwCl ws H) (q0 t0 : Nat) {cA : ClassId} {n : Nat} {f : Nat → Nat} (ha : ws[q0]? = some (a, .inl (cA, n, .inr (.inr (.inr (.inr (fun i => some (f i)))))))) (ht : tys[t0]? = some (cA, .array .int)) {i : Int32} (hin : vp_in i n) (hdg : decode cc pc = .ok (.aaload, 1))
    (kk : W p l e R s m args below meth c H locs cells slots Q (F0 m (pc + 1) ls (.ref (f i.toNatClampNeg) :: rest))) : W p l e R s m args below meth c H locs cells slots Q (F0 m pc ls (.int i :: .ref a :: rest)) := by
  have hlt : i.toNatClampNeg < n := Nat.not_le.mp fun q => hin (Or.inr q)
  exact W.aald (v := .ref (f i.toNatClampNeg)) (ty := .array .int) hexec hb (hP q0 _ ha) ((hK.2 t0 _ ht).1 n (fun j => .ref (f j))) rfl (fun q => by cases q) (by show ¬ (i < 0 ∨ (arrV _ _ _).slots.size ≤ _); rw [arrV_size]; exact hin) (by show (arrV _ _ (fun j => Value.ref (f j))).slots[_]? = _; rw [arrV_read _ _ hlt]) rfl rfl hdg kk
theorem pm_cpyi (hexec : p.tables.exec = Jvm.exec) (hb : c.code = cc) (hml : c.maxLocals = ls.size) {own : String} {index : Nat} (hown : s.vm.findClass own = some m.cls) (hlink : (Cond.methodLink own index arraycopyName).before args s = true) (hnat : (Cond.native arraycopyName).before args s = true) (hstat : (Cond.static arraycopyName).before args s = true) (hini : (Cond.initialized "java/lang/System").before args s = true)
    (hK : va_K D vwCl tys s) (hP : va_P D vwCl (w M) H) (hD : va_D A (w M)) (hS : va_S A H0 H locs) (q0 q1 t0 : Nat) {a0 : Nat} {c0 : ClassId} {n0 n1 : Nat} {f g : Nat → Int32} (ha0 : (w M)[q0]? = some (a0, .inl (c0, n0, .inl f))) (ha1 : (w M)[q1]? = some (a, .inl (c0, n1, .inl g))) (ht0 : tys[t0]? = some (c0, .int))
    (hset : ∀ f', (w M).set q1 (a, .inl (c0, n1, .inl f')) = w (stI M q1 f')) {sp dp n : Int32} (hok : cp_ok sp dp n n0 n1)
    (hframes : 1 ≤ R.frames) (hlocals : (rest.map fun v => v.category).sum + (nativeFrameWords "java/lang/System" "arraycopy" 5 + 11) ≤ R.locals) (hdg : decode cc pc = .ok (.invokestatic index, 3))
    (kk : ∀ M1, M1 = stI M q1 (va_cpy f g sp.toNatClampNeg dp.toNatClampNeg n.toNatClampNeg) → ∀ (H1 : Heap) (locs1 : List Loc), va_P D vwCl (w M1) H1 → va_D A (w M1) → va_S A H0 H1 locs1 → W p l e R s m args below meth c H1 locs1 cells slots Q (F0 m (pc + 3) ls rest)) : W p l e R s m args below meth c H locs cells slots Q (F0 m pc ls (.int n :: .int dp :: .ref a :: .int sp :: .ref a0 :: rest)) :=
  va_copyi hexec hb hml hown hlink hnat hstat hini hK hP hD hS q0 q1 t0 t0 ha0 ha1 ht0 ht0 rfl hok.1 hok.2.1 hok.2.2.1 hok.2.2.2.1 hok.2.2.2.2 (fun _ _ => rfl) hframes hlocals hdg (fun H1 locs1 h1 h2 h3 => kk _ rfl H1 locs1 (by rw [← hset]; exact h1) (by rw [← hset]; exact h2) h3)
theorem pm_cpyl (hexec : p.tables.exec = Jvm.exec) (hb : c.code = cc) (hml : c.maxLocals = ls.size) {own : String} {index : Nat} (hown : s.vm.findClass own = some m.cls) (hlink : (Cond.methodLink own index arraycopyName).before args s = true) (hnat : (Cond.native arraycopyName).before args s = true) (hstat : (Cond.static arraycopyName).before args s = true) (hini : (Cond.initialized "java/lang/System").before args s = true)
    (hK : va_K D vwCl tys s) (hP : va_P D vwCl (w M) H) (hD : va_D A (w M)) (hS : va_S A H0 H locs) (q0 q1 t0 : Nat) {a0 : Nat} {c0 : ClassId} {n0 n1 : Nat} {f g : Nat → Int64} (ha0 : (w M)[q0]? = some (a0, .inl (c0, n0, .inr (.inl f)))) (ha1 : (w M)[q1]? = some (a, .inl (c0, n1, .inr (.inl g)))) (ht0 : tys[t0]? = some (c0, .long))
    (hset : ∀ f', (w M).set q1 (a, .inl (c0, n1, .inr (.inl f'))) = w (stJ M q1 f')) {sp dp n : Int32} (hok : cp_ok sp dp n n0 n1)
    (hframes : 1 ≤ R.frames) (hlocals : (rest.map fun v => v.category).sum + (nativeFrameWords "java/lang/System" "arraycopy" 5 + 11) ≤ R.locals) (hdg : decode cc pc = .ok (.invokestatic index, 3))
    (kk : ∀ M1, M1 = stJ M q1 (va_cpy f g sp.toNatClampNeg dp.toNatClampNeg n.toNatClampNeg) → ∀ (H1 : Heap) (locs1 : List Loc), va_P D vwCl (w M1) H1 → va_D A (w M1) → va_S A H0 H1 locs1 → W p l e R s m args below meth c H1 locs1 cells slots Q (F0 m (pc + 3) ls rest)) : W p l e R s m args below meth c H locs cells slots Q (F0 m pc ls (.int n :: .int dp :: .ref a :: .int sp :: .ref a0 :: rest)) :=
  va_copyl hexec hb hml hown hlink hnat hstat hini hK hP hD hS q0 q1 t0 t0 ha0 ha1 ht0 ht0 rfl hok.1 hok.2.1 hok.2.2.1 hok.2.2.2.1 hok.2.2.2.2 (fun _ _ => rfl) hframes hlocals hdg (fun H1 locs1 h1 h2 h3 => kk _ rfl H1 locs1 (by rw [← hset]; exact h1) (by rw [← hset]; exact h2) h3)
theorem lp_fl {cI cZ cC cJ cA : ClassId} {P : Nat → Nat} {k n : Nat} (hg : ∀ M : Mm, (w M)[k]? = some (P k, .inl (cI, n, .inl (M.1 k)))) (hs : ∀ (M : Mm) f, (w M).set k (P k, .inl (cI, n, .inl f)) = w (stI M k f)) (hn : n < 2 ^ 30) {v : Int32} (hx : p.tables.exec = Jvm.exec) (hb : c.code = cJ7_fill_IIV) (hr : meth.sig.returnType = none) (hlk : meth.locks = false) (hK : va_K D vwCl [(cI, .int), (cZ, .boolean), (cC, .char), (cJ, .long), (cA, .array .int)] s) :
    ∀ (r i : Nat) (f : Nat → Int32) (H : Heap) (locs : List Loc) (ls : Array Slot), i + r = n → (∀ j, j < i → f j = v) → lv_has ls 4 [(2, .int (nI i)), (3, .int (nI n)), (0, .ref (P k)), (1, .int v)] → va_P D vwCl (w (stI M k f)) H → va_D A (w (stI M k f)) → va_S A s.heap H locs → W p l e R s m args below meth c H locs 0 0 (MQ below (gQv D A (w (stI M k (fun _ => v)))) args s 0 0 A) (F0 m 5 ls []) := by
  intro r
  induction r with
  | zero =>
    intro i f H locs ls hi hf hl hP hD hS
    obtain rfl : i = n := by omega
    refine lv_iload_n hx hb dJ7_fill_IIV_5 rfl (lv_at hl 0 rfl) ?_
    refine lv_iload_n hx hb dJ7_fill_IIV_6 rfl (lv_at hl 1 rfl) ?_
    refine lv_icmp_ge hx hb dJ7_fill_IIV_7 (tgt := 20) rfl (fun _ => ?_) (fun h => absurd (nI_le (Nat.le_refl i) (by omega)) h)
    rw [← hs] at hP
    have hP2 := wP_c (y := (cI, i, .inl (fun _ => v))) (cell_i hf) hP
    rw [hs] at hP2
    have hD2 := hD.set (e := .inl (cI, i, .inl (fun _ => v))) (hg (stI M k f))
    rw [hs, stI_stI] at hD2
    exact rt_v (w := w) (M := stI M k (fun _ => v)) (v := 0) (r := 0) hx hb hr hlk hP2 hD2 hS rfl dJ7_fill_IIV_20
  | succ r ih =>
    intro i f H locs ls hi hf hl hP hD hS
    refine lv_iload_n hx hb dJ7_fill_IIV_5 rfl (lv_at hl 0 rfl) ?_
    refine lv_iload_n hx hb dJ7_fill_IIV_6 rfl (lv_at hl 1 rfl) ?_
    refine lv_icmp_ge hx hb dJ7_fill_IIV_7 (tgt := 20) rfl (fun h => absurd h (nI_ge (by omega) (by omega))) (fun _ => ?_)
    refine lv_aload_n hx hb dJ7_fill_IIV_10 rfl (lv_at hl 2 rfl) ?_
    refine lv_iload_n hx hb dJ7_fill_IIV_11 rfl (lv_at hl 0 rfl) ?_
    refine lv_iload_n hx hb dJ7_fill_IIV_12 rfl (lv_at hl 3 rfl) ?_
    refine pm_iast (w := w) hx hb hK hP hD hS k 0 (hg (stI M k f)) rfl (hs (stI M k f)) (vp_in_nI (by omega) (by omega)) dJ7_fill_IIV_13 (fun M1 eM H locs hP hD hS => ?_)
    rw [stI_at, stI_stI] at eM
    subst eM
    refine lv_iinc (v := (nI (i + 1))) hx hb dJ7_fill_IIV_14 hl (k := 0) rfl (nI_1 i) (Nat.le_of_ble_eq_true rfl) (lv' := [(2, .int (nI (i + 1))), (3, .int (nI n)), (0, .ref (P k)), (1, .int v)]) rfl (fun ls hl => ?_)
    refine lv_goto hx hb dJ7_fill_IIV_17 (tgt := 5) rfl ?_
    exact ih (i + 1) _ H locs ls (by omega) (fill_inv hf (by omega)) hl hP hD hS
theorem lp_flJ {cI cZ cC cJ cA : ClassId} {P : Nat → Nat} {k n : Nat} (hg : ∀ M : Mm, (w M)[k]? = some (P k, .inl (cJ, n, .inr (.inl (M.2 k))))) (hs : ∀ (M : Mm) f, (w M).set k (P k, .inl (cJ, n, .inr (.inl f))) = w (stJ M k f)) (hn : n < 2 ^ 30) {v : Int64} (hx : p.tables.exec = Jvm.exec) (hb : c.code = cJ7_fill_JJV) (hr : meth.sig.returnType = none) (hlk : meth.locks = false) (hK : va_K D vwCl [(cI, .int), (cZ, .boolean), (cC, .char), (cJ, .long), (cA, .array .int)] s) :
    ∀ (r i : Nat) (f : Nat → Int64) (H : Heap) (locs : List Loc) (ls : Array Slot), i + r = n → (∀ j, j < i → f j = v) → lv_has ls 5 [(3, .int (nI i)), (4, .int (nI n)), (0, .ref (P k)), (1, .long v)] → va_P D vwCl (w (stJ M k f)) H → va_D A (w (stJ M k f)) → va_S A s.heap H locs → W p l e R s m args below meth c H locs 0 0 (MQ below (gQv D A (w (stJ M k (fun _ => v)))) args s 0 0 A) (F0 m 6 ls []) := by
  intro r
  induction r with
  | zero =>
    intro i f H locs ls hi hf hl hP hD hS
    obtain rfl : i = n := by omega
    refine lv_iload_n hx hb dJ7_fill_JJV_6 rfl (lv_at hl 0 rfl) ?_
    refine lv_iload hx hb dJ7_fill_JJV_7 (lv_at hl 1 rfl) ?_
    refine lv_icmp_ge hx hb dJ7_fill_JJV_9 (tgt := 22) rfl (fun _ => ?_) (fun h => absurd (nI_le (Nat.le_refl i) (by omega)) h)
    rw [← hs] at hP
    have hP2 := wP_c (y := (cJ, i, .inr (.inl (fun _ => v)))) (cell_j hf) hP
    rw [hs] at hP2
    have hD2 := hD.set (e := .inl (cJ, i, .inr (.inl (fun _ => v)))) (hg (stJ M k f))
    rw [hs, stJ_stJ] at hD2
    exact rt_v (w := w) (M := stJ M k (fun _ => v)) (v := 0) (r := 0) hx hb hr hlk hP2 hD2 hS rfl dJ7_fill_JJV_22
  | succ r ih =>
    intro i f H locs ls hi hf hl hP hD hS
    refine lv_iload_n hx hb dJ7_fill_JJV_6 rfl (lv_at hl 0 rfl) ?_
    refine lv_iload hx hb dJ7_fill_JJV_7 (lv_at hl 1 rfl) ?_
    refine lv_icmp_ge hx hb dJ7_fill_JJV_9 (tgt := 22) rfl (fun h => absurd h (nI_ge (by omega) (by omega))) (fun _ => ?_)
    refine lv_aload_n hx hb dJ7_fill_JJV_12 rfl (lv_at hl 2 rfl) ?_
    refine lv_iload_n hx hb dJ7_fill_JJV_13 rfl (lv_at hl 0 rfl) ?_
    refine lv_lload_n hx hb dJ7_fill_JJV_14 rfl (lv_at hl 3 rfl) ?_
    refine pm_last (w := w) hx hb hK hP hD hS k 3 (hg (stJ M k f)) rfl (hs (stJ M k f)) (vp_in_nI (by omega) (by omega)) dJ7_fill_JJV_15 (fun M1 eM H locs hP hD hS => ?_)
    rw [stJ_at, stJ_stJ] at eM
    subst eM
    refine lv_iinc (v := (nI (i + 1))) hx hb dJ7_fill_JJV_16 hl (k := 0) rfl (nI_1 i) (Nat.le_of_ble_eq_true rfl) (lv' := [(3, .int (nI (i + 1))), (4, .int (nI n)), (0, .ref (P k)), (1, .long v)]) rfl (fun ls hl => ?_)
    refine lv_goto hx hb dJ7_fill_JJV_19 (tgt := 6) rfl ?_
    refine ih (i + 1) _ H locs ls (by omega) (fun j hj => ?_) hl hP hD hS
    rw [nI_clamp (by omega)]
    unfold vp_updL
    by_cases hji : j = i
    · simp [hji]
    · simp [hji, hf j (by omega)]
end PC
theorem z_fill (n : Nat) (l : Launch) (D : va_G) (cI cZ cC cJ cA : ClassId) (w : Mm → va_W) (A : Nat → Prop) (s0 : State) (P : Nat → Nat) (k : Nat) (hg : ∀ M : Mm, (w M)[k]? = some (P k, .inl (cI, n, .inl (M.1 k)))) (hs : ∀ (M : Mm) f, (w M).set k (P k, .inl (cI, n, .inl f)) = w (stI M k f)) (hn : Nat.ble n 1000000 = true) (v : Int32) (M : Mm) : Met l yJ7_fill_IIV wsJ7_fill_IIV ({ frames := 0, cells := 0, slots := 0, locals := 0 }) (va_Pc [.ref (P k), .int v] (gPre s0 D [(cI, .int), (cZ, .boolean), (cC, .char), (cJ, .long), (cA, .array .int)] A (w M))) (gQv D A (w (stI M k (fun _ => v)))) 0 0 A := by
  have hn' : n ≤ 1000000 := Nat.le_of_ble_eq_true hn
  refine Met.ofW (cc := cJ7_fill_IIV) (maxL := 4) (ret := none) (by decide) rfl ?_
  intro p e s m args below meth c s₁ B hml hv
  obtain ⟨rfl, hP, hK, hD, hO⟩ := hv
  have hx := B.exec
  have hb := B.bytes
  have hr := B.returns
  have hlk := B.notSynchronized
  have hS : va_S A s.heap s.heap [] := va_S.rf
  have hl := lv_entry ([.ref (P k), .int v]) (n := 4) (Nat.le_of_ble_eq_true rfl)
  rw [lg_entry_eq]
  generalize (lg_sl ([.ref (P k), .int v]) ++ List.replicate (4 - (lg_sl ([.ref (P k), .int v])).length) Slot.unset).toArray = ls at hl ⊢
  have hl : lv_has ls 4 [(0, .ref (P k)), (1, .int v)] := hl
  refine lv_iconst (v := 0) hx hb dJ7_fill_IIV_0 (by decide) ?_
  refine lv_istore_n hx hb dJ7_fill_IIV_1 rfl hl (Nat.le_of_ble_eq_true rfl) (lv' := [(2, .int 0), (0, .ref (P k)), (1, .int v)]) rfl (fun ls hl => ?_)
  refine lv_aload_n hx hb dJ7_fill_IIV_2 rfl (lv_at hl 1 rfl) ?_
  refine va_alen (v := nI n) hx hb hK hP k 0 (hg M) rfl rfl dJ7_fill_IIV_3 ?_
  refine lv_istore_n hx hb dJ7_fill_IIV_4 rfl hl (Nat.le_of_ble_eq_true rfl) (lv' := [(3, .int (nI n)), (2, .int 0), (0, .ref (P k)), (1, .int v)]) rfl (fun ls hl => ?_)
  have hl := lv_sub hl [1, 0, 2, 3] (l' := [(2, .int (nI 0)), (3, .int (nI n)), (0, .ref (P k)), (1, .int v)]) rfl
  exact lp_fl (cZ := cZ) (cC := cC) (cJ := cJ) (cA := cA) hg hs (by omega) hx hb hr hlk hK n 0 (M.1 k) s.heap [] ls (by omega) (fun j hj => absurd hj (Nat.not_lt_zero j)) hl (by rw [stI_self]; exact hP) (by rw [stI_self]; exact hD) hS
theorem z_fillJ (n : Nat) (l : Launch) (D : va_G) (cI cZ cC cJ cA : ClassId) (w : Mm → va_W) (A : Nat → Prop) (s0 : State) (P : Nat → Nat) (k : Nat) (hg : ∀ M : Mm, (w M)[k]? = some (P k, .inl (cJ, n, .inr (.inl (M.2 k))))) (hs : ∀ (M : Mm) f, (w M).set k (P k, .inl (cJ, n, .inr (.inl f))) = w (stJ M k f)) (hn : Nat.ble n 1000000 = true) (v : Int64) (M : Mm) : Met l yJ7_fill_JJV wsJ7_fill_JJV ({ frames := 0, cells := 0, slots := 0, locals := 0 }) (va_Pc [.ref (P k), .long v] (gPre s0 D [(cI, .int), (cZ, .boolean), (cC, .char), (cJ, .long), (cA, .array .int)] A (w M))) (gQv D A (w (stJ M k (fun _ => v)))) 0 0 A := by
  have hn' : n ≤ 1000000 := Nat.le_of_ble_eq_true hn
  refine Met.ofW (cc := cJ7_fill_JJV) (maxL := 5) (ret := none) (by decide) rfl ?_
  intro p e s m args below meth c s₁ B hml hv
  obtain ⟨rfl, hP, hK, hD, hO⟩ := hv
  have hx := B.exec
  have hb := B.bytes
  have hr := B.returns
  have hlk := B.notSynchronized
  have hS : va_S A s.heap s.heap [] := va_S.rf
  have hl := lv_entry ([.ref (P k), .long v]) (n := 5) (Nat.le_of_ble_eq_true rfl)
  rw [lg_entry_eq]
  generalize (lg_sl ([.ref (P k), .long v]) ++ List.replicate (5 - (lg_sl ([.ref (P k), .long v])).length) Slot.unset).toArray = ls at hl ⊢
  have hl : lv_has ls 5 [(0, .ref (P k)), (1, .long v)] := hl
  refine lv_iconst (v := 0) hx hb dJ7_fill_JJV_0 (by decide) ?_
  refine lv_istore_n hx hb dJ7_fill_JJV_1 rfl hl (Nat.le_of_ble_eq_true rfl) (lv' := [(3, .int 0), (0, .ref (P k)), (1, .long v)]) rfl (fun ls hl => ?_)
  refine lv_aload_n hx hb dJ7_fill_JJV_2 rfl (lv_at hl 1 rfl) ?_
  refine va_alen (v := nI n) hx hb hK hP k 3 (hg M) rfl rfl dJ7_fill_JJV_3 ?_
  refine lv_istore hx hb dJ7_fill_JJV_4 hl (Nat.le_of_ble_eq_true rfl) (lv' := [(4, .int (nI n)), (3, .int 0), (0, .ref (P k)), (1, .long v)]) rfl (fun ls hl => ?_)
  have hl := lv_sub hl [1, 0, 2, 3] (l' := [(3, .int (nI 0)), (4, .int (nI n)), (0, .ref (P k)), (1, .long v)]) rfl
  exact lp_flJ (cI := cI) (cZ := cZ) (cC := cC) (cA := cA) hg hs (by omega) hx hb hr hlk hK n 0 (M.2 k) s.heap [] ls (by omega) (fun j hj => absurd hj (Nat.not_lt_zero j)) hl (by rw [stJ_self]; exact hP) (by rw [stJ_self]; exact hD) hS
