-- the law between two instructions: the class's world, the reference's, the array 'out', apart from each other
theorem one_w {lo k : Nat} {x : va_E} {q : Nat × va_E} (h : ([(lo, x)] : va_W)[k]? = some q) : q = (lo, x) := by
  cases k with
  | zero => cases h; rfl
  | succ k => simp at h
def LXt (P P' : Nat → Nat) (lo : Nat) (A : Nat → Prop) (s : State) : Prop := (∀ q, aP P 77 q → ¬ aP P' 51 q) ∧ (¬ aP P 77 lo) ∧ (¬ aP P' 51 lo) ∧ (∀ q, aP P 77 q → A q) ∧ (∀ q, aP P' 51 q → A q) ∧ (A lo) ∧ (∀ q, A q → s.heap.size ≤ q) ∧ (∀ q, s.heap.size ≤ q → A q)
theorem LXt.xy {P P' : Nat → Nat} {lo : Nat} {A : Nat → Prop} {s : State} (h : LXt P P' lo A s) : ∀ q, aP P 77 q → ¬ aP P' 51 q := h.1
theorem LXt.xo {P P' : Nat → Nat} {lo : Nat} {A : Nat → Prop} {s : State} (h : LXt P P' lo A s) : ¬ aP P 77 lo := h.2.1
theorem LXt.yo {P P' : Nat → Nat} {lo : Nat} {A : Nat → Prop} {s : State} (h : LXt P P' lo A s) : ¬ aP P' 51 lo := h.2.2.1
theorem LXt.xA {P P' : Nat → Nat} {lo : Nat} {A : Nat → Prop} {s : State} (h : LXt P P' lo A s) : ∀ q, aP P 77 q → A q := h.2.2.2.1
theorem LXt.yA {P P' : Nat → Nat} {lo : Nat} {A : Nat → Prop} {s : State} (h : LXt P P' lo A s) : ∀ q, aP P' 51 q → A q := h.2.2.2.2.1
theorem LXt.oA {P P' : Nat → Nat} {lo : Nat} {A : Nat → Prop} {s : State} (h : LXt P P' lo A s) : A lo := h.2.2.2.2.2.1
theorem LXt.AO {P P' : Nat → Nat} {lo : Nat} {A : Nat → Prop} {s : State} (h : LXt P P' lo A s) : ∀ q, A q → s.heap.size ≤ q := h.2.2.2.2.2.2.1
theorem LXt.OA {P P' : Nat → Nat} {lo : Nat} {A : Nat → Prop} {s : State} (h : LXt P P' lo A s) : ∀ q, s.heap.size ≤ q → A q := h.2.2.2.2.2.2.2
def LSt (D : va_G) (cI cZ cC cJ cA : ClassId) (P P' : Nat → Nat) (lo : Nat) (A : Nat → Prop) (s : State) (Mx My : Mm) (H : Heap) (locs : List Loc) : Prop := (va_P D vwCl (wX cI cZ cC cJ cA P Mx) H) ∧ (va_P D vwCl (wY cI cZ cC cJ cA P' My) H) ∧ (∃ f : Nat → Int64, va_P D vwCl [(lo, .inl (cJ, 1, .inr (.inl f)))] H) ∧ (va_D (aP P 77) (wX cI cZ cC cJ cA P Mx)) ∧ (va_D (aP P' 51) (wY cI cZ cC cJ cA P' My)) ∧ (va_S A s.heap H locs)
theorem LSt.x {D : va_G} {cI cZ cC cJ cA : ClassId} {P P' : Nat → Nat} {lo : Nat} {A : Nat → Prop} {s : State} {Mx My : Mm} {H : Heap} {locs : List Loc} (h : LSt D cI cZ cC cJ cA P P' lo A s Mx My H locs) : va_P D vwCl (wX cI cZ cC cJ cA P Mx) H := h.1
theorem LSt.y {D : va_G} {cI cZ cC cJ cA : ClassId} {P P' : Nat → Nat} {lo : Nat} {A : Nat → Prop} {s : State} {Mx My : Mm} {H : Heap} {locs : List Loc} (h : LSt D cI cZ cC cJ cA P P' lo A s Mx My H locs) : va_P D vwCl (wY cI cZ cC cJ cA P' My) H := h.2.1
theorem LSt.o {D : va_G} {cI cZ cC cJ cA : ClassId} {P P' : Nat → Nat} {lo : Nat} {A : Nat → Prop} {s : State} {Mx My : Mm} {H : Heap} {locs : List Loc} (h : LSt D cI cZ cC cJ cA P P' lo A s Mx My H locs) : ∃ f : Nat → Int64, va_P D vwCl [(lo, .inl (cJ, 1, .inr (.inl f)))] H := h.2.2.1
theorem LSt.dx {D : va_G} {cI cZ cC cJ cA : ClassId} {P P' : Nat → Nat} {lo : Nat} {A : Nat → Prop} {s : State} {Mx My : Mm} {H : Heap} {locs : List Loc} (h : LSt D cI cZ cC cJ cA P P' lo A s Mx My H locs) : va_D (aP P 77) (wX cI cZ cC cJ cA P Mx) := h.2.2.2.1
theorem LSt.dy {D : va_G} {cI cZ cC cJ cA : ClassId} {P P' : Nat → Nat} {lo : Nat} {A : Nat → Prop} {s : State} {Mx My : Mm} {H : Heap} {locs : List Loc} (h : LSt D cI cZ cC cJ cA P P' lo A s Mx My H locs) : va_D (aP P' 51) (wY cI cZ cC cJ cA P' My) := h.2.2.2.2.1
theorem LSt.S {D : va_G} {cI cZ cC cJ cA : ClassId} {P P' : Nat → Nat} {lo : Nat} {A : Nat → Prop} {s : State} {Mx My : Mm} {H : Heap} {locs : List Loc} (h : LSt D cI cZ cC cJ cA P P' lo A s Mx My H locs) : va_S A s.heap H locs := h.2.2.2.2.2
section LW
variable {p : Program} {l : Launch} {e : Env} {R : Room} {s s0 : State} {m : MethodId} {args : Array Value} {below : List Frame} {meth : Method} {c : Code} {H H0 : Heap} {locs : List Loc} {cells slots mc ms : Nat} {Q : State → Prop}
variable {cc : ByteArray} {pc : Nat} {ls : Array Slot} {rest st0 : List Value} {D : va_G} {A B : Nat → Prop} {tys : List (ClassId × FieldType)} {cI cZ cC cJ cA : ClassId} {P P' : Nat → Nat} {lo : Nat} {Mx My : Mm}
theorem LSt.oo {H1 : Heap} (h : ∃ f : Nat → Int64, va_P D vwCl [(lo, .inl (cJ, 1, .inr (.inl f)))] H) (hk : lo < H.size → H1[lo]? = H[lo]?) : ∃ f : Nat → Int64, va_P D vwCl [(lo, .inl (cJ, 1, .inr (.inl f)))] H1 := by
  obtain ⟨f, h⟩ := h
  refine ⟨f, h.kept (fun k q hq => ?_)⟩
  have hl := (h k q hq).lt
  rw [one_w hq] at hl ⊢
  exact hk hl
theorem LSt.cx {M' : Mm} {H1 : Heap} {locs1 : List Loc} (X : LXt P P' lo A s) (h : LSt D cI cZ cC cJ cA P P' lo A s Mx My H locs) (hk : ∀ q : Nat, q < H.size → ¬ aP P 77 q → H1[q]? = H[q]?) (hx : va_P D vwCl (wX cI cZ cC cJ cA P M') H1) (hd : va_D (aP P 77) (wX cI cZ cC cJ cA P M')) (hS : va_S A s.heap H1 locs1) : LSt D cI cZ cC cJ cA P P' lo A s M' My H1 locs1 :=
  ⟨hx, h.y.kept (fun k q hq => hk q.1 (h.y k q hq).lt (fun hc => X.xy _ hc (h.dy.2 k q hq))), LSt.oo h.o (fun hl => hk lo hl X.xo), hd, h.dy, hS⟩
theorem LSt.cy {M' : Mm} {H1 : Heap} {locs1 : List Loc} (X : LXt P P' lo A s) (h : LSt D cI cZ cC cJ cA P P' lo A s Mx My H locs) (hk : ∀ q : Nat, q < H.size → ¬ aP P' 51 q → H1[q]? = H[q]?) (hy : va_P D vwCl (wY cI cZ cC cJ cA P' M') H1) (hd : va_D (aP P' 51) (wY cI cZ cC cJ cA P' M')) (hS : va_S A s.heap H1 locs1) : LSt D cI cZ cC cJ cA P P' lo A s Mx M' H1 locs1 :=
  ⟨h.x.kept (fun k q hq => hk q.1 (h.x k q hq).lt (fun hc => X.xy _ (h.dx.2 k q hq) hc)), hy, LSt.oo h.o (fun hl => hk lo hl X.yo), h.dx, hd, hS⟩
theorem prL {C : String} {b : Addr} {As : List Value} {ws : va_W} (hP : va_P D vwCl ws H) (hK : va_K D vwCl tys s) (hD : va_D A ws) (hO : Old s0 s) (hAO : ∀ q, B q → s0.heap.size ≤ q) (hS : va_S B s.heap H locs) (hrecv : ∃ cell : Cell, H[b]? = some cell ∧ cell.vm.isStatics = false ∧ s.vm.findClass C = some cell.cls) : PreV s H C b (va_Pc (.ref b :: As) (gPre s0 D tys A ws)) As :=
  ⟨fun a U g mk q => ⟨q.1, q.2.fb⟩, hrecv, fun U hU hW => ⟨rfl, by rw [hU]; exact hP, va_K.moved hW.alike hK, hD, Old.step hO hAO hS hU hW⟩⟩
theorem lwX {M' : Mm} {r : Int32} {ar : Array Value} (X : LXt P P' lo A s) (h : LSt D cI cZ cC cJ cA P P' lo A s Mx My H locs) (hr : va_Run p l e R s m args below meth c H locs cells slots 0 0 (F0 m pc ls st0) rest (gQi D (aP P 77) (wX cI cZ cC cJ cA P M') r ar) (aP P 77))
    (kk : ∀ (H1 : Heap) (locs1 : List Loc), LSt D cI cZ cC cJ cA P P' lo A s M' My H1 locs1 → W p l e R s m args below meth c H1 locs1 cells slots Q (F0 m (pc + 3) ls (.int r :: rest))) : W p l e R s m args below meth c H locs cells slots Q (F0 m pc ls st0) :=
  va_calli hr h.S (fun q _ hq => X.xA q hq) (fun q hq => X.xA q hq) (fun r' u t H1 locs1 ht _ hw hB _ hk hS1 => by
    subst hw
    exact kk H1 locs1 (h.cx X hk (by rw [← ht]; exact hB.1) hB.2 hS1))
theorem lwY {M' : Mm} {r : Int32} {ar : Array Value} (X : LXt P P' lo A s) (h : LSt D cI cZ cC cJ cA P P' lo A s Mx My H locs) (hr : va_Run p l e R s m args below meth c H locs cells slots 0 0 (F0 m pc ls st0) rest (gQi D (aP P' 51) (wY cI cZ cC cJ cA P' M') r ar) (aP P' 51))
    (kk : ∀ (H1 : Heap) (locs1 : List Loc), LSt D cI cZ cC cJ cA P P' lo A s Mx M' H1 locs1 → W p l e R s m args below meth c H1 locs1 cells slots Q (F0 m (pc + 3) ls (.int r :: rest))) : W p l e R s m args below meth c H locs cells slots Q (F0 m pc ls st0) :=
  va_calli hr h.S (fun q _ hq => X.yA q hq) (fun q hq => X.yA q hq) (fun r' u t H1 locs1 ht _ hw hB _ hk hS1 => by
    subst hw
    exact kk H1 locs1 (h.cy X hk (by rw [← ht]; exact hB.1) hB.2 hS1))
theorem lwYo {M' : Mm} {r : Int32} {ar : Array Value} {f : Nat → Int64} (X : LXt P P' lo A s) (h : LSt D cI cZ cC cJ cA P P' lo A s Mx My H locs) (ho : va_P D vwCl [(lo, .inl (cJ, 1, .inr (.inl f)))] H) (hr : va_Run p l e R s m args below meth c H locs cells slots 0 0 (F0 m pc ls st0) rest (gQi D (aP P' 51) (wY cI cZ cC cJ cA P' M') r ar) (aP P' 51))
    (kk : ∀ (H1 : Heap) (locs1 : List Loc), va_P D vwCl [(lo, .inl (cJ, 1, .inr (.inl f)))] H1 → LSt D cI cZ cC cJ cA P P' lo A s Mx M' H1 locs1 → W p l e R s m args below meth c H1 locs1 cells slots Q (F0 m (pc + 3) ls (.int r :: rest))) : W p l e R s m args below meth c H locs cells slots Q (F0 m pc ls st0) :=
  va_calli hr h.S (fun q _ hq => X.yA q hq) (fun q hq => X.yA q hq) (fun r' u t H1 locs1 ht _ hw hB _ hk hS1 => by
    subst hw
    refine kk H1 locs1 (ho.kept (fun k q hq => ?_)) (h.cy X hk (by rw [← ht]; exact hB.1) hB.2 hS1)
    have hl := (ho k q hq).lt
    rw [one_w hq] at hl ⊢
    exact hk lo hl X.yo)
/-- what a helper of the law (compile, fetch) leaves: the class's world, and 'out' -/
def hA (P : Nat → Nat) (lo sz : Nat) : Nat → Prop := fun q => aP P 77 q ∨ q = lo ∨ sz ≤ q
def hQ (D : va_G) (cJ : ClassId) (w : va_W) (lo : Nat) (Rk : Int32 → (Nat → Int64) → Prop) (A : Nat → Prop) : Array Value → State → Outcome → State → Prop := va_Qi Rk (fun f t => va_P D vwCl w t.heap ∧ va_P D vwCl [(lo, .inl (cJ, 1, .inr (.inl f)))] t.heap) A
theorem lwH {M' : Mm} {ar : Array Value} {Rk : Int32 → (Nat → Int64) → Prop} (X : LXt P P' lo A s) (h : LSt D cI cZ cC cJ cA P P' lo A s Mx My H locs) (hd : va_D (aP P 77) (wX cI cZ cC cJ cA P M')) (hr : va_Run p l e R s m args below meth c H locs cells slots mc ms (F0 m pc ls st0) rest (hQ D cJ (wX cI cZ cC cJ cA P M') lo Rk (hA P lo H.size) ar) (hA P lo H.size))
    (kk : ∀ (r : Int32) (f : Nat → Int64) (H1 : Heap) (locs1 : List Loc), Rk r f → va_P D vwCl [(lo, .inl (cJ, 1, .inr (.inl f)))] H1 → LSt D cI cZ cC cJ cA P P' lo A s M' My H1 locs1 → W p l e R s m args below meth c H1 locs1 (cells + mc) (slots + ms) Q (F0 m (pc + 3) ls (.int r :: rest))) : W p l e R s m args below meth c H locs cells slots Q (F0 m pc ls st0) := by
  have hin : ∀ q, hA P lo H.size q → A q := fun q hq => by
    rcases hq with hq | rfl | hq
    · exact X.xA q hq
    · exact X.oA
    · exact X.OA q (Nat.le_trans h.S.1 hq)
  exact va_calli hr h.S (fun q _ hq => hin q hq) hin (fun r u t H1 locs1 ht _ hw hB _ hk hS1 => by
    rw [ht] at hB
    refine kk r u H1 locs1 hw hB.2 ⟨hB.1, h.y.kept (fun k q hq => ?_), ⟨u, hB.2⟩, hd, h.dy, hS1⟩
    have hl := (h.y k q hq).lt
    refine hk q.1 hl (fun hc => ?_)
    have hy := h.dy.2 k q hq
    rcases hc with hc | hc | hc
    · exact X.xy _ hc hy
    · rw [hc] at hy
      exact X.yo hy
    · exact absurd hl (Nat.not_lt.mpr hc))
theorem vP_l {w1 w2 : va_W} (h : va_P D vwCl (w1 ++ w2) H) : va_P D vwCl w1 H := fun k q hq => h k q (by rw [List.getElem?_append_left (List.getElem?_eq_some_iff.mp hq).1]; exact hq)
theorem vP_r {w1 w2 : va_W} (h : va_P D vwCl (w1 ++ w2) H) : va_P D vwCl w2 H := fun k q hq => h (w1.length + k) q (by rw [List.getElem?_append_right (Nat.le_add_right _ _), Nat.add_sub_cancel_left]; exact hq)
end LW
section LXM
variable {P P' : Nat → Nat} {lo : Nat} {A : Nat → Prop} {s : State} {w : va_W}
theorem fst_at {l : List Nat} (e : w.map (fun q => q.1) = l) {i a : Nat} (h : l[i]? = some a) : ∃ q, w[i]? = some q ∧ q.1 = a := by
  rw [← e, List.getElem?_map] at h
  cases hq : w[i]? with
  | none => rw [hq] at h; cases h
  | some q => rw [hq] at h; exact ⟨q, rfl, Option.some.inj h⟩
theorem fst_aP {n k : Nat} {q : Nat × va_E} (e : w.map (fun q => q.1) = (List.range n).map P) (h : w[k]? = some q) : aP P n q.1 := by
  have h1 : (w.map (fun q => q.1))[k]? = some q.1 := by rw [List.getElem?_map, h]; rfl
  rw [e, List.getElem?_map] at h1
  have hk : k < n := by
    have h2 := (List.getElem?_eq_some_iff.mp h).1
    have h3 := congrArg List.length e
    simp at h3
    omega
  rw [List.getElem?_range hk] at h1
  exact ⟨k, hk, Option.some.inj h1⟩
theorem vD_aP {n : Nat} (hD : va_D A w) (e : w.map (fun q => q.1) = (List.range n).map P) : va_D (aP P n) w := ⟨hD.1, fun _ _ hq => fst_aP e hq⟩
theorem gt_x {l2 : List Nat} {n k : Nat} (hk : k < n) : ((List.range n).map P ++ l2)[k]? = some (P k) := by
  rw [List.getElem?_append_left (by simpa using hk), List.getElem?_map, List.getElem?_range hk]
  rfl
theorem gt_y {l2 : List Nat} {n j : Nat} : ((List.range n).map P ++ l2)[n + j]? = l2[j]? := by
  rw [List.getElem?_append_right (by simp)]
  congr 1
  simp
theorem LXt.mk' (hD : va_D A w) (e : w.map (fun q => q.1) = (List.range 77).map P ++ ((List.range 51).map P' ++ [lo])) (hAO : ∀ q, A q → s.heap.size ≤ q) (hOA : ∀ q, s.heap.size ≤ q → A q) : LXt P P' lo A s := by
  have dis : ∀ i j a : Nat, ((List.range 77).map P ++ ((List.range 51).map P' ++ [lo]))[i]? = some a → ((List.range 77).map P ++ ((List.range 51).map P' ++ [lo]))[j]? = some a → i = j := by
    intro i j a hi hj
    obtain ⟨p, h1, e1⟩ := fst_at e hi
    obtain ⟨q, h2, e2⟩ := fst_at e hj
    exact hD.1 i j p q h1 h2 (by rw [e1, e2])
  have inA : ∀ i a : Nat, ((List.range 77).map P ++ ((List.range 51).map P' ++ [lo]))[i]? = some a → A a := by
    intro i a hi
    obtain ⟨p, h1, e1⟩ := fst_at e hi
    rw [← e1]
    exact hD.2 i p h1
  have gx : ∀ k, k < 77 → ((List.range 77).map P ++ ((List.range 51).map P' ++ [lo]))[k]? = some (P k) := fun k hk => gt_x hk
  have gy : ∀ j, j < 51 → ((List.range 77).map P ++ ((List.range 51).map P' ++ [lo]))[77 + j]? = some (P' j) := fun j hj => by rw [gt_y]; exact gt_x hj
  have go : ((List.range 77).map P ++ ((List.range 51).map P' ++ [lo]))[77 + (51 + 0)]? = some lo := by rw [gt_y, gt_y]; rfl
  refine ⟨?_, ?_, ?_, ?_, ?_, ?_, hAO, hOA⟩
  · rintro q ⟨k, hk, e1⟩ ⟨j, hj, e2⟩
    have := dis k (77 + j) q (by rw [gx k hk, e1]) (by rw [gy j hj, e2])
    omega
  · rintro ⟨k, hk, e1⟩
    have := dis k (77 + (51 + 0)) lo (by rw [gx k hk, e1]) go
    omega
  · rintro ⟨j, hj, e2⟩
    have := dis (77 + j) (77 + (51 + 0)) lo (by rw [gy j hj, e2]) go
    omega
  · rintro q ⟨k, hk, e1⟩
    rw [← e1]
    exact inA k _ (gx k hk)
  · rintro q ⟨j, hj, e2⟩
    rw [← e2]
    exact inA (77 + j) _ (gy j hj)
  · exact inA _ lo go
end LXM
