theorem ar_int {args : Array Value} {s : State} (h : (Cond.arrayClass .int).before args s = true) : ∃ cA : ClassId, ArrOfT s cA .int ∧ va_RA s cA .int := by
  obtain ⟨c, k, comp, h1, h2, h3⟩ := Cond.arrayClass_spec h
  exact ⟨c, fun n z => ⟨fun k h => (by cases h), k, h2, comp, h3⟩, h1⟩
theorem ar_boolean {args : Array Value} {s : State} (h : (Cond.arrayClass .boolean).before args s = true) : ∃ cA : ClassId, ArrOfT s cA .boolean ∧ va_RA s cA .boolean := by
  obtain ⟨c, k, comp, h1, h2, h3⟩ := Cond.arrayClass_spec h
  exact ⟨c, fun n z => ⟨fun k h => (by cases h), k, h2, comp, h3⟩, h1⟩
theorem ar_char {args : Array Value} {s : State} (h : (Cond.arrayClass .char).before args s = true) : ∃ cA : ClassId, ArrOfT s cA .char ∧ va_RA s cA .char := by
  obtain ⟨c, k, comp, h1, h2, h3⟩ := Cond.arrayClass_spec h
  exact ⟨c, fun n z => ⟨fun k h => (by cases h), k, h2, comp, h3⟩, h1⟩
theorem ar_long {args : Array Value} {s : State} (h : (Cond.arrayClass .long).before args s = true) : ∃ cA : ClassId, ArrOfT s cA .long ∧ va_RA s cA .long := by
  obtain ⟨c, k, comp, h1, h2, h3⟩ := Cond.arrayClass_spec h
  exact ⟨c, fun n z => ⟨fun k h => (by cases h), k, h2, comp, h3⟩, h1⟩
theorem ar_grid {s : State} {cA comp : ClassId} (h : AoG s cA comp) : ArrOfT s cA (.array .int) ∧ va_RA s cA (.array .int) := by
  obtain ⟨cc, kA, kC, h1, h2, h3, h4, h5, h6⟩ := h
  exact ⟨fun n z => ⟨fun k h => (by cases h), kA, h3, comp, h4⟩, h1⟩
set_option maxHeartbeats 4000000 in
set_option maxRecDepth 100000 in
theorem k_all {args : Array Value} {s : State} (hgt : ∀ w ∈ GT, w.before args s = true) (hov : (Cond.arrayOver (.array .int)).before args s = true) : ∃ (D : va_G) (cI cZ cC cJ cA : ClassId), va_K D vwCl [(cI, .int), (cZ, .boolean), (cC, .char), (cJ, .long), (cA, .array .int)] s ∧ AoG s cA cI := by
  obtain ⟨c0, i0, k0⟩ := u_known hgt iwX0 (hgt _ wd_0_30)
  obtain ⟨c1, i1, k1⟩ := u_known hgt iwX1 (hgt _ wd_4_196)
  obtain ⟨c2, i2, k2⟩ := u_known hgt iwX2 (hgt _ wd_1_216)
  obtain ⟨c3, i3, k3⟩ := u_known hgt iwX3 (hgt _ wd_1_77)
  obtain ⟨c4, i4, k4⟩ := u_known hgt iwX4 (hgt _ wd_0_38)
  obtain ⟨c5, i5, k5⟩ := u_known hgt iwX5 (hgt _ wd_0_203)
  obtain ⟨c6, i6, k6⟩ := u_known hgt iwX6 (hgt _ wd_0_221)
  obtain ⟨c7, i7, k7⟩ := u_known hgt iwX7 (hgt _ wd_1_83)
  obtain ⟨c8, i8, k8⟩ := u_known hgt iwX8 (hgt _ wd_1_107)
  obtain ⟨c9, i9, k9⟩ := u_known hgt iwX9 (hgt _ wd_1_153)
  obtain ⟨c10, i10, k10⟩ := u_known hgt iwX10 (hgt _ wd_0_182)
  obtain ⟨c11, i11, k11⟩ := u_known hgt iwX11 (hgt _ wd_0_44)
  obtain ⟨c12, i12, k12⟩ := u_known hgt iwX12 (hgt _ wd_1_186)
  obtain ⟨cI, acI, rcI⟩ := ar_int (hgt _ wd_0_92)
  obtain ⟨cZ, acZ, rcZ⟩ := ar_boolean (hgt _ wd_5_190)
  obtain ⟨cC, acC, rcC⟩ := ar_char (hgt _ wd_0_201)
  obtain ⟨cJ, acJ, rcJ⟩ := ar_long (hgt _ wd_2_16)
  obtain ⟨cA, comp, hag⟩ := ag_of hov (hgt _ wd_0_92)
  have hci : s.vm.findClass "[I" = some cI := rcI
  have hcomp : s.vm.findClass "[I" = some comp := by
    obtain ⟨_, _, _, _, h2, _⟩ := hag
    exact h2
  have ecI : comp = cI := Option.some.inj (hcomp.symm.trans hci)
  rw [ecI] at hag
  obtain ⟨acA, rcA⟩ := ar_grid hag
  refine ⟨(fun k => match k with | 0 => c0 | 1 => c1 | 2 => c2 | 3 => c3 | 4 => c4 | 5 => c5 | 6 => c6 | 7 => c7 | 8 => c8 | 9 => c9 | 10 => c10 | 11 => c11 | 12 => c12 | _ => 0, fun k => match k with | 0 => i0 | 1 => i1 | 2 => i2 | 3 => i3 | 4 => i4 | 5 => i5 | 6 => i6 | 7 => i7 | 8 => i8 | 9 => i9 | 10 => i10 | 11 => i11 | 12 => i12 | _ => fun _ => 0), cI, cZ, cC, cJ, cA, ⟨?_, ?_⟩, hag⟩
  · intro c q hq
    match c, hq with
    | 0, hq => cases hq; exact k0
    | 1, hq => cases hq; exact k1
    | 2, hq => cases hq; exact k2
    | 3, hq => cases hq; exact k3
    | 4, hq => cases hq; exact k4
    | 5, hq => cases hq; exact k5
    | 6, hq => cases hq; exact k6
    | 7, hq => cases hq; exact k7
    | 8, hq => cases hq; exact k8
    | 9, hq => cases hq; exact k9
    | 10, hq => cases hq; exact k10
    | 11, hq => cases hq; exact k11
    | 12, hq => cases hq; exact k12
    | c + 13, hq => cases hq
  · intro k q hq
    match k, hq with
    | 0, hq => cases hq; exact ⟨acI, rcI⟩
    | 1, hq => cases hq; exact ⟨acZ, rcZ⟩
    | 2, hq => cases hq; exact ⟨acC, rcC⟩
    | 3, hq => cases hq; exact ⟨acJ, rcJ⟩
    | 4, hq => cases hq; exact ⟨acA, rcA⟩
    | k + 5, hq => cases hq
set_option maxHeartbeats 4000000 in
set_option maxRecDepth 100000 in
theorem str_L {b : Nat} {s : State} (hts : ∀ w ∈ lw_tbl, w.before #[Value.ref b] s = true) (hgv : (Jvm.Cond.and given_1 narrow_1).before #[Value.ref b] s = true) : ∃ (qs qv : Nat), vk_R "ChipMap$Layout" 27 "wroctsp" qs s ∧ va_O "java/lang/String" qs (fun q => s.heap.size ≤ q) s s.heap ∧ va_OF "java/lang/String" "coder" "B" (.int 0) qs (fun q => s.heap.size ≤ q) s s.heap ∧ va_OF "java/lang/String" "value" "[B" (.ref qv) qs (fun q => s.heap.size ≤ q) s s.heap ∧ va_T .byte qv 7 (fun j => .int (([[119, 114, 111, 99, 116, 115, 112]] : List (List Int32)).getD 0 [] |>.getD j 0)) (fun q => s.heap.size ≤ q) s s.heap := by
  have hs := flat_of_before _ hgv
  have hA : ∀ a : Nat, a < s.heap.size → ¬ (s.heap.size ≤ a) := fun a h1 h2 => Nat.not_lt.mpr h2 h1
  have one : ∀ i : Nat, i < 1 → i = 0 := fun i h => by omega
  obtain ⟨adK, adV, hS, hE⟩ := vk_Sof (args := #[Value.ref b]) (s := s) (N := 1) (tm := fun _ => (Jvm.Term.string "ChipMap$Layout" 27)) (len := [7]) (byt := [[119, 114, 111, 99, 116, 115, 112]]) (A := fun q => s.heap.size ≤ q) (fun i hi => by obtain rfl := one i hi; decide) (fun i hi => hs _ (by decide +kernel)) (fun i hi => hs _ (by decide +kernel)) (fun i hi => hs _ (by decide +kernel)) (fun i hi => by obtain rfl := one i hi; exact hs _ (by decide +kernel)) (fun i hi j hj => by
    obtain rfl := one i hi
    have hj7 : j < 7 := hj
    have hc : j = 0 ∨ j = 1 ∨ j = 2 ∨ j = 3 ∨ j = 4 ∨ j = 5 ∨ j = 6 := by omega
    rcases hc with rfl | rfl | rfl | rfl | rfl | rfl | rfl <;> exact hs _ (by decide +kernel)) (fun i j hi hj hij => absurd ((one i hi).trans (one j hj).symm) hij) hA
  exact ⟨adK 0, adV 0, vk_R.of (hts _ (in_t0 (List.mem_of_getElem? (i := 226) rfl))) (hE 0 (by decide)), hS.1 0 (by decide)⟩
set_option maxHeartbeats 4000000 in
set_option maxRecDepth 100000 in
theorem str_R0 {b : Nat} {s : State} (hts : ∀ w ∈ lw_tbl, w.before #[Value.ref b] s = true) (hgv : (Jvm.Cond.and given_1 narrow_1).before #[Value.ref b] s = true) : ∃ (qs qv : Nat), vk_R "ChipMap$Reader" 113 "wroctsp" qs s ∧ va_O "java/lang/String" qs (fun q => s.heap.size ≤ q) s s.heap ∧ va_OF "java/lang/String" "coder" "B" (.int 0) qs (fun q => s.heap.size ≤ q) s s.heap ∧ va_OF "java/lang/String" "value" "[B" (.ref qv) qs (fun q => s.heap.size ≤ q) s s.heap ∧ va_T .byte qv 7 (fun j => .int (([[119, 114, 111, 99, 116, 115, 112]] : List (List Int32)).getD 0 [] |>.getD j 0)) (fun q => s.heap.size ≤ q) s s.heap := by
  have hs := flat_of_before _ hgv
  have hA : ∀ a : Nat, a < s.heap.size → ¬ (s.heap.size ≤ a) := fun a h1 h2 => Nat.not_lt.mpr h2 h1
  have one : ∀ i : Nat, i < 1 → i = 0 := fun i h => by omega
  obtain ⟨adK, adV, hS, hE⟩ := vk_Sof (args := #[Value.ref b]) (s := s) (N := 1) (tm := fun _ => (Jvm.Term.string "ChipMap$Reader" 113)) (len := [7]) (byt := [[119, 114, 111, 99, 116, 115, 112]]) (A := fun q => s.heap.size ≤ q) (fun i hi => by obtain rfl := one i hi; decide) (fun i hi => hs _ (by decide +kernel)) (fun i hi => hs _ (by decide +kernel)) (fun i hi => hs _ (by decide +kernel)) (fun i hi => by obtain rfl := one i hi; exact hs _ (by decide +kernel)) (fun i hi j hj => by
    obtain rfl := one i hi
    have hj7 : j < 7 := hj
    have hc : j = 0 ∨ j = 1 ∨ j = 2 ∨ j = 3 ∨ j = 4 ∨ j = 5 ∨ j = 6 := by omega
    rcases hc with rfl | rfl | rfl | rfl | rfl | rfl | rfl <;> exact hs _ (by decide +kernel)) (fun i j hi hj hij => absurd ((one i hi).trans (one j hj).symm) hij) hA
  exact ⟨adK 0, adV 0, vk_R.of (hts _ (in_t3 (List.mem_of_getElem? (i := 181) rfl))) (hE 0 (by decide)), hS.1 0 (by decide)⟩
set_option maxHeartbeats 4000000 in
set_option maxRecDepth 100000 in
theorem str_R1 {b : Nat} {s : State} (hts : ∀ w ∈ lw_tbl, w.before #[Value.ref b] s = true) (hgv : (Jvm.Cond.and given_1 narrow_1).before #[Value.ref b] s = true) : ∃ (qs qv : Nat), vk_R "ChipMap$Reader" 140 "<&!" qs s ∧ va_O "java/lang/String" qs (fun q => s.heap.size ≤ q) s s.heap ∧ va_OF "java/lang/String" "coder" "B" (.int 0) qs (fun q => s.heap.size ≤ q) s s.heap ∧ va_OF "java/lang/String" "value" "[B" (.ref qv) qs (fun q => s.heap.size ≤ q) s s.heap ∧ va_T .byte qv 3 (fun j => .int (([[60, 38, 33]] : List (List Int32)).getD 0 [] |>.getD j 0)) (fun q => s.heap.size ≤ q) s s.heap := by
  have hs := flat_of_before _ hgv
  have hA : ∀ a : Nat, a < s.heap.size → ¬ (s.heap.size ≤ a) := fun a h1 h2 => Nat.not_lt.mpr h2 h1
  have one : ∀ i : Nat, i < 1 → i = 0 := fun i h => by omega
  obtain ⟨adK, adV, hS, hE⟩ := vk_Sof (args := #[Value.ref b]) (s := s) (N := 1) (tm := fun _ => (Jvm.Term.string "ChipMap$Reader" 140)) (len := [3]) (byt := [[60, 38, 33]]) (A := fun q => s.heap.size ≤ q) (fun i hi => by obtain rfl := one i hi; decide) (fun i hi => hs _ (by decide +kernel)) (fun i hi => hs _ (by decide +kernel)) (fun i hi => hs _ (by decide +kernel)) (fun i hi => by obtain rfl := one i hi; exact hs _ (by decide +kernel)) (fun i hi j hj => by
    obtain rfl := one i hi
    have hj7 : j < 3 := hj
    have hc : j = 0 ∨ j = 1 ∨ j = 2 := by omega
    rcases hc with rfl | rfl | rfl <;> exact hs _ (by decide +kernel)) (fun i j hi hj hij => absurd ((one i hi).trans (one j hj).symm) hij) hA
  exact ⟨adK 0, adV 0, vk_R.of (hts _ (in_t4 (List.mem_of_getElem? (i := 33) rfl))) (hE 0 (by decide)), hS.1 0 (by decide)⟩
theorem z_of {b : Nat} {s : State} (hts : ∀ w ∈ lw_tbl, w.before #[Value.ref b] s = true) (hgv : (Jvm.Cond.and given_1 narrow_1).before #[Value.ref b] s = true) : va_Z "java/lang/String" "COMPACT_STRINGS" "Z" (.int 1) (fun q => s.heap.size ≤ q) s s.heap := va_Zof (hts _ (in_t0 (List.mem_of_getElem? (i := 236) rfl))) (hts _ (List.mem_filter.mp wd_0_7).1) (va_eqi (flat_of_before _ hgv _ (by decide +kernel))) (fun a h1 h2 => Nat.not_lt.mpr h2 h1)
theorem str_of {b : Nat} {s : State} (hts : ∀ w ∈ lw_tbl, w.before #[Value.ref b] s = true) (hgv : (Jvm.Cond.and given_1 narrow_1).before #[Value.ref b] s = true) : ∃ (qs qv : Nat) (fb : Nat → Value), StrF s qs qv fb := by
  obtain ⟨qs, qv, h0, h1, h2, h3, h4⟩ := str_L hts hgv
  exact ⟨qs, qv, _, h0, h1, h3, h2, h4, z_of hts hgv⟩
theorem xe_of {b : Nat} {s : State} (hts : ∀ w ∈ lw_tbl, w.before #[Value.ref b] s = true) (hgv : (Jvm.Cond.and given_1 narrow_1).before #[Value.ref b] s = true) : ∃ qS : Nat → Nat, xE s qS := by
  obtain ⟨a0, v0, h0, h1, h2, h3, h4⟩ := str_R0 hts hgv
  obtain ⟨a1, v1, g0, g1, g2, g3, g4⟩ := str_R1 hts hgv
  refine ⟨fun i => match i with | 0 => a0 | 1 => a1 | 2 => v0 | _ => v1, fun i hi => ?_, z_of hts hgv, h0, g0⟩
  match i, hi with
  | 0, _ => exact ⟨h1, h3, h2, h4⟩
  | 1, _ => exact ⟨g1, g3, g2, g4⟩
  | k + 2, h => exact absurd h (by omega)
theorem nw_of {b : Nat} {s : State} (hts : ∀ w ∈ lw_tbl, w.before #[Value.ref b] s = true) : NwF s := ⟨va_Nw.of rfl (hts _ (in_t0 (List.mem_of_getElem? (i := 39) rfl))), va_Nw.of rfl (hts _ (in_t0 (List.mem_of_getElem? (i := 45) rfl))), va_Nw.of rfl (hts _ (in_t1 (List.mem_of_getElem? (i := 0) rfl))), va_Nw.of rfl (hts _ (in_t1 (List.mem_of_getElem? (i := 84) rfl))), trivial⟩
theorem ov_of {b : Nat} {s : State} (hts : ∀ w ∈ lw_tbl, w.before #[Value.ref b] s = true) : (Cond.arrayOver (.array .int)).before #[Value.ref b] s = true := (hts _ (in_t0 (List.mem_of_getElem? (i := 238) rfl)))
theorem th_iae {b : Nat} {s : State} (hts : ∀ w ∈ lw_tbl, w.before #[Value.ref b] s = true) (hgv : (Jvm.Cond.and given_1 narrow_1).before #[Value.ref b] s = true) : ThrF "java/lang/IllegalArgumentException" s := ⟨va_Nw.of rfl (hts _ (in_t4 (List.mem_of_getElem? (i := 81) rfl))), va_Nw.of rfl (hts _ (in_t4 (List.mem_of_getElem? (i := 83) rfl))), va_Nw.of rfl (hts _ (in_t4 (List.mem_of_getElem? (i := 85) rfl))), va_Nw.of rfl (hts _ (in_t4 (List.mem_of_getElem? (i := 80) rfl))), (hts _ (in_t4 (List.mem_of_getElem? (i := 105) rfl))), (hts _ (in_t4 (List.mem_of_getElem? (i := 107) rfl))), flat_of_before _ hgv (Jvm.Cond.isRef (Jvm.Term.static "java/lang/Throwable" "UNASSIGNED_STACK" "[Ljava/lang/StackTraceElement;")) (by decide +kernel), flat_of_before _ hgv (Jvm.Cond.isRef (Jvm.Term.static "java/lang/Throwable" "SUPPRESSED_SENTINEL" "Ljava/util/List;")) (by decide +kernel)⟩
theorem th_iob {b : Nat} {s : State} (hts : ∀ w ∈ lw_tbl, w.before #[Value.ref b] s = true) (hgv : (Jvm.Cond.and given_1 narrow_1).before #[Value.ref b] s = true) : ThrF "java/lang/IndexOutOfBoundsException" s := ⟨va_Nw.of rfl (hts _ (in_t4 (List.mem_of_getElem? (i := 81) rfl))), va_Nw.of rfl (hts _ (in_t4 (List.mem_of_getElem? (i := 83) rfl))), va_Nw.of rfl (hts _ (in_t4 (List.mem_of_getElem? (i := 85) rfl))), va_Nw.of rfl (hts _ (in_t4 (List.mem_of_getElem? (i := 167) rfl))), (hts _ (in_t4 (List.mem_of_getElem? (i := 105) rfl))), (hts _ (in_t4 (List.mem_of_getElem? (i := 107) rfl))), flat_of_before _ hgv (Jvm.Cond.isRef (Jvm.Term.static "java/lang/Throwable" "UNASSIGNED_STACK" "[Ljava/lang/StackTraceElement;")) (by decide +kernel), flat_of_before _ hgv (Jvm.Cond.isRef (Jvm.Term.static "java/lang/Throwable" "SUPPRESSED_SENTINEL" "Ljava/util/List;")) (by decide +kernel)⟩
theorem th_ise {b : Nat} {s : State} (hts : ∀ w ∈ lw_tbl, w.before #[Value.ref b] s = true) (hgv : (Jvm.Cond.and given_1 narrow_1).before #[Value.ref b] s = true) : ThrF "java/lang/IllegalStateException" s := ⟨va_Nw.of rfl (hts _ (in_t4 (List.mem_of_getElem? (i := 81) rfl))), va_Nw.of rfl (hts _ (in_t4 (List.mem_of_getElem? (i := 83) rfl))), va_Nw.of rfl (hts _ (in_t4 (List.mem_of_getElem? (i := 85) rfl))), va_Nw.of rfl (hts _ (in_t4 (List.mem_of_getElem? (i := 182) rfl))), (hts _ (in_t4 (List.mem_of_getElem? (i := 105) rfl))), (hts _ (in_t4 (List.mem_of_getElem? (i := 107) rfl))), flat_of_before _ hgv (Jvm.Cond.isRef (Jvm.Term.static "java/lang/Throwable" "UNASSIGNED_STACK" "[Ljava/lang/StackTraceElement;")) (by decide +kernel), flat_of_before _ hgv (Jvm.Cond.isRef (Jvm.Term.static "java/lang/Throwable" "SUPPRESSED_SENTINEL" "Ljava/util/List;")) (by decide +kernel)⟩
theorem nc_of {b : Nat} {s : State} (hgv : (Jvm.Cond.and given_1 narrow_1).before #[Value.ref b] s = true) : va_Nc "java/lang/IllegalStateException" "java/lang/IndexOutOfBoundsException" s := va_Nc.of (flat_of_before _ hgv (Jvm.Cond.not (Jvm.Cond.castable "java/lang/IllegalStateException" "java/lang/IndexOutOfBoundsException")) (by decide +kernel))
