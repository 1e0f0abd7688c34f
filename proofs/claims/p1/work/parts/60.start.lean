theorem and31 (x : Int32) : ∃ k : Nat, k < 32 ∧ x &&& 31 = nI k := by
  refine ⟨(x &&& 31).toBitVec.toNat, ?_, Int32.toBitVec_inj.mp (by show _ = BitVec.ofNat 32 _; simp)⟩
  rw [Int32.toBitVec_and]
  show (x.toBitVec &&& 31#32).toNat < 32
  rw [BitVec.toNat_and]
  exact Nat.lt_of_le_of_lt Nat.and_le_right (by decide)
theorem ar_int {args : Array Value} {s : State} (h : (Cond.arrayClass .int).before args s = true) : ∃ cA : ClassId, ArrOfT s cA .int ∧ va_RA s cA .int := by
  obtain ⟨c, k, comp, h1, h2, h3⟩ := Cond.arrayClass_spec h
  exact ⟨c, fun n z => ⟨fun k h => (by cases h), k, h2, comp, h3⟩, h1⟩
theorem ar_boolean {args : Array Value} {s : State} (h : (Cond.arrayClass .boolean).before args s = true) : ∃ cA : ClassId, ArrOfT s cA .boolean ∧ va_RA s cA .boolean := by
  obtain ⟨c, k, comp, h1, h2, h3⟩ := Cond.arrayClass_spec h
  exact ⟨c, fun n z => ⟨fun k h => (by cases h), k, h2, comp, h3⟩, h1⟩
theorem ar_char {args : Array Value} {s : State} (h : (Cond.arrayClass .char).before args s = true) : ∃ cA : ClassId, ArrOfT s cA .char ∧ va_RA s cA .char := by
  obtain ⟨c, k, comp, h1, h2, h3⟩ := Cond.arrayClass_spec h
  exact ⟨c, fun n z => ⟨fun k h => (by cases h), k, h2, comp, h3⟩, h1⟩
theorem ar_long {args : Array Value} {s : State} (h : (Cond.arrayClass .long).before args s = true) : ∃ cA : ClassId, ArrOfT s cA .long ∧ va_RA s cA .long := by
  obtain ⟨c, k, comp, h1, h2, h3⟩ := Cond.arrayClass_spec h
  exact ⟨c, fun n z => ⟨fun k h => (by cases h), k, h2, comp, h3⟩, h1⟩
set_option maxHeartbeats 4000000 in
set_option maxRecDepth 100000 in
theorem k_all {args : Array Value} {s : State} (hgt : ∀ w ∈ GT, w.before args s = true) : ∃ (D : va_G) (cI cZ cC cJ : ClassId), va_K D vwCl [(cI, .int), (cZ, .boolean), (cC, .char), (cJ, .long)] s := by
  obtain ⟨c0, i0, k0⟩ := u_known hgt iwX0 (hgt _ wd_1_216)
  obtain ⟨c1, i1, k1⟩ := u_known hgt iwX1 (hgt _ wd_1_77)
  obtain ⟨c2, i2, k2⟩ := u_known hgt iwX2 (hgt _ wd_0_38)
  obtain ⟨c3, i3, k3⟩ := u_known hgt iwX3 (hgt _ wd_0_203)
  obtain ⟨c4, i4, k4⟩ := u_known hgt iwX4 (hgt _ wd_0_221)
  obtain ⟨c5, i5, k5⟩ := u_known hgt iwX5 (hgt _ wd_1_83)
  obtain ⟨c6, i6, k6⟩ := u_known hgt iwX6 (hgt _ wd_1_107)
  obtain ⟨c7, i7, k7⟩ := u_known hgt iwX7 (hgt _ wd_1_153)
  obtain ⟨c8, i8, k8⟩ := u_known hgt iwX8 (hgt _ wd_0_182)
  obtain ⟨c9, i9, k9⟩ := u_known hgt iwX9 (hgt _ wd_0_44)
  obtain ⟨c10, i10, k10⟩ := u_known hgt iwX10 (hgt _ wd_1_186)
  obtain ⟨c11, i11, k11⟩ := u_known hgt iwX11 (hgt _ wd_0_30)
  obtain ⟨c12, i12, k12⟩ := u_known hgt iwX12 (hgt _ wd_4_196)
  obtain ⟨cI, acI, rcI⟩ := ar_int (hgt _ wd_0_92)
  obtain ⟨cZ, acZ, rcZ⟩ := ar_boolean (hgt _ wd_5_190)
  obtain ⟨cC, acC, rcC⟩ := ar_char (hgt _ wd_0_201)
  obtain ⟨cJ, acJ, rcJ⟩ := ar_long (hgt _ wd_2_16)
  refine ⟨(fun k => match k with | 0 => c0 | 1 => c1 | 2 => c2 | 3 => c3 | 4 => c4 | 5 => c5 | 6 => c6 | 7 => c7 | 8 => c8 | 9 => c9 | 10 => c10 | 11 => c11 | 12 => c12 | _ => 0, fun k => match k with | 0 => i0 | 1 => i1 | 2 => i2 | 3 => i3 | 4 => i4 | 5 => i5 | 6 => i6 | 7 => i7 | 8 => i8 | 9 => i9 | 10 => i10 | 11 => i11 | 12 => i12 | _ => fun _ => 0), cI, cZ, cC, cJ, ?_, ?_⟩
  · intro c q hq
    match c, hq with
    | 0, hq => cases hq; exact k0
    | 1, hq => cases hq; exact k1
    | 2, hq => cases hq; exact k2
    | 3, hq => cases hq; exact k3
    | 4, hq => cases hq; exact k4
    | 5, hq => cases hq; exact k5
    | 6, hq => cases hq; exact k6
    | 7, hq => cases hq; exact k7
    | 8, hq => cases hq; exact k8
    | 9, hq => cases hq; exact k9
    | 10, hq => cases hq; exact k10
    | 11, hq => cases hq; exact k11
    | 12, hq => cases hq; exact k12
    | c + 13, hq => cases hq
  · intro k q hq
    match k, hq with
    | 0, hq => cases hq; exact ⟨acI, rcI⟩
    | 1, hq => cases hq; exact ⟨acZ, rcZ⟩
    | 2, hq => cases hq; exact ⟨acC, rcC⟩
    | 3, hq => cases hq; exact ⟨acJ, rcJ⟩
    | k + 4, hq => cases hq
set_option maxHeartbeats 4000000 in
set_option maxRecDepth 100000 in
theorem str_of {b : Nat} {s : State} (hts : ∀ w ∈ lw_tbl, w.before #[Value.ref b] s = true) (hgv : (Jvm.Cond.and given_1 narrow_1).before #[Value.ref b] s = true) : ∃ (qs qv : Nat) (fb : Nat → Value), StrF s qs qv fb := by
  have hs := flat_of_before _ hgv
  have hA : ∀ a : Nat, a < s.heap.size → ¬ (s.heap.size ≤ a) := fun a h1 h2 => Nat.not_lt.mpr h2 h1
  have one : ∀ i : Nat, i < 1 → i = 0 := fun i h => by omega
  obtain ⟨adK, adV, hS, hE⟩ := vk_Sof (args := #[Value.ref b]) (s := s) (N := 1) (tm := fun _ => (Jvm.Term.string "ChipMap$Layout" 27)) (len := [7]) (byt := [[119, 114, 111, 99, 116, 115, 112]]) (A := fun q => s.heap.size ≤ q) (fun i hi => by obtain rfl := one i hi; decide) (fun i hi => hs _ (by decide +kernel)) (fun i hi => hs _ (by decide +kernel)) (fun i hi => hs _ (by decide +kernel)) (fun i hi => by obtain rfl := one i hi; exact hs _ (by decide +kernel)) (fun i hi j hj => by
    obtain rfl := one i hi
    have hj7 : j < 7 := hj
    have hc : j = 0 ∨ j = 1 ∨ j = 2 ∨ j = 3 ∨ j = 4 ∨ j = 5 ∨ j = 6 := by omega
    rcases hc with rfl | rfl | rfl | rfl | rfl | rfl | rfl <;> exact hs _ (by decide +kernel)) (fun i j hi hj hij => absurd ((one i hi).trans (one j hj).symm) hij) hA
  obtain ⟨h1, h2, h3, h4⟩ := hS.1 0 (by decide)
  exact ⟨adK 0, adV 0, _, vk_R.of (hts _ (in_t0 (List.mem_of_getElem? (i := 226) rfl))) (hE 0 (by decide)), h1, h3, h2, h4, va_Zof (hts _ (in_t0 (List.mem_of_getElem? (i := 236) rfl))) (hts _ (List.mem_filter.mp wd_0_7).1) (va_eqi (hs _ (by decide +kernel))) hA⟩
theorem nw_of {b : Nat} {s : State} (hts : ∀ w ∈ lw_tbl, w.before #[Value.ref b] s = true) : NwF s := ⟨va_Nw.of rfl (hts _ (in_t0 (List.mem_of_getElem? (i := 39) rfl))), va_Nw.of rfl (hts _ (in_t0 (List.mem_of_getElem? (i := 45) rfl))), va_Nw.of rfl (hts _ (in_t1 (List.mem_of_getElem? (i := 0) rfl))), va_Nw.of rfl (hts _ (in_t1 (List.mem_of_getElem? (i := 84) rfl))), ao_of (hts _ (in_t0 (List.mem_of_getElem? (i := 238) rfl))) (hts _ (in_t0 (List.mem_of_getElem? (i := 92) rfl)))⟩
theorem th_iae {b : Nat} {s : State} (hts : ∀ w ∈ lw_tbl, w.before #[Value.ref b] s = true) (hgv : (Jvm.Cond.and given_1 narrow_1).before #[Value.ref b] s = true) : ThrF "java/lang/IllegalArgumentException" s := ⟨va_Nw.of rfl (hts _ (in_t4 (List.mem_of_getElem? (i := 81) rfl))), va_Nw.of rfl (hts _ (in_t4 (List.mem_of_getElem? (i := 83) rfl))), va_Nw.of rfl (hts _ (in_t4 (List.mem_of_getElem? (i := 85) rfl))), va_Nw.of rfl (hts _ (in_t4 (List.mem_of_getElem? (i := 80) rfl))), (hts _ (in_t4 (List.mem_of_getElem? (i := 105) rfl))), (hts _ (in_t4 (List.mem_of_getElem? (i := 107) rfl))), flat_of_before _ hgv (Jvm.Cond.isRef (Jvm.Term.static "java/lang/Throwable" "UNASSIGNED_STACK" "[Ljava/lang/StackTraceElement;")) (by decide +kernel), flat_of_before _ hgv (Jvm.Cond.isRef (Jvm.Term.static "java/lang/Throwable" "SUPPRESSED_SENTINEL" "Ljava/util/List;")) (by decide +kernel)⟩
theorem th_iob {b : Nat} {s : State} (hts : ∀ w ∈ lw_tbl, w.before #[Value.ref b] s = true) (hgv : (Jvm.Cond.and given_1 narrow_1).before #[Value.ref b] s = true) : ThrF "java/lang/IndexOutOfBoundsException" s := ⟨va_Nw.of rfl (hts _ (in_t4 (List.mem_of_getElem? (i := 81) rfl))), va_Nw.of rfl (hts _ (in_t4 (List.mem_of_getElem? (i := 83) rfl))), va_Nw.of rfl (hts _ (in_t4 (List.mem_of_getElem? (i := 85) rfl))), va_Nw.of rfl (hts _ (in_t4 (List.mem_of_getElem? (i := 167) rfl))), (hts _ (in_t4 (List.mem_of_getElem? (i := 105) rfl))), (hts _ (in_t4 (List.mem_of_getElem? (i := 107) rfl))), flat_of_before _ hgv (Jvm.Cond.isRef (Jvm.Term.static "java/lang/Throwable" "UNASSIGNED_STACK" "[Ljava/lang/StackTraceElement;")) (by decide +kernel), flat_of_before _ hgv (Jvm.Cond.isRef (Jvm.Term.static "java/lang/Throwable" "SUPPRESSED_SENTINEL" "Ljava/util/List;")) (by decide +kernel)⟩
