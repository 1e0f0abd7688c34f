theorem vI {i : Int32} {n : Nat} (h : 0 ≤ i.toInt ∧ i.toInt < (n : Int)) : vp_in i n := by
  intro hc
  rcases hc with hc | hc
  · have := Int32.lt_iff_toInt_lt.mp hc
    have e : (0 : Int32).toInt = 0 := rfl
    omega
  · have e : i.toNatClampNeg = i.toInt.toNat := rfl
    omega
theorem tnc {i : Int32} (h : 0 ≤ i.toInt) : ((i.toNatClampNeg : Nat) : Int) = i.toInt := by
  have e : i.toNatClampNeg = i.toInt.toNat := rfl
  omega
theorem bm_id {x : Int} (h1 : -2147483648 ≤ x) (h2 : x ≤ 2147483647) : x.bmod 4294967296 = x := by
  rw [Int.bmod_def]
  split <;> omega
theorem iadd {a b : Int32} {x y : Int} (ha : a.toInt = x) (hb : b.toInt = y) (h1 : -2147483648 ≤ x + y) (h2 : x + y ≤ 2147483647) : (a + b).toInt = x + y := by
  rw [Int32.toInt_add, ha, hb]
  exact bm_id h1 h2
theorem isub {a b : Int32} {x y : Int} (ha : a.toInt = x) (hb : b.toInt = y) (h1 : -2147483648 ≤ x - y) (h2 : x - y ≤ 2147483647) : (a - b).toInt = x - y := by
  rw [Int32.toInt_sub, ha, hb]
  exact bm_id h1 h2
theorem imul {a b : Int32} {x y : Int} (ha : a.toInt = x) (hb : b.toInt = y) (h1 : -2147483648 ≤ x * y) (h2 : x * y ≤ 2147483647) : (a * b).toInt = x * y := by
  rw [Int32.toInt_mul, ha, hb]
  exact bm_id h1 h2
theorem idiv {a b : Int32} {x y : Int} (ha : a.toInt = x) (hb : b.toInt = y) (h0 : 0 ≤ x) (h1 : 0 < y) (h2 : x ≤ 2147483647) : (a / b).toInt = x / y := by
  rw [Int32.toInt_div, ha, hb, Int.tdiv_eq_ediv_of_nonneg h0]
  have := Int.ediv_nonneg h0 (Int.le_of_lt h1)
  have := Int.ediv_le_self y h0
  exact bm_id (by omega) (by omega)
theorem irem {a : Int32} {x : Int} (ha : a.toInt = x) (h0 : 0 ≤ x) (h2 : x ≤ 2147483647) : 0 ≤ (a - a / 64 * 64).toInt ∧ (a - a / 64 * 64).toInt < 64 := by
  have e64 : (64 : Int32).toInt = 64 := rfl
  have h := idiv ha e64 h0 (by omega) h2
  have h3 := imul h e64 (by omega) (by omega)
  have h4 := isub ha h3 (by omega) (by omega)
  omega
theorem iand {a c : Int32} (hc : 0 ≤ c.toInt) : 0 ≤ (a &&& c).toInt ∧ (a &&& c).toInt ≤ c.toInt := by
  have h1 : (a &&& c).toUInt32 = a.toUInt32 &&& c.toUInt32 := rfl
  have h2 : (a &&& c).toUInt32.toNat = a.toUInt32.toNat &&& c.toUInt32.toNat := by rw [h1, UInt32.toNat_and]
  have h3 : a.toUInt32.toNat &&& c.toUInt32.toNat ≤ c.toUInt32.toNat := Nat.and_le_right
  have hcN : c.toInt = (c.toUInt32.toNat : Int) ∨ c.toInt = (c.toUInt32.toNat : Int) - 4294967296 := by
    have : c.toInt = c.toBitVec.toInt := rfl
    have e2 : c.toUInt32.toNat = c.toBitVec.toNat := rfl
    rw [this, e2, BitVec.toInt_eq_toNat_cond]
    split
    · exact Or.inl rfl
    · exact Or.inr rfl
  have hlt : c.toUInt32.toNat < 4294967296 := c.toUInt32.toNat_lt
  have hc2 : c.toInt < 2147483648 := c.toInt_lt
  have e4 : (a &&& c).toInt = (a &&& c).toBitVec.toInt := rfl
  have e5 : (a &&& c).toUInt32.toNat = (a &&& c).toBitVec.toNat := rfl
  rw [e4, BitVec.toInt_eq_toNat_cond]
  rw [e5] at h2
  split <;> omega
theorem b01 {r : Int32} (h : 0 ≤ r.toInt ∧ r.toInt ≤ 1) : r = 0 ∨ r = 1 := by
  have e0 : (0 : Int32).toInt = 0 := rfl
  have e1 : (1 : Int32).toInt = 1 := rfl
  by_cases hr : r.toInt = 0
  · exact Or.inl (Int32.toInt_inj.mp (by omega))
  · exact Or.inr (Int32.toInt_inj.mp (by omega))
theorem shr2 {v : Int32} (h : 0 ≤ v.toInt ∧ v.toInt ≤ 15) : 0 ≤ ((v : Int32) >>> (2 &&& 31)).toInt ∧ ((v : Int32) >>> (2 &&& 31)).toInt ≤ 3 := by
  have key : ∀ k : Fin 16, 0 ≤ ((Int32.ofNat k.val : Int32) >>> (2 &&& 31)).toInt ∧ ((Int32.ofNat k.val : Int32) >>> (2 &&& 31)).toInt ≤ 3 := by decide
  have hv : v = Int32.ofNat v.toInt.toNat := by
    apply Int32.toInt_inj.mp
    rw [Int32.toInt_ofNat_of_lt (by omega)]
    omega
  have := key ⟨v.toInt.toNat, by omega⟩
  rw [hv]
  exact this
theorem wpR_le {a b : Int32} {x y : Int} {A B : Rs} {Q : Mm → Int32 → Prop} (ha : a.toInt = x) (hb : b.toInt = y) (h1 : x ≤ y → wpR A Q) (h2 : y < x → wpR B Q) : wpR (if a ≤ b then A else B) Q := by
  refine wpR_if (fun h => h1 ?_) (fun h => h2 ?_)
  · have := Int32.le_iff_toInt_le.mp h
    omega
  · have : ¬ a.toInt ≤ b.toInt := fun z => h (Int32.le_iff_toInt_le.mpr z)
    omega
theorem wpR_lw {a b : Int32} {x y : Int} {A B : Rs} {Q : Mm → Int32 → Prop} (ha : a.toInt = x) (hb : b.toInt = y) (h1 : x < y → wpR A Q) (h2 : y ≤ x → wpR B Q) : wpR (if a < b then A else B) Q := by
  refine wpR_if (fun h => h1 ?_) (fun h => h2 ?_)
  · have := Int32.lt_iff_toInt_lt.mp h
    omega
  · have : ¬ a.toInt < b.toInt := fun z => h (Int32.lt_iff_toInt_lt.mpr z)
    omega
theorem wpR_eq {a b : Int32} {x y : Int} {A B : Rs} {Q : Mm → Int32 → Prop} (ha : a.toInt = x) (hb : b.toInt = y) (h1 : x = y → wpR A Q) (h2 : x ≠ y → wpR B Q) : wpR (if a = b then A else B) Q := by
  refine wpR_if (fun h => h1 ?_) (fun h => h2 ?_)
  · rw [← ha, ← hb, h]
  · intro z
    exact h (Int32.toInt_inj.mp (by omega))
theorem wpR_cl {t : Rs} {k : Mm → Int32 → Rs} {P Q : Mm → Int32 → Prop} (h : wpR t P) (h2 : ∀ M r, P M r → wpR (k M r) Q) : wpR (cal t k) Q := wpR_cal (wpR_mono h h2)
theorem wpR_ro {t : Rs} {k : Mm → Int32 → Rs} {M : Mm} {P : Int32 → Prop} {Q : Mm → Int32 → Prop} (h : wpR t (fun M' r => M = M' ∧ P r)) (h2 : ∀ r, P r → wpR (k M r) Q) : wpR (cal t k) Q :=
  wpR_cal (wpR_mono h (fun M' r hh => by
    obtain ⟨rfl, hp⟩ := hh
    exact h2 r hp))
theorem wpR_ltv {α : Type} {x : α} {k : α → Rs} {Q : Mm → Int32 → Prop} (h : ∀ y, y = x → wpR (k y) Q) : wpR (lt' x k) Q := h x rfl
