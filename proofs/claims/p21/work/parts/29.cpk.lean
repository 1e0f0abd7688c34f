def cpk (sp dp n : Int32) (n0 n1 : Nat) (k : Rs) : Rs := if ¬ sp < 0 ∧ ¬ dp < 0 ∧ ¬ n < 0 ∧ sp.toNatClampNeg + n.toNatClampNeg ≤ n0 ∧ dp.toNatClampNeg + n.toNatClampNeg ≤ n1 then k else none
theorem cpk_l {sp dp n : Int32} {n0 n1 : Nat} {k : Rs} {r : Mm × Int32} (h : cpk sp dp n n0 n1 k = some r) : cp_ok sp dp n n0 n1 := by
  unfold cpk at h
  split at h
  · assumption
  · cases h
theorem cpk_r {sp dp n : Int32} {n0 n1 : Nat} {k : Rs} {r : Mm × Int32} (h : cpk sp dp n n0 n1 k = some r) : k = some r := by
  unfold cpk at h
  split at h
  · exact h
  · cases h
