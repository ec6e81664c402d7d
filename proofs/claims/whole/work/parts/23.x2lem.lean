/-- 0 <= x < n, as two comparisons -/
theorem X_in_lt {x : Int32} {n : Nat} (hn : n < 2 ^ 31) (h0 : ¬ x < 0) (h1 : ¬ nI n ≤ x) : x = nI x.toNatClampNeg ∧ x.toNatClampNeg < n := by
  rw [fa_lt] at h0
  rw [fa_le, nI_toInt hn] at h1
  have e : (0 : Int32).toInt = 0 := rfl
  have h2 : 0 ≤ x.toInt := by omega
  have := tN_toInt h2
  exact ⟨tN_of h2, by omega⟩
