/-! ===== small facts on the checks of the model ===== -/
theorem tN_toInt {x : Int32} (h : 0 ≤ x.toInt) : (x.toNatClampNeg : Int) = x.toInt := by
  unfold Int32.toNatClampNeg
  omega
theorem tN_of {x : Int32} (h : 0 ≤ x.toInt) : x = nI x.toNatClampNeg := by
  have h1 := tN_toInt h
  have h2 := fb_rng x
  rw [fa_eq, nI_toInt (by omega)]
  exact h1.symm
theorem M_in_iff (x lo hi : Int64) : M_in_r x lo hi = 0 ↔ ¬ (lo.toInt ≤ x.toInt ∧ x.toInt ≤ hi.toInt) := by
  unfold M_in_r
  have h1 : (lg_cmp x lo < 0) ↔ x.toInt < lo.toInt := by
    have := lg_cmp_ge x lo
    rw [fa_le64, fa_le] at this
    rw [fa_lt]
    have e : (0 : Int32).toInt = 0 := rfl
    omega
  have h2 : (0 < lg_cmp x hi) ↔ hi.toInt < x.toInt := by
    have := lg_cmp_le x hi
    rw [fa_le64, fa_le] at this
    rw [fa_lt]
    have e : (0 : Int32).toInt = 0 := rfl
    omega
  by_cases a : lg_cmp x lo < 0
  · rw [if_pos a]
    have := h1.mp a
    simp only [true_iff]
    omega
  · rw [if_neg a]
    by_cases b : 0 < lg_cmp x hi
    · rw [if_pos b]
      have := h2.mp b
      simp only [true_iff]
      omega
    · rw [if_neg b]
      have h3 : ¬ x.toInt < lo.toInt := fun q => a (h1.mpr q)
      have h4 : ¬ hi.toInt < x.toInt := fun q => b (h2.mpr q)
      have h5 : ¬ ((1 : Int32) = 0) := by decide
      simp only [h5, false_iff]
      omega
theorem M_in_ok {x : Int32} {lo hi : Int64} (h : ¬ M_in_r x.toInt64 lo hi = 0) : lo.toInt ≤ x.toInt ∧ x.toInt ≤ hi.toInt := by
  rw [M_in_iff, Classical.not_not] at h
  rw [Int32.toInt_toInt64] at h
  exact h
theorem M_in_no {x : Int32} {lo hi : Int64} (h : M_in_r x.toInt64 lo hi = 0) : ¬ (lo.toInt ≤ x.toInt ∧ x.toInt ≤ hi.toInt) := by
  rw [M_in_iff, Int32.toInt_toInt64] at h
  exact h
/-- in(x, lo, hi) with lo at least 0: x is a natural number -/
theorem M_in_nat {x : Int32} {lo hi : Int64} {l h : Nat} (e1 : lo.toInt = l) (e2 : hi.toInt = h) (q : ¬ M_in_r x.toInt64 lo hi = 0) : x = nI x.toNatClampNeg ∧ l ≤ x.toNatClampNeg ∧ x.toNatClampNeg ≤ h := by
  have := M_in_ok q
  have h0 : 0 ≤ x.toInt := by omega
  have := tN_toInt h0
  exact ⟨tN_of h0, by omega, by omega⟩
/-- in(x, 0, n - 1) -/
theorem M_in_lt {x : Int32} {n : Nat} (hn : n < 2 ^ 30) (q : ¬ M_in_r x.toInt64 0 ((nI n - 1).toInt64) = 0) : x = nI x.toNatClampNeg ∧ x.toNatClampNeg < n := by
  have h1 := M_in_ok q
  rw [Int32.toInt_toInt64] at h1
  have e : (nI n - 1).toInt = (n : Int) - 1 := by
    have h2 : (nI n).toInt = n := nI_toInt (by omega)
    have h3 : (1 : Int32).toInt = 1 := rfl
    rw [fb_subI (by omega) (by omega)]
    omega
  rw [e] at h1
  have h2 : (0 : Int64).toInt = 0 := rfl
  have h0 : 0 ≤ x.toInt := by omega
  have := tN_toInt h0
  exact ⟨tN_of h0, by omega⟩
theorem M_isClan_ok {σ : Nat → Nat → Int32} {n : Nat} {x : Int32} (hn : σ 0 6 = nI n) (h4 : n ≤ 4) (q : ¬ M_isClan_r σ x = 0) : x = nI x.toNatClampNeg ∧ x.toNatClampNeg < n := by
  unfold M_isClan_r at q
  rw [show (σ 0) 6 = nI n from hn] at q
  exact M_in_lt (by omega) q
theorem M_areTwo_ok {σ : Nat → Nat → Int32} {n : Nat} {x y : Int32} (hn : σ 0 6 = nI n) (h4 : n ≤ 4) (q : ¬ M_areTwo_r σ x y = 0) : x = nI x.toNatClampNeg ∧ x.toNatClampNeg < n ∧ y = nI y.toNatClampNeg ∧ y.toNatClampNeg < n ∧ x.toNatClampNeg ≠ y.toNatClampNeg := by
  unfold M_areTwo_r at q
  by_cases h1 : M_isClan_r σ x = 0
  · rw [if_pos h1] at q
    exact absurd rfl q
  · rw [if_neg h1] at q
    by_cases h2 : M_isClan_r σ y = 0
    · rw [if_pos h2] at q
      exact absurd rfl q
    · rw [if_neg h2] at q
      by_cases h3 : x = y
      · rw [if_pos h3] at q
        exact absurd rfl q
      · obtain ⟨a1, a2⟩ := M_isClan_ok hn h4 h1
        obtain ⟨b1, b2⟩ := M_isClan_ok hn h4 h2
        exact ⟨a1, a2, b1, b2, fun e => h3 (by rw [a1, b1, e])⟩
