/-! ===== small facts for the loops of the model ===== -/
def asksN (k r : Nat) : Nat := if k = 1 then r + 1 else if k = 2 then (if 1 < r then r - 1 else 1) else if k = 4 then 2 * r + 2 else r
theorem M_asksBy_tab : ∀ k, k < 5 → ∀ r, r < 10 → 1 ≤ r → M_asksBy_r (nI k) (nI r) = nI (asksN k r) ∧ asksN k r < 21 := by decide +kernel
theorem M_asksBy_nat {k r : Nat} (hk : k < 5) (h1 : 1 ≤ r) (h2 : r < 10) : M_asksBy_r (nI k) (nI r) = nI (asksN k r) ∧ asksN k r < 21 := M_asksBy_tab k hk r h2 h1
theorem l64_of (x : Int64) : ∃ n, n < 2 ^ 64 ∧ x = lN n := ⟨x.toBitVec.toNat, x.toBitVec.isLt, Int64.toBitVec_inj.mp (by show _ = BitVec.ofNat 64 _; simp)⟩
/-- the seed: its rest by 2 to the 31 -/
theorem seed_nat (z : Int64) : (z &&& 2147483647).toInt32 = nI ((z &&& 2147483647).toInt32.toNatClampNeg) ∧ ((z &&& 2147483647).toInt32.toNatClampNeg) < 2 ^ 31 := by
  obtain ⟨n, -, rfl⟩ := l64_of z
  have h := fb_maskL n 31
  have e : lN (2 ^ 31 - 1) = (2147483647 : Int64) := by decide +kernel
  rw [e] at h
  rw [h, lN_i]
  have hl : n % 2 ^ 31 < 2 ^ 31 := Nat.mod_lt _ (by decide)
  rw [nI_clamp hl]
  exact ⟨rfl, hl⟩
