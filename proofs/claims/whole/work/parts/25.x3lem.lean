/-! ===== facts for the class's loops ===== -/
def natRow (f : Nat → Int32) (m b : Nat) : Prop := ∀ k, k < m → natOK (f k) b
def seedN (s : Nat) : Nat := (1103515245 * s + 12345) % 2147483648
theorem seedN_lt (s : Nat) : seedN s < 2147483648 := Nat.mod_lt _ (by decide)
theorem XH_nextSeed_nat {s : Nat} (hs : s < 2147483648) : XH_nextSeed_r (nI s) = nI (seedN s) := by
  unfold XH_nextSeed_r seedN
  rw [nI_l (by omega), show (1103515245 : Int64) = lN 1103515245 from rfl, show (12345 : Int64) = lN 12345 from rfl, show (2147483648 : Int64) = lN 2147483648 from rfl, lN_mul, lN_add, pk_lRem (by omega) (by decide) (by decide), lN_i]
