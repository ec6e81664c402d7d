/-! ===== level 2: who owes how much ===== -/
section SU
variable {b n c : Nat} {κ : Nat → Nat} {σ τ : Nat → Nat → Int32} {B : Int}
theorem HW.debt (h : HW b κ σ τ n B) {k : Nat} (hk : k < 16) : σ (b + 2) k = τ 5 k := (h.2.2.1.2.2 k hk).1
theorem HW.zero (h : HW b κ σ τ n B) {k : Nat} (hk : k < 16) (hz : n ≤ k / 4 ∨ n ≤ k % 4 ∨ k / 4 = k % 4) : τ 5 k = 0 := (h.debt hk).symm.trans ((h.2.2.1.2.2 k hk).2.2.2 hz)
theorem HW.owedBy (h : HW b κ σ τ n B) (hc : c < n) : XH_owedBy_r b κ σ n c = M_owesOf_r τ c := by
  have h4 := h.1
  have e0 : σ (b + 2) (4 * c) = τ 5 (4 * c) := h.debt (by omega)
  have e1 : σ (b + 2) (4 * c + 1) = τ 5 (4 * c + 1) := h.debt (by omega)
  have e2 : σ (b + 2) (4 * c + 2) = τ 5 (4 * c + 2) := h.debt (by omega)
  have e3 : σ (b + 2) (4 * c + 3) = τ 5 (4 * c + 3) := h.debt (by omega)
  unfold M_owesOf_r
  rcases (show n = 0 ∨ n = 1 ∨ n = 2 ∨ n = 3 ∨ n = 4 by omega) with w | w | w | w | w
  · omega
  · have z1 : τ 5 (4 * c + 1) = 0 := h.zero (by omega) (by omega)
    have z2 : τ 5 (4 * c + 2) = 0 := h.zero (by omega) (by omega)
    have z3 : τ 5 (4 * c + 3) = 0 := h.zero (by omega) (by omega)
    subst w
    show 0 + σ (b + 2) (4 * c) = τ 5 (4 * c) + τ 5 (4 * c + 1) + τ 5 (4 * c + 2) + τ 5 (4 * c + 3)
    simp only [z1, z2, z3, e0, Int32.zero_add, Int32.add_zero]
  · have z2 : τ 5 (4 * c + 2) = 0 := h.zero (by omega) (by omega)
    have z3 : τ 5 (4 * c + 3) = 0 := h.zero (by omega) (by omega)
    subst w
    show 0 + σ (b + 2) (4 * c) + σ (b + 2) (4 * c + 1) = τ 5 (4 * c) + τ 5 (4 * c + 1) + τ 5 (4 * c + 2) + τ 5 (4 * c + 3)
    simp only [z2, z3, e0, e1, Int32.zero_add, Int32.add_zero]
  · have z3 : τ 5 (4 * c + 3) = 0 := h.zero (by omega) (by omega)
    subst w
    show 0 + σ (b + 2) (4 * c) + σ (b + 2) (4 * c + 1) + σ (b + 2) (4 * c + 2) = τ 5 (4 * c) + τ 5 (4 * c + 1) + τ 5 (4 * c + 2) + τ 5 (4 * c + 3)
    simp only [z3, e0, e1, e2, Int32.zero_add, Int32.add_zero]
  · subst w
    show 0 + σ (b + 2) (4 * c) + σ (b + 2) (4 * c + 1) + σ (b + 2) (4 * c + 2) + σ (b + 2) (4 * c + 3) = τ 5 (4 * c) + τ 5 (4 * c + 1) + τ 5 (4 * c + 2) + τ 5 (4 * c + 3)
    simp only [e0, e1, e2, e3, Int32.zero_add]
theorem HW.owedTo (h : HW b κ σ τ n B) (hc : c < n) : XH_owedTo_r b κ σ n c = M_owedTo_r τ c := by
  have h4 := h.1
  have e0 : σ (b + 2) (4 * 0 + c) = τ 5 c := by rw [show 4 * 0 + c = c by omega]; exact h.debt (by omega)
  have e1 : σ (b + 2) (4 * 1 + c) = τ 5 (4 + c) := by rw [show 4 * 1 + c = 4 + c by omega]; exact h.debt (by omega)
  have e2 : σ (b + 2) (4 * 2 + c) = τ 5 (8 + c) := by rw [show 4 * 2 + c = 8 + c by omega]; exact h.debt (by omega)
  have e3 : σ (b + 2) (4 * 3 + c) = τ 5 (12 + c) := by rw [show 4 * 3 + c = 12 + c by omega]; exact h.debt (by omega)
  unfold M_owedTo_r
  rcases (show n = 0 ∨ n = 1 ∨ n = 2 ∨ n = 3 ∨ n = 4 by omega) with w | w | w | w | w
  · omega
  · have z1 : τ 5 (4 + c) = 0 := h.zero (by omega) (by omega)
    have z2 : τ 5 (8 + c) = 0 := h.zero (by omega) (by omega)
    have z3 : τ 5 (12 + c) = 0 := h.zero (by omega) (by omega)
    subst w
    show 0 + σ (b + 2) (4 * 0 + c) = τ 5 c + τ 5 (4 + c) + τ 5 (8 + c) + τ 5 (12 + c)
    rw [e0, z1, z2, z3, Int32.zero_add]
    simp only [Int32.add_zero]
  · have z2 : τ 5 (8 + c) = 0 := h.zero (by omega) (by omega)
    have z3 : τ 5 (12 + c) = 0 := h.zero (by omega) (by omega)
    subst w
    show 0 + σ (b + 2) (4 * 0 + c) + σ (b + 2) (4 * 1 + c) = τ 5 c + τ 5 (4 + c) + τ 5 (8 + c) + τ 5 (12 + c)
    rw [e0, e1, z2, z3, Int32.zero_add]
    simp only [Int32.add_zero]
  · have z3 : τ 5 (12 + c) = 0 := h.zero (by omega) (by omega)
    subst w
    show 0 + σ (b + 2) (4 * 0 + c) + σ (b + 2) (4 * 1 + c) + σ (b + 2) (4 * 2 + c) = τ 5 c + τ 5 (4 + c) + τ 5 (8 + c) + τ 5 (12 + c)
    rw [e0, e1, e2, z3, Int32.zero_add]
    simp only [Int32.add_zero]
  · subst w
    show 0 + σ (b + 2) (4 * 0 + c) + σ (b + 2) (4 * 1 + c) + σ (b + 2) (4 * 2 + c) + σ (b + 2) (4 * 3 + c) = τ 5 c + τ 5 (4 + c) + τ 5 (8 + c) + τ 5 (12 + c)
    rw [e0, e1, e2, e3, Int32.zero_add]
theorem M_owedAll_split : M_owedAll_r τ = M_owesOf_r τ 0 + M_owesOf_r τ 1 + M_owesOf_r τ 2 + M_owesOf_r τ 3 := by
  show 0 + τ 5 0 + τ 5 1 + τ 5 2 + τ 5 3 + τ 5 4 + τ 5 5 + τ 5 6 + τ 5 7 + τ 5 8 + τ 5 9 + τ 5 10 + τ 5 11 + τ 5 12 + τ 5 13 + τ 5 14 + τ 5 15 = (τ 5 0 + τ 5 1 + τ 5 2 + τ 5 3) + (τ 5 4 + τ 5 5 + τ 5 6 + τ 5 7) + (τ 5 8 + τ 5 9 + τ 5 10 + τ 5 11) + (τ 5 12 + τ 5 13 + τ 5 14 + τ 5 15)
  simp only [Int32.zero_add, Int32.add_assoc]
theorem HW.owesZero (h : HW b κ σ τ n B) (hc : n ≤ c) (h4 : c < 4) : M_owesOf_r τ c = 0 := by
  have z0 : τ 5 (4 * c) = 0 := h.zero (by omega) (by omega)
  have z1 : τ 5 (4 * c + 1) = 0 := h.zero (by omega) (by omega)
  have z2 : τ 5 (4 * c + 2) = 0 := h.zero (by omega) (by omega)
  have z3 : τ 5 (4 * c + 3) = 0 := h.zero (by omega) (by omega)
  unfold M_owesOf_r
  simp only [z0, z1, z2, z3, Int32.add_zero]
theorem HW.allOwed (h : HW b κ σ τ n B) : XH_allOwed_r b κ σ n = M_owedAll_r τ := by
  have h4 := h.1
  rw [M_owedAll_split]
  rcases (show n = 0 ∨ n = 1 ∨ n = 2 ∨ n = 3 ∨ n = 4 by omega) with w | w | w | w | w
  · have z0 := h.owesZero (c := 0) (by omega) (by omega)
    have z1 := h.owesZero (c := 1) (by omega) (by omega)
    have z2 := h.owesZero (c := 2) (by omega) (by omega)
    have z3 := h.owesZero (c := 3) (by omega) (by omega)
    subst w
    show (0 : Int32) = _
    simp only [z0, z1, z2, z3, Int32.add_zero]
  · have e0 := h.owedBy (c := 0) (by omega)
    have z1 := h.owesZero (c := 1) (by omega) (by omega)
    have z2 := h.owesZero (c := 2) (by omega) (by omega)
    have z3 := h.owesZero (c := 3) (by omega) (by omega)
    subst w
    show 0 + XH_owedBy_r b κ σ 1 0 = _
    simp only [e0, z1, z2, z3, Int32.zero_add, Int32.add_zero]
  · have e0 := h.owedBy (c := 0) (by omega)
    have e1 := h.owedBy (c := 1) (by omega)
    have z2 := h.owesZero (c := 2) (by omega) (by omega)
    have z3 := h.owesZero (c := 3) (by omega) (by omega)
    subst w
    show 0 + XH_owedBy_r b κ σ 2 0 + XH_owedBy_r b κ σ 2 1 = _
    simp only [e0, e1, z2, z3, Int32.zero_add, Int32.add_zero]
  · have e0 := h.owedBy (c := 0) (by omega)
    have e1 := h.owedBy (c := 1) (by omega)
    have e2 := h.owedBy (c := 2) (by omega)
    have z3 := h.owesZero (c := 3) (by omega) (by omega)
    subst w
    show 0 + XH_owedBy_r b κ σ 3 0 + XH_owedBy_r b κ σ 3 1 + XH_owedBy_r b κ σ 3 2 = _
    simp only [e0, e1, e2, z3, Int32.zero_add, Int32.add_zero]
  · have e0 := h.owedBy (c := 0) (by omega)
    have e1 := h.owedBy (c := 1) (by omega)
    have e2 := h.owedBy (c := 2) (by omega)
    have e3 := h.owedBy (c := 3) (by omega)
    subst w
    show 0 + XH_owedBy_r b κ σ 4 0 + XH_owedBy_r b κ σ 4 1 + XH_owedBy_r b κ σ 4 2 + XH_owedBy_r b κ σ 4 3 = _
    simp only [e0, e1, e2, e3, Int32.zero_add]
theorem HW.allCowsL (h : HW b κ σ τ n B) : ∀ (m i : Nat) (x : Int32), i + m ≤ n → XH_allCows_L4 b κ σ n m i x = M_cowsAll_L4 τ n m i x
  | 0, _, _, _ => rfl
  | m + 1, i, x, e => by
    have ih := HW.allCowsL h m (i + 1) (x + σ (b + 1) i) (by omega)
    have e1 := (h.2.2.1.1 i (by omega)).1
    show XH_allCows_L4 b κ σ n m (i + 1) (x + σ (b + 1) i) = M_cowsAll_L4 τ n m (i + 1) (x + τ 4 i)
    rw [ih, e1]
theorem HW.allCows (h : HW b κ σ τ n B) : XH_allCows_r b κ σ n = M_cowsAll_r τ n := h.allCowsL n 0 0 (by omega)
theorem HW.leastLedL (h : HW b κ σ τ n B) : ∀ (m i : Nat) (x : Int32), i + m ≤ n → XH_leastLed_L4 b κ σ n m i x = M_settledOf_L4 τ n m i x
  | 0, _, _, _ => rfl
  | m + 1, i, x, e => by
    have ih := HW.leastLedL h m (i + 1) (XH_leastLed_S4_0 b κ σ n i x) (by omega)
    have e1 : XH_leastLed_S4_0 b κ σ n i x = M_settledOf_S4_0 τ n i x := by
      unfold XH_leastLed_S4_0 M_settledOf_S4_0
      rw [h.owedTo (c := i) (by omega), h.owedBy (c := i) (by omega)]
      by_cases a : M_owedTo_r τ i - M_owesOf_r τ i ≤ 0
      · rw [if_pos a, if_neg (fun k => by rw [fa_lt] at k; rw [fa_le] at a; omega)]
      · rw [if_neg a, if_pos (fa_of_nle a)]
    show XH_leastLed_L4 b κ σ n m (i + 1) (XH_leastLed_S4_0 b κ σ n i x) = M_settledOf_L4 τ n m (i + 1) (M_settledOf_S4_0 τ n i x)
    rw [ih, e1]
theorem HW.leastLed (h : HW b κ σ τ n B) : XH_leastLed_r b κ σ n = M_settledOf_r τ n := h.leastLedL n 0 0 (by omega)
theorem owedAll_L (hg : ∀ k, k < 16 → 0 ≤ (τ 5 k).toInt ∧ (τ 5 k).toInt ≤ 1000000) : ∀ (m i : Nat) (x : Int32), i + m = 16 → 0 ≤ x.toInt → x.toInt ≤ 1000000 * i → 0 ≤ (M_owedAll_L4 τ m i x).toInt
  | 0, _, _, _, h0, _ => h0
  | m + 1, i, x, e, h0, h1 => by
    have g := hg i (by omega)
    have s : (x + τ 5 i).toInt = x.toInt + (τ 5 i).toInt := fb_addI (by omega) (by omega)
    exact owedAll_L hg m (i + 1) (x + τ 5 i) (by omega) (by omega) (by omega)
theorem HW.owedAll_pos (h : HW b κ σ τ n B) (hB : B ≤ 1000000) : 0 ≤ (M_owedAll_r τ).toInt :=
  owedAll_L (fun k hk => by have := h.2.2.1.2.2 k hk; rw [this.1] at this; exact ⟨this.2.1, by omega⟩) 16 0 0 rfl (by decide) (by decide)
end SU
