/-! ===== the page, and what was told: parts of the relation ===== -/
def RPage (σ τ : Nat → Nat → Int32) (pm : Nat) : Prop := pm ≤ 16 ∧ σ 8 1 = nI pm ∧ τ 0 1 = nI pm ∧ ∀ i, i < pm → σ 9 i = τ 1 i
theorem M_in_1_126 (x : Int32) : M_in_r x.toInt64 1 126 = if x < 1 then 0 else (if x ≤ 126 then 1 else 0) := M_in_32 x 1 126
theorem l_letter_r {κ : Nat → Nat} {σ τ : Nat → Nat → Int32} {pm : Nat} (h : RPage σ τ pm) (x : Int32) : X_letter_r κ σ pm x = M_letter_r τ pm x := by
  unfold X_letter_r M_letter_r
  rw [M_in_1_126]
  by_cases h1 : x < 1
  · rw [if_pos h1, if_pos (if_pos h1)]
  · rw [if_neg h1, if_neg h1]
    by_cases h2 : x ≤ 126
    · rw [if_pos h2, if_pos h2, if_neg (show ¬ ((1 : Int32) = 0) by decide)]
      by_cases h3 : pm < 16
      · rw [if_pos h3, if_neg (by omega)]; rfl
      · rw [if_neg h3, if_pos (by have := h.1; omega)]
    · rw [if_neg h2, if_neg h2, if_pos rfl]
theorem l_letter_s {κ : Nat → Nat} {σ τ : Nat → Nat → Int32} {pm : Nat} (h : RPage σ τ pm) (x : Int32) : ∃ pm', RPage (X_letter_s κ σ pm x) (M_letter_s τ pm x) pm' := by
  unfold X_letter_s M_letter_s
  rw [M_in_1_126]
  by_cases h1 : x < 1
  · rw [if_pos h1, if_pos (if_pos h1)]; exact ⟨pm, h⟩
  · rw [if_neg h1, if_neg h1]
    by_cases h2 : x ≤ 126
    · rw [if_pos h2, if_pos h2, if_neg (show ¬ ((1 : Int32) = 0) by decide)]
      by_cases h3 : pm < 16
      · rw [if_pos h3, if_neg (by omega)]
        refine ⟨pm + 1, by omega, up2_rs, up2_rs, fun i hi => ?_⟩
        unfold XG_put_s
        rw [up2_rn (show 9 ≠ 8 by decide), up2_rn (show 1 ≠ 0 by decide)]
        by_cases e : i = pm
        · subst e; rw [up2_rs, up2_rs]
        · rw [up2_rp e, up2_rp e]; exact h.2.2.2 i (by omega)
      · rw [if_neg h3, if_pos (by have := h.1; omega)]; exact ⟨pm, h⟩
    · rw [if_neg h2, if_neg h2, if_pos rfl]; exact ⟨pm, h⟩
theorem l_blank_r {κ : Nat → Nat} {σ τ : Nat → Nat → Int32} {pm : Nat} (h : RPage σ τ pm) : X_blank_r κ σ = M_blank_r τ := h.2.1.trans h.2.2.1.symm
theorem l_blank_s {κ : Nat → Nat} {σ τ : Nat → Nat → Int32} : RPage (X_blank_s κ σ) (M_blank_s τ) 0 := ⟨by decide, up2_rs, up2_rs, fun i hi => absurd hi (Nat.not_lt_zero i)⟩
