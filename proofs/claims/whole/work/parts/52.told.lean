def RTold (σ τ : Nat → Nat → Int32) (tm : Nat) : Prop := tm ≤ 6 ∧ σ 42 2 = nI tm ∧ τ 0 22 = nI tm ∧ ∀ i, i < tm → τ 13 (2 * i) = σ 43 i ∧ τ 13 (2 * i + 1) = σ 44 i
theorem l_rate9 (x : Int32) : M_in_r x.toInt64 1 9 = X_isRate_r x := by
  refine (M_in_32 x 1 9).trans ?_
  unfold X_isRate_r
  by_cases h1 : x < 1
  · rw [if_pos h1, if_pos h1]
  · rw [if_neg h1, if_neg h1]
    by_cases h2 : x ≤ 9
    · rw [if_pos h2, if_neg (fun h => by rw [fa_lt] at h; rw [fa_le] at h2; omega)]
    · rw [if_neg h2, if_pos (by rw [fa_lt]; rw [fa_le] at h2; omega)]
theorem M_in_1_20 (x : Int32) : M_in_r x.toInt64 1 20 = if x < 1 then 0 else (if x ≤ 20 then 1 else 0) := M_in_32 x 1 20
theorem l_tell {κ : Nat → Nat} {σ τ : Nat → Nat → Int32} {tm : Nat} (h : RTold σ τ tm) (x y : Int32) : X_tell_r κ σ tm x y = M_tell_r τ tm x y ∧ ∃ tm', RTold (X_tell_s κ σ tm x y) (M_tell_s τ tm x y) tm' := by
  unfold X_tell_r M_tell_r X_tell_s M_tell_s
  rw [l_rate9, M_in_1_20]
  by_cases h0 : X_isRate_r x = 0
  · rw [if_pos h0, if_pos h0, if_pos h0, if_pos h0]; exact ⟨rfl, tm, h⟩
  · rw [if_neg h0, if_neg h0, if_neg h0, if_neg h0]
    by_cases h1 : y < 1
    · simp only [if_pos h1, if_true]; exact ⟨trivial, tm, h⟩
    · by_cases h2 : y ≤ 20
      · have h4 : ¬ ((1 : Int32) = 0) := by decide
        by_cases h3 : tm < 6
        · have h5 : ¬ tm = 6 := by omega
          simp only [if_neg h1, if_pos h2, if_neg h4, if_pos h3, if_neg h5]
          refine ⟨rfl, tm + 1, by omega, up2_rs, up2_rs, fun i hi => ?_⟩
          unfold XT_note_s
          by_cases e : i = tm
          · subst e
            refine ⟨?_, ?_⟩
            · rw [up2_rn (show 13 ≠ 0 by decide), up2_rp (by omega), up2_rs, up2_rn (show 43 ≠ 42 by decide), up2_rn (show 43 ≠ 44 by decide), up2_rs]
            · rw [up2_rn (show 13 ≠ 0 by decide), up2_rs, up2_rn (show 44 ≠ 42 by decide), up2_rs]
          · have q := h.2.2.2 i (by omega)
            refine ⟨?_, ?_⟩
            · rw [up2_rn (show 13 ≠ 0 by decide), up2_rp (by omega), up2_rp (by omega), up2_rn (show 43 ≠ 42 by decide), up2_rn (show 43 ≠ 44 by decide), up2_rp e]; exact q.1
            · rw [up2_rn (show 13 ≠ 0 by decide), up2_rp (by omega), up2_rp (by omega), up2_rn (show 44 ≠ 42 by decide), up2_rp e, up2_rn (show 44 ≠ 43 by decide)]; exact q.2
        · have h5 : tm = 6 := by have := h.1; omega
          simp only [if_neg h1, if_pos h2, if_neg h4, if_neg h3, if_pos h5]
          exact ⟨trivial, tm, h⟩
      · simp only [if_neg h1, if_neg h2, if_true]; exact ⟨trivial, tm, h⟩
theorem l_forget_r {κ : Nat → Nat} {σ τ : Nat → Nat → Int32} {tm : Nat} (h : RTold σ τ tm) : X_forget_r κ σ = M_forget_r τ := h.2.1.trans h.2.2.1.symm
theorem l_forget_s {κ : Nat → Nat} {σ τ : Nat → Nat → Int32} : RTold (X_forget_s κ σ) (M_forget_s τ) 0 := ⟨by decide, up2_rs, up2_rs, fun i hi => absurd hi (Nat.not_lt_zero i)⟩
