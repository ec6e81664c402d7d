/-! ===== level 2: the relation between the class's table and the model's ===== -/
def RPg (σ τ : Nat → Nat → Int32) (pm : Nat) : Prop := pm ≤ 16 ∧ σ 8 1 = nI pm ∧ τ 0 1 = nI pm ∧ ∀ i, i < pm → σ 9 i = τ 1 i ∧ ∃ v, 1 ≤ v ∧ v < 127 ∧ τ 1 i = nI v
def RTl (tm : Nat) (s t : Int32) (r1 r2 q : Nat → Int32) : Prop := tm ≤ 6 ∧ s = nI tm ∧ t = nI tm ∧ ∀ i, i < tm → q (2 * i) = r1 i ∧ q (2 * i + 1) = r2 i ∧ ∃ v, 1 ≤ v ∧ v < 10 ∧ r1 i = nI v
def RPl (n pl : Nat) (s t : Int32) (r1 r2 q : Nat → Int32) : Prop := pl ≤ 4 ∧ s = nI pl ∧ t = nI pl ∧ ∀ i, i < pl → q (2 * i) = r1 i ∧ q (2 * i + 1) = r2 i ∧ ∃ c d, c < n ∧ d < n ∧ c ≠ d ∧ r1 i = nI c ∧ r2 i = nI d
def RWd (n wd : Nat) (s t : Int32) (r1 r2 r3 r4 q : Nat → Int32) : Prop := wd ≤ 12 ∧ s = nI wd ∧ t = nI wd ∧ ∀ i, i < wd → q (4 * i) = r1 i ∧ q (4 * i + 1) = r2 i ∧ q (4 * i + 2) = r3 i ∧ q (4 * i + 3) = r4 i ∧ (∃ c d v, c < n ∧ d < n ∧ c ≠ d ∧ v ≤ 20 ∧ r1 i = nI c ∧ r2 i = nI d ∧ r3 i = nI v) ∧ (r4 i = 0 ∨ r4 i = 1)
def RRt (n : Nat) (p p' : Int32) : Prop := p = p' ∧ (0 < n → ∃ r, 1 ≤ r ∧ r < 10 ∧ p = nI r)
def RNow (κ : Nat → Nat) (σ τ : Nat → Nat → Int32) (n wd pl tm : Nat) (B : Int) : Prop :=
  HW 10 κ σ τ n B ∧ RRt n (σ 10 4) (τ 0 7) ∧ RWd n wd (σ 32 4) (τ 0 13) (σ 33) (σ 34) (σ 35) (σ 36) (τ 6) ∧ RPl n pl (σ 37 4) (τ 0 15) (σ 38) (σ 39) (τ 7) ∧ RTl tm (σ 42 2) (τ 0 22) (σ 43) (σ 44) (τ 13) ∧ σ 31 4 = τ 0 8
def RKp (σ τ : Nat → Nat → Int32) (n : Nat) (B : Int) : Prop :=
  σ 17 3 = nI n ∧ RHd n B (σ 18) (σ 19) (τ 15) (τ 16) ∧ RRt n (σ 17 4) (τ 0 27) ∧ (∃ wd, RWd n wd (σ 46 4) (τ 0 29) (σ 47) (σ 48) (σ 49) (σ 50) (τ 17)) ∧ (∃ pl, RPl n pl (σ 51 4) (τ 0 30) (σ 52) (σ 53) (τ 18)) ∧ (∃ tm, RTl tm (σ 56 2) (τ 0 31) (σ 57) (σ 58) (τ 19)) ∧ σ 45 4 = τ 0 28
def RIm (σ τ : Nat → Nat → Int32) (n : Nat) (B : Int) : Prop := (σ 0 6 = 0 ∧ ¬ τ 0 26 = τ 0 9) ∨ (¬ σ 0 6 = 0 ∧ τ 0 26 = τ 0 9 ∧ RKp σ τ n B)
def RHr (σ τ : Nat → Nat → Int32) (hr : Nat) (B : Int) : Prop := (hr : Int) ≤ B ∧ σ 0 7 = nI hr ∧ τ 0 9 = nI hr ∧ (τ 0 26 = -1 ∨ ∃ k, k ≤ hr ∧ τ 0 26 = nI k)
def Rel (κ : Nat → Nat) (σ τ : Nat → Nat → Int32) (n pm wd pl tm hr : Nat) (B : Int) : Prop :=
  (∀ i, i < 4 → κ i < 5) ∧ RPg σ τ pm ∧ RNow κ σ τ n wd pl tm B ∧ RIm σ τ n B ∧ RHr σ τ hr B
def RelE (κ : Nat → Nat) (σ τ : Nat → Nat → Int32) (B : Int) : Prop := ∃ n pm wd pl tm hr, Rel κ σ τ n pm wd pl tm hr B
section RL
variable {κ : Nat → Nat} {σ τ σ' τ' : Nat → Nat → Int32} {n pm wd pl tm hr : Nat} {B B' : Int}
theorem Rel.mono (h : Rel κ σ τ n pm wd pl tm hr B) (hB : B ≤ B') : Rel κ σ τ n pm wd pl tm hr B' := by
  obtain ⟨hk, hp, hN, hI, hH⟩ := h
  refine ⟨hk, hp, ⟨hN.1.mono hB, hN.2⟩, ?_, by have := hH.1; omega, hH.2⟩
  rcases hI with q | ⟨q1, q2, q3, q4, q5⟩
  · exact Or.inl q
  · exact Or.inr ⟨q1, q2, q3, q4.mono hB, q5⟩
/-- what calls may use as their own -/
def AgX (σ' σ : Nat → Nat → Int32) : Prop := (∀ q, q ≠ 24 → q ≠ 25 → q ≠ 26 → q ≠ 37 → q ≠ 40 → q ≠ 41 → σ' q = σ q) ∧ ∀ k, k ≠ 5 → σ' 37 k = σ 37 k
def AgM (τ' τ : Nat → Nat → Int32) : Prop := (∀ q, q ≠ 0 → q ≠ 2 → q ≠ 8 → q ≠ 9 → q ≠ 10 → q ≠ 11 → q ≠ 12 → q ≠ 14 → τ' q = τ q) ∧ ∀ k, k ≠ 3 → k ≠ 4 → k ≠ 5 → k ≠ 25 → τ' 0 k = τ 0 k
theorem AgX.rf : AgX σ σ := ⟨fun _ _ _ _ _ _ _ => rfl, fun _ _ => rfl⟩
theorem AgM.rf : AgM τ τ := ⟨fun _ _ _ _ _ _ _ _ _ => rfl, fun _ _ _ _ _ => rfl⟩
theorem AgX.trans {ρ : Nat → Nat → Int32} (h : AgX σ' σ) (g : AgX ρ σ') : AgX ρ σ := ⟨fun q a b c d e f => (g.1 q a b c d e f).trans (h.1 q a b c d e f), fun k a => (g.2 k a).trans (h.2 k a)⟩
theorem AgM.trans {ρ : Nat → Nat → Int32} (h : AgM τ' τ) (g : AgM ρ τ') : AgM ρ τ := ⟨fun q a b c d e f i j => (g.1 q a b c d e f i j).trans (h.1 q a b c d e f i j), fun k a b c d => (g.2 k a b c d).trans (h.2 k a b c d)⟩
theorem agX_form (h : AgX σ' σ) : σ' = row (row (row (row (row (up2 σ 37 5 (σ' 37 5)) 24 (σ' 24)) 25 (σ' 25)) 26 (σ' 26)) 40 (σ' 40)) 41 (σ' 41) := by
  funext q
  by_cases e1 : q = 41
  · rw [e1, row_s]
  · rw [row_n _ _ e1]
    by_cases e2 : q = 40
    · rw [e2, row_s]
    · rw [row_n _ _ e2]
      by_cases e3 : q = 26
      · rw [e3, row_s]
      · rw [row_n _ _ e3]
        by_cases e4 : q = 25
        · rw [e4, row_s]
        · rw [row_n _ _ e4]
          by_cases e5 : q = 24
          · rw [e5, row_s]
          · rw [row_n _ _ e5]
            by_cases e6 : q = 37
            · subst e6
              funext k
              by_cases w : k = 5
              · subst w; exact up2_rs.symm
              · rw [up2_rp w]; exact h.2 k w
            · rw [up2_n _ _ _ e6]; exact h.1 q e5 e4 e3 e6 e2 e1
theorem agM_form (h : AgM τ' τ) : τ' = row (row (row (row (row (row (row (up2 (up2 (up2 (up2 τ 0 3 (τ' 0 3)) 0 4 (τ' 0 4)) 0 5 (τ' 0 5)) 0 25 (τ' 0 25)) 2 (τ' 2)) 8 (τ' 8)) 9 (τ' 9)) 10 (τ' 10)) 11 (τ' 11)) 12 (τ' 12)) 14 (τ' 14) := by
  funext q
  by_cases e1 : q = 14
  · rw [e1, row_s]
  · rw [row_n _ _ e1]
    by_cases e2 : q = 12
    · rw [e2, row_s]
    · rw [row_n _ _ e2]
      by_cases e3 : q = 11
      · rw [e3, row_s]
      · rw [row_n _ _ e3]
        by_cases e4 : q = 10
        · rw [e4, row_s]
        · rw [row_n _ _ e4]
          by_cases e5 : q = 9
          · rw [e5, row_s]
          · rw [row_n _ _ e5]
            by_cases e6 : q = 8
            · rw [e6, row_s]
            · rw [row_n _ _ e6]
              by_cases e7 : q = 2
              · rw [e7, row_s]
              · rw [row_n _ _ e7]
                by_cases e8 : q = 0
                · subst e8
                  funext k
                  by_cases w1 : k = 25
                  · subst w1; exact up2_rs.symm
                  · rw [up2_rp w1]
                    by_cases w2 : k = 5
                    · subst w2; exact up2_rs.symm
                    · rw [up2_rp w2]
                      by_cases w3 : k = 4
                      · subst w3; exact up2_rs.symm
                      · rw [up2_rp w3]
                        by_cases w4 : k = 3
                        · subst w4; exact up2_rs.symm
                        · rw [up2_rp w4]; exact h.2 k w4 w3 w2 w1
                · rw [up2_n _ _ _ e8, up2_n _ _ _ e8, up2_n _ _ _ e8, up2_n _ _ _ e8]; exact h.1 q e8 e7 e6 e5 e4 e3 e2 e1
theorem Rel.agree (h : Rel κ σ τ n pm wd pl tm hr B) (hX : AgX σ' σ) (hM : AgM τ' τ) : Rel κ σ' τ' n pm wd pl tm hr B := by
  rw [agX_form hX, agM_form hM]
  exact h
theorem row_two {a b : Nat} (h : ∀ q, q ≠ a → q ≠ b → σ' q = σ q) : σ' = row (row σ a (σ' a)) b (σ' b) := by
  funext q
  by_cases e1 : q = b
  · rw [e1, row_s]
  · rw [row_n _ _ e1]
    by_cases e2 : q = a
    · rw [e2, row_s]
    · rw [row_n _ _ e2]; exact h q e2 e1
/-- a call that changes herds and debts alone -/
theorem Rel.herds (h : Rel κ σ τ n pm wd pl tm hr B) (hB : B ≤ B') (hw : HW 10 κ σ' τ' n B') (hX : ∀ q, q ≠ 11 → q ≠ 12 → σ' q = σ q) (hM : ∀ q, q ≠ 4 → q ≠ 5 → τ' q = τ q) : Rel κ σ' τ' n pm wd pl tm hr B' := by
  have h' := h.mono hB
  rw [row_two hX, row_two hM] at hw ⊢
  exact ⟨h'.1, h'.2.1, ⟨hw, h'.2.2.1.2⟩, h'.2.2.2⟩
end RL
