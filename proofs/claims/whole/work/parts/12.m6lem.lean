/-! ===== what plans and orders hold ===== -/
def natOK (x : Int32) (b : Nat) : Prop := x = nI x.toNatClampNeg ∧ x.toNatClampNeg < b
def planOK (f : Nat → Int32) (pl : Nat) : Prop := ∀ k, k < pl → natOK (f (2 * k)) 4 ∧ natOK (f (2 * k + 1)) 4
def rowOK (f : Nat → Int32) (pl : Nat) : Prop := ∀ k, k < pl → natOK (f k) pl
theorem natOK_nI {n b : Nat} (h : n < b) (hb : b < 2 ^ 31) : natOK (nI n) b := by
  unfold natOK
  rw [nI_clamp (by omega)]
  exact ⟨rfl, h⟩
theorem M_isOrder_L12_ok (pl code : Nat) (hpl : pl < 2 ^ 31) : ∀ (m : Nat), m ≤ pl → ∀ (x : Nat) (y : Int32) (τ : Nat → Nat → Int32), (∀ k, k < m → natOK ((M_isOrder_L12 pl code m x y τ).2.2 10 k) pl) ∧ ∀ k, m ≤ k → (M_isOrder_L12 pl code m x y τ).2.2 10 k = τ 10 k := by
  intro m
  induction m with
  | zero => intro _ x y τ; exact ⟨fun k h => absurd h (Nat.not_lt_zero _), fun k _ => rfl⟩
  | succ m ih =>
    intro hm x y τ
    obtain ⟨h1, h2⟩ := ih (by omega) (M_isOrder_S12_0 pl code m x y τ) (M_isOrder_S12_1 pl code m x y τ) (M_isOrder_S12_2 pl code m x y τ)
    refine ⟨fun k hk => ?_, fun k hk => ?_⟩
    · rcases Nat.lt_or_ge k m with q | q
      · exact h1 k q
      · have e : k = m := by omega
        subst e
        have h3 := h2 k (Nat.le_refl _)
        have h4 : M_isOrder_S12_2 pl code k x y τ 10 k = nI (x % pl) := up2_rs
        have h5 : (M_isOrder_L12 pl code (k + 1) x y τ).2.2 10 k = nI (x % pl) := h3.trans h4
        rw [h5]
        exact natOK_nI (Nat.mod_lt _ (by omega)) hpl
    · have h3 := h2 k (by omega)
      exact h3.trans (up2_rp (by omega))
theorem M_isOrder_ok (σ : Nat → Nat → Int32) (pl code : Nat) (hpl : pl ≤ 4) : rowOK ((M_isOrder_s σ pl code) 10) pl := by
  intro k hk
  have h := (M_isOrder_L12_ok pl code (by omega) pl (Nat.le_refl _) code 0 σ).1 k hk
  unfold M_isOrder_s
  rw [ite_self]
  exact h
theorem M_lacks_pos {σ : Nat → Nat → Int32} {n : Nat} (hn : σ 0 6 = nI n) (h : M_lacks_r σ = 0) : 0 < n := by
  rcases Nat.eq_zero_or_pos n with e | e
  · subst e
    unfold M_lacks_r at h
    rw [if_pos (show (σ 0 6) = 0 from hn)] at h
    exact absurd h (by decide)
  · exact e
theorem M_draw_lt (σ : Nat → Nat → Int32) {n : Nat} (h : 0 < n) : M_draw_n σ n < n := Nat.mod_lt _ h
/-! ===== reading the page ===== -/
/-- what go() rests on -/
def goOK (σ : Nat → Nat → Int32) : Prop := σ 0 3 = nI (σ 0 3).toNatClampNeg ∧ (σ 0 3).toNatClampNeg ≤ 4 ∧ ((σ 0 5 = 0 ∨ σ 0 5 = 1) → (σ 0 3).toNatClampNeg < 4)
theorem goOK_of {σ : Nat → Nat → Int32} {rm : Nat} (h : σ 0 3 = nI rm) (h4 : rm ≤ 4) (hs : (σ 0 5 = 0 ∨ σ 0 5 = 1) → rm < 4) : goOK σ := by
  unfold goOK
  rw [h, nI_clamp (by omega)]
  exact ⟨rfl, h4, hs⟩
theorem M_go_next {σ : Nat → Nat → Int32} {rm : Nat} {c : Int32} (h : σ 0 3 = nI rm) (h4 : rm ≤ 4) (hs : (σ 0 5 = 0 ∨ σ 0 5 = 1) → rm < 4) :
    (∃ rm', M_go_s σ rm c 0 3 = nI rm' ∧ rm' ≤ 4) ∧ (¬ M_go_r σ rm c = 0 → goOK (M_go_s σ rm c)) := by
  unfold M_go_s M_go_r
  by_cases s0 : σ 0 5 = 0
  · simp only [if_pos s0, ite_self]
    have e3 : up2 (up2 σ 0 5 (σ 0 5 + 1)) 2 (2 * rm) (M_kindBy_r c) 0 3 = nI rm := (up2_rn (by decide)).trans ((up2_rp (by decide)).trans h)
    exact ⟨⟨rm, e3, h4⟩, fun _ => goOK_of e3 h4 (fun _ => hs (Or.inl s0))⟩
  · simp only [if_neg s0]
    by_cases s1 : σ 0 5 = 1
    · simp only [if_pos s1]
      have hrm := hs (Or.inr s1)
      have e3 : up2 (up2 (up2 σ 0 5 (σ 0 5 + 1)) 2 (2 * rm + 1) (c - 48)) 0 3 (nI (rm + 1)) 0 3 = nI (rm + 1) := up2_rs
      have e5 : up2 (up2 (up2 σ 0 5 (σ 0 5 + 1)) 2 (2 * rm + 1) (c - 48)) 0 3 (nI (rm + 1)) 0 5 = 2 := (up2_rp (by decide)).trans ((up2_rn (by decide)).trans (up2_rs.trans (by rw [s1]; decide)))
      exact ⟨⟨rm + 1, e3, by omega⟩, fun _ => goOK_of e3 (by omega) (fun q => by rw [e5] at q; rcases q with q | q <;> exact absurd q (by decide))⟩
    · simp only [if_neg s1]
      by_cases s2 : σ 0 5 = 2
      · simp only [if_pos s2, ite_self]
        by_cases c1 : c = 44
        · simp only [if_pos c1]
          have e3 : up2 (up2 σ 0 5 (σ 0 5 + 1)) 0 5 0 0 3 = nI rm := (up2_rp (by decide)).trans ((up2_rp (by decide)).trans h)
          refine ⟨⟨rm, e3, h4⟩, fun q => goOK_of e3 h4 (fun _ => ?_)⟩
          by_cases g : 4 ≤ rm
          · rw [if_pos g] at q
            exact absurd rfl q
          · omega
        · simp only [if_neg c1]
          have e3 : up2 (up2 σ 0 5 (σ 0 5 + 1)) 0 5 3 0 3 = nI rm := (up2_rp (by decide)).trans ((up2_rp (by decide)).trans h)
          have e5 : up2 (up2 σ 0 5 (σ 0 5 + 1)) 0 5 3 0 5 = 3 := up2_rs
          exact ⟨⟨rm, e3, h4⟩, fun _ => goOK_of e3 h4 (fun q => by rw [e5] at q; rcases q with q | q <;> exact absurd q (by decide))⟩
      · simp only [if_neg s2]
        by_cases s3 : σ 0 5 = 3
        · simp only [if_pos s3]
          have e3 : up2 (up2 σ 0 5 (σ 0 5 + 1)) 0 4 (c - 48) 0 3 = nI rm := (up2_rp (by decide)).trans ((up2_rp (by decide)).trans h)
          have e5 : up2 (up2 σ 0 5 (σ 0 5 + 1)) 0 4 (c - 48) 0 5 = 4 := (up2_rp (by decide)).trans (up2_rs.trans (by rw [s3]; decide))
          exact ⟨⟨rm, e3, h4⟩, fun _ => goOK_of e3 h4 (fun q => by rw [e5] at q; rcases q with q | q <;> exact absurd q (by decide))⟩
        · simp only [if_neg s3]
          have e3 : up2 σ 0 5 (σ 0 5 + 1) 0 3 = nI rm := (up2_rp (by decide)).trans h
          exact ⟨⟨rm, e3, h4⟩, fun q => absurd trivial q⟩
/-- how many letters are right, and the table behind them: from place i on, n letters are left -/
def M_faultOf_L12 : Nat → Nat → (Nat → Nat → Int32) → Nat × (Nat → Nat → Int32)
  | 0, i, σ => (i, σ)
  | n + 1, i, σ => if M_go_r σ (σ 0 3).toNatClampNeg (σ 1 i) = 0 then (i, M_go_s σ (σ 0 3).toNatClampNeg (σ 1 i)) else M_faultOf_L12 n (i + 1) (M_go_s σ (σ 0 3).toNatClampNeg (σ 1 i))
def M_faultOf_n (σ : Nat → Nat → Int32) (pm : Nat) : Nat := (M_faultOf_L12 pm 0 (up2 (up2 σ 0 3 0) 0 5 0)).1
def M_faultOf_s (σ : Nat → Nat → Int32) (pm : Nat) : Nat → Nat → Int32 := (M_faultOf_L12 pm 0 (up2 (up2 σ 0 3 0) 0 5 0)).2
