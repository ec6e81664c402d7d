/-! ===== level 2: the page is read ===== -/
theorem letter_tab : ∀ v, v < 127 → XG_kindOfLetter_r (nI v) = M_kindBy_r (nI v) := by decide +kernel
theorem xdig_tab : ∀ v, v < 127 → (if nI v < 48 then (5 : Int32) else (if 57 < nI v then 5 else 2)) = if M_in_r ((nI v - 48).toInt64) 0 9 = 0 then 5 else 2 := by decide +kernel
theorem xrate_tab : ∀ v, v < 127 → (if nI v < 49 then (5 : Int32) else (if 53 < nI v then 5 else 4)) = if M_in_r ((nI v - 48).toInt64) 1 5 = 0 then 5 else 4 := by decide +kernel
/-- the first i letters have been read; what is next is k -/
def GS (f : Nat → Int32) (i k : Nat) (ρ : Nat → Nat → Int32) : Prop :=
  ρ 1 = f ∧ ρ 0 5 = nI k ∧ ρ 0 3 = nI ((i + 1) / 3) ∧
  ((k = 0 ∧ i % 3 = 0 ∧ i ≤ 9) ∨ (k = 1 ∧ i % 3 = 1 ∧ i ≤ 10) ∨ (k = 2 ∧ i % 3 = 2 ∧ i ≤ 11) ∨ (k = 3 ∧ i % 3 = 0 ∧ 6 ≤ i ∧ i ≤ 12) ∨ (k = 4 ∧ i % 3 = 1 ∧ 7 ≤ i ∧ i ≤ 13)) ∧
  (∀ c, c < (i + 1) / 3 → ρ 2 (2 * c) = M_kindBy_r (f (3 * c)) ∧ ¬ M_kindBy_r (f (3 * c)) = -1 ∧ ρ 2 (2 * c + 1) = f (3 * c + 1) - 48 ∧ ¬ M_in_r ((f (3 * c + 1) - 48).toInt64) 0 9 = 0) ∧
  (k = 1 → ρ 2 (2 * (i / 3)) = M_kindBy_r (f (i - 1)) ∧ ¬ M_kindBy_r (f (i - 1)) = -1) ∧
  (k = 4 → ρ 0 4 = f (i - 1) - 48 ∧ ¬ M_in_r ((f (i - 1) - 48).toInt64) 1 5 = 0) ∧
  (k = 3 ↔ 1 ≤ i ∧ f (i - 1) = 59) ∧ (k = 4 ↔ 2 ≤ i ∧ f (i - 2) = 59)
theorem d4a {f : Nat → Int32} {i k' : Nat} (e : k' = 3 ↔ f i = 59) : k' = 3 ↔ 1 ≤ i + 1 ∧ f (i + 1 - 1) = 59 := by
  rw [e, Nat.add_sub_cancel]
  exact ⟨fun q => ⟨by omega, q⟩, fun q => q.2⟩
theorem d4b {f : Nat → Int32} {i k k' : Nat} (h : k = 3 ↔ 1 ≤ i ∧ f (i - 1) = 59) (e : k' = 4 ↔ k = 3) : k' = 4 ↔ 2 ≤ i + 1 ∧ f (i + 1 - 2) = 59 := by
  rw [e, h, show i + 1 - 2 = i - 1 by omega]
  exact ⟨fun q => ⟨by omega, q.2⟩, fun q => ⟨by omega, q.2⟩⟩
theorem GS.step {f : Nat → Int32} {i k v : Nat} {ρ : Nat → Nat → Int32} (h : GS f i k ρ) (hv : v < 127) (ev : f i = nI v) :
    (XG_behind_r (nI k) (f i) (nI ((i + 1) / 3)) = 5 ∧ M_go_r ρ ((ρ 0 3).toNatClampNeg) (f i) = 0) ∨
    ∃ k', k' < 5 ∧ XG_behind_r (nI k) (f i) (nI ((i + 1) / 3)) = nI k' ∧ ¬ M_go_r ρ ((ρ 0 3).toNatClampNeg) (f i) = 0 ∧ GS f (i + 1) k' (M_go_s ρ ((ρ 0 3).toNatClampNeg) (f i)) := by
  obtain ⟨h1, e5, e3, hs, hD, hD2, hD3, h4a, h4b⟩ := h
  have er : (ρ 0 3).toNatClampNeg = (i + 1) / 3 := by rw [e3]; exact nI_clamp (by omega)
  rw [er]
  have n10 : ¬ ((1 : Int32) = 0) := by decide
  rcases hs with ⟨rfl, i1, i2⟩ | ⟨rfl, i1, i2⟩ | ⟨rfl, i1, i2⟩ | ⟨rfl, i1, i2, i3⟩ | ⟨rfl, i1, i2, i3⟩
  · have e5' : ρ 0 5 = 0 := e5
    have hl : XG_kindOfLetter_r (f i) = M_kindBy_r (f i) := by rw [ev]; exact letter_tab v hv
    have x1 : XG_behind_r (nI 0) (f i) (nI ((i + 1) / 3)) = if M_kindBy_r (f i) = -1 then 5 else 1 := by
      rw [← hl]; exact if_pos rfl
    have y1 : M_go_r ρ ((i + 1) / 3) (f i) = if M_kindBy_r (f i) = -1 then 0 else 1 := if_pos e5'
    have s1 : M_go_s ρ ((i + 1) / 3) (f i) = up2 (up2 ρ 0 5 (ρ 0 5 + 1)) 2 (2 * ((i + 1) / 3)) (M_kindBy_r (f i)) := (if_pos e5').trans (ite_self _)
    rw [x1, y1, s1]
    by_cases kb : M_kindBy_r (f i) = -1
    · rw [if_pos kb, if_pos kb]; exact Or.inl ⟨rfl, rfl⟩
    · rw [if_neg kb, if_neg kb]
      refine Or.inr ⟨1, by decide, rfl, n10, (up2_n _ _ _ (by decide)).trans ((up2_n _ _ _ (by decide)).trans h1), ?_, ?_, Or.inr (Or.inl ⟨rfl, by omega, by omega⟩), fun c hc => ?_, fun _ => ⟨?_, ?_⟩, fun q => absurd q (by decide), d4a ⟨fun q => absurd q (by decide), fun q => absurd (by rw [q]; decide) kb⟩, d4b h4a (by decide)⟩
      · rw [up2_rn (show 0 ≠ 2 by decide), up2_rs, e5']; rfl
      · rw [up2_rn (show 0 ≠ 2 by decide), up2_rp (show 3 ≠ 5 by decide), e3]; exact congrArg nI (by omega)
      · rw [up2_rp (by omega), up2_rp (by omega), up2_rn (show 2 ≠ 0 by decide), up2_rn (show 2 ≠ 0 by decide)]; exact hD c (by omega)
      · rw [Nat.add_sub_cancel]; exact up2_rs
      · rw [Nat.add_sub_cancel]; exact kb
  · have e5' : ρ 0 5 = 1 := e5
    have m0 : ¬ ρ 0 5 = 0 := by rw [e5']; decide
    have x1 : XG_behind_r (nI 1) (f i) (nI ((i + 1) / 3)) = if M_in_r ((f i - 48).toInt64) 0 9 = 0 then 5 else 2 := by
      refine ((if_neg (by decide)).trans (if_pos rfl)).trans ?_
      rw [ev]; exact xdig_tab v hv
    have y1 : M_go_r ρ ((i + 1) / 3) (f i) = M_in_r ((f i - 48).toInt64) 0 9 := (if_neg m0).trans (if_pos e5')
    have s1 : M_go_s ρ ((i + 1) / 3) (f i) = up2 (up2 (up2 ρ 0 5 (ρ 0 5 + 1)) 2 (2 * ((i + 1) / 3) + 1) (f i - 48)) 0 3 (nI ((i + 1) / 3 + 1)) := (if_neg m0).trans (if_pos e5')
    rw [x1, y1, s1]
    by_cases kb : M_in_r ((f i - 48).toInt64) 0 9 = 0
    · rw [if_pos kb]; exact Or.inl ⟨rfl, kb⟩
    · rw [if_neg kb]
      refine Or.inr ⟨2, by decide, rfl, kb, (up2_n _ _ _ (by decide)).trans ((up2_n _ _ _ (by decide)).trans ((up2_n _ _ _ (by decide)).trans h1)), ?_, ?_, Or.inr (Or.inr (Or.inl ⟨rfl, by omega, by omega⟩)), fun c hc => ?_, fun q => absurd q (by decide), fun q => absurd q (by decide), d4a ⟨fun q => absurd q (by decide), fun q => absurd (by rw [q]; decide) kb⟩, d4b h4a (by decide)⟩
      · rw [up2_rp (show 5 ≠ 3 by decide), up2_rn (show 0 ≠ 2 by decide), up2_rs, e5']; rfl
      · rw [up2_rs]; exact congrArg nI (by omega)
      · have u1 : up2 (up2 (up2 ρ 0 5 (ρ 0 5 + 1)) 2 (2 * ((i + 1) / 3) + 1) (f i - 48)) 0 3 (nI ((i + 1) / 3 + 1)) 2 (2 * c) = ρ 2 (2 * c) := (up2_rn (by decide)).trans ((up2_rp (by omega)).trans (up2_rn (by decide)))
        by_cases w : c = (i + 1) / 3
        · obtain ⟨p1, p2⟩ := hD2 rfl
          have w3 : i - 1 = 3 * c := by omega
          have w4 : i / 3 = c := by omega
          have w5 : i = 3 * c + 1 := by omega
          rw [w3] at p1 p2
          rw [w4] at p1
          refine ⟨u1.trans p1, p2, ?_, ?_⟩
          · rw [← w5, w]; exact (up2_rn (by decide)).trans up2_rs
          · rw [← w5]; exact kb
        · have p := hD c (by omega)
          refine ⟨u1.trans p.1, p.2.1, ?_, p.2.2.2⟩
          exact ((up2_rn (by decide)).trans ((up2_rp (by omega)).trans (up2_rn (by decide)))).trans p.2.2.1
  · have e5' : ρ 0 5 = 2 := e5
    have m0 : ¬ ρ 0 5 = 0 := by rw [e5']; decide
    have m1 : ¬ ρ 0 5 = 1 := by rw [e5']; decide
    have x1 : XG_behind_r (nI 2) (f i) (nI ((i + 1) / 3)) = XG_behindMark_r (f i) (nI ((i + 1) / 3)) := (if_neg (by decide)).trans ((if_neg (by decide)).trans (if_pos rfl))
    have y1 : M_go_r ρ ((i + 1) / 3) (f i) = (if f i = 44 then (if 4 ≤ (i + 1) / 3 then 0 else 1) else (if f i = 59 then (if (i + 1) / 3 ≤ 1 then 0 else 1) else 0)) := (if_neg m0).trans ((if_neg m1).trans (if_pos e5'))
    rw [x1, y1]
    unfold XG_behindMark_r
    by_cases c1 : f i = 44
    · have c2 : ¬ f i = 59 := by rw [c1]; decide
      have s1 : M_go_s ρ ((i + 1) / 3) (f i) = up2 (up2 ρ 0 5 (ρ 0 5 + 1)) 0 5 0 := (if_neg m0).trans ((if_neg m1).trans ((if_pos e5').trans ((if_pos c1).trans (ite_self _))))
      rw [if_pos c1, if_pos c1, s1]
      by_cases w : 4 ≤ (i + 1) / 3
      · rw [if_pos w, if_pos (show (4 : Int32) ≤ nI ((i + 1) / 3) from nI_le (a := 4) w (by omega)), if_neg c2]; exact Or.inl ⟨rfl, rfl⟩
      · rw [if_neg w, if_neg (show ¬ (4 : Int32) ≤ nI ((i + 1) / 3) from nI_ge (b := 4) (by omega) (by decide))]
        refine Or.inr ⟨0, by decide, rfl, n10, (up2_n _ _ _ (by decide)).trans ((up2_n _ _ _ (by decide)).trans h1), up2_rs, ?_, Or.inl ⟨rfl, by omega, by omega⟩, fun c hc => ?_, fun q => absurd q (by decide), fun q => absurd q (by decide), d4a ⟨fun q => absurd q (by decide), fun q => absurd q c2⟩, d4b h4a (by decide)⟩
        · rw [up2_rp (show 3 ≠ 5 by decide), up2_rp (show 3 ≠ 5 by decide), e3]; exact congrArg nI (by omega)
        · rw [up2_rn (show 2 ≠ 0 by decide), up2_rn (show 2 ≠ 0 by decide), up2_rn (show 2 ≠ 0 by decide), up2_rn (show 2 ≠ 0 by decide)]; exact hD c (by omega)
    · rw [if_neg c1, if_neg c1]
      by_cases c2 : f i = 59
      · have s1 : M_go_s ρ ((i + 1) / 3) (f i) = up2 (up2 ρ 0 5 (ρ 0 5 + 1)) 0 5 3 := (if_neg m0).trans ((if_neg m1).trans ((if_pos e5').trans ((if_neg c1).trans ((if_pos c2).trans (ite_self _)))))
        rw [if_pos c2, if_pos c2, s1]
        by_cases w : (i + 1) / 3 ≤ 1
        · rw [if_pos w, if_pos (show nI ((i + 1) / 3) < (2 : Int32) from nI_lt (b := 2) (by omega) (by decide))]; exact Or.inl ⟨rfl, rfl⟩
        · rw [if_neg w, if_neg (show ¬ nI ((i + 1) / 3) < (2 : Int32) from nI_nlt (b := 2) (by omega) (by omega))]
          refine Or.inr ⟨3, by decide, rfl, n10, (up2_n _ _ _ (by decide)).trans ((up2_n _ _ _ (by decide)).trans h1), up2_rs, ?_, Or.inr (Or.inr (Or.inr (Or.inl ⟨rfl, by omega, by omega, by omega⟩))), fun c hc => ?_, fun q => absurd q (by decide), fun q => absurd q (by decide), d4a ⟨fun _ => c2, fun _ => rfl⟩, d4b h4a (by decide)⟩
          · rw [up2_rp (show 3 ≠ 5 by decide), up2_rp (show 3 ≠ 5 by decide), e3]; exact congrArg nI (by omega)
          · rw [up2_rn (show 2 ≠ 0 by decide), up2_rn (show 2 ≠ 0 by decide), up2_rn (show 2 ≠ 0 by decide), up2_rn (show 2 ≠ 0 by decide)]; exact hD c (by omega)
      · rw [if_neg c2, if_neg c2]; exact Or.inl ⟨rfl, rfl⟩
  · have e5' : ρ 0 5 = 3 := e5
    have m0 : ¬ ρ 0 5 = 0 := by rw [e5']; decide
    have m1 : ¬ ρ 0 5 = 1 := by rw [e5']; decide
    have m2 : ¬ ρ 0 5 = 2 := by rw [e5']; decide
    have x1 : XG_behind_r (nI 3) (f i) (nI ((i + 1) / 3)) = if M_in_r ((f i - 48).toInt64) 1 5 = 0 then 5 else 4 := by
      refine ((if_neg (by decide)).trans ((if_neg (by decide)).trans ((if_neg (by decide)).trans (if_pos rfl)))).trans ?_
      rw [ev]; exact xrate_tab v hv
    have y1 : M_go_r ρ ((i + 1) / 3) (f i) = M_in_r ((f i - 48).toInt64) 1 5 := (if_neg m0).trans ((if_neg m1).trans ((if_neg m2).trans (if_pos e5')))
    have s1 : M_go_s ρ ((i + 1) / 3) (f i) = up2 (up2 ρ 0 5 (ρ 0 5 + 1)) 0 4 (f i - 48) := (if_neg m0).trans ((if_neg m1).trans ((if_neg m2).trans (if_pos e5')))
    rw [x1, y1, s1]
    by_cases kb : M_in_r ((f i - 48).toInt64) 1 5 = 0
    · rw [if_pos kb]; exact Or.inl ⟨rfl, kb⟩
    · rw [if_neg kb]
      refine Or.inr ⟨4, by decide, rfl, kb, (up2_n _ _ _ (by decide)).trans ((up2_n _ _ _ (by decide)).trans h1), ?_, ?_, Or.inr (Or.inr (Or.inr (Or.inr ⟨rfl, by omega, by omega, by omega⟩))), fun c hc => ?_, fun q => absurd q (by decide), fun _ => ⟨?_, ?_⟩, d4a ⟨fun q => absurd q (by decide), fun q => absurd (by rw [q]; decide) kb⟩, d4b h4a (by decide)⟩
      · rw [up2_rp (show 5 ≠ 4 by decide), up2_rs, e5']; rfl
      · rw [up2_rp (show 3 ≠ 4 by decide), up2_rp (show 3 ≠ 5 by decide), e3]; exact congrArg nI (by omega)
      · rw [up2_rn (show 2 ≠ 0 by decide), up2_rn (show 2 ≠ 0 by decide), up2_rn (show 2 ≠ 0 by decide), up2_rn (show 2 ≠ 0 by decide)]; exact hD c (by omega)
      · rw [Nat.add_sub_cancel]; exact up2_rs
      · rw [Nat.add_sub_cancel]; exact kb
  · have e5' : ρ 0 5 = 4 := e5
    have m0 : ¬ ρ 0 5 = 0 := by rw [e5']; decide
    have m1 : ¬ ρ 0 5 = 1 := by rw [e5']; decide
    have m2 : ¬ ρ 0 5 = 2 := by rw [e5']; decide
    have m3 : ¬ ρ 0 5 = 3 := by rw [e5']; decide
    exact Or.inl ⟨(if_neg (by decide)).trans ((if_neg (by decide)).trans ((if_neg (by decide)).trans (if_neg (by decide)))), (if_neg m0).trans ((if_neg m1).trans ((if_neg m2).trans (if_neg m3)))⟩
theorem GS.loop {κ : Nat → Nat} {σ : Nat → Nat → Int32} {f : Nat → Int32} {pm : Nat} (hp : pm ≤ 16) (hσ : ∀ i, i < pm → σ 9 i = f i ∧ ∃ v, 1 ≤ v ∧ v < 127 ∧ f i = nI v) : ∀ (m i k : Nat) (ρ : Nat → Nat → Int32), i + m = pm → GS f i k ρ →
    (∃ j, j < pm ∧ XG_firstFault_L4 κ σ pm m i (nI k) = nI j ∧ (M_faultOf_L12 m i ρ).1 = j) ∨ (XG_firstFault_L4 κ σ pm m i (nI k) = nI pm ∧ (M_faultOf_L12 m i ρ).1 = pm ∧ ∃ k', GS f pm k' (M_faultOf_L12 m i ρ).2)
  | 0, i, k, ρ, e, h => by
    have e' : i = pm := by omega
    subst e'
    exact Or.inr ⟨rfl, rfl, k, h⟩
  | m + 1, i, k, ρ, e, h => by
    obtain ⟨q1, v, v1, v2, v3⟩ := hσ i (by omega)
    have fX : XG_firstFault_L4 κ σ pm (m + 1) i (nI k) = if (XG_behind_r (nI k) (σ 9 i) (nI ((i + 1) / 3))) = 5 then (nI i) else (XG_firstFault_L4 κ σ pm m (i + 1) (XG_behind_r (nI k) (σ 9 i) (nI ((i + 1) / 3)))) := rfl
    have fM : M_faultOf_L12 (m + 1) i ρ = if M_go_r ρ (ρ 0 3).toNatClampNeg (ρ 1 i) = 0 then (i, M_go_s ρ (ρ 0 3).toNatClampNeg (ρ 1 i)) else M_faultOf_L12 m (i + 1) (M_go_s ρ (ρ 0 3).toNatClampNeg (ρ 1 i)) := rfl
    rw [fX, fM, q1, h.1]
    rcases h.step v2 v3 with ⟨a1, a2⟩ | ⟨k', k5, a1, a2, a3⟩
    · rw [if_pos a1, if_pos a2]
      exact Or.inl ⟨i, by omega, rfl, rfl⟩
    · have n5 : ¬ nI k' = 5 := fun q => by
        have := (nI_eq (b := 5) (by omega) (by decide)).mp q
        omega
      rw [a1, if_neg n5, if_neg a2]
      exact GS.loop hp hσ m (i + 1) k' _ (by omega) a3
theorem fault_sim {κ : Nat → Nat} {σ τ : Nat → Nat → Int32} {pm : Nat} (h : RPg σ τ pm) : (∃ j, j < pm ∧ XG_firstFault_r κ σ pm = nI j ∧ M_faultOf_n τ pm = j) ∨ (XG_firstFault_r κ σ pm = nI pm ∧ M_faultOf_n τ pm = pm ∧ ∃ k, GS (τ 1) pm k (M_faultOf_s τ pm)) := by
  refine GS.loop (κ := κ) (f := τ 1) h.1 h.2.2.2 pm 0 0 (up2 (up2 τ 0 3 0) 0 5 0) (by omega) ⟨rfl, up2_rs, (up2_rp (by decide)).trans up2_rs, Or.inl ⟨rfl, by omega, by omega⟩, fun c hc => absurd hc (by omega), fun q => absurd q (by decide), fun q => absurd q (by decide), ⟨fun q => absurd q (by decide), fun q => absurd q.1 (by decide)⟩, ⟨fun q => absurd q (by decide), fun q => absurd q.1 (by decide)⟩⟩
section RD
variable {κ : Nat → Nat} {σ τ : Nat → Nat → Int32} {n pm wd pl tm hr : Nat} {B : Int}
theorem fault_agM : AgM (M_faultOf_s τ pm) τ := ⟨fun q q0 q2 _ _ _ _ _ _ => M_faultOf_s_c τ pm q0 q2, fun k k3 k4 k5 _ => M_faultOf_s_0 τ pm k3 k4 k5⟩
theorem L_fault (h : Rel κ σ τ n pm wd pl tm hr B) : X_fault_r κ σ pm = M_fault_r τ pm ∧ RelE κ σ (M_fault_s τ pm) B := by
  refine ⟨?_, (h.agree AgX.rf fault_agM).E⟩
  unfold X_fault_r M_fault_r
  rcases fault_sim (κ := κ) h.2.1 with ⟨j, _, e1, e2⟩ | ⟨e1, e2, _⟩
  · rw [e1, e2]
  · rw [e1, e2]
end RD
