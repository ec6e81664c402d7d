/-! ===== level 2: paying, marrying, a year ===== -/
/-- the herds of base b of the class and those of the model are the same -/
def HW (b : Nat) (κ : Nat → Nat) (σ τ : Nat → Nat → Int32) (n : Nat) (B : Int) : Prop :=
  n ≤ 4 ∧ (∀ i, i < n → κ i < 5 ∧ τ 3 i = nI (κ i)) ∧ RHd n B (σ (b + 1)) (σ (b + 2)) (τ 4) (τ 5) ∧ σ b 3 = nI n ∧ τ 0 6 = nI n
section PY
variable {b n c d q : Nat} {κ : Nat → Nat} {σ τ : Nat → Nat → Int32} {B B' : Int}
theorem HW.mono (h : HW b κ σ τ n B) (hB : B ≤ B') : HW b κ σ τ n B' := ⟨h.1, h.2.1, h.2.2.1.mono hB, h.2.2.2⟩
theorem XH_pay_row1 {v : Int32} : XH_pay_s b κ σ c d v (b + 1) = upd (upd (σ (b + 1)) c (σ (b + 1) c - XH_pay_r b κ σ c d v)) d (upd (σ (b + 1)) c (σ (b + 1) c - XH_pay_r b κ σ c d v) d + XH_pay_r b κ σ c d v) := by
  unfold XH_pay_s XH_pay_r
  rw [up2_n _ _ _ (show b + 1 ≠ b + 2 by omega), up2_s, up2_s]
theorem XH_pay_row2 {v : Int32} : XH_pay_s b κ σ c d v (b + 2) = upd (σ (b + 2)) (4 * c + d) (σ (b + 2) (4 * c + d) + (v - XH_pay_r b κ σ c d v)) := by
  unfold XH_pay_s XH_pay_r
  rw [up2_s, up2_n _ _ _ (show b + 2 ≠ b + 1 by omega), up2_n _ _ _ (show b + 2 ≠ b + 1 by omega)]
theorem XH_pay_other {v : Int32} (h1 : q ≠ b + 1) (h2 : q ≠ b + 2) : XH_pay_s b κ σ c d v q = σ q := by
  unfold XH_pay_s
  rw [up2_n _ _ _ h2, up2_n _ _ _ h1, up2_n _ _ _ h1]
theorem XH_marry_other (h1 : q ≠ b + 1) (h2 : q ≠ b + 2) : XH_marry_s b κ σ c d q = σ q := XH_pay_other h1 h2
theorem XH_payDebt_other (h1 : q ≠ b + 1) (h2 : q ≠ b + 2) : XH_payDebt_s b κ σ c d q = σ q := (XH_pay_other h1 h2).trans (up2_n _ _ _ h2)
theorem XH_L43_other (h1 : q ≠ b + 1) (h2 : q ≠ b + 2) : ∀ (m j : Nat) (σ : Nat → Nat → Int32), XH_passYear_L43 b κ n c m j σ q = σ q
  | 0, _, _ => rfl
  | m + 1, j, σ => (XH_L43_other h1 h2 m (j + 1) (XH_payDebt_s b κ σ c j)).trans (XH_payDebt_other h1 h2)
theorem XH_L33_other (h1 : q ≠ b + 1) (h2 : q ≠ b + 2) : ∀ (m j : Nat) (σ : Nat → Nat → Int32), XH_passYear_L33 b κ n m j σ q = σ q
  | 0, _, _ => rfl
  | m + 1, j, σ => (XH_L33_other h1 h2 m (j + 1) (XH_passYear_L43 b κ n j n 0 σ)).trans (XH_L43_other h1 h2 n 0 σ)
theorem XH_L2_other (h1 : q ≠ b + 1) : ∀ (m j : Nat) (σ : Nat → Nat → Int32), XH_passYear_L2 b κ n m j σ q = σ q
  | 0, _, _ => rfl
  | m + 1, j, σ => (XH_L2_other h1 m (j + 1) (XH_passYear_S2_0 b κ n j σ)).trans (up2_n _ _ _ h1)
theorem XH_passYear_other (h1 : q ≠ b + 1) (h2 : q ≠ b + 2) : XH_passYear_s b κ σ n q = σ q := (XH_L33_other h1 h2 n 0 _).trans (XH_L2_other h1 n 0 σ)
theorem M_paysNow_eq {v : Int32} : M_paysNow_s τ c d v = up2 (up2 τ 4 c (τ 4 c - M_paysNow_r τ c d v)) 4 d (upd (τ 4) c (τ 4 c - M_paysNow_r τ c d v) d + M_paysNow_r τ c d v) := by
  unfold M_paysNow_s M_paysNow_r
  by_cases h : M_spareOf_r τ c ≤ v
  · rw [if_pos h, if_pos h]
  · rw [if_neg h, if_neg h]
theorem M_paysNow_row4 {v : Int32} : M_paysNow_s τ c d v 4 = upd (upd (τ 4) c (τ 4 c - M_paysNow_r τ c d v)) d (upd (τ 4) c (τ 4 c - M_paysNow_r τ c d v) d + M_paysNow_r τ c d v) := by
  rw [M_paysNow_eq, up2_s, up2_s]
theorem M_paysNow_other {v : Int32} (h : q ≠ 4) : M_paysNow_s τ c d v q = τ q := by
  rw [M_paysNow_eq, up2_n _ _ _ h, up2_n _ _ _ h]
theorem M_pays_row4 {v : Int32} : M_pays_s τ c d v 4 = upd (upd (τ 4) c (τ 4 c - M_paysNow_r τ c d v)) d (upd (τ 4) c (τ 4 c - M_paysNow_r τ c d v) d + M_paysNow_r τ c d v) := (up2_n _ _ _ (show 4 ≠ 5 by decide)).trans M_paysNow_row4
theorem M_pays_row5 {v : Int32} : M_pays_s τ c d v 5 = upd (τ 5) (4 * c + d) (τ 5 (4 * c + d) + (v - M_paysNow_r τ c d v)) := by
  unfold M_pays_s
  rw [up2_s, M_paysNow_other (show 5 ≠ 4 by decide)]
theorem M_pays_other {v : Int32} (h : q ≠ 4) (h5 : q ≠ 5) : M_pays_s τ c d v q = τ q := (up2_n _ _ _ h5).trans (M_paysNow_other h)
theorem M_marry_other {v : Int32} (h : q ≠ 4) (h5 : q ≠ 5) : M_marry_s τ c d v q = τ q := M_pays_other h h5
theorem M_S72_other {i : Nat} (h : q ≠ 4) (h5 : q ≠ 5) : M_passYear_S72_0 n i τ q = τ q := by
  unfold M_passYear_S72_0
  by_cases e1 : i / 4 = i % 4
  · rw [if_pos e1]
  · rw [if_neg e1]
    by_cases e2 : M_isClan_r τ (nI (i / 4)) = 0
    · rw [if_pos e2]
    · rw [if_neg e2]
      by_cases e3 : M_isClan_r τ (nI (i % 4)) = 0
      · rw [if_pos e3]
      · rw [if_neg e3, up2_n _ _ _ h5, M_paysNow_other h]
theorem M_L72_other (h : q ≠ 4) (h5 : q ≠ 5) : ∀ (m i : Nat) (τ : Nat → Nat → Int32), M_passYear_L72 n m i τ q = τ q
  | 0, _, _ => rfl
  | m + 1, i, τ => (M_L72_other h h5 m (i + 1) (M_passYear_S72_0 n i τ)).trans (M_S72_other h h5)
theorem M_S2_other {i : Nat} (h : q ≠ 4) : M_passYear_S2_0 n i τ q = τ q := by
  unfold M_passYear_S2_0
  by_cases e1 : τ 4 i ≤ 99
  · rw [if_pos e1]
    by_cases e2 : τ 4 i + τ 4 i / 2 ≤ 99
    · rw [if_pos e2, up2_n _ _ _ h]
    · rw [if_neg e2, up2_n _ _ _ h]
  · rw [if_neg e1, up2_n _ _ _ h]
theorem M_L2_other (h : q ≠ 4) : ∀ (m i : Nat) (τ : Nat → Nat → Int32), M_passYear_L2 n m i τ q = τ q
  | 0, _, _ => rfl
  | m + 1, i, τ => (M_L2_other h m (i + 1) (M_passYear_S2_0 n i τ)).trans (M_S2_other h)
theorem M_passYear_other (h : q ≠ 4) (h5 : q ≠ 5) : M_passYear_s τ n q = τ q := (M_L72_other h h5 16 0 _).trans (M_L2_other h n 0 τ)
/-- how many cows are led: the same; no more than there are, no more than is due -/
theorem led_spec (h : σ (b + 1) c = τ 4 c) (h0 : 0 ≤ (σ (b + 1) c).toInt) (hk : κ c < 5) (h3 : τ 3 c = nI (κ c)) (v : Int32) : M_paysNow_r τ c d v = XH_pay_r b κ σ c d v ∧ (0 ≤ v.toInt → 0 ≤ (XH_pay_r b κ σ c d v).toInt ∧ (XH_pay_r b κ σ c d v).toInt ≤ (σ (b + 1) c).toInt ∧ (XH_pay_r b κ σ c d v).toInt ≤ v.toInt) := by
  obtain ⟨s1, s2, s3⟩ := spares_spec hk h0
  have e : M_spareOf_r τ c = X_spares (κ c) (σ (b + 1) c) := by
    rw [← s1]
    unfold M_spareOf_r
    rw [h3, ← h]
  unfold M_paysNow_r XH_pay_r
  rw [e]
  generalize X_spares (κ c) (σ (b + 1) c) = s at s2 s3
  by_cases a : v < s
  · have a' := (fa_lt _ _).mp a
    rw [if_pos a, if_neg (fun k => by have k' := (fa_le _ _).mp k; omega)]
    exact ⟨rfl, fun _ => by omega⟩
  · have a' : ¬ v.toInt < s.toInt := fun k => a ((fa_lt _ _).mpr k)
    rw [if_neg a, if_pos ((fa_le _ _).mpr (by omega))]
    exact ⟨rfl, fun _ => by omega⟩
theorem HW.pay {v : Nat} (h : HW b κ σ τ n B) (hB : B ≤ 900000) (hc : c < n) (hd : d < n) (hcd : c ≠ d) (hv : v ≤ 20) : M_pays_r τ c d (nI v) = XH_pay_r b κ σ c d (nI v) ∧ HW b κ (XH_pay_s b κ σ c d (nI v)) (M_pays_s τ c d (nI v)) n (B + 20) := by
  obtain ⟨h4, hk, hR, hn, hm⟩ := h
  have hf := hR.1 c hc
  have hL := led_spec (b := b) (σ := σ) (d := d) hf.1 hf.2 (hk c hc).1 (hk c hc).2 (nI v)
  have ev : (nI v).toInt = v := nI_toInt (by omega)
  have hl := hL.2 (by omega)
  have hg := hR.2.2 (4 * c + d) (by omega)
  refine ⟨hL.1, h4, ?_, ?_, ?_, ?_⟩
  · intro i hi
    rw [show M_pays_s τ c d (nI v) 3 = τ 3 from M_pays_other (by decide) (by decide)]
    exact hk i hi
  · rw [XH_pay_row1, XH_pay_row2, M_pays_row4, M_pays_row5, hL.1, ← hg.1]
    have es : (nI v - XH_pay_r b κ σ c d (nI v)).toInt = (nI v).toInt - (XH_pay_r b κ σ c d (nI v)).toInt := fb_subI (by omega) (by omega)
    have ex : (σ (b + 2) (4 * c + d) + (nI v - XH_pay_r b κ σ c d (nI v))).toInt = (σ (b + 2) (4 * c + d)).toInt + (nI v - XH_pay_r b κ σ c d (nI v)).toInt := fb_addI (by omega) (by omega)
    exact hR.move (by omega) (by omega) hc hd hcd h4 hl.1 hl.2.1 (by omega) (by omega)
  · rw [XH_pay_other (by omega) (by omega)]; exact hn
  · rw [M_pays_other (by decide) (by decide)]; exact hm
theorem HW.payDebt (h : HW b κ σ τ n B) (hB : B ≤ 900000) (hc : c < n) (hd : d < n) : HW b κ (XH_payDebt_s b κ σ c d) (M_passYear_S72_0 n (4 * c + d) τ) n B := by
  obtain ⟨h4, hk, hR, hn, hm⟩ := h
  have hf := hR.1 c hc
  have hg := hR.2.2 (4 * c + d) (by omega)
  have e1 : (4 * c + d) / 4 = c := by omega
  have e2 : (4 * c + d) % 4 = d := by omega
  have r1 : up2 σ (b + 2) (4 * c + d) 0 (b + 1) = σ (b + 1) := up2_n _ _ _ (by omega)
  have hL := led_spec (b := b) (σ := up2 σ (b + 2) (4 * c + d) 0) (τ := τ) (κ := κ) (c := c) (d := d) (by rw [r1]; exact hf.1) (by rw [r1]; exact hf.2) (hk c hc).1 (hk c hc).2 (σ (b + 2) (4 * c + d))
  rw [r1] at hL
  have hl := hL.2 hg.2.1
  unfold XH_payDebt_s M_passYear_S72_0
  rw [e1, e2]
  by_cases e : c = d
  · rw [if_pos e]
    have z := hg.2.2.2 (Or.inr (Or.inr (by omega)))
    have z' := congrArg Int32.toInt z
    have z0 : (0 : Int32).toInt = 0 := rfl
    have l0 : XH_pay_r b κ (up2 σ (b + 2) (4 * c + d) 0) c d (σ (b + 2) (4 * c + d)) = 0 := (fa_eq _ _).mpr (by omega)
    refine ⟨h4, hk, ?_, ?_, hm⟩
    · rw [XH_pay_row1, XH_pay_row2, r1, up2_s, l0]
      refine hR.congr (fun i hi => ?_) (fun k hk => ?_)
      · by_cases w : i = d
        · rw [w, pk_us, e, pk_us, Int32.sub_zero, Int32.add_zero]
        · rw [pk_un w, pk_un (fun k => w (k.trans e))]
      · by_cases w : k = 4 * c + d
        · rw [w, pk_us, pk_us, Int32.sub_zero, Int32.zero_add]
        · rw [pk_un w, pk_un w]
    · rw [XH_pay_other (by omega) (by omega), up2_n _ _ _ (by omega)]; exact hn
  · have hcl : ¬ M_isClan_r τ (nI c) = 0 := by rw [isClan_nat hm h4 (by omega), if_pos hc]; decide
    have hdl : ¬ M_isClan_r τ (nI d) = 0 := by rw [isClan_nat hm h4 (by omega), if_pos hd]; decide
    rw [if_neg e, if_neg hcl, if_neg hdl, ← hg.1, hL.1]
    refine ⟨h4, ?_, ?_, ?_, ?_⟩
    · intro i hi
      rw [up2_n _ _ _ (show 3 ≠ 5 by decide), M_paysNow_other (show 3 ≠ 4 by decide)]; exact hk i hi
    · have es : (σ (b + 2) (4 * c + d) - XH_pay_r b κ (up2 σ (b + 2) (4 * c + d) 0) c d (σ (b + 2) (4 * c + d))).toInt = (σ (b + 2) (4 * c + d)).toInt - (XH_pay_r b κ (up2 σ (b + 2) (4 * c + d) 0) c d (σ (b + 2) (4 * c + d))).toInt := fb_subI (by omega) (by omega)
      rw [up2_n _ _ _ (show 4 ≠ 5 by decide), M_paysNow_row4, up2_s, M_paysNow_other (show 5 ≠ 4 by decide), hL.1, XH_pay_row1, XH_pay_row2, r1, up2_s, pk_us, Int32.zero_add, fa_upd_twice]
      exact hR.move (Int.le_refl _) (by omega) hc hd e h4 hl.1 hl.2.1 (by omega) (by omega)
    · rw [XH_pay_other (by omega) (by omega), up2_n _ _ _ (by omega)]; exact hn
    · rw [up2_n _ _ _ (show 0 ≠ 5 by decide), M_paysNow_other (show 0 ≠ 4 by decide)]; exact hm
theorem M_S72_skip (hm : τ 0 6 = nI n) (h4 : n ≤ 4) (hc : c < 4) (hd : d < 4) (h : n ≤ c ∨ n ≤ d) : M_passYear_S72_0 n (4 * c + d) τ = τ := by
  have e1 : (4 * c + d) / 4 = c := by omega
  have e2 : (4 * c + d) % 4 = d := by omega
  unfold M_passYear_S72_0
  rw [e1, e2]
  by_cases e : c = d
  · rw [if_pos e]
  · rw [if_neg e]
    by_cases a : M_isClan_r τ (nI c) = 0
    · rw [if_pos a]
    · rw [if_neg a]
      have hc' : c < n := by
        rw [isClan_nat hm h4 hc] at a
        by_cases w : c < n
        · exact w
        · rw [if_neg w] at a; exact absurd rfl a
      have hd' : M_isClan_r τ (nI d) = 0 := by rw [isClan_nat hm h4 hd, if_neg (by omega)]
      rw [if_pos hd']
theorem HW.inner (hB : B ≤ 900000) (hc : c < n) : ∀ (m j : Nat) (σ τ : Nat → Nat → Int32), j + m = 4 → HW b κ σ τ n B → HW b κ (XH_passYear_L43 b κ n c (n - j) j σ) (M_passYear_L72 n m (4 * c + j) τ) n B
  | 0, j, σ, τ, e, h => by
    have t0 : n - j = 0 := by have := h.1; omega
    rw [t0]; exact h
  | m + 1, j, σ, τ, e, h => by
    by_cases w : j < n
    · have ih := HW.inner hB hc m (j + 1) _ _ (by omega) (h.payDebt hB hc w)
      rw [show n - j = (n - (j + 1)) + 1 by omega]
      exact ih
    · have ih := HW.inner hB hc m (j + 1) σ τ (by omega) h
      rw [show n - (j + 1) = 0 by omega] at ih
      rw [show n - j = 0 by omega]
      show HW b κ σ (M_passYear_L72 n m (4 * c + j + 1) (M_passYear_S72_0 n (4 * c + j) τ)) n B
      rw [M_S72_skip h.2.2.2.2 h.1 (by have := h.1; omega) (by omega) (Or.inr (by omega))]
      exact ih
theorem M_L72_add (n m' : Nat) : ∀ (m k : Nat) (τ : Nat → Nat → Int32), M_passYear_L72 n (m + m') k τ = M_passYear_L72 n m' (k + m) (M_passYear_L72 n m k τ)
  | 0, k, τ => by rw [Nat.zero_add]; rfl
  | m + 1, k, τ => by
    rw [show m + 1 + m' = (m + m') + 1 by omega, show k + (m + 1) = k + 1 + m by omega]
    exact M_L72_add n m' m (k + 1) (M_passYear_S72_0 n k τ)
theorem M_L72_skip4 (hm : τ 0 6 = nI n) (h4 : n ≤ 4) (hc : c < 4) (h : n ≤ c) : M_passYear_L72 n 4 (4 * c) τ = τ := by
  show M_passYear_S72_0 n (4 * c + 3) (M_passYear_S72_0 n (4 * c + 2) (M_passYear_S72_0 n (4 * c + 1) (M_passYear_S72_0 n (4 * c + 0) τ))) = τ
  rw [M_S72_skip hm h4 hc (by omega) (Or.inl h), M_S72_skip hm h4 hc (by omega) (Or.inl h), M_S72_skip hm h4 hc (by omega) (Or.inl h), M_S72_skip hm h4 hc (by omega) (Or.inl h)]
theorem HW.outer (hB : B ≤ 900000) : ∀ (m c : Nat) (σ τ : Nat → Nat → Int32), c + m = 4 → HW b κ σ τ n B → HW b κ (XH_passYear_L33 b κ n (n - c) c σ) (M_passYear_L72 n (4 * m) (4 * c) τ) n B
  | 0, c, σ, τ, e, h => by
    have t0 : n - c = 0 := by have := h.1; omega
    rw [t0]; exact h
  | m + 1, c, σ, τ, e, h => by
    rw [show 4 * (m + 1) = 4 + 4 * m by omega, M_L72_add, show 4 * c + 4 = 4 * (c + 1) by omega]
    by_cases w : c < n
    · have ih := HW.outer hB m (c + 1) _ _ (by omega) (HW.inner hB w 4 0 σ τ rfl h)
      rw [show n - c = (n - (c + 1)) + 1 by omega]
      exact ih
    · have ih := HW.outer hB m (c + 1) σ τ (by omega) h
      rw [show n - (c + 1) = 0 by omega] at ih
      rw [show n - c = 0 by omega, M_L72_skip4 h.2.2.2.2 h.1 (by omega) (by omega)]
      exact ih
theorem HW.grow1 {i : Nat} (h : HW b κ σ τ n B) (hB : B ≤ 900000) (hi : i < n) : HW b κ (XH_passYear_S2_0 b κ n i σ) (M_passYear_S2_0 n i τ) n (B + 99) := by
  obtain ⟨h4, hk, hR, hn, hm⟩ := h
  have hf := hR.1 i hi
  have hs := sumI_one (fun k hk => (hR.1 k hk).2) hi
  have hb := hR.2.1
  have et := tN_toInt hf.2
  obtain ⟨v, hv, ev⟩ : ∃ v, v < 2 ^ 29 ∧ σ (b + 1) i = nI v := ⟨(σ (b + 1) i).toNatClampNeg, by omega, tN_of hf.2⟩
  have gx : XH_grown_r (σ (b + 1) i) = nI (grownN v) := by rw [ev]; exact grown_X hv
  have g1 := grownN_le v
  have t1 : (nI (grownN v)).toInt = grownN v := nI_toInt (by omega)
  have t2 : (σ (b + 1) i).toInt = v := by rw [ev]; exact nI_toInt (by omega)
  unfold XH_passYear_S2_0
  rw [grown_M hv τ n i (hf.1.symm.trans ev), gx]
  refine ⟨h4, ?_, ?_, ?_, ?_⟩
  · intro j hj
    rw [up2_n _ _ _ (show 3 ≠ 4 by decide)]; exact hk j hj
  · rw [up2_s, up2_s, up2_n _ _ _ (show b + 2 ≠ b + 1 by omega), up2_n _ _ _ (show 5 ≠ 4 by decide)]
    exact hR.set hi (by omega) (by omega)
  · rw [up2_n _ _ _ (show b ≠ b + 1 by omega)]; exact hn
  · rw [up2_n _ _ _ (show 0 ≠ 4 by decide)]; exact hm
theorem HW.growL : ∀ (m i : Nat) (σ τ : Nat → Nat → Int32) (B : Int), i + m ≤ n → B + 99 * m ≤ 900000 → HW b κ σ τ n B → HW b κ (XH_passYear_L2 b κ n m i σ) (M_passYear_L2 n m i τ) n (B + 99 * m)
  | 0, i, σ, τ, B, _, _, h => h.mono (by omega)
  | m + 1, i, σ, τ, B, e, hB, h => (HW.growL m (i + 1) _ _ (B + 99) (by omega) (by omega) (h.grow1 (by omega) (by omega))).mono (by omega)
theorem HW.year (h : HW b κ σ τ n B) (hB : B ≤ 800000) : HW b κ (XH_passYear_s b κ σ n) (M_passYear_s τ n) n (B + 396) := by
  have h4 := h.1
  have g := (HW.growL n 0 σ τ B (by omega) (by omega) h).mono (B' := B + 396) (by omega)
  exact HW.outer (by omega) 4 0 _ _ rfl g
theorem HW.marry {r : Nat} (h : HW b κ σ τ n B) (hB : B ≤ 900000) (hc : c < n) (hd : d < n) (hcd : c ≠ d) (hr : σ b 4 = nI r) (h1 : 1 ≤ r) (h9 : r < 10) : HW b κ (XH_marry_s b κ σ c d) (M_marry_s τ c d (nI r)) n (B + 20) := by
  unfold XH_marry_s M_marry_s
  have a := asks_spec (h.2.1 d hd).1 h1 h9
  rw [hr, (h.2.1 d hd).2, ← a.1, a.2.1]
  exact (h.pay hB hc hd hcd a.2.2).2
end PY
