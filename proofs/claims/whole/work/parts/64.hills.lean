/-! ===== level 2: hills ===== -/
section HL
variable {κ : Nat → Nat} {σ τ : Nat → Nat → Int32} {q k pm y : Nat}
theorem L38_other (hq : q ≠ 11) : ∀ (m i : Nat) (σ : Nat → Nat → Int32) (κ : Nat → Nat), (X_hills_L38 pm y m i σ κ).1 q = σ q
  | 0, _, _, _ => rfl
  | m + 1, i, σ, κ => (L38_other hq m (i + 1) (X_hills_S38_0 pm y i σ κ) (X_hills_S38_1 pm y i σ κ)).trans (up2_n _ _ _ hq)
theorem L38_low : ∀ (m i : Nat) (σ : Nat → Nat → Int32) (κ : Nat → Nat), k < i → (X_hills_L38 pm y m i σ κ).1 11 k = σ 11 k ∧ (X_hills_L38 pm y m i σ κ).2 k = κ k
  | 0, _, _, _, _ => ⟨rfl, rfl⟩
  | m + 1, i, σ, κ, h => by
    obtain ⟨a, b⟩ := L38_low m (i + 1) (X_hills_S38_0 pm y i σ κ) (X_hills_S38_1 pm y i σ κ) (by omega)
    exact ⟨a.trans (up2_rp (by omega)), b.trans (if_neg (by omega))⟩
theorem L38_high : ∀ (m i : Nat) (σ : Nat → Nat → Int32) (κ : Nat → Nat), i + m ≤ k → (X_hills_L38 pm y m i σ κ).2 k = κ k
  | 0, _, _, _, _ => rfl
  | m + 1, i, σ, κ, h => (L38_high m (i + 1) (X_hills_S38_0 pm y i σ κ) (X_hills_S38_1 pm y i σ κ) (by omega)).trans (if_neg (by omega))
def kA (c : Int32) : Nat := X_kindAt_n (fun _ => 0) (fun _ _ => 0) c
theorem L38_row : ∀ (m i : Nat) (σ : Nat → Nat → Int32) (κ : Nat → Nat), i ≤ k → k < i + m → (X_hills_L38 pm y m i σ κ).1 11 k = σ 9 (k * 3 + 1) - 48 ∧ (X_hills_L38 pm y m i σ κ).2 k = kA (XG_kindOfLetter_r (σ 9 (k * 3)))
  | 0, _, _, _, h1, h2 => absurd h2 (by omega)
  | m + 1, i, σ, κ, h1, h2 => by
    show (X_hills_L38 pm y m (i + 1) (X_hills_S38_0 pm y i σ κ) (X_hills_S38_1 pm y i σ κ)).1 11 k = _ ∧ (X_hills_L38 pm y m (i + 1) (X_hills_S38_0 pm y i σ κ) (X_hills_S38_1 pm y i σ κ)).2 k = _
    by_cases e : k = i
    · subst e
      obtain ⟨a, b⟩ := L38_low (pm := pm) (y := y) (k := k) m (k + 1) (X_hills_S38_0 pm y k σ κ) (X_hills_S38_1 pm y k σ κ) (by omega)
      exact ⟨a.trans up2_rs, b.trans (if_pos rfl)⟩
    · exact L38_row m (i + 1) (X_hills_S38_0 pm y i σ κ) (X_hills_S38_1 pm y i σ κ) (by omega) (by omega)
theorem begin_9 (c r : Int32) : XS_begin_s κ σ c r 9 = σ 9 := rfl
theorem begin_103 (c r : Int32) : XS_begin_s κ σ c r 10 3 = c := rfl
theorem begin_104 (c r : Int32) : XS_begin_s κ σ c r 10 4 = r := rfl
theorem begin_32 (c r : Int32) : XS_begin_s κ σ c r 32 4 = 0 := rfl
theorem begin_37 (c r : Int32) : XS_begin_s κ σ c r 37 4 = 0 := rfl
theorem begin_42 (c r : Int32) : XS_begin_s κ σ c r 42 2 = 0 := rfl
theorem begin_31 (c r : Int32) : XS_begin_s κ σ c r 31 4 = 0 := rfl
theorem begin_12 (c r : Int32) : ∀ i, i < 16 → XS_begin_s κ σ c r 12 i = 0
  | 0, _ => rfl
  | 1, _ => rfl
  | 2, _ => rfl
  | 3, _ => rfl
  | 4, _ => rfl
  | 5, _ => rfl
  | 6, _ => rfl
  | 7, _ => rfl
  | 8, _ => rfl
  | 9, _ => rfl
  | 10, _ => rfl
  | 11, _ => rfl
  | 12, _ => rfl
  | 13, _ => rfl
  | 14, _ => rfl
  | 15, _ => rfl
  | _ + 16, h => absurd h (by omega)
theorem L32_other (h3 : q ≠ 3) (h4 : q ≠ 4) : ∀ (m i : Nat) (τ : Nat → Nat → Int32), M_hills_L32 pm m i τ q = τ q
  | 0, _, _ => rfl
  | m + 1, i, τ => (L32_other h3 h4 m (i + 1) (M_hills_S32_0 pm i τ)).trans ((up2_n _ _ _ h4).trans (up2_n _ _ _ h3))
theorem L32_low : ∀ (m i : Nat) (τ : Nat → Nat → Int32), k < i → M_hills_L32 pm m i τ 3 k = τ 3 k ∧ M_hills_L32 pm m i τ 4 k = τ 4 k
  | 0, _, _, _ => ⟨rfl, rfl⟩
  | m + 1, i, τ, h => by
    obtain ⟨a, b⟩ := L32_low m (i + 1) (M_hills_S32_0 pm i τ) (by omega)
    exact ⟨a.trans ((up2_rn (by decide)).trans (up2_rp (by omega))), b.trans ((up2_rp (by omega)).trans (up2_rn (by decide)))⟩
theorem L32_row : ∀ (m i : Nat) (τ : Nat → Nat → Int32), i ≤ k → k < i + m → M_hills_L32 pm m i τ 3 k = τ 2 (2 * k) ∧ M_hills_L32 pm m i τ 4 k = τ 2 (2 * k + 1)
  | 0, _, _, h1, h2 => absurd h2 (by omega)
  | m + 1, i, τ, h1, h2 => by
    show M_hills_L32 pm m (i + 1) (M_hills_S32_0 pm i τ) 3 k = _ ∧ M_hills_L32 pm m (i + 1) (M_hills_S32_0 pm i τ) 4 k = _
    by_cases e : k = i
    · subst e
      obtain ⟨a, b⟩ := L32_low (pm := pm) (k := k) m (k + 1) (M_hills_S32_0 pm k τ) (by omega)
      exact ⟨a.trans ((up2_rn (by decide)).trans up2_rs), b.trans up2_rs⟩
    · exact L32_row m (i + 1) (M_hills_S32_0 pm i τ) (by omega) (by omega)
theorem L78_other (h5 : q ≠ 5) : ∀ (m i : Nat) (τ : Nat → Nat → Int32), M_hills_L78 pm m i τ q = τ q
  | 0, _, _ => rfl
  | m + 1, i, τ => (L78_other h5 m (i + 1) (M_hills_S78_0 pm i τ)).trans (up2_n _ _ _ h5)
theorem L78_low : ∀ (m i : Nat) (τ : Nat → Nat → Int32), k < i → M_hills_L78 pm m i τ 5 k = τ 5 k
  | 0, _, _, _ => rfl
  | m + 1, i, τ, h => (L78_low m (i + 1) (M_hills_S78_0 pm i τ) (by omega)).trans (up2_rp (by omega))
theorem L78_row : ∀ (m i : Nat) (τ : Nat → Nat → Int32), i ≤ k → k < i + m → M_hills_L78 pm m i τ 5 k = 0
  | 0, _, _, h1, h2 => absurd h2 (by omega)
  | m + 1, i, τ, h1, h2 => by
    show M_hills_L78 pm m (i + 1) (M_hills_S78_0 pm i τ) 5 k = _
    by_cases e : k = i
    · subst e; exact (L78_low m (k + 1) _ (by omega)).trans up2_rs
    · exact L78_row m (i + 1) _ (by omega) (by omega)
theorem sumI_le9 {f : Nat → Int32} : ∀ {n : Nat}, (∀ k, k < n → (f k).toInt ≤ 9) → sumI f n ≤ 9 * n
  | 0, _ => Int.le_refl 0
  | n + 1, h => by
    have h1 := sumI_le9 (f := f) (n := n) (fun k hk => h k (by omega))
    have h2 := h n (by omega)
    show sumI f n + (f n).toInt ≤ _
    omega
theorem kA_tab : ∀ v, v < 127 → ¬ M_kindBy_r (nI v) = -1 → kA (M_kindBy_r (nI v)) < 5 ∧ M_kindBy_r (nI v) = nI (kA (M_kindBy_r (nI v))) := by decide +kernel
theorem kA_lt (c : Int32) : kA c < 5 := by
  unfold kA X_kindAt_n
  by_cases a : c < 0
  · rw [if_pos a]; decide
  · rw [if_neg a]
    by_cases b : 5 ≤ c
    · rw [if_pos b]; decide
    · rw [if_neg b]
      have z5 : (5 : Int32).toInt = 5 := rfl
      have z0 : (0 : Int32).toInt = 0 := rfl
      rw [fa_lt] at a
      rw [fa_le] at b
      have := tN_toInt (x := c) (by omega)
      omega
end HL
section HM
variable {κ κ' : Nat → Nat} {σ τ S T : Nat → Nat → Int32} {n pm wd pl tm hr : Nat} {B : Int}
theorem hills_rel {m r : Nat} {x : Int32} (hκ : ∀ i, i < 4 → κ' i < 5) (h4 : m ≤ 4) (hk : ∀ i, i < m → κ' i < 5 ∧ T 3 i = nI (κ' i)) (hc : ∀ i, i < m → S 11 i = T 4 i ∧ 0 ≤ (S 11 i).toInt ∧ (S 11 i).toInt ≤ 9) (h12 : ∀ k, k < 16 → S 12 k = 0) (h5 : ∀ k, k < 16 → T 5 k = 0) (s3 : S 10 3 = nI m) (t6 : T 0 6 = nI m) (s4 : S 10 4 = nI r) (ex : x = nI r) (r1 : 1 ≤ r) (r9 : r < 10) (s32 : S 32 4 = 0) (s37 : S 37 4 = 0) (s42 : S 42 2 = 0) (s31 : S 31 4 = 0) (h26 : T 0 26 = -1 ∨ ∃ k, k ≤ hr ∧ T 0 26 = nI k) (hB1 : (hr : Int) ≤ B) (hB0 : 400 ≤ B) (hB : B ≤ 800000) :
    Rel κ' (up2 (up2 (up2 S 8 1 0) 0 6 0) 0 7 (nI (hr + 1))) (up2 (up2 (up2 (up2 (up2 (up2 (up2 T 0 7 x) 0 8 0) 0 13 0) 0 15 0) 0 22 0) 0 9 (nI (hr + 1))) 0 1 0) m 0 0 0 0 (hr + 1) (B + 400) := by
  have z0 : (0 : Int32).toInt = 0 := rfl
  have hR : RHd m (B + 400) (S 11) (S 12) (T 4) (T 5) := by
    refine ⟨fun i hi => ⟨(hc i hi).1, (hc i hi).2.1⟩, ?_, fun k hk => ?_⟩
    · have := sumI_le9 (f := S 11) (n := m) (fun k hk => (hc k hk).2.2)
      omega
    · rw [h12 k hk, h5 k hk]
      exact ⟨rfl, by omega, by omega, fun _ => rfl⟩
  have ne : ¬ T 0 26 = nI (hr + 1) := by
    rcases h26 with e | ⟨k, k1, e⟩
    · rw [e]
      intro q
      have q' := congrArg Int32.toInt q
      rw [nI_toInt (by omega)] at q'
      have zm : (-1 : Int32).toInt = -1 := rfl
      omega
    · rw [e]
      intro q
      have := (nI_eq (by omega) (by omega)).mp q
      omega
  refine ⟨hκ, ⟨by decide, rfl, rfl, fun i hi => absurd hi (Nat.not_lt_zero i)⟩, ⟨⟨h4, hk, hR, s3, t6⟩, ⟨s4.trans ex.symm, fun _ => ⟨r, r1, r9, s4⟩⟩, ⟨by decide, s32, rfl, fun i hi => absurd hi (Nat.not_lt_zero i)⟩, ⟨by decide, s37, rfl, fun i hi => absurd hi (Nat.not_lt_zero i)⟩, ⟨by decide, s42, rfl, fun i hi => absurd hi (Nat.not_lt_zero i)⟩, s31⟩, Or.inl ⟨rfl, ne⟩, by omega, rfl, rfl, ?_⟩
  rcases h26 with e | ⟨k, k1, e⟩
  · exact Or.inl e
  · exact Or.inr ⟨k, by omega, e⟩
theorem L_hills (h : Rel κ σ τ n pm wd pl tm hr B) (hB0 : 400 ≤ B) (hB : B ≤ 800000) : X_hills_r κ σ pm = M_hills_r τ pm ∧ RelE (X_hills_k κ σ pm) (X_hills_s κ σ pm) (M_hills_s τ pm) (B + 400) := by
  have h0 := ((h.agree AgX.rf (fault_agM (pm := pm))).mono (B' := B + 400) (by omega)).E
  have hp := h.2.1
  unfold X_hills_r M_hills_r X_hills_k X_hills_s M_hills_s
  rcases fault_sim (κ := κ) hp with ⟨j, hj, e1, e2⟩ | ⟨e1, e2, k, hG⟩
  · have i0 : XG_isHills_r κ σ pm = 0 := by
      unfold XG_isHills_r
      by_cases w : pm < 2
      · rw [if_pos w]
      · rw [if_neg w, e1, if_neg (fun q => by have := (nI_eq (by have := hp.1; omega) (by have := hp.1; omega)).mp q; omega)]
    have j' : M_faultOf_n τ pm < pm := by omega
    rw [if_pos i0, if_pos j', if_pos i0, if_pos i0, if_pos j']
    exact ⟨rfl, h0⟩
  · have j' : ¬ M_faultOf_n τ pm < pm := by omega
    rw [if_neg j', if_neg j']
    generalize hF : M_faultOf_s τ pm = F at hG h0
    by_cases k4 : k = 4
    · subst k4
      obtain ⟨g1, g5, g3, gs, gD, _, gD3, _, g4b⟩ := hG
      have gp : pm % 3 = 1 ∧ 7 ≤ pm ∧ pm ≤ 13 := by omega
      obtain ⟨g41, g42⟩ := gD3 rfl
      have c59 := (g4b.mp rfl).2
      have i1 : XG_isHills_r κ σ pm = 1 := by
        unfold XG_isHills_r
        rw [if_neg (by omega), if_pos e1, (hp.2.2.2 (pm - 2) (by omega)).1, if_pos c59]
      have i0 : ¬ XG_isHills_r κ σ pm = 0 := by rw [i1]; decide
      have g5' : F 0 5 = 4 := g5
      have rm : (F 0 3).toNatClampNeg = pm / 3 := by
        rw [g3, nI_clamp (by omega)]; omega
      have ecl : XG_clanCount_n κ σ pm = pm / 3 := rfl
      rw [if_neg i0, if_pos g5', if_neg i0, if_neg i0, if_pos g5', rm, ecl]
      refine ⟨rfl, ?_⟩
      have erd : XG_rateDigit_r κ σ pm = τ 1 (pm - 1) - 48 := by
        unfold XG_rateDigit_r
        rw [if_pos (by omega), (hp.2.2.2 (pm - 1) (by omega)).1]
      rw [erd]
      obtain ⟨v1, v2, v3⟩ := M_in_nat (l := 1) (h := 5) rfl rfl g42
      have hσ7 : σ 0 7 + 1 = nI (hr + 1) := by rw [h.2.2.2.2.2.1, nI_1]
      have hτ9 : τ 0 9 + 1 = nI (hr + 1) := by rw [h.2.2.2.2.2.2.1, nI_1]
      rw [hσ7, hτ9]
      have b9 := begin_9 (κ := κ) (σ := σ) (nI (pm / 3)) (τ 1 (pm - 1) - 48)
      have lo : ∀ q, q ≠ 11 → (X_hills_L38 pm (pm / 3) (pm / 3) 0 (XS_begin_s κ σ (nI (pm / 3)) (τ 1 (pm - 1) - 48)) κ).1 q = XS_begin_s κ σ (nI (pm / 3)) (τ 1 (pm - 1) - 48) q := fun q hq => L38_other hq _ _ _ _
      have lr : ∀ i, i < pm / 3 → (X_hills_L38 pm (pm / 3) (pm / 3) 0 (XS_begin_s κ σ (nI (pm / 3)) (τ 1 (pm - 1) - 48)) κ).1 11 i = τ 1 (3 * i + 1) - 48 ∧ (X_hills_L38 pm (pm / 3) (pm / 3) 0 (XS_begin_s κ σ (nI (pm / 3)) (τ 1 (pm - 1) - 48)) κ).2 i = kA (M_kindBy_r (τ 1 (3 * i))) := fun i hi => by
        obtain ⟨a, b⟩ := L38_row (pm := pm) (y := pm / 3) (k := i) (pm / 3) 0 (XS_begin_s κ σ (nI (pm / 3)) (τ 1 (pm - 1) - 48)) κ (by omega) (by omega)
        rw [a, b, b9, Nat.mul_comm i 3, (hp.2.2.2 (3 * i + 1) (by omega)).1, (hp.2.2.2 (3 * i) (by omega)).1]
        obtain ⟨_, v, _, w2, w3⟩ := hp.2.2.2 (3 * i) (by omega)
        rw [w3, letter_tab v w2]
        exact ⟨rfl, rfl⟩
      have lh : ∀ i, pm / 3 ≤ i → (X_hills_L38 pm (pm / 3) (pm / 3) 0 (XS_begin_s κ σ (nI (pm / 3)) (τ 1 (pm - 1) - 48)) κ).2 i = κ i := fun i hi => L38_high _ _ _ _ (by omega)
      have lo3 := congrFun (lo 10 (by decide)) 3
      have lo4 := congrFun (lo 10 (by decide)) 4
      have lo32 := congrFun (lo 32 (by decide)) 4
      have lo37 := congrFun (lo 37 (by decide)) 4
      have lo42 := congrFun (lo 42 (by decide)) 2
      have lo31 := congrFun (lo 31 (by decide)) 4
      have lo12 : ∀ k, k < 16 → (X_hills_L38 pm (pm / 3) (pm / 3) 0 (XS_begin_s κ σ (nI (pm / 3)) (τ 1 (pm - 1) - 48)) κ).1 12 k = 0 := fun k hk => (congrFun (lo 12 (by decide)) k).trans (begin_12 _ _ k hk)
      generalize X_hills_L38 pm (pm / 3) (pm / 3) 0 (XS_begin_s κ σ (nI (pm / 3)) (τ 1 (pm - 1) - 48)) κ = SK at lr lh lo3 lo4 lo32 lo37 lo42 lo31 lo12
      have t5 : ∀ k, k < 16 → M_hills_L78 pm 16 0 (M_hills_L32 pm (pm / 3) 0 (up2 F 0 6 (nI (pm / 3)))) 5 k = 0 := fun k hk => L78_row 16 0 _ (by omega) (by omega)
      have to : ∀ q, q ≠ 3 → q ≠ 4 → q ≠ 5 → M_hills_L78 pm 16 0 (M_hills_L32 pm (pm / 3) 0 (up2 F 0 6 (nI (pm / 3)))) q = up2 F 0 6 (nI (pm / 3)) q := fun q q3 q4 q5 => (L78_other q5 16 0 _).trans (L32_other q3 q4 _ 0 _)
      have tr : ∀ i, i < pm / 3 → M_hills_L78 pm 16 0 (M_hills_L32 pm (pm / 3) 0 (up2 F 0 6 (nI (pm / 3)))) 3 i = F 2 (2 * i) ∧ M_hills_L78 pm 16 0 (M_hills_L32 pm (pm / 3) 0 (up2 F 0 6 (nI (pm / 3)))) 4 i = F 2 (2 * i + 1) := fun i hi => by
        obtain ⟨a, b⟩ := L32_row (pm := pm) (k := i) (pm / 3) 0 (up2 F 0 6 (nI (pm / 3))) (by omega) (by omega)
        rw [L78_other (by decide) 16 0 _, L78_other (by decide) 16 0 _, a, b]
        exact ⟨up2_rn (by decide), up2_rn (by decide)⟩
      have t06 := (congrFun (to 0 (by decide) (by decide) (by decide)) 6).trans up2_rs
      have t026 := (congrFun (to 0 (by decide) (by decide) (by decide)) 26).trans (up2_rp (by decide))
      have f26 : F 0 26 = τ 0 26 := by rw [← hF]; exact M_faultOf_s_0 τ pm (by decide) (by decide) (by decide)
      generalize M_hills_L78 pm 16 0 (M_hills_L32 pm (pm / 3) 0 (up2 F 0 6 (nI (pm / 3)))) = T at t5 tr t06 t026
      refine ⟨_, _, _, _, _, _, hills_rel (S := SK.1) (T := T) (κ' := SK.2) (m := pm / 3) (r := (τ 1 (pm - 1) - 48).toNatClampNeg) (fun i hi => ?_) (by omega) (fun i hi => ?_) (fun i hi => ?_) lo12 t5 (lo3.trans (begin_103 _ _)) t06 ((lo4.trans (begin_104 _ _)).trans v1) (g41.trans v1) v2 (by omega) (lo32.trans (begin_32 _ _)) (lo37.trans (begin_37 _ _)) (lo42.trans (begin_42 _ _)) (lo31.trans (begin_31 _ _)) (by rw [t026, f26]; exact h.2.2.2.2.2.2.2) h.2.2.2.2.1 hB0 hB⟩
      · by_cases w : i < pm / 3
        · rw [(lr i w).2]; exact kA_lt _
        · rw [lh i (by omega)]; exact h.1 i hi
      · obtain ⟨a1, a2, _, _⟩ := gD i (by omega)
        obtain ⟨_, v, _, w2, w3⟩ := hp.2.2.2 (3 * i) (by omega)
        rw [(lr i hi).2, (tr i hi).1, a1, w3]
        rw [w3] at a2
        exact kA_tab v w2 a2
      · obtain ⟨_, _, a3, a4⟩ := gD i (by omega)
        obtain ⟨b1, b2⟩ := M_in_ok a4
        rw [(lr i hi).1, (tr i hi).2, a3]
        exact ⟨rfl, b1, b2⟩
    · have i0 : XG_isHills_r κ σ pm = 0 := by
        unfold XG_isHills_r
        by_cases w : pm < 2
        · rw [if_pos w]
        · rw [if_neg w, if_pos e1, (hp.2.2.2 (pm - 2) (by omega)).1, if_neg (fun q => k4 (hG.2.2.2.2.2.2.2.2.mpr ⟨by omega, q⟩))]
      have k5 : k < 5 := by
        have := hG.2.2.2.1
        omega
      have g5 : ¬ F 0 5 = 4 := by
        rw [hG.2.1]
        exact fun q => k4 ((nI_eq (b := 4) (by omega) (by decide)).mp q)
      rw [if_pos i0, if_neg g5, if_pos i0, if_pos i0, if_neg g5]
      exact ⟨rfl, h0⟩
end HM
