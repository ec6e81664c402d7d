/-! ===== level 2: clan, as, which, ask ===== -/
section C2
variable {κ : Nat → Nat} {σ τ : Nat → Nat → Int32} {n pm wd pl tm hr : Nat} {B : Int}
theorem asks_now (hN : RNow κ σ τ n wd pl tm B) {i : Nat} (hi : i < n) : X_asks (κ i) (σ 10 4) = M_asksBy_r (τ 3 i) (τ 0 7) := by
  obtain ⟨r, r1, r9, er⟩ := hN.2.1.2 (by omega)
  have ha := asks_spec (hN.1.2.1 i hi).1 r1 r9
  rw [← hN.2.1.1, er, (hN.1.2.1 i hi).2]
  exact ha.1
theorem spares_now (hN : RNow κ σ τ n wd pl tm B) {i : Nat} (hi : i < n) : X_spares (κ i) (σ 11 i) = M_spareOf_r τ i := by
  have e1 : σ 11 i = τ 4 i := (hN.1.2.2.1.1 i hi).1
  unfold M_spareOf_r
  rw [(hN.1.2.1 i hi).2, ← e1]
  exact (spares_spec (hN.1.2.1 i hi).1 (hN.1.2.2.1.1 i hi).2).1.symm
theorem L_clan (h : Rel κ σ τ n pm wd pl tm hr B) (c y : Int32) : X_clan_r κ σ n c y = M_clan_r τ n c y := by
  obtain ⟨hk, hp, hN, hI, hH⟩ := h
  unfold X_clan_r M_clan_r
  rw [knows_eq hN.1 c]
  by_cases a : M_isClan_r τ c = 0
  · rw [if_pos a, if_pos a]
  · rw [if_neg a, if_neg a]
    obtain ⟨_, hi⟩ := M_isClan_ok hN.1.2.2.2.2 hN.1.1 a
    generalize c.toNatClampNeg = i at hi
    have h4 := hN.1.1
    have e0 : nI (κ i) = τ 3 i := (hN.1.2.1 i hi).2.symm
    have e1 : σ 11 i = τ 4 i := (hN.1.2.2.1.1 i hi).1
    have e2 : XH_askedBy_r 10 κ σ i = M_asksBy_r (τ 3 i) (τ 0 7) := asks_now hN hi
    have e3 : XH_sparedBy_r 10 κ σ i = M_spareOf_r τ i := spares_now hN hi
    have hin : M_in_r y.toInt64 10 13 = if y < 10 then 0 else (if y ≤ 13 then 1 else 0) := M_in_32 y 10 13
    unfold M_clanOf_r
    rw [e0, e1, e2, e3, hN.1.owedBy hi, hN.1.owedTo hi, hin]
    have z1 : (10 : Int32).toInt = 10 := rfl
    have z2 : (13 : Int32).toInt = 13 := rfl
    have z3 : (14 : Int32).toInt = 14 := rfl
    by_cases b : y < 10
    · rw [if_pos b, if_pos (if_pos b)]
    · rw [if_neg b, if_neg b]
      by_cases b2 : 14 ≤ y
      · have b3 : ¬ y ≤ 13 := fun k => by rw [fa_le] at k b2; omega
        rw [if_pos b2, if_neg b3, if_pos rfl]
      · have b3 : y ≤ 13 := (fa_le _ _).mpr (by rw [fa_le] at b2; omega)
        rw [if_neg b2, if_pos b3, if_neg (show ¬ ((1 : Int32) = 0) by decide)]
        rw [fa_lt] at b
        rw [fa_le] at b3
        have t := tN_toInt (x := y) (by omega)
        rw [show 4 * i + y.toNatClampNeg - 10 = 4 * i + (y.toNatClampNeg - 10) by omega]
        exact hN.1.debt (by omega)
theorem isOfKind_tab : ∀ kd, kd < 5 → ∀ k, k < 5 → X_isOfKind_r (fun _ => 0) (fun _ _ => 0) kd (nI k) = (if nI k = 0 then 1 else if nI k = nI kd then 1 else if nI k = 1 then (if nI kd = 4 then 1 else 0) else 0) := by decide +kernel
theorem L_as (h : Rel κ σ τ n pm wd pl tm hr B) (c y : Int32) : X_as_r κ σ n c y = M_as_r τ n c y := by
  obtain ⟨hk, hp, hN, hI, hH⟩ := h
  unfold X_as_r M_as_r
  rw [knows_eq hN.1 c]
  by_cases a : M_isClan_r τ c = 0
  · rw [if_pos a, if_pos a]
  · rw [if_neg a, if_neg a]
    obtain ⟨_, hi⟩ := M_isClan_ok hN.1.2.2.2.2 hN.1.1 a
    generalize c.toNatClampNeg = i at hi
    have e0 : τ 3 i = nI (κ i) := (hN.1.2.1 i hi).2
    have hin : M_in_r y.toInt64 0 4 = if y < 0 then 0 else (if y ≤ 4 then 1 else 0) := M_in_32 y 0 4
    rw [e0, hin]
    have z0 : (0 : Int32).toInt = 0 := rfl
    have z2 : (4 : Int32).toInt = 4 := rfl
    have z3 : (5 : Int32).toInt = 5 := rfl
    by_cases b : y < 0
    · rw [if_pos b, if_pos (if_pos b)]
    · rw [if_neg b, if_neg b]
      by_cases b2 : y < 5
      · have b3 : y ≤ 4 := (fa_le _ _).mpr (by rw [fa_lt] at b2; omega)
        rw [if_pos b2, if_pos b3, if_neg (show ¬ ((1 : Int32) = 0) by decide)]
        rw [fa_lt] at b b2
        have t := tN_toInt (x := y) (by omega)
        have ey := tN_of (x := y) (by omega)
        have hk5 : y.toNatClampNeg < 5 := by omega
        generalize y.toNatClampNeg = k at ey hk5
        subst ey
        have t1 : X_isOfKind_r κ σ (κ i) (nI k) = (if nI k = 0 then 1 else if nI k = nI (κ i) then 1 else if nI k = 1 then (if nI (κ i) = 4 then 1 else 0) else 0) := isOfKind_tab (κ i) (hN.1.2.1 i hi).1 k hk5
        rw [t1]
        by_cases p1 : nI k = 0
        · rw [if_pos p1, if_pos p1, if_neg (show ¬ ((1 : Int32) = 0) by decide)]
        · rw [if_neg p1, if_neg p1]
          by_cases p2 : nI k = nI (κ i)
          · rw [if_pos p2, if_pos p2, if_neg (show ¬ ((1 : Int32) = 0) by decide)]
          · rw [if_neg p2, if_neg p2]
            by_cases p3 : nI k = 1
            · rw [if_pos p3, if_pos p3]
              by_cases p4 : nI (κ i) = 4
              · rw [if_pos p4, if_pos p4, if_neg (show ¬ ((1 : Int32) = 0) by decide)]
              · rw [if_neg p4, if_neg p4, if_pos rfl]
            · rw [if_neg p3, if_neg p3, if_pos rfl]
      · have b3 : ¬ y ≤ 4 := fun k => b2 ((fa_lt _ _).mpr (by rw [fa_le] at k; omega))
        rw [if_neg b2, if_neg b3, if_pos rfl]
/-! which -/
theorem M_L14_0 (i4 : Nat) (x : Int32) : ∀ (m i : Nat), M_whichOf_L14 τ tm i4 x m i 0 = 0
  | 0, _ => rfl
  | m + 1, i => by
    show M_whichOf_L14 τ tm i4 x m (i + 1) (M_whichOf_S14_0 τ tm i4 x i 0) = 0
    rw [show M_whichOf_S14_0 τ tm i4 x i 0 = 0 from if_pos rfl]
    exact M_L14_0 i4 x m (i + 1)
theorem canBe_eq {s t : Int32} (h : RTl tm s t (σ 43) (σ 44) (τ 13)) {kd : Nat} (hk : kd < 5) (x : Int32) : ∀ (m i : Nat), i + m ≤ tm → M_whichOf_L14 τ tm kd x m i 1 = XT_canBe_L2 κ σ tm kd m i
  | 0, _, _ => rfl
  | m + 1, i, e => by
    obtain ⟨q1, q2, v, v1, v2, v3⟩ := h.2.2.2 i (by omega)
    have ha := (asks_spec hk v1 v2).1
    have s1 : M_whichOf_S14_0 τ tm kd x i 1 = if X_asks kd (σ 43 i) = σ 44 i then 1 else 0 := by
      unfold M_whichOf_S14_0
      rw [if_neg (show ¬ ((1 : Int32) = 0) by decide), q1, q2, v3, ← ha]
    show M_whichOf_L14 τ tm kd x m (i + 1) (M_whichOf_S14_0 τ tm kd x i 1) = if X_asks kd (σ 43 i) = σ 44 i then XT_canBe_L2 κ σ tm kd m (i + 1) else 0
    rw [s1]
    by_cases c : X_asks kd (σ 43 i) = σ 44 i
    · rw [if_pos c, if_pos c]; exact canBe_eq h hk x m (i + 1) (by omega)
    · rw [if_neg c, if_neg c]; exact M_L14_0 kd x m (i + 1)
theorem kindsLeft_eq {s t : Int32} (h : RTl tm s t (σ 43) (σ 44) (τ 13)) : ∀ (m i : Nat) (x : Int32), i + m ≤ 5 → XT_kindsLeft_L4 κ σ tm m i x = M_whichOf_L4 τ tm m i x
  | 0, _, _, _ => rfl
  | m + 1, i, x, e => by
    have s1 : XT_kindsLeft_S4_0 κ σ tm i x = M_whichOf_S4_0 τ tm i x := by
      unfold XT_kindsLeft_S4_0 M_whichOf_S4_0 XT_canBe_r
      rw [canBe_eq (κ := κ) h (by omega) x tm 0 (by omega)]
      by_cases c : XT_canBe_L2 κ σ tm i tm 0 = 0
      · rw [if_pos c, if_pos c, Int32.or_zero]
      · rw [if_neg c, if_neg c]
    show XT_kindsLeft_L4 κ σ tm m (i + 1) (XT_kindsLeft_S4_0 κ σ tm i x) = M_whichOf_L4 τ tm m (i + 1) (M_whichOf_S4_0 τ tm i x)
    rw [s1]
    exact kindsLeft_eq h m (i + 1) _ (by omega)
theorem L_which (h : Rel κ σ τ n pm wd pl tm hr B) : X_which_r κ σ tm = M_which_r τ tm := kindsLeft_eq h.2.2.1.2.2.2.2.1 5 0 0 (by decide)
/-! ask -/
theorem bit_tab : ∀ i, i < 5 → (1 : Int32) <<< ((nI i) &&& 31) = nI (2 ^ i) := by decide +kernel
theorem which_bits : ∀ (m i b : Nat), i + m = 5 → b < 2 ^ i → ∃ b', b' < 32 ∧ M_whichOf_L4 τ tm m i (nI b) = nI b'
  | 0, i, b, e, hb => ⟨b, by have e5 : i = 5 := by omega
                             subst e5; exact hb, rfl⟩
  | m + 1, i, b, e, hb => by
    have h2 : 2 ^ i < 2 ^ (i + 1) := Nat.pow_lt_pow_right (by decide) (by omega)
    show ∃ b', b' < 32 ∧ M_whichOf_L4 τ tm m (i + 1) (M_whichOf_S4_0 τ tm i (nI b)) = nI b'
    unfold M_whichOf_S4_0
    by_cases c : M_whichOf_L14 τ tm i (nI b) tm 0 1 = 0
    · rw [if_pos c, Int32.or_zero]
      exact which_bits m (i + 1) b (by omega) (by omega)
    · rw [if_neg c, bit_tab i (by omega), fa_or]
      exact which_bits m (i + 1) (b ||| 2 ^ i) (by omega) (Nat.or_lt_two_pow (by omega) h2)
theorem L27_keep (a x y z : Nat) (u v w : Int32) {q k : Nat} : ∀ (m j : Nat) (τ : Nat → Nat → Int32), (q ≠ 14 ∨ k < j) → M_askOf_L27 a x u v w m j τ q k = τ q k
  | 0, _, _, _ => rfl
  | m + 1, j, τ, h => by
    refine (L27_keep a x y z u v w m (j + 1) (up2 τ 14 j 0) (by omega)).trans ?_
    by_cases e : q = 14
    · subst e; exact up2_rp (by omega)
    · exact up2_rn e
theorem L27_zero (a x : Nat) (u v w : Int32) {k : Nat} : ∀ (m j : Nat) (τ : Nat → Nat → Int32), j ≤ k → k < j + m → M_askOf_L27 a x u v w m j τ 14 k = 0
  | 0, j, _, h1, h2 => absurd h2 (by omega)
  | m + 1, j, τ, h1, h2 => by
    show M_askOf_L27 a x u v w m (j + 1) (up2 τ 14 j 0) 14 k = 0
    by_cases e : k = j
    · subst e; exact (L27_keep a x 0 0 u v w m (k + 1) _ (Or.inr (by omega))).trans up2_rs
    · exact L27_zero a x u v w m (j + 1) _ (by omega) (by omega)
theorem S54_1_eq (a x : Nat) (u v w y : Int32) (j : Nat) (τ : Nat → Nat → Int32) : M_askOf_S54_1 a x u v w j y τ = up2 τ 14 (asksN j x) ((τ 14 (asksN j x)) + ((w >>> ((nI j) &&& 31)) &&& 1)) := by
  unfold M_askOf_S54_1
  rw [ite_self]
theorem L54_keep (a x : Nat) (u v w : Int32) {q : Nat} (hq : q ≠ 14) : ∀ (m j : Nat) (y : Int32) (τ : Nat → Nat → Int32), (M_askOf_L54 a x u v w m j y τ).2 q = τ q
  | 0, _, _, _ => rfl
  | m + 1, j, y, τ => (L54_keep a x u v w hq m (j + 1) _ (M_askOf_S54_1 a x u v w j y τ)).trans (by rw [S54_1_eq]; exact up2_n _ _ _ hq)
theorem L54_same (a x : Nat) (u v w : Int32) (h1 : 1 ≤ x) (h9 : x < 10) : ∀ (m j : Nat) (y : Int32) (τ τ' : Nat → Nat → Int32), j + m ≤ 5 → (∀ k, k < 21 → τ 14 k = τ' 14 k) → (M_askOf_L54 a x u v w m j y τ).1 = (M_askOf_L54 0 x 0 0 w m j y τ').1
  | 0, _, _, _, _, _, _ => rfl
  | m + 1, j, y, τ, τ', e, h => by
    have hl : asksN j x < 21 := (M_asksBy_nat (by omega) h1 h9).2
    have s0 : M_askOf_S54_0 a x u v w j y τ = M_askOf_S54_0 0 x 0 0 w j y τ' := by
      unfold M_askOf_S54_0
      rw [h _ hl]
    show (M_askOf_L54 a x u v w m (j + 1) (M_askOf_S54_0 a x u v w j y τ) (M_askOf_S54_1 a x u v w j y τ)).1 = (M_askOf_L54 0 x 0 0 w m (j + 1) (M_askOf_S54_0 0 x 0 0 w j y τ') (M_askOf_S54_1 0 x 0 0 w j y τ')).1
    rw [s0]
    refine L54_same a x u v w h1 h9 m (j + 1) _ _ _ (by omega) (fun k hk => ?_)
    rw [S54_1_eq, S54_1_eq, h _ hl]
    by_cases c : k = asksN j x
    · rw [c, up2_rs, up2_rs]
    · rw [up2_rp c, up2_rp c]; exact h k hk
theorem ask_tab : ∀ b, b < 32 → ∀ x, x < 10 → 1 ≤ x → XT_mostLeft_r (fun _ => 0) (fun _ _ => 0) (nI b) (nI x) = (M_askOf_L54 0 x 0 0 (nI b) 5 0 0 (fun _ _ => 0)).1 := by decide +kernel
theorem L13_eq {b : Nat} (hb : b < 32) : ∀ (m i : Nat) (x y : Int32) (τ : Nat → Nat → Int32), 1 ≤ i → i + m ≤ 10 → (XT_nextRate_L23 κ σ tm (nI b) m i x y).1 = (M_askOf_L13 tm (nI b) m i x y τ).1
  | 0, _, _, _, _, _, _ => rfl
  | m + 1, i, x, y, τ, h1, h9 => by
    have e : (M_askOf_L54 tm i x y (nI b) 5 0 0 (M_askOf_L27 tm i x y (nI b) 21 0 τ)).1 = XT_mostLeft_r κ σ (nI b) (nI i) :=
      (L54_same tm i x y (nI b) h1 (by omega) 5 0 0 _ (fun _ _ => 0) (by omega) (fun k hk => L27_zero tm i x y (nI b) 21 0 τ (by omega) (by omega))).trans (ask_tab b hb i (by omega) h1).symm
    have s0 : M_askOf_S13_0 tm (nI b) i x y τ = XT_nextRate_S23_0 κ σ tm (nI b) i x y := by
      unfold M_askOf_S13_0 XT_nextRate_S23_0
      rw [e]
    have s1 : M_askOf_S13_1 tm (nI b) i x y τ = XT_nextRate_S23_1 κ σ tm (nI b) i x y := by
      unfold M_askOf_S13_1 XT_nextRate_S23_1
      rw [e]
    show (XT_nextRate_L23 κ σ tm (nI b) m (i + 1) (XT_nextRate_S23_0 κ σ tm (nI b) i x y) (XT_nextRate_S23_1 κ σ tm (nI b) i x y)).1 = (M_askOf_L13 tm (nI b) m (i + 1) (M_askOf_S13_0 tm (nI b) i x y τ) (M_askOf_S13_1 tm (nI b) i x y τ) (M_askOf_S13_2 tm (nI b) i x y τ)).1
    rw [s0, s1]
    exact L13_eq hb m (i + 1) _ _ _ (by omega) (by omega)
theorem L13_keep (y : Int32) {q : Nat} (hq : q ≠ 14) : ∀ (m i : Nat) (u v : Int32) (τ : Nat → Nat → Int32), (M_askOf_L13 tm y m i u v τ).2.2 q = τ q
  | 0, _, _, _, _ => rfl
  | m + 1, i, u, v, τ => by
    refine (L13_keep y hq m (i + 1) _ _ (M_askOf_S13_2 tm y i u v τ)).trans ?_
    unfold M_askOf_S13_2
    rw [ite_self, L54_keep tm i u v y hq]
    funext k
    exact L27_keep tm i 0 0 u v y 21 0 τ (Or.inl hq)
theorem ask_keep {q : Nat} (hq : q ≠ 14) : M_askOf_s τ tm q = τ q := by
  unfold M_askOf_s
  by_cases c : M_whichOf_r τ tm = 0
  · rw [if_pos c]
  · rw [if_neg c]; exact L13_keep _ hq _ _ _ _ _
theorem ask_agM : AgM (M_askOf_s τ tm) τ := ⟨fun q _ _ _ _ _ _ _ e => ask_keep e, fun k _ _ _ _ => congrFun (ask_keep (show 0 ≠ 14 by decide)) k⟩
theorem ask_eq {s t : Int32} (h : RTl tm s t (σ 43) (σ 44) (τ 13)) : X_ask_r κ σ tm = M_askOf_r τ tm := by
  have e : XT_kindsLeft_r κ σ tm = M_whichOf_r τ tm := kindsLeft_eq h 5 0 0 (by decide)
  obtain ⟨b, hb, eb⟩ := which_bits (τ := τ) (tm := tm) 5 0 0 rfl (by decide)
  have eb' : M_whichOf_r τ tm = nI b := eb
  unfold X_ask_r XT_nextRate_r M_askOf_r
  rw [e, eb']
  by_cases c : nI b = 0
  · rw [if_pos c, if_pos c]
  · rw [if_neg c, if_neg c]; exact L13_eq hb 9 1 _ _ _ (by omega) (by omega)
theorem L_ask (h : Rel κ σ τ n pm wd pl tm hr B) : X_ask_r κ σ tm = M_ask_r τ tm ∧ RelE κ σ (M_ask_s τ tm) B := ⟨ask_eq h.2.2.1.2.2.2.2.1, (h.agree AgX.rf ask_agM).E⟩
end C2
