/-! ===== level 2: digest ===== -/
section DG
variable {κ : Nat → Nat} {σ τ : Nat → Nat → Int32} {n pm wd pl tm hr c : Nat} {B : Int}
def gLd (F : Int32 → Int32) : Nat → Nat → Int64 → Int64
  | 0, _, x => x
  | m + 1, j, x => gLd F m (j + 1) (31 * x + (F (partI j)).toInt64)
theorem L33_gLd (F : Int32 → Int32) (hc : ∀ y, X_clan_r κ σ n (nI c) y = F y) (x0 : Int64) : ∀ (m j : Nat) (x : Int64), X_digest_L33 κ σ n wd pl tm pm c x0 m j x = gLd F m j x
  | 0, _, _ => rfl
  | m + 1, j, x => by
    have s : X_digest_S33_0 κ σ n wd pl tm pm c x0 j x = 31 * x + (F (partI j)).toInt64 := by
      unfold X_digest_S33_0 X_mixed_r
      rw [hc]
    show X_digest_L33 κ σ n wd pl tm pm c x0 m (j + 1) (X_digest_S33_0 κ σ n wd pl tm pm c x0 j x) = gLd F m (j + 1) (31 * x + (F (partI j)).toInt64)
    rw [s]
    exact L33_gLd F hc x0 m (j + 1) _
theorem gLd_say (x : Int64) : gLd (fun y => M_clanOf_r τ c y) 11 0 x = M_sayClan_h τ x c := rfl
theorem clan_nat (h : Rel κ σ τ n pm wd pl tm hr B) (hc : c < n) (y : Int32) : X_clan_r κ σ n (nI c) y = M_clanOf_r τ c y := by
  have h4 := h.2.2.1.1.1
  rw [L_clan h]
  unfold M_clan_r
  rw [isClan_nat h.2.2.1.1.2.2.2.2 h4 (by omega), if_pos hc, if_neg (show ¬ ((1 : Int32) = 0) by decide), nI_clamp (by omega)]
theorem dig_clans (h : Rel κ σ τ n pm wd pl tm hr B) : ∀ (m i : Nat) (x : Int64), i + m ≤ n → X_digest_L6 κ σ n wd pl tm pm m i x = M_digest_L9 τ n wd pl tm pm m i x
  | 0, _, _, _ => rfl
  | m + 1, i, x, e => by
    have s : X_digest_S6_0 κ σ n wd pl tm pm i x = M_digest_S9_0 τ n wd pl tm pm i x := (L33_gLd (fun y => M_clanOf_r τ i y) (clan_nat h (by omega)) x 11 0 x).trans (gLd_say x)
    show X_digest_L6 κ σ n wd pl tm pm m (i + 1) (X_digest_S6_0 κ σ n wd pl tm pm i x) = M_digest_L9 τ n wd pl tm pm m (i + 1) (M_digest_S9_0 τ n wd pl tm pm i x)
    rw [s]
    exact dig_clans h m (i + 1) _ (by omega)
theorem in03_tab : ∀ j, j < 4 → M_in_r (nI j).toInt64 0 3 = 1 := by decide +kernel
theorem wed_nat (h : Rel κ σ τ n pm wd pl tm hr B) {i j : Nat} (hi : i < wd) (hj : j < 4) : X_wedding_r κ σ wd (nI i) (nI j) = τ 6 (4 * i + j) := by
  have h12 := h.2.2.1.2.2.1.1
  rw [L_wedding h]
  unfold M_wedding_r
  rw [in_eq (by omega), if_neg (nI_pos (by omega)), if_neg (nI_ge hi (by omega)), if_neg (show ¬ ((1 : Int32) = 0) by decide), in03_tab j hj, if_neg (show ¬ ((1 : Int32) = 0) by decide), nI_clamp (by omega), nI_clamp (by omega)]
theorem dig_weds (h : Rel κ σ τ n pm wd pl tm hr B) : ∀ (m i : Nat) (x : Int64), i + m ≤ wd → X_digest_L74 κ σ n wd pl tm pm m i x = M_digest_L30 τ n wd pl tm pm (4 * m) (4 * i) x
  | 0, _, _, _ => rfl
  | m + 1, i, x, e => by
    have s : X_digest_S74_0 κ σ n wd pl tm pm i x = 31 * (31 * (31 * (31 * x + (τ 6 (4 * i + 0)).toInt64) + (τ 6 (4 * i + 1)).toInt64) + (τ 6 (4 * i + 2)).toInt64) + (τ 6 (4 * i + 3)).toInt64 := by
      show 31 * (31 * (31 * (31 * x + (X_wedding_r κ σ wd (nI i) (nI 0)).toInt64) + (X_wedding_r κ σ wd (nI i) (nI 1)).toInt64) + (X_wedding_r κ σ wd (nI i) (nI 2)).toInt64) + (X_wedding_r κ σ wd (nI i) (nI 3)).toInt64 = _
      rw [wed_nat h (show i < wd by omega) (show 0 < 4 by decide), wed_nat h (show i < wd by omega) (show 1 < 4 by decide), wed_nat h (show i < wd by omega) (show 2 < 4 by decide), wed_nat h (show i < wd by omega) (show 3 < 4 by decide)]
    show X_digest_L74 κ σ n wd pl tm pm m (i + 1) (X_digest_S74_0 κ σ n wd pl tm pm i x) = M_digest_L30 τ n wd pl tm pm (4 * m) (4 * (i + 1)) (31 * (31 * (31 * (31 * x + (τ 6 (4 * i + 0)).toInt64) + (τ 6 (4 * i + 1)).toInt64) + (τ 6 (4 * i + 2)).toInt64) + (τ 6 (4 * i + 3)).toInt64)
    rw [s]
    exact dig_weds h m (i + 1) _ (by omega)
theorem dig_page (h : Rel κ σ τ n pm wd pl tm hr B) : ∀ (m i : Nat) (x : Int64), i + m ≤ pm → X_digest_L157 κ σ n wd pl tm pm m i x = M_digest_L137 τ n wd pl tm pm m i x
  | 0, _, _, _ => rfl
  | m + 1, i, x, e => by
    have s : X_digest_S157_0 κ σ n wd pl tm pm i x = M_digest_S137_0 τ n wd pl tm pm i x := by
      unfold X_digest_S157_0 M_digest_S137_0
      rw [(h.2.1.2.2.2 i (by omega)).1]
      rfl
    show X_digest_L157 κ σ n wd pl tm pm m (i + 1) (X_digest_S157_0 κ σ n wd pl tm pm i x) = M_digest_L137 τ n wd pl tm pm m (i + 1) (M_digest_S137_0 τ n wd pl tm pm i x)
    rw [s]
    exact dig_page h m (i + 1) _ (by omega)
theorem dig_counts (h : Rel κ σ τ n pm wd pl tm hr B) : ∀ (m i : Nat) (x : Int64), X_digest_L191 κ σ n wd pl tm pm m i x = M_digest_L164 τ n wd pl tm pm m i x
  | 0, _, _ => rfl
  | m + 1, i, x => by
    have e := L_count h (nI i)
    have s : X_digest_S191_0 κ σ n wd pl tm pm i x = M_digest_S164_0 τ n wd pl tm pm i x := by
      unfold X_digest_S191_0 M_digest_S164_0
      rw [e]
      rfl
    show X_digest_L191 κ σ n wd pl tm pm m (i + 1) (X_digest_S191_0 κ σ n wd pl tm pm i x) = M_digest_L164 τ n wd pl tm pm m (i + 1) (M_digest_S164_0 τ n wd pl tm pm i x)
    rw [s]
    exact dig_counts h m (i + 1) _
theorem orderOf_place (h : Rel κ σ τ n pm wd pl tm hr B) (hB : B ≤ 800000) (hn : 0 < n) {v : Nat} (hv : v < 4) : M_orderOf_r τ pl (10 + v) = XP_bestAt_r κ (XP_findOrder_s κ σ pl n) pl (nI v) := by
  rw [bestAt_eq h.2.2.1.2.2.2.1.1 (h.order hB hn).2.2.2 hv]
  unfold M_orderOf_r
  rw [if_neg (show ¬ 10 + v = 0 by omega), show 10 + v - 10 = v by omega]
theorem dig_86 (hB : B ≤ 800000) (hn : 0 < n) (x0 : Int64) : ∀ (m v : Nat) (x : Int64) (τ : Nat → Nat → Int32), v + m ≤ 4 → Rel κ σ τ n pm wd pl tm hr B → Rel κ σ (M_digest_L86 n wd pl tm pm m (10 + v) τ x).1 n pm wd pl tm hr B ∧ (M_digest_L86 n wd pl tm pm m (10 + v) τ x).2 = X_mixedShallBe_L56 κ (XP_findOrder_s κ σ pl n) pl n x0 m v x
  | 0, _, _, _, _, h => ⟨h, rfl⟩
  | m + 1, v, x, τ, e, h => by
    have s0 : M_digest_S86_0 n wd pl tm pm (10 + v) τ x = M_layOrder_s τ pl := orderOf_s_eq τ pl (10 + v)
    have s1 : M_digest_S86_1 n wd pl tm pm (10 + v) τ x = X_mixedShallBe_S56_0 κ (XP_findOrder_s κ σ pl n) pl n x0 v x := by
      unfold M_digest_S86_1 X_mixedShallBe_S56_0
      rw [orderOf_place h hB hn (show v < 4 by omega)]
      rfl
    have hR := h.agree AgX.rf (h.order hB hn).2.1
    have ih := dig_86 hB hn x0 m (v + 1) (X_mixedShallBe_S56_0 κ (XP_findOrder_s κ σ pl n) pl n x0 v x) (M_layOrder_s τ pl) (by omega) hR
    have f : M_digest_L86 n wd pl tm pm (m + 1) (10 + v) τ x = M_digest_L86 n wd pl tm pm m (10 + (v + 1)) (M_layOrder_s τ pl) (X_mixedShallBe_S56_0 κ (XP_findOrder_s κ σ pl n) pl n x0 v x) := by
      show M_digest_L86 n wd pl tm pm m (10 + v + 1) (M_digest_S86_0 n wd pl tm pm (10 + v) τ x) (M_digest_S86_1 n wd pl tm pm (10 + v) τ x) = _
      rw [s0, s1]
      rfl
    rw [f]
    exact ih
theorem dig_end (h : Rel κ σ τ n pm wd pl tm hr B) (x : Int64) (ρ : Nat → Nat → Int32) : X_digest_L191 κ σ n wd pl tm pm 10 0 (X_digest_L157 κ σ n wd pl tm pm pm 0 (X_mixed_r (X_mixed_r x ((X_which_r κ σ tm).toInt64)) ((X_ask_r κ σ tm).toInt64))) = M_digest_L164 (M_askOf_s τ tm) n wd pl tm pm 10 0 (M_digest_L137 (M_askOf_s τ tm) n wd pl tm pm pm 0 (M_say_h (M_askOf_s τ tm) (M_say_h ρ x ((M_whichOf_r τ tm).toInt64)) ((M_askOf_r τ tm).toInt64))) := by
  have hA : Rel κ σ (M_askOf_s τ tm) n pm wd pl tm hr B := h.agree AgX.rf ask_agM
  have e1 : X_which_r κ σ tm = M_whichOf_r τ tm := L_which h
  have e2 : X_ask_r κ σ tm = M_askOf_r τ tm := (L_ask h).1
  rw [dig_counts hA, dig_page hA pm 0 _ (by omega), e1, e2]
  rfl
theorem L_digest (h : Rel κ σ τ n pm wd pl tm hr B) (hB : B ≤ 800000) (x : Int64) : X_digest_r κ σ n wd pl tm pm = M_digest_r τ x n wd pl tm pm ∧ RelE κ (X_digest_s κ σ n wd pl tm pm) (M_digest_s τ x n wd pl tm pm) B := by
  have a1 : X_digest_L74 κ σ n wd pl tm pm wd 0 (X_digest_L6 κ σ n wd pl tm pm n 0 967) = M_digest_L30 τ n wd pl tm pm (4 * wd) 0 (M_digest_L9 τ n wd pl tm pm n 0 967) := by
    rw [dig_clans h n 0 967 (by omega)]
    exact dig_weds h wd 0 _ (by omega)
  unfold X_digest_r M_digest_r X_digest_s M_digest_s
  rw [a1]
  generalize M_digest_L30 τ n wd pl tm pm (4 * wd) 0 (M_digest_L9 τ n wd pl tm pm n 0 967) = a
  rcases hasHills h.2.2.1.1 with ⟨w, e1, e2⟩ | ⟨w, e1, e2⟩
  · have e2' : ¬ M_lacks_r τ = 0 := by rw [e2]; decide
    rw [if_pos e1, if_neg e2', if_pos e1, if_neg e2']
    exact ⟨dig_end h a τ, (h.agree AgX.rf ask_agM).E⟩
  · have e1' : ¬ X_hasHills_r κ σ = 0 := by rw [e1]; decide
    rw [if_neg e1', if_pos e2, if_neg e1', if_pos e2]
    obtain ⟨o1, o2, o3, o4⟩ := h.order hB w
    have hR1 : Rel κ σ (M_orderOf_s τ pl 0) n pm wd pl tm hr B := by
      rw [orderOf_s_eq]; exact h.agree AgX.rf o2
    have q1 : M_orderOf_r τ pl 0 = XP_findOrder_s κ σ pl n 37 5 := o3.symm
    have q2 : XH_leastLed_r 10 κ σ n = M_settledOf_r τ n := h.2.2.1.1.leastLed
    obtain ⟨hL1, hL2⟩ : Rel κ σ (M_digest_L86 n wd pl tm pm (14 - 10) 10 (M_orderOf_s τ pl 0) (M_say_h (M_orderOf_s τ pl 0) (M_say_h τ a ((M_settledOf_r τ n).toInt64)) ((M_orderOf_r τ pl 0).toInt64))).1 n pm wd pl tm hr B ∧ (M_digest_L86 n wd pl tm pm (14 - 10) 10 (M_orderOf_s τ pl 0) (M_say_h (M_orderOf_s τ pl 0) (M_say_h τ a ((M_settledOf_r τ n).toInt64)) ((M_orderOf_r τ pl 0).toInt64))).2 = X_mixedShallBe_L56 κ (XP_findOrder_s κ σ pl n) pl n a 4 0 (M_say_h (M_orderOf_s τ pl 0) (M_say_h τ a ((M_settledOf_r τ n).toInt64)) ((M_orderOf_r τ pl 0).toInt64)) := dig_86 hB w a 4 0 _ _ (by decide) hR1
    generalize M_digest_L86 n wd pl tm pm (14 - 10) 10 (M_orderOf_s τ pl 0) (M_say_h (M_orderOf_s τ pl 0) (M_say_h τ a ((M_settledOf_r τ n).toInt64)) ((M_orderOf_r τ pl 0).toInt64)) = L at hL1 hL2
    have hF : Rel κ (XP_findOrder_s κ σ pl n) L.1 n pm wd pl tm hr B := hL1.agree o1 AgM.rf
    obtain ⟨k1, k2, k3⟩ := hF.high hB
    have hS : Rel κ (X_mixedShallBe_s κ σ pl n a) (M_highOf_s L.1 n pl) n pm wd pl tm hr B := hF.agree k1 k2
    have ex : X_mixedShallBe_r κ σ pl n a = M_say_h (M_highOf_s L.1 n pl) L.2 ((M_highOf_r L.1 n pl).toInt64) := by
      unfold X_mixedShallBe_r
      rw [hL2, k3, q2, q1]
      rfl
    refine ⟨?_, (hS.agree AgX.rf ask_agM).E⟩
    rw [ex]
    exact dig_end hS _ (M_highOf_s L.1 n pl)
end DG
