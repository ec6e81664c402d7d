/-! ===== nextOrder, by the table ===== -/
def moreN (pl i : Nat) : Nat := if i < nperm pl then 1 else 0
def nextI (pl i : Nat) : Nat := if i + 1 < nperm pl then i + 1 else i
theorem nperm_le : ∀ pl, pl ≤ 4 → nperm pl ≤ 24 ∧ 0 < nperm pl := by decide +kernel
theorem permT_lt : ∀ pl, pl < 5 → ∀ i, i < 24 → i < nperm pl → ∀ k, k < 4 → k < pl → permT pl i k < pl := by decide +kernel
theorem permRow_ok {pl i : Nat} (hpl : pl ≤ 4) (hi : i < nperm pl) : natRow (permRow pl i) pl pl := by
  intro k hk
  have h := permT_lt pl (by omega) i (by have := (nperm_le pl hpl).1; omega) hi k (by omega) hk
  exact natOK_nI h (by omega)
theorem permT_0 : ∀ pl, pl < 5 → ∀ k, k < 4 → permT pl 0 k = k := by decide +kernel
set_option maxHeartbeats 4000000 in
set_option maxRecDepth 100000 in
theorem c_XP_nextOrder (l : Launch) (D : va_G) (cI cC cI2 : ClassId) (a : Nat → Nat) (κ : Nat → Nat) (σ : Nat → Nat → Int32) (pl i : Nat) (hpl : pl ≤ 4) (hi : i < nperm pl) (hp0 : σ 37 4 = nI pl) : gI l D (tysX cI cC cI2) yX5_nextOrder wsX5_nextOrder 2 [.ref (a 37)] (wX cI cC cI2 a κ (row σ 40 (permRow pl i))) (nI (moreN pl (i + 1))) (wX cI cC cI2 a κ (row σ 40 (permRow pl (nextI pl i)))) := by
  rcases (by omega : pl = 0 ∨ pl = 1 ∨ pl = 2 ∨ pl = 3 ∨ pl = 4) with rfl | rfl | rfl | rfl | rfl
  · have hn : nperm 0 = 1 := rfl
    rcases (by omega : i = 0) with rfl
    · have q := c_XP_nextOrder_0_0 l D cI cC cI2 a κ (row σ 40 (permRow 0 0)) ((row_rn (by decide)).trans hp0) (congrFun (row_s _ _ _) 0) (congrFun (row_s _ _ _) 1) (congrFun (row_s _ _ _) 2) (congrFun (row_s _ _ _) 3)
      rw [show XP_nextOrder_0_0_s κ (row σ 40 (permRow 0 0)) = row σ 40 (permRow 0 0) from row_row _ _ _ _] at q
      exact q
  · have hn : nperm 1 = 1 := rfl
    rcases (by omega : i = 0) with rfl
    · have q := c_XP_nextOrder_1_0 l D cI cC cI2 a κ (row σ 40 (permRow 1 0)) ((row_rn (by decide)).trans hp0) (congrFun (row_s _ _ _) 0) (congrFun (row_s _ _ _) 1) (congrFun (row_s _ _ _) 2) (congrFun (row_s _ _ _) 3)
      rw [show XP_nextOrder_1_0_s κ (row σ 40 (permRow 1 0)) = row σ 40 (permRow 1 0) from row_row _ _ _ _] at q
      exact q
  · have hn : nperm 2 = 2 := rfl
    rcases (by omega : i = 0 ∨ i = 1) with rfl | rfl
    · have q := c_XP_nextOrder_2_0 l D cI cC cI2 a κ (row σ 40 (permRow 2 0)) ((row_rn (by decide)).trans hp0) (congrFun (row_s _ _ _) 0) (congrFun (row_s _ _ _) 1) (congrFun (row_s _ _ _) 2) (congrFun (row_s _ _ _) 3)
      rw [show XP_nextOrder_2_0_s κ (row σ 40 (permRow 2 0)) = row σ 40 (permRow 2 1) from row_row _ _ _ _] at q
      exact q
    · have q := c_XP_nextOrder_2_1 l D cI cC cI2 a κ (row σ 40 (permRow 2 1)) ((row_rn (by decide)).trans hp0) (congrFun (row_s _ _ _) 0) (congrFun (row_s _ _ _) 1) (congrFun (row_s _ _ _) 2) (congrFun (row_s _ _ _) 3)
      rw [show XP_nextOrder_2_1_s κ (row σ 40 (permRow 2 1)) = row σ 40 (permRow 2 1) from row_row _ _ _ _] at q
      exact q
  · have hn : nperm 3 = 6 := rfl
    rcases (by omega : i = 0 ∨ i = 1 ∨ i = 2 ∨ i = 3 ∨ i = 4 ∨ i = 5) with rfl | rfl | rfl | rfl | rfl | rfl
    · have q := c_XP_nextOrder_3_0 l D cI cC cI2 a κ (row σ 40 (permRow 3 0)) ((row_rn (by decide)).trans hp0) (congrFun (row_s _ _ _) 0) (congrFun (row_s _ _ _) 1) (congrFun (row_s _ _ _) 2) (congrFun (row_s _ _ _) 3)
      rw [show XP_nextOrder_3_0_s κ (row σ 40 (permRow 3 0)) = row σ 40 (permRow 3 1) from row_row _ _ _ _] at q
      exact q
    · have q := c_XP_nextOrder_3_1 l D cI cC cI2 a κ (row σ 40 (permRow 3 1)) ((row_rn (by decide)).trans hp0) (congrFun (row_s _ _ _) 0) (congrFun (row_s _ _ _) 1) (congrFun (row_s _ _ _) 2) (congrFun (row_s _ _ _) 3)
      rw [show XP_nextOrder_3_1_s κ (row σ 40 (permRow 3 1)) = row σ 40 (permRow 3 2) from row_row _ _ _ _] at q
      exact q
    · have q := c_XP_nextOrder_3_2 l D cI cC cI2 a κ (row σ 40 (permRow 3 2)) ((row_rn (by decide)).trans hp0) (congrFun (row_s _ _ _) 0) (congrFun (row_s _ _ _) 1) (congrFun (row_s _ _ _) 2) (congrFun (row_s _ _ _) 3)
      rw [show XP_nextOrder_3_2_s κ (row σ 40 (permRow 3 2)) = row σ 40 (permRow 3 3) from row_row _ _ _ _] at q
      exact q
    · have q := c_XP_nextOrder_3_3 l D cI cC cI2 a κ (row σ 40 (permRow 3 3)) ((row_rn (by decide)).trans hp0) (congrFun (row_s _ _ _) 0) (congrFun (row_s _ _ _) 1) (congrFun (row_s _ _ _) 2) (congrFun (row_s _ _ _) 3)
      rw [show XP_nextOrder_3_3_s κ (row σ 40 (permRow 3 3)) = row σ 40 (permRow 3 4) from row_row _ _ _ _] at q
      exact q
    · have q := c_XP_nextOrder_3_4 l D cI cC cI2 a κ (row σ 40 (permRow 3 4)) ((row_rn (by decide)).trans hp0) (congrFun (row_s _ _ _) 0) (congrFun (row_s _ _ _) 1) (congrFun (row_s _ _ _) 2) (congrFun (row_s _ _ _) 3)
      rw [show XP_nextOrder_3_4_s κ (row σ 40 (permRow 3 4)) = row σ 40 (permRow 3 5) from row_row _ _ _ _] at q
      exact q
    · have q := c_XP_nextOrder_3_5 l D cI cC cI2 a κ (row σ 40 (permRow 3 5)) ((row_rn (by decide)).trans hp0) (congrFun (row_s _ _ _) 0) (congrFun (row_s _ _ _) 1) (congrFun (row_s _ _ _) 2) (congrFun (row_s _ _ _) 3)
      rw [show XP_nextOrder_3_5_s κ (row σ 40 (permRow 3 5)) = row σ 40 (permRow 3 5) from row_row _ _ _ _] at q
      exact q
  · have hn : nperm 4 = 24 := rfl
    rcases (by omega : i = 0 ∨ i = 1 ∨ i = 2 ∨ i = 3 ∨ i = 4 ∨ i = 5 ∨ i = 6 ∨ i = 7 ∨ i = 8 ∨ i = 9 ∨ i = 10 ∨ i = 11 ∨ i = 12 ∨ i = 13 ∨ i = 14 ∨ i = 15 ∨ i = 16 ∨ i = 17 ∨ i = 18 ∨ i = 19 ∨ i = 20 ∨ i = 21 ∨ i = 22 ∨ i = 23) with rfl | rfl | rfl | rfl | rfl | rfl | rfl | rfl | rfl | rfl | rfl | rfl | rfl | rfl | rfl | rfl | rfl | rfl | rfl | rfl | rfl | rfl | rfl | rfl
    · have q := c_XP_nextOrder_4_0 l D cI cC cI2 a κ (row σ 40 (permRow 4 0)) ((row_rn (by decide)).trans hp0) (congrFun (row_s _ _ _) 0) (congrFun (row_s _ _ _) 1) (congrFun (row_s _ _ _) 2) (congrFun (row_s _ _ _) 3)
      rw [show XP_nextOrder_4_0_s κ (row σ 40 (permRow 4 0)) = row σ 40 (permRow 4 1) from row_row _ _ _ _] at q
      exact q
    · have q := c_XP_nextOrder_4_1 l D cI cC cI2 a κ (row σ 40 (permRow 4 1)) ((row_rn (by decide)).trans hp0) (congrFun (row_s _ _ _) 0) (congrFun (row_s _ _ _) 1) (congrFun (row_s _ _ _) 2) (congrFun (row_s _ _ _) 3)
      rw [show XP_nextOrder_4_1_s κ (row σ 40 (permRow 4 1)) = row σ 40 (permRow 4 2) from row_row _ _ _ _] at q
      exact q
    · have q := c_XP_nextOrder_4_2 l D cI cC cI2 a κ (row σ 40 (permRow 4 2)) ((row_rn (by decide)).trans hp0) (congrFun (row_s _ _ _) 0) (congrFun (row_s _ _ _) 1) (congrFun (row_s _ _ _) 2) (congrFun (row_s _ _ _) 3)
      rw [show XP_nextOrder_4_2_s κ (row σ 40 (permRow 4 2)) = row σ 40 (permRow 4 3) from row_row _ _ _ _] at q
      exact q
    · have q := c_XP_nextOrder_4_3 l D cI cC cI2 a κ (row σ 40 (permRow 4 3)) ((row_rn (by decide)).trans hp0) (congrFun (row_s _ _ _) 0) (congrFun (row_s _ _ _) 1) (congrFun (row_s _ _ _) 2) (congrFun (row_s _ _ _) 3)
      rw [show XP_nextOrder_4_3_s κ (row σ 40 (permRow 4 3)) = row σ 40 (permRow 4 4) from row_row _ _ _ _] at q
      exact q
    · have q := c_XP_nextOrder_4_4 l D cI cC cI2 a κ (row σ 40 (permRow 4 4)) ((row_rn (by decide)).trans hp0) (congrFun (row_s _ _ _) 0) (congrFun (row_s _ _ _) 1) (congrFun (row_s _ _ _) 2) (congrFun (row_s _ _ _) 3)
      rw [show XP_nextOrder_4_4_s κ (row σ 40 (permRow 4 4)) = row σ 40 (permRow 4 5) from row_row _ _ _ _] at q
      exact q
    · have q := c_XP_nextOrder_4_5 l D cI cC cI2 a κ (row σ 40 (permRow 4 5)) ((row_rn (by decide)).trans hp0) (congrFun (row_s _ _ _) 0) (congrFun (row_s _ _ _) 1) (congrFun (row_s _ _ _) 2) (congrFun (row_s _ _ _) 3)
      rw [show XP_nextOrder_4_5_s κ (row σ 40 (permRow 4 5)) = row σ 40 (permRow 4 6) from row_row _ _ _ _] at q
      exact q
    · have q := c_XP_nextOrder_4_6 l D cI cC cI2 a κ (row σ 40 (permRow 4 6)) ((row_rn (by decide)).trans hp0) (congrFun (row_s _ _ _) 0) (congrFun (row_s _ _ _) 1) (congrFun (row_s _ _ _) 2) (congrFun (row_s _ _ _) 3)
      rw [show XP_nextOrder_4_6_s κ (row σ 40 (permRow 4 6)) = row σ 40 (permRow 4 7) from row_row _ _ _ _] at q
      exact q
    · have q := c_XP_nextOrder_4_7 l D cI cC cI2 a κ (row σ 40 (permRow 4 7)) ((row_rn (by decide)).trans hp0) (congrFun (row_s _ _ _) 0) (congrFun (row_s _ _ _) 1) (congrFun (row_s _ _ _) 2) (congrFun (row_s _ _ _) 3)
      rw [show XP_nextOrder_4_7_s κ (row σ 40 (permRow 4 7)) = row σ 40 (permRow 4 8) from row_row _ _ _ _] at q
      exact q
    · have q := c_XP_nextOrder_4_8 l D cI cC cI2 a κ (row σ 40 (permRow 4 8)) ((row_rn (by decide)).trans hp0) (congrFun (row_s _ _ _) 0) (congrFun (row_s _ _ _) 1) (congrFun (row_s _ _ _) 2) (congrFun (row_s _ _ _) 3)
      rw [show XP_nextOrder_4_8_s κ (row σ 40 (permRow 4 8)) = row σ 40 (permRow 4 9) from row_row _ _ _ _] at q
      exact q
    · have q := c_XP_nextOrder_4_9 l D cI cC cI2 a κ (row σ 40 (permRow 4 9)) ((row_rn (by decide)).trans hp0) (congrFun (row_s _ _ _) 0) (congrFun (row_s _ _ _) 1) (congrFun (row_s _ _ _) 2) (congrFun (row_s _ _ _) 3)
      rw [show XP_nextOrder_4_9_s κ (row σ 40 (permRow 4 9)) = row σ 40 (permRow 4 10) from row_row _ _ _ _] at q
      exact q
    · have q := c_XP_nextOrder_4_10 l D cI cC cI2 a κ (row σ 40 (permRow 4 10)) ((row_rn (by decide)).trans hp0) (congrFun (row_s _ _ _) 0) (congrFun (row_s _ _ _) 1) (congrFun (row_s _ _ _) 2) (congrFun (row_s _ _ _) 3)
      rw [show XP_nextOrder_4_10_s κ (row σ 40 (permRow 4 10)) = row σ 40 (permRow 4 11) from row_row _ _ _ _] at q
      exact q
    · have q := c_XP_nextOrder_4_11 l D cI cC cI2 a κ (row σ 40 (permRow 4 11)) ((row_rn (by decide)).trans hp0) (congrFun (row_s _ _ _) 0) (congrFun (row_s _ _ _) 1) (congrFun (row_s _ _ _) 2) (congrFun (row_s _ _ _) 3)
      rw [show XP_nextOrder_4_11_s κ (row σ 40 (permRow 4 11)) = row σ 40 (permRow 4 12) from row_row _ _ _ _] at q
      exact q
    · have q := c_XP_nextOrder_4_12 l D cI cC cI2 a κ (row σ 40 (permRow 4 12)) ((row_rn (by decide)).trans hp0) (congrFun (row_s _ _ _) 0) (congrFun (row_s _ _ _) 1) (congrFun (row_s _ _ _) 2) (congrFun (row_s _ _ _) 3)
      rw [show XP_nextOrder_4_12_s κ (row σ 40 (permRow 4 12)) = row σ 40 (permRow 4 13) from row_row _ _ _ _] at q
      exact q
    · have q := c_XP_nextOrder_4_13 l D cI cC cI2 a κ (row σ 40 (permRow 4 13)) ((row_rn (by decide)).trans hp0) (congrFun (row_s _ _ _) 0) (congrFun (row_s _ _ _) 1) (congrFun (row_s _ _ _) 2) (congrFun (row_s _ _ _) 3)
      rw [show XP_nextOrder_4_13_s κ (row σ 40 (permRow 4 13)) = row σ 40 (permRow 4 14) from row_row _ _ _ _] at q
      exact q
    · have q := c_XP_nextOrder_4_14 l D cI cC cI2 a κ (row σ 40 (permRow 4 14)) ((row_rn (by decide)).trans hp0) (congrFun (row_s _ _ _) 0) (congrFun (row_s _ _ _) 1) (congrFun (row_s _ _ _) 2) (congrFun (row_s _ _ _) 3)
      rw [show XP_nextOrder_4_14_s κ (row σ 40 (permRow 4 14)) = row σ 40 (permRow 4 15) from row_row _ _ _ _] at q
      exact q
    · have q := c_XP_nextOrder_4_15 l D cI cC cI2 a κ (row σ 40 (permRow 4 15)) ((row_rn (by decide)).trans hp0) (congrFun (row_s _ _ _) 0) (congrFun (row_s _ _ _) 1) (congrFun (row_s _ _ _) 2) (congrFun (row_s _ _ _) 3)
      rw [show XP_nextOrder_4_15_s κ (row σ 40 (permRow 4 15)) = row σ 40 (permRow 4 16) from row_row _ _ _ _] at q
      exact q
    · have q := c_XP_nextOrder_4_16 l D cI cC cI2 a κ (row σ 40 (permRow 4 16)) ((row_rn (by decide)).trans hp0) (congrFun (row_s _ _ _) 0) (congrFun (row_s _ _ _) 1) (congrFun (row_s _ _ _) 2) (congrFun (row_s _ _ _) 3)
      rw [show XP_nextOrder_4_16_s κ (row σ 40 (permRow 4 16)) = row σ 40 (permRow 4 17) from row_row _ _ _ _] at q
      exact q
    · have q := c_XP_nextOrder_4_17 l D cI cC cI2 a κ (row σ 40 (permRow 4 17)) ((row_rn (by decide)).trans hp0) (congrFun (row_s _ _ _) 0) (congrFun (row_s _ _ _) 1) (congrFun (row_s _ _ _) 2) (congrFun (row_s _ _ _) 3)
      rw [show XP_nextOrder_4_17_s κ (row σ 40 (permRow 4 17)) = row σ 40 (permRow 4 18) from row_row _ _ _ _] at q
      exact q
    · have q := c_XP_nextOrder_4_18 l D cI cC cI2 a κ (row σ 40 (permRow 4 18)) ((row_rn (by decide)).trans hp0) (congrFun (row_s _ _ _) 0) (congrFun (row_s _ _ _) 1) (congrFun (row_s _ _ _) 2) (congrFun (row_s _ _ _) 3)
      rw [show XP_nextOrder_4_18_s κ (row σ 40 (permRow 4 18)) = row σ 40 (permRow 4 19) from row_row _ _ _ _] at q
      exact q
    · have q := c_XP_nextOrder_4_19 l D cI cC cI2 a κ (row σ 40 (permRow 4 19)) ((row_rn (by decide)).trans hp0) (congrFun (row_s _ _ _) 0) (congrFun (row_s _ _ _) 1) (congrFun (row_s _ _ _) 2) (congrFun (row_s _ _ _) 3)
      rw [show XP_nextOrder_4_19_s κ (row σ 40 (permRow 4 19)) = row σ 40 (permRow 4 20) from row_row _ _ _ _] at q
      exact q
    · have q := c_XP_nextOrder_4_20 l D cI cC cI2 a κ (row σ 40 (permRow 4 20)) ((row_rn (by decide)).trans hp0) (congrFun (row_s _ _ _) 0) (congrFun (row_s _ _ _) 1) (congrFun (row_s _ _ _) 2) (congrFun (row_s _ _ _) 3)
      rw [show XP_nextOrder_4_20_s κ (row σ 40 (permRow 4 20)) = row σ 40 (permRow 4 21) from row_row _ _ _ _] at q
      exact q
    · have q := c_XP_nextOrder_4_21 l D cI cC cI2 a κ (row σ 40 (permRow 4 21)) ((row_rn (by decide)).trans hp0) (congrFun (row_s _ _ _) 0) (congrFun (row_s _ _ _) 1) (congrFun (row_s _ _ _) 2) (congrFun (row_s _ _ _) 3)
      rw [show XP_nextOrder_4_21_s κ (row σ 40 (permRow 4 21)) = row σ 40 (permRow 4 22) from row_row _ _ _ _] at q
      exact q
    · have q := c_XP_nextOrder_4_22 l D cI cC cI2 a κ (row σ 40 (permRow 4 22)) ((row_rn (by decide)).trans hp0) (congrFun (row_s _ _ _) 0) (congrFun (row_s _ _ _) 1) (congrFun (row_s _ _ _) 2) (congrFun (row_s _ _ _) 3)
      rw [show XP_nextOrder_4_22_s κ (row σ 40 (permRow 4 22)) = row σ 40 (permRow 4 23) from row_row _ _ _ _] at q
      exact q
    · have q := c_XP_nextOrder_4_23 l D cI cC cI2 a κ (row σ 40 (permRow 4 23)) ((row_rn (by decide)).trans hp0) (congrFun (row_s _ _ _) 0) (congrFun (row_s _ _ _) 1) (congrFun (row_s _ _ _) 2) (congrFun (row_s _ _ _) 3)
      rw [show XP_nextOrder_4_23_s κ (row σ 40 (permRow 4 23)) = row σ 40 (permRow 4 23) from row_row _ _ _ _] at q
      exact q
theorem XP_start_row (κ : Nat → Nat) (σ : Nat → Nat → Int32) (g : Nat → Int32) : row (XP_startOrders_s κ σ) 40 g = row σ 40 g := by
  simp only [XP_startOrders_s, XP_startOrders_L2, XP_startOrders_S2_0, row_up2]
theorem XP_start_40 (κ : Nat → Nat) (σ : Nat → Nat → Int32) : ∀ k, k < 4 → XP_startOrders_s κ σ 40 k = nI k := by
  have e : XP_startOrders_s κ σ = up2 (up2 (up2 (up2 σ 40 0 (nI 0)) 40 (0 + 1) (nI (0 + 1))) 40 (0 + 1 + 1) (nI (0 + 1 + 1))) 40 (0 + 1 + 1 + 1) (nI (0 + 1 + 1 + 1)) := by
    simp only [XP_startOrders_s, XP_startOrders_L2, XP_startOrders_S2_0]
  rw [e]
  apply row4
  · rw [up2_rp (by decide), up2_rp (by decide), up2_rp (by decide), up2_rs]
  · rw [up2_rp (by decide), up2_rp (by decide), up2_rs]
  · rw [up2_rp (by decide), up2_rs]
  · rw [up2_rs]
theorem XP_start_norm {D : va_G} {cI cC cI2 : ClassId} {a : Nat → Nat} {κ : Nat → Nat} {σ : Nat → Nat → Int32} {A : Nat → Prop} {s : State} {H : Heap} {locs : List Loc} (hw : gw D (tysX cI cC cI2) A s H locs (wX cI cC cI2 a κ (XP_startOrders_s κ σ))) {pl : Nat} (hpl : pl ≤ 4) : gw D (tysX cI cC cI2) A s H locs (wX cI cC cI2 a κ (row σ 40 (permRow pl 0))) := by
  have q := hw.arr 40 (f := XP_startOrders_s κ σ 40) (g := permRow pl 0) rfl (fun k hk => (XP_start_40 κ σ k hk).trans (congrArg nI (permT_0 pl (by omega) k hk).symm)) (wX_r40 _ _ _ _ _ _ _)
  rw [XP_start_row] at q
  exact q
theorem XH_copy2410_3 (κ : Nat → Nat) (σ : Nat → Nat → Int32) : XH_copyFrom_24_10_s κ σ 24 3 = σ 10 3 := (congrFun (XH_copyFrom_24_10_L18_k κ 24 (by decide) (by decide) 4 0 _) 3).trans ((up2_rp (by decide)).trans up2_rs)
section GCP
variable {p : Program} {l : Launch} {e : Env} {s : State} {m : MethodId} {args : Array Value} {below : List Frame} {meth : Method} {c : Code} {H : Heap} {locs : List Loc} {Q : State → Prop}
variable {cc : ByteArray} {pc nL : Nat} {ls : Array Slot} {rest : List Value} {D : va_G} {A : Nat → Prop} {tys : List (ClassId × FieldType)} {w : va_W} {Ts : List Cond} {own : String} {k : Nat}
/-- System.arraycopy of a whole array of ints into another of its length -/
theorem g_acopy (S : CallFix p m c cc nL s args Ts own) (hw : gw D tys A s H locs w) (hsz : ls.size = nL) {index : Nat} (l1 : Cond.methodLink own index arraycopyName ∈ Ts) (l2 : Cond.native arraycopyName ∈ Ts) (l3 : Cond.static arraycopyName ∈ Ts) (l4 : Cond.initialized "java/lang/System" ∈ Ts) (q0 q1 t0 : Nat) {a0 a1 : Nat} {cA : ClassId} {n : Nat} {f g : Nat → Int32} (ha0 : w[q0]? = some (a0, .inl (cA, n, .inl f))) (ha1 : w[q1]? = some (a1, .inl (cA, n, .inl g))) (ht : tys[t0]? = some (cA, .int)) (hn : n < 2 ^ 31)
    (hframes : 1 ≤ (gR k).frames) (hlocals : (rest.map fun v => v.category).sum + (nativeFrameWords "java/lang/System" "arraycopy" 5 + 11) ≤ (gR k).locals) {w2 : va_W} (hset : w.set q1 (a1, .inl (cA, n, .inl f)) = w2) (hdg : decode cc pc = .ok (.invokestatic index, 3))
    (kk : ∀ (H1 : Heap) (locs1 : List Loc), gw D tys A s H1 locs1 w2 → W p l e (gR k) s m args below meth c H1 locs1 0 0 Q (F0 m (pc + 3) ls rest)) :
    W p l e (gR k) s m args below meth c H locs 0 0 Q (F0 m pc ls (.int (nI n) :: .int 0 :: .ref a1 :: .int 0 :: .ref a0 :: rest)) := by
  have hts := S.2.2.2.2
  have hc : (nI n).toNatClampNeg = n := nI_clamp hn
  have h0 : (0 : Int32).toNatClampNeg = 0 := by decide
  refine va_copyi S.1 S.2.1 (S.2.2.1.trans hsz.symm) S.2.2.2.1 (hts _ l1) (hts _ l2) (hts _ l3) (hts _ l4) hw.1 hw.2.1 hw.2.2.1 hw.2.2.2.1 q0 q1 t0 t0 ha0 ha1 ht ht rfl (by decide) (by decide) (nI_pos hn) (by rw [hc, h0]; omega) (by rw [hc, h0]; omega) (fun _ _ => rfl) hframes hlocals hdg (fun H1 locs1 hP hD hS => ?_)
  rw [hc, h0] at hP hD
  have hl1 : q1 < w.length := (List.getElem?_eq_some_iff.mp ha1).1
  have hw1 : gw D tys A s H1 locs1 (w.set q1 (a1, .inl (cA, n, .inl (va_cpy f g 0 0 n)))) := ⟨hw.1, hP, hD, hS, hw.2.2.2.2⟩
  have h2 := hw1.arr q1 (f := va_cpy f g 0 0 n) (g := f) (List.getElem?_set_self hl1) (fun k hk => by rw [pk_cpy_in (by omega) (by omega)]; congr 1; omega) (w2 := w2) (by rw [List.set_set]; exact hset)
  exact kk H1 locs1 h2
end GCP
