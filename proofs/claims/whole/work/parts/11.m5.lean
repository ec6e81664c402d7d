def M_isOrder_S12_0 (pl : Nat) (code : Nat) (m12 : Nat) (x12_2 : Nat) (x12_3 : Int32) (σ12 : Nat → Nat → Int32) : Nat := x12_2 / pl
def M_isOrder_S12_1 (pl : Nat) (code : Nat) (m12 : Nat) (x12_2 : Nat) (x12_3 : Int32) (σ12 : Nat → Nat → Int32) : Int32 := x12_3 ||| (1 <<< ((nI (x12_2 % pl)) &&& 31))
def M_isOrder_S12_2 (pl : Nat) (code : Nat) (m12 : Nat) (x12_2 : Nat) (x12_3 : Int32) (σ12 : Nat → Nat → Int32) : Nat → Nat → Int32 := up2 σ12 10 m12 (nI (x12_2 % pl))
def M_isOrder_L12 (pl : Nat) (code : Nat) : Nat → (Nat) → (Int32) → (Nat → Nat → Int32) → (Nat) × (Int32) × (Nat → Nat → Int32)
  | 0, x12_2, x12_3, σ12 => (x12_2, x12_3, σ12)
  | m12 + 1, x12_2, x12_3, σ12 => M_isOrder_L12 pl code m12 (M_isOrder_S12_0 pl code m12 x12_2 x12_3 σ12) (M_isOrder_S12_1 pl code m12 x12_2 x12_3 σ12) (M_isOrder_S12_2 pl code m12 x12_2 x12_3 σ12)
theorem M_isOrder_L12_k0 (pl : Nat) (code : Nat) : ∀ (m12 : Nat) (x12_2 : Nat) (x12_3 : Int32) (σ12 : Nat → Nat → Int32), (M_isOrder_L12 pl code m12 x12_2 x12_3 σ12).2.2 0 = σ12 0 := by
  intro m12
  induction m12 with
  | zero => intros; rfl
  | succ m12 ih => intro x12_2 x12_3 σ12; exact (ih (M_isOrder_S12_0 pl code m12 x12_2 x12_3 σ12) (M_isOrder_S12_1 pl code m12 x12_2 x12_3 σ12) (M_isOrder_S12_2 pl code m12 x12_2 x12_3 σ12)).trans (up2_n _ _ _ (by decide))
theorem M_isOrder_L12_k1 (pl : Nat) (code : Nat) : ∀ (m12 : Nat) (x12_2 : Nat) (x12_3 : Int32) (σ12 : Nat → Nat → Int32), (M_isOrder_L12 pl code m12 x12_2 x12_3 σ12).2.2 1 = σ12 1 := by
  intro m12
  induction m12 with
  | zero => intros; rfl
  | succ m12 ih => intro x12_2 x12_3 σ12; exact (ih (M_isOrder_S12_0 pl code m12 x12_2 x12_3 σ12) (M_isOrder_S12_1 pl code m12 x12_2 x12_3 σ12) (M_isOrder_S12_2 pl code m12 x12_2 x12_3 σ12)).trans (up2_n _ _ _ (by decide))
theorem M_isOrder_L12_k2 (pl : Nat) (code : Nat) : ∀ (m12 : Nat) (x12_2 : Nat) (x12_3 : Int32) (σ12 : Nat → Nat → Int32), (M_isOrder_L12 pl code m12 x12_2 x12_3 σ12).2.2 2 = σ12 2 := by
  intro m12
  induction m12 with
  | zero => intros; rfl
  | succ m12 ih => intro x12_2 x12_3 σ12; exact (ih (M_isOrder_S12_0 pl code m12 x12_2 x12_3 σ12) (M_isOrder_S12_1 pl code m12 x12_2 x12_3 σ12) (M_isOrder_S12_2 pl code m12 x12_2 x12_3 σ12)).trans (up2_n _ _ _ (by decide))
theorem M_isOrder_L12_k3 (pl : Nat) (code : Nat) : ∀ (m12 : Nat) (x12_2 : Nat) (x12_3 : Int32) (σ12 : Nat → Nat → Int32), (M_isOrder_L12 pl code m12 x12_2 x12_3 σ12).2.2 3 = σ12 3 := by
  intro m12
  induction m12 with
  | zero => intros; rfl
  | succ m12 ih => intro x12_2 x12_3 σ12; exact (ih (M_isOrder_S12_0 pl code m12 x12_2 x12_3 σ12) (M_isOrder_S12_1 pl code m12 x12_2 x12_3 σ12) (M_isOrder_S12_2 pl code m12 x12_2 x12_3 σ12)).trans (up2_n _ _ _ (by decide))
theorem M_isOrder_L12_k4 (pl : Nat) (code : Nat) : ∀ (m12 : Nat) (x12_2 : Nat) (x12_3 : Int32) (σ12 : Nat → Nat → Int32), (M_isOrder_L12 pl code m12 x12_2 x12_3 σ12).2.2 4 = σ12 4 := by
  intro m12
  induction m12 with
  | zero => intros; rfl
  | succ m12 ih => intro x12_2 x12_3 σ12; exact (ih (M_isOrder_S12_0 pl code m12 x12_2 x12_3 σ12) (M_isOrder_S12_1 pl code m12 x12_2 x12_3 σ12) (M_isOrder_S12_2 pl code m12 x12_2 x12_3 σ12)).trans (up2_n _ _ _ (by decide))
theorem M_isOrder_L12_k5 (pl : Nat) (code : Nat) : ∀ (m12 : Nat) (x12_2 : Nat) (x12_3 : Int32) (σ12 : Nat → Nat → Int32), (M_isOrder_L12 pl code m12 x12_2 x12_3 σ12).2.2 5 = σ12 5 := by
  intro m12
  induction m12 with
  | zero => intros; rfl
  | succ m12 ih => intro x12_2 x12_3 σ12; exact (ih (M_isOrder_S12_0 pl code m12 x12_2 x12_3 σ12) (M_isOrder_S12_1 pl code m12 x12_2 x12_3 σ12) (M_isOrder_S12_2 pl code m12 x12_2 x12_3 σ12)).trans (up2_n _ _ _ (by decide))
theorem M_isOrder_L12_k6 (pl : Nat) (code : Nat) : ∀ (m12 : Nat) (x12_2 : Nat) (x12_3 : Int32) (σ12 : Nat → Nat → Int32), (M_isOrder_L12 pl code m12 x12_2 x12_3 σ12).2.2 6 = σ12 6 := by
  intro m12
  induction m12 with
  | zero => intros; rfl
  | succ m12 ih => intro x12_2 x12_3 σ12; exact (ih (M_isOrder_S12_0 pl code m12 x12_2 x12_3 σ12) (M_isOrder_S12_1 pl code m12 x12_2 x12_3 σ12) (M_isOrder_S12_2 pl code m12 x12_2 x12_3 σ12)).trans (up2_n _ _ _ (by decide))
theorem M_isOrder_L12_k7 (pl : Nat) (code : Nat) : ∀ (m12 : Nat) (x12_2 : Nat) (x12_3 : Int32) (σ12 : Nat → Nat → Int32), (M_isOrder_L12 pl code m12 x12_2 x12_3 σ12).2.2 7 = σ12 7 := by
  intro m12
  induction m12 with
  | zero => intros; rfl
  | succ m12 ih => intro x12_2 x12_3 σ12; exact (ih (M_isOrder_S12_0 pl code m12 x12_2 x12_3 σ12) (M_isOrder_S12_1 pl code m12 x12_2 x12_3 σ12) (M_isOrder_S12_2 pl code m12 x12_2 x12_3 σ12)).trans (up2_n _ _ _ (by decide))
theorem M_isOrder_L12_k8 (pl : Nat) (code : Nat) : ∀ (m12 : Nat) (x12_2 : Nat) (x12_3 : Int32) (σ12 : Nat → Nat → Int32), (M_isOrder_L12 pl code m12 x12_2 x12_3 σ12).2.2 8 = σ12 8 := by
  intro m12
  induction m12 with
  | zero => intros; rfl
  | succ m12 ih => intro x12_2 x12_3 σ12; exact (ih (M_isOrder_S12_0 pl code m12 x12_2 x12_3 σ12) (M_isOrder_S12_1 pl code m12 x12_2 x12_3 σ12) (M_isOrder_S12_2 pl code m12 x12_2 x12_3 σ12)).trans (up2_n _ _ _ (by decide))
theorem M_isOrder_L12_k9 (pl : Nat) (code : Nat) : ∀ (m12 : Nat) (x12_2 : Nat) (x12_3 : Int32) (σ12 : Nat → Nat → Int32), (M_isOrder_L12 pl code m12 x12_2 x12_3 σ12).2.2 9 = σ12 9 := by
  intro m12
  induction m12 with
  | zero => intros; rfl
  | succ m12 ih => intro x12_2 x12_3 σ12; exact (ih (M_isOrder_S12_0 pl code m12 x12_2 x12_3 σ12) (M_isOrder_S12_1 pl code m12 x12_2 x12_3 σ12) (M_isOrder_S12_2 pl code m12 x12_2 x12_3 σ12)).trans (up2_n _ _ _ (by decide))
theorem M_isOrder_L12_k11 (pl : Nat) (code : Nat) : ∀ (m12 : Nat) (x12_2 : Nat) (x12_3 : Int32) (σ12 : Nat → Nat → Int32), (M_isOrder_L12 pl code m12 x12_2 x12_3 σ12).2.2 11 = σ12 11 := by
  intro m12
  induction m12 with
  | zero => intros; rfl
  | succ m12 ih => intro x12_2 x12_3 σ12; exact (ih (M_isOrder_S12_0 pl code m12 x12_2 x12_3 σ12) (M_isOrder_S12_1 pl code m12 x12_2 x12_3 σ12) (M_isOrder_S12_2 pl code m12 x12_2 x12_3 σ12)).trans (up2_n _ _ _ (by decide))
theorem M_isOrder_L12_k12 (pl : Nat) (code : Nat) : ∀ (m12 : Nat) (x12_2 : Nat) (x12_3 : Int32) (σ12 : Nat → Nat → Int32), (M_isOrder_L12 pl code m12 x12_2 x12_3 σ12).2.2 12 = σ12 12 := by
  intro m12
  induction m12 with
  | zero => intros; rfl
  | succ m12 ih => intro x12_2 x12_3 σ12; exact (ih (M_isOrder_S12_0 pl code m12 x12_2 x12_3 σ12) (M_isOrder_S12_1 pl code m12 x12_2 x12_3 σ12) (M_isOrder_S12_2 pl code m12 x12_2 x12_3 σ12)).trans (up2_n _ _ _ (by decide))
theorem M_isOrder_L12_k13 (pl : Nat) (code : Nat) : ∀ (m12 : Nat) (x12_2 : Nat) (x12_3 : Int32) (σ12 : Nat → Nat → Int32), (M_isOrder_L12 pl code m12 x12_2 x12_3 σ12).2.2 13 = σ12 13 := by
  intro m12
  induction m12 with
  | zero => intros; rfl
  | succ m12 ih => intro x12_2 x12_3 σ12; exact (ih (M_isOrder_S12_0 pl code m12 x12_2 x12_3 σ12) (M_isOrder_S12_1 pl code m12 x12_2 x12_3 σ12) (M_isOrder_S12_2 pl code m12 x12_2 x12_3 σ12)).trans (up2_n _ _ _ (by decide))
theorem M_isOrder_L12_k14 (pl : Nat) (code : Nat) : ∀ (m12 : Nat) (x12_2 : Nat) (x12_3 : Int32) (σ12 : Nat → Nat → Int32), (M_isOrder_L12 pl code m12 x12_2 x12_3 σ12).2.2 14 = σ12 14 := by
  intro m12
  induction m12 with
  | zero => intros; rfl
  | succ m12 ih => intro x12_2 x12_3 σ12; exact (ih (M_isOrder_S12_0 pl code m12 x12_2 x12_3 σ12) (M_isOrder_S12_1 pl code m12 x12_2 x12_3 σ12) (M_isOrder_S12_2 pl code m12 x12_2 x12_3 σ12)).trans (up2_n _ _ _ (by decide))
theorem M_isOrder_L12_k15 (pl : Nat) (code : Nat) : ∀ (m12 : Nat) (x12_2 : Nat) (x12_3 : Int32) (σ12 : Nat → Nat → Int32), (M_isOrder_L12 pl code m12 x12_2 x12_3 σ12).2.2 15 = σ12 15 := by
  intro m12
  induction m12 with
  | zero => intros; rfl
  | succ m12 ih => intro x12_2 x12_3 σ12; exact (ih (M_isOrder_S12_0 pl code m12 x12_2 x12_3 σ12) (M_isOrder_S12_1 pl code m12 x12_2 x12_3 σ12) (M_isOrder_S12_2 pl code m12 x12_2 x12_3 σ12)).trans (up2_n _ _ _ (by decide))
theorem M_isOrder_L12_k16 (pl : Nat) (code : Nat) : ∀ (m12 : Nat) (x12_2 : Nat) (x12_3 : Int32) (σ12 : Nat → Nat → Int32), (M_isOrder_L12 pl code m12 x12_2 x12_3 σ12).2.2 16 = σ12 16 := by
  intro m12
  induction m12 with
  | zero => intros; rfl
  | succ m12 ih => intro x12_2 x12_3 σ12; exact (ih (M_isOrder_S12_0 pl code m12 x12_2 x12_3 σ12) (M_isOrder_S12_1 pl code m12 x12_2 x12_3 σ12) (M_isOrder_S12_2 pl code m12 x12_2 x12_3 σ12)).trans (up2_n _ _ _ (by decide))
theorem M_isOrder_L12_k17 (pl : Nat) (code : Nat) : ∀ (m12 : Nat) (x12_2 : Nat) (x12_3 : Int32) (σ12 : Nat → Nat → Int32), (M_isOrder_L12 pl code m12 x12_2 x12_3 σ12).2.2 17 = σ12 17 := by
  intro m12
  induction m12 with
  | zero => intros; rfl
  | succ m12 ih => intro x12_2 x12_3 σ12; exact (ih (M_isOrder_S12_0 pl code m12 x12_2 x12_3 σ12) (M_isOrder_S12_1 pl code m12 x12_2 x12_3 σ12) (M_isOrder_S12_2 pl code m12 x12_2 x12_3 σ12)).trans (up2_n _ _ _ (by decide))
theorem M_isOrder_L12_k18 (pl : Nat) (code : Nat) : ∀ (m12 : Nat) (x12_2 : Nat) (x12_3 : Int32) (σ12 : Nat → Nat → Int32), (M_isOrder_L12 pl code m12 x12_2 x12_3 σ12).2.2 18 = σ12 18 := by
  intro m12
  induction m12 with
  | zero => intros; rfl
  | succ m12 ih => intro x12_2 x12_3 σ12; exact (ih (M_isOrder_S12_0 pl code m12 x12_2 x12_3 σ12) (M_isOrder_S12_1 pl code m12 x12_2 x12_3 σ12) (M_isOrder_S12_2 pl code m12 x12_2 x12_3 σ12)).trans (up2_n _ _ _ (by decide))
theorem M_isOrder_L12_k19 (pl : Nat) (code : Nat) : ∀ (m12 : Nat) (x12_2 : Nat) (x12_3 : Int32) (σ12 : Nat → Nat → Int32), (M_isOrder_L12 pl code m12 x12_2 x12_3 σ12).2.2 19 = σ12 19 := by
  intro m12
  induction m12 with
  | zero => intros; rfl
  | succ m12 ih => intro x12_2 x12_3 σ12; exact (ih (M_isOrder_S12_0 pl code m12 x12_2 x12_3 σ12) (M_isOrder_S12_1 pl code m12 x12_2 x12_3 σ12) (M_isOrder_S12_2 pl code m12 x12_2 x12_3 σ12)).trans (up2_n _ _ _ (by decide))
def M_isOrder_r (σ : Nat → Nat → Int32) (pl : Nat) (code : Nat) : Int32 := if ((M_isOrder_L12 pl code pl code 0 σ).2.1) = ((1 <<< ((nI pl) &&& 31)) - 1) then 1 else 0
def M_isOrder_s (σ : Nat → Nat → Int32) (pl : Nat) (code : Nat) : Nat → Nat → Int32 := if ((M_isOrder_L12 pl code pl code 0 σ).2.1) = ((1 <<< ((nI pl) &&& 31)) - 1) then ((M_isOrder_L12 pl code pl code 0 σ).2.2) else ((M_isOrder_L12 pl code pl code 0 σ).2.2)
theorem M_isOrder_z (σ : Nat → Nat → Int32) (pl : Nat) (code : Nat) : M_isOrder_r σ pl code = 0 ∨ M_isOrder_r σ pl code = 1 := by
  unfold M_isOrder_r
  by_cases z1 : ((M_isOrder_L12 pl code pl code 0 σ).2.1) = ((1 <<< ((nI pl) &&& 31)) - 1)
  · rw [if_pos z1]
    exact Or.inr rfl
  · rw [if_neg z1]
    exact Or.inl rfl
theorem M_isOrder_s_k0 (σ : Nat → Nat → Int32) (pl : Nat) (code : Nat) : M_isOrder_s σ pl code 0 = σ 0 := by
  unfold M_isOrder_s
  by_cases z1 : ((M_isOrder_L12 pl code pl code 0 σ).2.1) = ((1 <<< ((nI pl) &&& 31)) - 1)
  · refine Eq.trans (congrFun (if_pos z1) 0) ?_
    exact M_isOrder_L12_k0 pl code pl code 0 σ
  · refine Eq.trans (congrFun (if_neg z1) 0) ?_
    exact M_isOrder_L12_k0 pl code pl code 0 σ
theorem M_isOrder_s_k1 (σ : Nat → Nat → Int32) (pl : Nat) (code : Nat) : M_isOrder_s σ pl code 1 = σ 1 := by
  unfold M_isOrder_s
  by_cases z1 : ((M_isOrder_L12 pl code pl code 0 σ).2.1) = ((1 <<< ((nI pl) &&& 31)) - 1)
  · refine Eq.trans (congrFun (if_pos z1) 1) ?_
    exact M_isOrder_L12_k1 pl code pl code 0 σ
  · refine Eq.trans (congrFun (if_neg z1) 1) ?_
    exact M_isOrder_L12_k1 pl code pl code 0 σ
theorem M_isOrder_s_k2 (σ : Nat → Nat → Int32) (pl : Nat) (code : Nat) : M_isOrder_s σ pl code 2 = σ 2 := by
  unfold M_isOrder_s
  by_cases z1 : ((M_isOrder_L12 pl code pl code 0 σ).2.1) = ((1 <<< ((nI pl) &&& 31)) - 1)
  · refine Eq.trans (congrFun (if_pos z1) 2) ?_
    exact M_isOrder_L12_k2 pl code pl code 0 σ
  · refine Eq.trans (congrFun (if_neg z1) 2) ?_
    exact M_isOrder_L12_k2 pl code pl code 0 σ
theorem M_isOrder_s_k3 (σ : Nat → Nat → Int32) (pl : Nat) (code : Nat) : M_isOrder_s σ pl code 3 = σ 3 := by
  unfold M_isOrder_s
  by_cases z1 : ((M_isOrder_L12 pl code pl code 0 σ).2.1) = ((1 <<< ((nI pl) &&& 31)) - 1)
  · refine Eq.trans (congrFun (if_pos z1) 3) ?_
    exact M_isOrder_L12_k3 pl code pl code 0 σ
  · refine Eq.trans (congrFun (if_neg z1) 3) ?_
    exact M_isOrder_L12_k3 pl code pl code 0 σ
theorem M_isOrder_s_k4 (σ : Nat → Nat → Int32) (pl : Nat) (code : Nat) : M_isOrder_s σ pl code 4 = σ 4 := by
  unfold M_isOrder_s
  by_cases z1 : ((M_isOrder_L12 pl code pl code 0 σ).2.1) = ((1 <<< ((nI pl) &&& 31)) - 1)
  · refine Eq.trans (congrFun (if_pos z1) 4) ?_
    exact M_isOrder_L12_k4 pl code pl code 0 σ
  · refine Eq.trans (congrFun (if_neg z1) 4) ?_
    exact M_isOrder_L12_k4 pl code pl code 0 σ
theorem M_isOrder_s_k5 (σ : Nat → Nat → Int32) (pl : Nat) (code : Nat) : M_isOrder_s σ pl code 5 = σ 5 := by
  unfold M_isOrder_s
  by_cases z1 : ((M_isOrder_L12 pl code pl code 0 σ).2.1) = ((1 <<< ((nI pl) &&& 31)) - 1)
  · refine Eq.trans (congrFun (if_pos z1) 5) ?_
    exact M_isOrder_L12_k5 pl code pl code 0 σ
  · refine Eq.trans (congrFun (if_neg z1) 5) ?_
    exact M_isOrder_L12_k5 pl code pl code 0 σ
theorem M_isOrder_s_k6 (σ : Nat → Nat → Int32) (pl : Nat) (code : Nat) : M_isOrder_s σ pl code 6 = σ 6 := by
  unfold M_isOrder_s
  by_cases z1 : ((M_isOrder_L12 pl code pl code 0 σ).2.1) = ((1 <<< ((nI pl) &&& 31)) - 1)
  · refine Eq.trans (congrFun (if_pos z1) 6) ?_
    exact M_isOrder_L12_k6 pl code pl code 0 σ
  · refine Eq.trans (congrFun (if_neg z1) 6) ?_
    exact M_isOrder_L12_k6 pl code pl code 0 σ
theorem M_isOrder_s_k7 (σ : Nat → Nat → Int32) (pl : Nat) (code : Nat) : M_isOrder_s σ pl code 7 = σ 7 := by
  unfold M_isOrder_s
  by_cases z1 : ((M_isOrder_L12 pl code pl code 0 σ).2.1) = ((1 <<< ((nI pl) &&& 31)) - 1)
  · refine Eq.trans (congrFun (if_pos z1) 7) ?_
    exact M_isOrder_L12_k7 pl code pl code 0 σ
  · refine Eq.trans (congrFun (if_neg z1) 7) ?_
    exact M_isOrder_L12_k7 pl code pl code 0 σ
theorem M_isOrder_s_k8 (σ : Nat → Nat → Int32) (pl : Nat) (code : Nat) : M_isOrder_s σ pl code 8 = σ 8 := by
  unfold M_isOrder_s
  by_cases z1 : ((M_isOrder_L12 pl code pl code 0 σ).2.1) = ((1 <<< ((nI pl) &&& 31)) - 1)
  · refine Eq.trans (congrFun (if_pos z1) 8) ?_
    exact M_isOrder_L12_k8 pl code pl code 0 σ
  · refine Eq.trans (congrFun (if_neg z1) 8) ?_
    exact M_isOrder_L12_k8 pl code pl code 0 σ
theorem M_isOrder_s_k9 (σ : Nat → Nat → Int32) (pl : Nat) (code : Nat) : M_isOrder_s σ pl code 9 = σ 9 := by
  unfold M_isOrder_s
  by_cases z1 : ((M_isOrder_L12 pl code pl code 0 σ).2.1) = ((1 <<< ((nI pl) &&& 31)) - 1)
  · refine Eq.trans (congrFun (if_pos z1) 9) ?_
    exact M_isOrder_L12_k9 pl code pl code 0 σ
  · refine Eq.trans (congrFun (if_neg z1) 9) ?_
    exact M_isOrder_L12_k9 pl code pl code 0 σ
theorem M_isOrder_s_k11 (σ : Nat → Nat → Int32) (pl : Nat) (code : Nat) : M_isOrder_s σ pl code 11 = σ 11 := by
  unfold M_isOrder_s
  by_cases z1 : ((M_isOrder_L12 pl code pl code 0 σ).2.1) = ((1 <<< ((nI pl) &&& 31)) - 1)
  · refine Eq.trans (congrFun (if_pos z1) 11) ?_
    exact M_isOrder_L12_k11 pl code pl code 0 σ
  · refine Eq.trans (congrFun (if_neg z1) 11) ?_
    exact M_isOrder_L12_k11 pl code pl code 0 σ
theorem M_isOrder_s_k12 (σ : Nat → Nat → Int32) (pl : Nat) (code : Nat) : M_isOrder_s σ pl code 12 = σ 12 := by
  unfold M_isOrder_s
  by_cases z1 : ((M_isOrder_L12 pl code pl code 0 σ).2.1) = ((1 <<< ((nI pl) &&& 31)) - 1)
  · refine Eq.trans (congrFun (if_pos z1) 12) ?_
    exact M_isOrder_L12_k12 pl code pl code 0 σ
  · refine Eq.trans (congrFun (if_neg z1) 12) ?_
    exact M_isOrder_L12_k12 pl code pl code 0 σ
theorem M_isOrder_s_k13 (σ : Nat → Nat → Int32) (pl : Nat) (code : Nat) : M_isOrder_s σ pl code 13 = σ 13 := by
  unfold M_isOrder_s
  by_cases z1 : ((M_isOrder_L12 pl code pl code 0 σ).2.1) = ((1 <<< ((nI pl) &&& 31)) - 1)
  · refine Eq.trans (congrFun (if_pos z1) 13) ?_
    exact M_isOrder_L12_k13 pl code pl code 0 σ
  · refine Eq.trans (congrFun (if_neg z1) 13) ?_
    exact M_isOrder_L12_k13 pl code pl code 0 σ
theorem M_isOrder_s_k14 (σ : Nat → Nat → Int32) (pl : Nat) (code : Nat) : M_isOrder_s σ pl code 14 = σ 14 := by
  unfold M_isOrder_s
  by_cases z1 : ((M_isOrder_L12 pl code pl code 0 σ).2.1) = ((1 <<< ((nI pl) &&& 31)) - 1)
  · refine Eq.trans (congrFun (if_pos z1) 14) ?_
    exact M_isOrder_L12_k14 pl code pl code 0 σ
  · refine Eq.trans (congrFun (if_neg z1) 14) ?_
    exact M_isOrder_L12_k14 pl code pl code 0 σ
theorem M_isOrder_s_k15 (σ : Nat → Nat → Int32) (pl : Nat) (code : Nat) : M_isOrder_s σ pl code 15 = σ 15 := by
  unfold M_isOrder_s
  by_cases z1 : ((M_isOrder_L12 pl code pl code 0 σ).2.1) = ((1 <<< ((nI pl) &&& 31)) - 1)
  · refine Eq.trans (congrFun (if_pos z1) 15) ?_
    exact M_isOrder_L12_k15 pl code pl code 0 σ
  · refine Eq.trans (congrFun (if_neg z1) 15) ?_
    exact M_isOrder_L12_k15 pl code pl code 0 σ
theorem M_isOrder_s_k16 (σ : Nat → Nat → Int32) (pl : Nat) (code : Nat) : M_isOrder_s σ pl code 16 = σ 16 := by
  unfold M_isOrder_s
  by_cases z1 : ((M_isOrder_L12 pl code pl code 0 σ).2.1) = ((1 <<< ((nI pl) &&& 31)) - 1)
  · refine Eq.trans (congrFun (if_pos z1) 16) ?_
    exact M_isOrder_L12_k16 pl code pl code 0 σ
  · refine Eq.trans (congrFun (if_neg z1) 16) ?_
    exact M_isOrder_L12_k16 pl code pl code 0 σ
theorem M_isOrder_s_k17 (σ : Nat → Nat → Int32) (pl : Nat) (code : Nat) : M_isOrder_s σ pl code 17 = σ 17 := by
  unfold M_isOrder_s
  by_cases z1 : ((M_isOrder_L12 pl code pl code 0 σ).2.1) = ((1 <<< ((nI pl) &&& 31)) - 1)
  · refine Eq.trans (congrFun (if_pos z1) 17) ?_
    exact M_isOrder_L12_k17 pl code pl code 0 σ
  · refine Eq.trans (congrFun (if_neg z1) 17) ?_
    exact M_isOrder_L12_k17 pl code pl code 0 σ
theorem M_isOrder_s_k18 (σ : Nat → Nat → Int32) (pl : Nat) (code : Nat) : M_isOrder_s σ pl code 18 = σ 18 := by
  unfold M_isOrder_s
  by_cases z1 : ((M_isOrder_L12 pl code pl code 0 σ).2.1) = ((1 <<< ((nI pl) &&& 31)) - 1)
  · refine Eq.trans (congrFun (if_pos z1) 18) ?_
    exact M_isOrder_L12_k18 pl code pl code 0 σ
  · refine Eq.trans (congrFun (if_neg z1) 18) ?_
    exact M_isOrder_L12_k18 pl code pl code 0 σ
theorem M_isOrder_s_k19 (σ : Nat → Nat → Int32) (pl : Nat) (code : Nat) : M_isOrder_s σ pl code 19 = σ 19 := by
  unfold M_isOrder_s
  by_cases z1 : ((M_isOrder_L12 pl code pl code 0 σ).2.1) = ((1 <<< ((nI pl) &&& 31)) - 1)
  · refine Eq.trans (congrFun (if_pos z1) 19) ?_
    exact M_isOrder_L12_k19 pl code pl code 0 σ
  · refine Eq.trans (congrFun (if_neg z1) 19) ?_
    exact M_isOrder_L12_k19 pl code pl code 0 σ
set_option maxHeartbeats 4000000 in
set_option maxRecDepth 100000 in
theorem c_M_isOrder (l : Launch) (D : va_G) (cI : ClassId) (a : Nat → Nat) (σ : Nat → Nat → Int32) (h : Int64) (pl : Nat) (code : Nat) (hp0 : σ 0 15 = nI pl) (hp0b : pl ≤ 4) (hcode : code < 256) : gI l D [(cI, .int)] yX12_isOrder wsX12_isOrder 1 [.ref (a 0), .int (nI code)] (wM cI a σ h) (M_isOrder_r σ pl code) (wM cI a (M_isOrder_s σ pl code) h) := by
  refine g_start (cc := cX12_isOrder) (maxL := 5) (ret := some .boolean) (Qc := gQi D [(cI, .int)] (M_isOrder_r σ pl code) (wM cI a (M_isOrder_s σ pl code) h)) (by decide) rfl (Nat.le_of_ble_eq_true rfl) ?_
  intro p e s m below meth C A ls S hr hlk hw hl
  obtain ⟨hx, hb, hml, hown, hts⟩ := id S
  have hinX12 : ∀ x ∈ u_ws RX12 TX12 38, x ∈ wsX12_isOrder := fun x h => List.mem_cons_of_mem _ (List.mem_append_right _ h)
  have lk0 : Cond.fieldLink RX12 117 "CowsOwedModel" "plans" "I" ∈ wsX12_isOrder := by decide +kernel
  have lk1 : Cond.fieldLink RX12 37 "CowsOwedModel" "row" "[I" ∈ wsX12_isOrder := by decide +kernel
  have hl : lv_has ls 5 [(0, .ref (a 0)), (1, .int (nI code))] := hl
  refine lv_iload_n hx hb dX12_isOrder_0 rfl (lv_at hl 1 rfl) ?_
  refine lv_istore_n (lv' := [(2, .int (nI code)), (0, .ref (a 0)), (1, .int (nI code))]) hx hb dX12_isOrder_1 rfl hl (by decide) rfl (fun ls hl => ?_)
  refine lv_iconst (v := 0) hx hb dX12_isOrder_2 (by decide) ?_
  refine lv_istore_n (lv' := [(3, .int 0), (2, .int (nI code)), (0, .ref (a 0)), (1, .int (nI code))]) hx hb dX12_isOrder_3 rfl hl (by decide) rfl (fun ls hl => ?_)
  refine lv_aload_n hx hb dX12_isOrder_4 rfl (lv_at hl 2 rfl) ?_
  refine g_get S hw hinX12 (fs := fM a σ h) 0 rfl rfl 15 (by decide) lk0 (v := .int (nI pl)) (congrArg (fun z => some (Value.int z)) (hp0)) dX12_isOrder_5 ?_
  refine lv_iconst (v := 1) hx hb dX12_isOrder_8 (by decide) ?_
  refine lv_isub hx hb dX12_isOrder_9 ?_
  refine lv_istore (lv' := [(4, .int ((nI pl) - 1)), (3, .int 0), (2, .int (nI code)), (0, .ref (a 0)), (1, .int (nI code))]) hx hb dX12_isOrder_10 hl (by decide) rfl (fun ls hl => ?_)
  have L12 : ∀ (m12 : Nat) (x12_2 : Nat) (x12_3 : Int32) (σ12 : Nat → Nat → Int32) (H : Heap) (locs : List Loc) (ls : Array Slot), m12 ≤ pl → σ12 0 = σ 0 → x12_2 < 256 → M_isOrder_L12 pl code m12 x12_2 x12_3 σ12 = M_isOrder_L12 pl code pl code 0 σ → gw D [(cI, .int)] A s H locs (wM cI a σ12 h) → lv_has ls 5 [(4, .int (nI m12 - 1)), (3, .int x12_3), (2, .int (nI x12_2)), (0, .ref (a 0)), (1, .int (nI code))] → W p l e (gR 1) s m ([.ref (a 0), .int (nI code)] : List Value).toArray below meth C H locs 0 0 (MQ below (gQi D [(cI, .int)] (M_isOrder_r σ pl code) (wM cI a (M_isOrder_s σ pl code) h) A) ([.ref (a 0), .int (nI code)] : List Value).toArray s 0 0 A) (F0 m 12 ls []) := by
    intro m12
    induction m12 with
    | zero =>
      intro x12_2 x12_3 σ12 H locs ls hi12 k12_0 hv hF12 hw hl
      have e12_0 : (M_isOrder_L12 pl code pl code 0 σ).1 = x12_2 := (congrArg (fun z => z.1) hF12).symm
      have e12_1 : (M_isOrder_L12 pl code pl code 0 σ).2.1 = x12_3 := (congrArg (fun z => z.2.1) hF12).symm
      have e12_2 : (M_isOrder_L12 pl code pl code 0 σ).2.2 = σ12 := (congrArg (fun z => z.2.2) hF12).symm
      subst e12_0
      subst e12_1
      subst e12_2
      refine lv_iload hx hb dX12_isOrder_12 (lv_at hl 0 rfl) ?_
      refine lv_if_lt hx hb (tgt := 55) dX12_isOrder_14 (by decide) (fun c_x => ?_) (fun c_x => absurd (by decide) c_x)
      refine lv_iload_n hx hb dX12_isOrder_55 rfl (lv_at hl 1 rfl) ?_
      refine lv_iconst (v := 1) hx hb dX12_isOrder_56 (by decide) ?_
      refine lv_aload_n hx hb dX12_isOrder_57 rfl (lv_at hl 3 rfl) ?_
      refine g_get S hw hinX12 (fs := fM a ((M_isOrder_L12 pl code pl code 0 σ).2.2) h) 0 rfl rfl 15 (by decide) lk0 (v := .int (nI pl)) (congrArg (fun z => some (Value.int z)) ((congrFun (M_isOrder_L12_k0 pl code pl code 0 σ) 15).trans (hp0))) dX12_isOrder_58 ?_
      refine lv_ishl hx hb dX12_isOrder_61 ?_
      refine lv_iconst (v := 1) hx hb dX12_isOrder_62 (by decide) ?_
      refine lv_isub hx hb dX12_isOrder_63 ?_
      refine lv_icmp_ne hx hb (tgt := 71) dX12_isOrder_64 (by decide) (fun c_3 => ?_) (fun c_3 => ?_)
      · refine lv_iconst (v := 0) hx hb dX12_isOrder_71 (by decide) ?_
        exact g_zret S hr hlk hw (by decide) (by simp only [M_isOrder_r, if_neg c_3]) (by simp only [M_isOrder_s, if_neg c_3]) dX12_isOrder_72
      · refine lv_iconst (v := 1) hx hb dX12_isOrder_67 (by decide) ?_
        refine lv_goto (tgt := 72) hx hb dX12_isOrder_68 (by decide) ?_
        exact g_zret S hr hlk hw (by decide) (by simp only [M_isOrder_r, if_pos c_3]) (by simp only [M_isOrder_s, if_pos c_3]) dX12_isOrder_72
    | succ m12 ih12 =>
      intro x12_2 x12_3 σ12 H locs ls hi12 k12_0 hv hF12 hw hl
      have hl : lv_has ls 5 [(4, .int (nI m12)), (3, .int x12_3), (2, .int (nI x12_2)), (0, .ref (a 0)), (1, .int (nI code))] := by rw [← nI_pred m12]; exact hl
      refine lv_iload hx hb dX12_isOrder_12 (lv_at hl 0 rfl) ?_
      refine ln_iflt (x := m12) hx hb (by omega) (tgt := 55) dX12_isOrder_14 (by decide) (fun c_x => absurd c_x (Nat.not_lt_zero _)) (fun c_x => ?_)
      refine lv_aload_n hx hb dX12_isOrder_17 rfl (lv_at hl 3 rfl) ?_
      refine g_get S hw hinX12 (fs := fM a σ12 h) 0 rfl rfl 19 (by decide) lk1 (v := .ref (a 10)) rfl dX12_isOrder_18 ?_
      refine lv_iload hx hb dX12_isOrder_21 (lv_at hl 0 rfl) ?_
      refine lv_iload_n hx hb dX12_isOrder_23 rfl (lv_at hl 2 rfl) ?_
      refine lv_aload_n hx hb dX12_isOrder_24 rfl (lv_at hl 3 rfl) ?_
      refine g_get S hw hinX12 (fs := fM a σ12 h) 0 rfl rfl 15 (by decide) lk0 (v := .int (nI pl)) (congrArg (fun z => some (Value.int z)) ((congrFun k12_0 15).trans (hp0))) dX12_isOrder_25 ?_
      refine ln_irem (x := x12_2) (y := pl) hx hb (by omega) (by omega) (by omega) dX12_isOrder_28 ?_
      refine g_iast S hw (f := σ12 10) (i := m12) 10 0 rfl rfl (by omega) (by decide) (w2 := wM cI a (up2 σ12 10 m12 (nI (x12_2 % pl))) h) (wM_a10 _ _ _ _ _ _) dX12_isOrder_29 (fun H locs hw => ?_)
      refine lv_iload_n hx hb dX12_isOrder_30 rfl (lv_at hl 1 rfl) ?_
      refine lv_iconst (v := 1) hx hb dX12_isOrder_31 (by decide) ?_
      refine lv_aload_n hx hb dX12_isOrder_32 rfl (lv_at hl 3 rfl) ?_
      refine g_get S hw hinX12 (fs := fM a (up2 σ12 10 m12 (nI (x12_2 % pl))) h) 0 rfl rfl 19 (by decide) lk1 (v := .ref (a 10)) rfl dX12_isOrder_33 ?_
      refine lv_iload hx hb dX12_isOrder_36 (lv_at hl 0 rfl) ?_
      refine g_iald S hw (f := (up2 σ12 10 m12 (nI (x12_2 % pl))) 10) (i := m12) (x := nI (x12_2 % pl)) 10 0 rfl rfl (by omega) (by decide) up2_rs dX12_isOrder_38 ?_
      refine lv_ishl hx hb dX12_isOrder_39 ?_
      refine lv_ior hx hb dX12_isOrder_40 ?_
      refine lv_istore_n (lv' := [(3, .int (x12_3 ||| (1 <<< ((nI (x12_2 % pl)) &&& 31)))), (4, .int (nI m12)), (2, .int (nI x12_2)), (0, .ref (a 0)), (1, .int (nI code))]) hx hb dX12_isOrder_41 rfl hl (by decide) rfl (fun ls hl => ?_)
      refine lv_iload_n hx hb dX12_isOrder_42 rfl (lv_at hl 2 rfl) ?_
      refine lv_aload_n hx hb dX12_isOrder_43 rfl (lv_at hl 3 rfl) ?_
      refine g_get S hw hinX12 (fs := fM a (up2 σ12 10 m12 (nI (x12_2 % pl))) h) 0 rfl rfl 15 (by decide) lk0 (v := .int (nI pl)) (congrArg (fun z => some (Value.int z)) ((up2_rn (by decide)).trans ((congrFun k12_0 15).trans (hp0)))) dX12_isOrder_44 ?_
      refine ln_idiv (x := x12_2) (y := pl) hx hb (by omega) (by omega) (by omega) dX12_isOrder_47 ?_
      refine lv_istore_n (lv' := [(2, .int (nI (x12_2 / pl))), (3, .int (x12_3 ||| (1 <<< ((nI (x12_2 % pl)) &&& 31)))), (4, .int (nI m12)), (0, .ref (a 0)), (1, .int (nI code))]) hx hb dX12_isOrder_48 rfl hl (by decide) rfl (fun ls hl => ?_)
      refine lv_iinc (v := nI m12 - 1) (lv' := [(4, .int (nI m12 - 1)), (2, .int (nI (x12_2 / pl))), (3, .int (x12_3 ||| (1 <<< ((nI (x12_2 % pl)) &&& 31)))), (0, .ref (a 0)), (1, .int (nI code))]) hx hb dX12_isOrder_49 hl (k := 2) rfl (g_dec1 _) (by decide) rfl (fun ls hl => ?_)
      refine lv_goto (tgt := 12) hx hb dX12_isOrder_52 (by decide) ?_
      exact ih12 (x12_2 / pl) (x12_3 ||| (1 <<< ((nI (x12_2 % pl)) &&& 31))) (up2 σ12 10 m12 (nI (x12_2 % pl))) _ _ _ (by omega) ((up2_n _ _ _ (by decide)).trans (k12_0)) (Nat.lt_of_le_of_lt (Nat.div_le_self _ _) hv) hF12 hw (lv_sub hl [0, 2, 1, 3, 4] rfl)
  exact L12 pl code 0 σ _ _ _ (Nat.le_refl _) rfl (hcode) rfl hw (lv_sub hl [0, 1, 2, 3, 4] rfl)
