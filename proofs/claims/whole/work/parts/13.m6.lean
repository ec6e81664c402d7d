def M_layOrder_S4_0 (σ : Nat → Nat → Int32) (pl : Nat) (i4 : Nat) (x4_1 : Nat) : Nat := x4_1 * pl
def M_layOrder_L4 (σ : Nat → Nat → Int32) (pl : Nat) : Nat → Nat → (Nat) → (Nat)
  | 0, _, x4_1 => x4_1
  | n4 + 1, i4, x4_1 => M_layOrder_L4 σ pl n4 (i4 + 1) (M_layOrder_S4_0 σ pl i4 x4_1)
def M_layOrder_S49_0 (pl : Nat) (i33 : Nat) (x33_2 : Int32) (y49_1 : Nat) (i49 : Nat) (σ49 : Nat → Nat → Int32) : Nat → Nat → Int32 := M_marry_s σ49 ((σ49 7 (2 * ((σ49 10 i49).toNatClampNeg))).toNatClampNeg) ((σ49 7 ((2 * ((σ49 10 i49).toNatClampNeg)) + 1)).toNatClampNeg) (σ49 0 7)
def M_layOrder_L49 (pl : Nat) (i33 : Nat) (x33_2 : Int32) (y49_1 : Nat) : Nat → Nat → (Nat → Nat → Int32) → (Nat → Nat → Int32)
  | 0, _, σ49 => σ49
  | n49 + 1, i49, σ49 => M_layOrder_L49 pl i33 x33_2 y49_1 n49 (i49 + 1) (M_layOrder_S49_0 pl i33 x33_2 y49_1 i49 σ49)
theorem M_layOrder_S49_k0 (pl : Nat) (i33 : Nat) (x33_2 : Int32) (y49_1 : Nat) (i49 : Nat) (σ49 : Nat → Nat → Int32) : M_layOrder_S49_0 pl i33 x33_2 y49_1 i49 σ49 0 = σ49 0 := by
  unfold M_layOrder_S49_0
  exact M_marry_s_k0 σ49 ((σ49 7 (2 * ((σ49 10 i49).toNatClampNeg))).toNatClampNeg) ((σ49 7 ((2 * ((σ49 10 i49).toNatClampNeg)) + 1)).toNatClampNeg) (σ49 0 7)
theorem M_layOrder_L49_k0 (pl : Nat) (i33 : Nat) (x33_2 : Int32) (y49_1 : Nat) : ∀ (n49 i49 : Nat) (σ49 : Nat → Nat → Int32), (M_layOrder_L49 pl i33 x33_2 y49_1 n49 i49 σ49) 0 = σ49 0 := by
  intro n49
  induction n49 with
  | zero => intros; rfl
  | succ n49 ih => intro i49 σ49; exact (ih (i49 + 1) (M_layOrder_S49_0 pl i33 x33_2 y49_1 i49 σ49)).trans (M_layOrder_S49_k0 pl i33 x33_2 y49_1 i49 σ49)
theorem M_layOrder_S49_k1 (pl : Nat) (i33 : Nat) (x33_2 : Int32) (y49_1 : Nat) (i49 : Nat) (σ49 : Nat → Nat → Int32) : M_layOrder_S49_0 pl i33 x33_2 y49_1 i49 σ49 1 = σ49 1 := by
  unfold M_layOrder_S49_0
  exact M_marry_s_k1 σ49 ((σ49 7 (2 * ((σ49 10 i49).toNatClampNeg))).toNatClampNeg) ((σ49 7 ((2 * ((σ49 10 i49).toNatClampNeg)) + 1)).toNatClampNeg) (σ49 0 7)
theorem M_layOrder_L49_k1 (pl : Nat) (i33 : Nat) (x33_2 : Int32) (y49_1 : Nat) : ∀ (n49 i49 : Nat) (σ49 : Nat → Nat → Int32), (M_layOrder_L49 pl i33 x33_2 y49_1 n49 i49 σ49) 1 = σ49 1 := by
  intro n49
  induction n49 with
  | zero => intros; rfl
  | succ n49 ih => intro i49 σ49; exact (ih (i49 + 1) (M_layOrder_S49_0 pl i33 x33_2 y49_1 i49 σ49)).trans (M_layOrder_S49_k1 pl i33 x33_2 y49_1 i49 σ49)
theorem M_layOrder_S49_k2 (pl : Nat) (i33 : Nat) (x33_2 : Int32) (y49_1 : Nat) (i49 : Nat) (σ49 : Nat → Nat → Int32) : M_layOrder_S49_0 pl i33 x33_2 y49_1 i49 σ49 2 = σ49 2 := by
  unfold M_layOrder_S49_0
  exact M_marry_s_k2 σ49 ((σ49 7 (2 * ((σ49 10 i49).toNatClampNeg))).toNatClampNeg) ((σ49 7 ((2 * ((σ49 10 i49).toNatClampNeg)) + 1)).toNatClampNeg) (σ49 0 7)
theorem M_layOrder_L49_k2 (pl : Nat) (i33 : Nat) (x33_2 : Int32) (y49_1 : Nat) : ∀ (n49 i49 : Nat) (σ49 : Nat → Nat → Int32), (M_layOrder_L49 pl i33 x33_2 y49_1 n49 i49 σ49) 2 = σ49 2 := by
  intro n49
  induction n49 with
  | zero => intros; rfl
  | succ n49 ih => intro i49 σ49; exact (ih (i49 + 1) (M_layOrder_S49_0 pl i33 x33_2 y49_1 i49 σ49)).trans (M_layOrder_S49_k2 pl i33 x33_2 y49_1 i49 σ49)
theorem M_layOrder_S49_k3 (pl : Nat) (i33 : Nat) (x33_2 : Int32) (y49_1 : Nat) (i49 : Nat) (σ49 : Nat → Nat → Int32) : M_layOrder_S49_0 pl i33 x33_2 y49_1 i49 σ49 3 = σ49 3 := by
  unfold M_layOrder_S49_0
  exact M_marry_s_k3 σ49 ((σ49 7 (2 * ((σ49 10 i49).toNatClampNeg))).toNatClampNeg) ((σ49 7 ((2 * ((σ49 10 i49).toNatClampNeg)) + 1)).toNatClampNeg) (σ49 0 7)
theorem M_layOrder_L49_k3 (pl : Nat) (i33 : Nat) (x33_2 : Int32) (y49_1 : Nat) : ∀ (n49 i49 : Nat) (σ49 : Nat → Nat → Int32), (M_layOrder_L49 pl i33 x33_2 y49_1 n49 i49 σ49) 3 = σ49 3 := by
  intro n49
  induction n49 with
  | zero => intros; rfl
  | succ n49 ih => intro i49 σ49; exact (ih (i49 + 1) (M_layOrder_S49_0 pl i33 x33_2 y49_1 i49 σ49)).trans (M_layOrder_S49_k3 pl i33 x33_2 y49_1 i49 σ49)
theorem M_layOrder_S49_k6 (pl : Nat) (i33 : Nat) (x33_2 : Int32) (y49_1 : Nat) (i49 : Nat) (σ49 : Nat → Nat → Int32) : M_layOrder_S49_0 pl i33 x33_2 y49_1 i49 σ49 6 = σ49 6 := by
  unfold M_layOrder_S49_0
  exact M_marry_s_k6 σ49 ((σ49 7 (2 * ((σ49 10 i49).toNatClampNeg))).toNatClampNeg) ((σ49 7 ((2 * ((σ49 10 i49).toNatClampNeg)) + 1)).toNatClampNeg) (σ49 0 7)
theorem M_layOrder_L49_k6 (pl : Nat) (i33 : Nat) (x33_2 : Int32) (y49_1 : Nat) : ∀ (n49 i49 : Nat) (σ49 : Nat → Nat → Int32), (M_layOrder_L49 pl i33 x33_2 y49_1 n49 i49 σ49) 6 = σ49 6 := by
  intro n49
  induction n49 with
  | zero => intros; rfl
  | succ n49 ih => intro i49 σ49; exact (ih (i49 + 1) (M_layOrder_S49_0 pl i33 x33_2 y49_1 i49 σ49)).trans (M_layOrder_S49_k6 pl i33 x33_2 y49_1 i49 σ49)
theorem M_layOrder_S49_k7 (pl : Nat) (i33 : Nat) (x33_2 : Int32) (y49_1 : Nat) (i49 : Nat) (σ49 : Nat → Nat → Int32) : M_layOrder_S49_0 pl i33 x33_2 y49_1 i49 σ49 7 = σ49 7 := by
  unfold M_layOrder_S49_0
  exact M_marry_s_k7 σ49 ((σ49 7 (2 * ((σ49 10 i49).toNatClampNeg))).toNatClampNeg) ((σ49 7 ((2 * ((σ49 10 i49).toNatClampNeg)) + 1)).toNatClampNeg) (σ49 0 7)
theorem M_layOrder_L49_k7 (pl : Nat) (i33 : Nat) (x33_2 : Int32) (y49_1 : Nat) : ∀ (n49 i49 : Nat) (σ49 : Nat → Nat → Int32), (M_layOrder_L49 pl i33 x33_2 y49_1 n49 i49 σ49) 7 = σ49 7 := by
  intro n49
  induction n49 with
  | zero => intros; rfl
  | succ n49 ih => intro i49 σ49; exact (ih (i49 + 1) (M_layOrder_S49_0 pl i33 x33_2 y49_1 i49 σ49)).trans (M_layOrder_S49_k7 pl i33 x33_2 y49_1 i49 σ49)
theorem M_layOrder_S49_k8 (pl : Nat) (i33 : Nat) (x33_2 : Int32) (y49_1 : Nat) (i49 : Nat) (σ49 : Nat → Nat → Int32) : M_layOrder_S49_0 pl i33 x33_2 y49_1 i49 σ49 8 = σ49 8 := by
  unfold M_layOrder_S49_0
  exact M_marry_s_k8 σ49 ((σ49 7 (2 * ((σ49 10 i49).toNatClampNeg))).toNatClampNeg) ((σ49 7 ((2 * ((σ49 10 i49).toNatClampNeg)) + 1)).toNatClampNeg) (σ49 0 7)
theorem M_layOrder_L49_k8 (pl : Nat) (i33 : Nat) (x33_2 : Int32) (y49_1 : Nat) : ∀ (n49 i49 : Nat) (σ49 : Nat → Nat → Int32), (M_layOrder_L49 pl i33 x33_2 y49_1 n49 i49 σ49) 8 = σ49 8 := by
  intro n49
  induction n49 with
  | zero => intros; rfl
  | succ n49 ih => intro i49 σ49; exact (ih (i49 + 1) (M_layOrder_S49_0 pl i33 x33_2 y49_1 i49 σ49)).trans (M_layOrder_S49_k8 pl i33 x33_2 y49_1 i49 σ49)
theorem M_layOrder_S49_k9 (pl : Nat) (i33 : Nat) (x33_2 : Int32) (y49_1 : Nat) (i49 : Nat) (σ49 : Nat → Nat → Int32) : M_layOrder_S49_0 pl i33 x33_2 y49_1 i49 σ49 9 = σ49 9 := by
  unfold M_layOrder_S49_0
  exact M_marry_s_k9 σ49 ((σ49 7 (2 * ((σ49 10 i49).toNatClampNeg))).toNatClampNeg) ((σ49 7 ((2 * ((σ49 10 i49).toNatClampNeg)) + 1)).toNatClampNeg) (σ49 0 7)
theorem M_layOrder_L49_k9 (pl : Nat) (i33 : Nat) (x33_2 : Int32) (y49_1 : Nat) : ∀ (n49 i49 : Nat) (σ49 : Nat → Nat → Int32), (M_layOrder_L49 pl i33 x33_2 y49_1 n49 i49 σ49) 9 = σ49 9 := by
  intro n49
  induction n49 with
  | zero => intros; rfl
  | succ n49 ih => intro i49 σ49; exact (ih (i49 + 1) (M_layOrder_S49_0 pl i33 x33_2 y49_1 i49 σ49)).trans (M_layOrder_S49_k9 pl i33 x33_2 y49_1 i49 σ49)
theorem M_layOrder_S49_k10 (pl : Nat) (i33 : Nat) (x33_2 : Int32) (y49_1 : Nat) (i49 : Nat) (σ49 : Nat → Nat → Int32) : M_layOrder_S49_0 pl i33 x33_2 y49_1 i49 σ49 10 = σ49 10 := by
  unfold M_layOrder_S49_0
  exact M_marry_s_k10 σ49 ((σ49 7 (2 * ((σ49 10 i49).toNatClampNeg))).toNatClampNeg) ((σ49 7 ((2 * ((σ49 10 i49).toNatClampNeg)) + 1)).toNatClampNeg) (σ49 0 7)
theorem M_layOrder_L49_k10 (pl : Nat) (i33 : Nat) (x33_2 : Int32) (y49_1 : Nat) : ∀ (n49 i49 : Nat) (σ49 : Nat → Nat → Int32), (M_layOrder_L49 pl i33 x33_2 y49_1 n49 i49 σ49) 10 = σ49 10 := by
  intro n49
  induction n49 with
  | zero => intros; rfl
  | succ n49 ih => intro i49 σ49; exact (ih (i49 + 1) (M_layOrder_S49_0 pl i33 x33_2 y49_1 i49 σ49)).trans (M_layOrder_S49_k10 pl i33 x33_2 y49_1 i49 σ49)
theorem M_layOrder_S49_k11 (pl : Nat) (i33 : Nat) (x33_2 : Int32) (y49_1 : Nat) (i49 : Nat) (σ49 : Nat → Nat → Int32) : M_layOrder_S49_0 pl i33 x33_2 y49_1 i49 σ49 11 = σ49 11 := by
  unfold M_layOrder_S49_0
  exact M_marry_s_k11 σ49 ((σ49 7 (2 * ((σ49 10 i49).toNatClampNeg))).toNatClampNeg) ((σ49 7 ((2 * ((σ49 10 i49).toNatClampNeg)) + 1)).toNatClampNeg) (σ49 0 7)
theorem M_layOrder_L49_k11 (pl : Nat) (i33 : Nat) (x33_2 : Int32) (y49_1 : Nat) : ∀ (n49 i49 : Nat) (σ49 : Nat → Nat → Int32), (M_layOrder_L49 pl i33 x33_2 y49_1 n49 i49 σ49) 11 = σ49 11 := by
  intro n49
  induction n49 with
  | zero => intros; rfl
  | succ n49 ih => intro i49 σ49; exact (ih (i49 + 1) (M_layOrder_S49_0 pl i33 x33_2 y49_1 i49 σ49)).trans (M_layOrder_S49_k11 pl i33 x33_2 y49_1 i49 σ49)
theorem M_layOrder_S49_k12 (pl : Nat) (i33 : Nat) (x33_2 : Int32) (y49_1 : Nat) (i49 : Nat) (σ49 : Nat → Nat → Int32) : M_layOrder_S49_0 pl i33 x33_2 y49_1 i49 σ49 12 = σ49 12 := by
  unfold M_layOrder_S49_0
  exact M_marry_s_k12 σ49 ((σ49 7 (2 * ((σ49 10 i49).toNatClampNeg))).toNatClampNeg) ((σ49 7 ((2 * ((σ49 10 i49).toNatClampNeg)) + 1)).toNatClampNeg) (σ49 0 7)
theorem M_layOrder_L49_k12 (pl : Nat) (i33 : Nat) (x33_2 : Int32) (y49_1 : Nat) : ∀ (n49 i49 : Nat) (σ49 : Nat → Nat → Int32), (M_layOrder_L49 pl i33 x33_2 y49_1 n49 i49 σ49) 12 = σ49 12 := by
  intro n49
  induction n49 with
  | zero => intros; rfl
  | succ n49 ih => intro i49 σ49; exact (ih (i49 + 1) (M_layOrder_S49_0 pl i33 x33_2 y49_1 i49 σ49)).trans (M_layOrder_S49_k12 pl i33 x33_2 y49_1 i49 σ49)
theorem M_layOrder_S49_k13 (pl : Nat) (i33 : Nat) (x33_2 : Int32) (y49_1 : Nat) (i49 : Nat) (σ49 : Nat → Nat → Int32) : M_layOrder_S49_0 pl i33 x33_2 y49_1 i49 σ49 13 = σ49 13 := by
  unfold M_layOrder_S49_0
  exact M_marry_s_k13 σ49 ((σ49 7 (2 * ((σ49 10 i49).toNatClampNeg))).toNatClampNeg) ((σ49 7 ((2 * ((σ49 10 i49).toNatClampNeg)) + 1)).toNatClampNeg) (σ49 0 7)
theorem M_layOrder_L49_k13 (pl : Nat) (i33 : Nat) (x33_2 : Int32) (y49_1 : Nat) : ∀ (n49 i49 : Nat) (σ49 : Nat → Nat → Int32), (M_layOrder_L49 pl i33 x33_2 y49_1 n49 i49 σ49) 13 = σ49 13 := by
  intro n49
  induction n49 with
  | zero => intros; rfl
  | succ n49 ih => intro i49 σ49; exact (ih (i49 + 1) (M_layOrder_S49_0 pl i33 x33_2 y49_1 i49 σ49)).trans (M_layOrder_S49_k13 pl i33 x33_2 y49_1 i49 σ49)
theorem M_layOrder_S49_k14 (pl : Nat) (i33 : Nat) (x33_2 : Int32) (y49_1 : Nat) (i49 : Nat) (σ49 : Nat → Nat → Int32) : M_layOrder_S49_0 pl i33 x33_2 y49_1 i49 σ49 14 = σ49 14 := by
  unfold M_layOrder_S49_0
  exact M_marry_s_k14 σ49 ((σ49 7 (2 * ((σ49 10 i49).toNatClampNeg))).toNatClampNeg) ((σ49 7 ((2 * ((σ49 10 i49).toNatClampNeg)) + 1)).toNatClampNeg) (σ49 0 7)
theorem M_layOrder_L49_k14 (pl : Nat) (i33 : Nat) (x33_2 : Int32) (y49_1 : Nat) : ∀ (n49 i49 : Nat) (σ49 : Nat → Nat → Int32), (M_layOrder_L49 pl i33 x33_2 y49_1 n49 i49 σ49) 14 = σ49 14 := by
  intro n49
  induction n49 with
  | zero => intros; rfl
  | succ n49 ih => intro i49 σ49; exact (ih (i49 + 1) (M_layOrder_S49_0 pl i33 x33_2 y49_1 i49 σ49)).trans (M_layOrder_S49_k14 pl i33 x33_2 y49_1 i49 σ49)
theorem M_layOrder_S49_k15 (pl : Nat) (i33 : Nat) (x33_2 : Int32) (y49_1 : Nat) (i49 : Nat) (σ49 : Nat → Nat → Int32) : M_layOrder_S49_0 pl i33 x33_2 y49_1 i49 σ49 15 = σ49 15 := by
  unfold M_layOrder_S49_0
  exact M_marry_s_k15 σ49 ((σ49 7 (2 * ((σ49 10 i49).toNatClampNeg))).toNatClampNeg) ((σ49 7 ((2 * ((σ49 10 i49).toNatClampNeg)) + 1)).toNatClampNeg) (σ49 0 7)
theorem M_layOrder_L49_k15 (pl : Nat) (i33 : Nat) (x33_2 : Int32) (y49_1 : Nat) : ∀ (n49 i49 : Nat) (σ49 : Nat → Nat → Int32), (M_layOrder_L49 pl i33 x33_2 y49_1 n49 i49 σ49) 15 = σ49 15 := by
  intro n49
  induction n49 with
  | zero => intros; rfl
  | succ n49 ih => intro i49 σ49; exact (ih (i49 + 1) (M_layOrder_S49_0 pl i33 x33_2 y49_1 i49 σ49)).trans (M_layOrder_S49_k15 pl i33 x33_2 y49_1 i49 σ49)
theorem M_layOrder_S49_k16 (pl : Nat) (i33 : Nat) (x33_2 : Int32) (y49_1 : Nat) (i49 : Nat) (σ49 : Nat → Nat → Int32) : M_layOrder_S49_0 pl i33 x33_2 y49_1 i49 σ49 16 = σ49 16 := by
  unfold M_layOrder_S49_0
  exact M_marry_s_k16 σ49 ((σ49 7 (2 * ((σ49 10 i49).toNatClampNeg))).toNatClampNeg) ((σ49 7 ((2 * ((σ49 10 i49).toNatClampNeg)) + 1)).toNatClampNeg) (σ49 0 7)
theorem M_layOrder_L49_k16 (pl : Nat) (i33 : Nat) (x33_2 : Int32) (y49_1 : Nat) : ∀ (n49 i49 : Nat) (σ49 : Nat → Nat → Int32), (M_layOrder_L49 pl i33 x33_2 y49_1 n49 i49 σ49) 16 = σ49 16 := by
  intro n49
  induction n49 with
  | zero => intros; rfl
  | succ n49 ih => intro i49 σ49; exact (ih (i49 + 1) (M_layOrder_S49_0 pl i33 x33_2 y49_1 i49 σ49)).trans (M_layOrder_S49_k16 pl i33 x33_2 y49_1 i49 σ49)
theorem M_layOrder_S49_k17 (pl : Nat) (i33 : Nat) (x33_2 : Int32) (y49_1 : Nat) (i49 : Nat) (σ49 : Nat → Nat → Int32) : M_layOrder_S49_0 pl i33 x33_2 y49_1 i49 σ49 17 = σ49 17 := by
  unfold M_layOrder_S49_0
  exact M_marry_s_k17 σ49 ((σ49 7 (2 * ((σ49 10 i49).toNatClampNeg))).toNatClampNeg) ((σ49 7 ((2 * ((σ49 10 i49).toNatClampNeg)) + 1)).toNatClampNeg) (σ49 0 7)
theorem M_layOrder_L49_k17 (pl : Nat) (i33 : Nat) (x33_2 : Int32) (y49_1 : Nat) : ∀ (n49 i49 : Nat) (σ49 : Nat → Nat → Int32), (M_layOrder_L49 pl i33 x33_2 y49_1 n49 i49 σ49) 17 = σ49 17 := by
  intro n49
  induction n49 with
  | zero => intros; rfl
  | succ n49 ih => intro i49 σ49; exact (ih (i49 + 1) (M_layOrder_S49_0 pl i33 x33_2 y49_1 i49 σ49)).trans (M_layOrder_S49_k17 pl i33 x33_2 y49_1 i49 σ49)
theorem M_layOrder_S49_k18 (pl : Nat) (i33 : Nat) (x33_2 : Int32) (y49_1 : Nat) (i49 : Nat) (σ49 : Nat → Nat → Int32) : M_layOrder_S49_0 pl i33 x33_2 y49_1 i49 σ49 18 = σ49 18 := by
  unfold M_layOrder_S49_0
  exact M_marry_s_k18 σ49 ((σ49 7 (2 * ((σ49 10 i49).toNatClampNeg))).toNatClampNeg) ((σ49 7 ((2 * ((σ49 10 i49).toNatClampNeg)) + 1)).toNatClampNeg) (σ49 0 7)
theorem M_layOrder_L49_k18 (pl : Nat) (i33 : Nat) (x33_2 : Int32) (y49_1 : Nat) : ∀ (n49 i49 : Nat) (σ49 : Nat → Nat → Int32), (M_layOrder_L49 pl i33 x33_2 y49_1 n49 i49 σ49) 18 = σ49 18 := by
  intro n49
  induction n49 with
  | zero => intros; rfl
  | succ n49 ih => intro i49 σ49; exact (ih (i49 + 1) (M_layOrder_S49_0 pl i33 x33_2 y49_1 i49 σ49)).trans (M_layOrder_S49_k18 pl i33 x33_2 y49_1 i49 σ49)
theorem M_layOrder_S49_k19 (pl : Nat) (i33 : Nat) (x33_2 : Int32) (y49_1 : Nat) (i49 : Nat) (σ49 : Nat → Nat → Int32) : M_layOrder_S49_0 pl i33 x33_2 y49_1 i49 σ49 19 = σ49 19 := by
  unfold M_layOrder_S49_0
  exact M_marry_s_k19 σ49 ((σ49 7 (2 * ((σ49 10 i49).toNatClampNeg))).toNatClampNeg) ((σ49 7 ((2 * ((σ49 10 i49).toNatClampNeg)) + 1)).toNatClampNeg) (σ49 0 7)
theorem M_layOrder_L49_k19 (pl : Nat) (i33 : Nat) (x33_2 : Int32) (y49_1 : Nat) : ∀ (n49 i49 : Nat) (σ49 : Nat → Nat → Int32), (M_layOrder_L49 pl i33 x33_2 y49_1 n49 i49 σ49) 19 = σ49 19 := by
  intro n49
  induction n49 with
  | zero => intros; rfl
  | succ n49 ih => intro i49 σ49; exact (ih (i49 + 1) (M_layOrder_S49_0 pl i33 x33_2 y49_1 i49 σ49)).trans (M_layOrder_S49_k19 pl i33 x33_2 y49_1 i49 σ49)
def M_layOrder_S33_0 (pl : Nat) (y33_1 : Nat) (i33 : Nat) (x33_2 : Int32) (σ33 : Nat → Nat → Int32) : Int32 := if (M_isOrder_r σ33 pl i33) = 0 then x33_2 else (if x33_2 = (-1) then (M_owedAll_r (M_layOrder_L49 pl i33 x33_2 y33_1 pl 0 (M_isOrder_s σ33 pl i33))) else (if x33_2 ≤ (M_owedAll_r (M_layOrder_L49 pl i33 x33_2 y33_1 pl 0 (M_isOrder_s σ33 pl i33))) then x33_2 else (M_owedAll_r (M_layOrder_L49 pl i33 x33_2 y33_1 pl 0 (M_isOrder_s σ33 pl i33)))))
def M_layOrder_S33_1 (pl : Nat) (y33_1 : Nat) (i33 : Nat) (x33_2 : Int32) (σ33 : Nat → Nat → Int32) : Nat → Nat → Int32 := if (M_isOrder_r σ33 pl i33) = 0 then (M_isOrder_s σ33 pl i33) else (if x33_2 = (-1) then (M_layBack_s (row (M_layOrder_L49 pl i33 x33_2 y33_1 pl 0 (M_isOrder_s σ33 pl i33)) 11 ((M_layOrder_L49 pl i33 x33_2 y33_1 pl 0 (M_isOrder_s σ33 pl i33)) 10))) else (if x33_2 ≤ (M_owedAll_r (M_layOrder_L49 pl i33 x33_2 y33_1 pl 0 (M_isOrder_s σ33 pl i33))) then (M_layBack_s (M_layOrder_L49 pl i33 x33_2 y33_1 pl 0 (M_isOrder_s σ33 pl i33))) else (M_layBack_s (row (M_layOrder_L49 pl i33 x33_2 y33_1 pl 0 (M_isOrder_s σ33 pl i33)) 11 ((M_layOrder_L49 pl i33 x33_2 y33_1 pl 0 (M_isOrder_s σ33 pl i33)) 10)))))
def M_layOrder_L33 (pl : Nat) (y33_1 : Nat) : Nat → Nat → (Int32) → (Nat → Nat → Int32) → (Int32) × (Nat → Nat → Int32)
  | 0, _, x33_2, σ33 => (x33_2, σ33)
  | n33 + 1, i33, x33_2, σ33 => M_layOrder_L33 pl y33_1 n33 (i33 + 1) (M_layOrder_S33_0 pl y33_1 i33 x33_2 σ33) (M_layOrder_S33_1 pl y33_1 i33 x33_2 σ33)
theorem M_layOrder_S33_k0 (pl : Nat) (y33_1 : Nat) (i33 : Nat) (x33_2 : Int32) (σ33 : Nat → Nat → Int32) : M_layOrder_S33_1 pl y33_1 i33 x33_2 σ33 0 = σ33 0 := by
  unfold M_layOrder_S33_1
  by_cases z1 : (M_isOrder_r σ33 pl i33) = 0
  · refine Eq.trans (congrFun (if_pos z1) 0) ?_
    exact M_isOrder_s_k0 σ33 pl i33
  · refine Eq.trans (congrFun (if_neg z1) 0) ?_
    by_cases z2 : x33_2 = (-1)
    · refine Eq.trans (congrFun (if_pos z2) 0) ?_
      exact (M_layBack_s_k0 (row (M_layOrder_L49 pl i33 x33_2 y33_1 pl 0 (M_isOrder_s σ33 pl i33)) 11 ((M_layOrder_L49 pl i33 x33_2 y33_1 pl 0 (M_isOrder_s σ33 pl i33)) 10))).trans ((row_n _ _ (by decide)).trans ((M_layOrder_L49_k0 pl i33 x33_2 y33_1 pl 0 (M_isOrder_s σ33 pl i33)).trans (M_isOrder_s_k0 σ33 pl i33)))
    · refine Eq.trans (congrFun (if_neg z2) 0) ?_
      by_cases z3 : x33_2 ≤ (M_owedAll_r (M_layOrder_L49 pl i33 x33_2 y33_1 pl 0 (M_isOrder_s σ33 pl i33)))
      · refine Eq.trans (congrFun (if_pos z3) 0) ?_
        exact (M_layBack_s_k0 (M_layOrder_L49 pl i33 x33_2 y33_1 pl 0 (M_isOrder_s σ33 pl i33))).trans ((M_layOrder_L49_k0 pl i33 x33_2 y33_1 pl 0 (M_isOrder_s σ33 pl i33)).trans (M_isOrder_s_k0 σ33 pl i33))
      · refine Eq.trans (congrFun (if_neg z3) 0) ?_
        exact (M_layBack_s_k0 (row (M_layOrder_L49 pl i33 x33_2 y33_1 pl 0 (M_isOrder_s σ33 pl i33)) 11 ((M_layOrder_L49 pl i33 x33_2 y33_1 pl 0 (M_isOrder_s σ33 pl i33)) 10))).trans ((row_n _ _ (by decide)).trans ((M_layOrder_L49_k0 pl i33 x33_2 y33_1 pl 0 (M_isOrder_s σ33 pl i33)).trans (M_isOrder_s_k0 σ33 pl i33)))
theorem M_layOrder_L33_k0 (pl : Nat) (y33_1 : Nat) : ∀ (n33 i33 : Nat) (x33_2 : Int32) (σ33 : Nat → Nat → Int32), (M_layOrder_L33 pl y33_1 n33 i33 x33_2 σ33).2 0 = σ33 0 := by
  intro n33
  induction n33 with
  | zero => intros; rfl
  | succ n33 ih => intro i33 x33_2 σ33; exact (ih (i33 + 1) (M_layOrder_S33_0 pl y33_1 i33 x33_2 σ33) (M_layOrder_S33_1 pl y33_1 i33 x33_2 σ33)).trans (M_layOrder_S33_k0 pl y33_1 i33 x33_2 σ33)
theorem M_layOrder_S33_k1 (pl : Nat) (y33_1 : Nat) (i33 : Nat) (x33_2 : Int32) (σ33 : Nat → Nat → Int32) : M_layOrder_S33_1 pl y33_1 i33 x33_2 σ33 1 = σ33 1 := by
  unfold M_layOrder_S33_1
  by_cases z1 : (M_isOrder_r σ33 pl i33) = 0
  · refine Eq.trans (congrFun (if_pos z1) 1) ?_
    exact M_isOrder_s_k1 σ33 pl i33
  · refine Eq.trans (congrFun (if_neg z1) 1) ?_
    by_cases z2 : x33_2 = (-1)
    · refine Eq.trans (congrFun (if_pos z2) 1) ?_
      exact (M_layBack_s_k1 (row (M_layOrder_L49 pl i33 x33_2 y33_1 pl 0 (M_isOrder_s σ33 pl i33)) 11 ((M_layOrder_L49 pl i33 x33_2 y33_1 pl 0 (M_isOrder_s σ33 pl i33)) 10))).trans ((row_n _ _ (by decide)).trans ((M_layOrder_L49_k1 pl i33 x33_2 y33_1 pl 0 (M_isOrder_s σ33 pl i33)).trans (M_isOrder_s_k1 σ33 pl i33)))
    · refine Eq.trans (congrFun (if_neg z2) 1) ?_
      by_cases z3 : x33_2 ≤ (M_owedAll_r (M_layOrder_L49 pl i33 x33_2 y33_1 pl 0 (M_isOrder_s σ33 pl i33)))
      · refine Eq.trans (congrFun (if_pos z3) 1) ?_
        exact (M_layBack_s_k1 (M_layOrder_L49 pl i33 x33_2 y33_1 pl 0 (M_isOrder_s σ33 pl i33))).trans ((M_layOrder_L49_k1 pl i33 x33_2 y33_1 pl 0 (M_isOrder_s σ33 pl i33)).trans (M_isOrder_s_k1 σ33 pl i33))
      · refine Eq.trans (congrFun (if_neg z3) 1) ?_
        exact (M_layBack_s_k1 (row (M_layOrder_L49 pl i33 x33_2 y33_1 pl 0 (M_isOrder_s σ33 pl i33)) 11 ((M_layOrder_L49 pl i33 x33_2 y33_1 pl 0 (M_isOrder_s σ33 pl i33)) 10))).trans ((row_n _ _ (by decide)).trans ((M_layOrder_L49_k1 pl i33 x33_2 y33_1 pl 0 (M_isOrder_s σ33 pl i33)).trans (M_isOrder_s_k1 σ33 pl i33)))
theorem M_layOrder_L33_k1 (pl : Nat) (y33_1 : Nat) : ∀ (n33 i33 : Nat) (x33_2 : Int32) (σ33 : Nat → Nat → Int32), (M_layOrder_L33 pl y33_1 n33 i33 x33_2 σ33).2 1 = σ33 1 := by
  intro n33
  induction n33 with
  | zero => intros; rfl
  | succ n33 ih => intro i33 x33_2 σ33; exact (ih (i33 + 1) (M_layOrder_S33_0 pl y33_1 i33 x33_2 σ33) (M_layOrder_S33_1 pl y33_1 i33 x33_2 σ33)).trans (M_layOrder_S33_k1 pl y33_1 i33 x33_2 σ33)
theorem M_layOrder_S33_k2 (pl : Nat) (y33_1 : Nat) (i33 : Nat) (x33_2 : Int32) (σ33 : Nat → Nat → Int32) : M_layOrder_S33_1 pl y33_1 i33 x33_2 σ33 2 = σ33 2 := by
  unfold M_layOrder_S33_1
  by_cases z1 : (M_isOrder_r σ33 pl i33) = 0
  · refine Eq.trans (congrFun (if_pos z1) 2) ?_
    exact M_isOrder_s_k2 σ33 pl i33
  · refine Eq.trans (congrFun (if_neg z1) 2) ?_
    by_cases z2 : x33_2 = (-1)
    · refine Eq.trans (congrFun (if_pos z2) 2) ?_
      exact (M_layBack_s_k2 (row (M_layOrder_L49 pl i33 x33_2 y33_1 pl 0 (M_isOrder_s σ33 pl i33)) 11 ((M_layOrder_L49 pl i33 x33_2 y33_1 pl 0 (M_isOrder_s σ33 pl i33)) 10))).trans ((row_n _ _ (by decide)).trans ((M_layOrder_L49_k2 pl i33 x33_2 y33_1 pl 0 (M_isOrder_s σ33 pl i33)).trans (M_isOrder_s_k2 σ33 pl i33)))
    · refine Eq.trans (congrFun (if_neg z2) 2) ?_
      by_cases z3 : x33_2 ≤ (M_owedAll_r (M_layOrder_L49 pl i33 x33_2 y33_1 pl 0 (M_isOrder_s σ33 pl i33)))
      · refine Eq.trans (congrFun (if_pos z3) 2) ?_
        exact (M_layBack_s_k2 (M_layOrder_L49 pl i33 x33_2 y33_1 pl 0 (M_isOrder_s σ33 pl i33))).trans ((M_layOrder_L49_k2 pl i33 x33_2 y33_1 pl 0 (M_isOrder_s σ33 pl i33)).trans (M_isOrder_s_k2 σ33 pl i33))
      · refine Eq.trans (congrFun (if_neg z3) 2) ?_
        exact (M_layBack_s_k2 (row (M_layOrder_L49 pl i33 x33_2 y33_1 pl 0 (M_isOrder_s σ33 pl i33)) 11 ((M_layOrder_L49 pl i33 x33_2 y33_1 pl 0 (M_isOrder_s σ33 pl i33)) 10))).trans ((row_n _ _ (by decide)).trans ((M_layOrder_L49_k2 pl i33 x33_2 y33_1 pl 0 (M_isOrder_s σ33 pl i33)).trans (M_isOrder_s_k2 σ33 pl i33)))
theorem M_layOrder_L33_k2 (pl : Nat) (y33_1 : Nat) : ∀ (n33 i33 : Nat) (x33_2 : Int32) (σ33 : Nat → Nat → Int32), (M_layOrder_L33 pl y33_1 n33 i33 x33_2 σ33).2 2 = σ33 2 := by
  intro n33
  induction n33 with
  | zero => intros; rfl
  | succ n33 ih => intro i33 x33_2 σ33; exact (ih (i33 + 1) (M_layOrder_S33_0 pl y33_1 i33 x33_2 σ33) (M_layOrder_S33_1 pl y33_1 i33 x33_2 σ33)).trans (M_layOrder_S33_k2 pl y33_1 i33 x33_2 σ33)
theorem M_layOrder_S33_k3 (pl : Nat) (y33_1 : Nat) (i33 : Nat) (x33_2 : Int32) (σ33 : Nat → Nat → Int32) : M_layOrder_S33_1 pl y33_1 i33 x33_2 σ33 3 = σ33 3 := by
  unfold M_layOrder_S33_1
  by_cases z1 : (M_isOrder_r σ33 pl i33) = 0
  · refine Eq.trans (congrFun (if_pos z1) 3) ?_
    exact M_isOrder_s_k3 σ33 pl i33
  · refine Eq.trans (congrFun (if_neg z1) 3) ?_
    by_cases z2 : x33_2 = (-1)
    · refine Eq.trans (congrFun (if_pos z2) 3) ?_
      exact (M_layBack_s_k3 (row (M_layOrder_L49 pl i33 x33_2 y33_1 pl 0 (M_isOrder_s σ33 pl i33)) 11 ((M_layOrder_L49 pl i33 x33_2 y33_1 pl 0 (M_isOrder_s σ33 pl i33)) 10))).trans ((row_n _ _ (by decide)).trans ((M_layOrder_L49_k3 pl i33 x33_2 y33_1 pl 0 (M_isOrder_s σ33 pl i33)).trans (M_isOrder_s_k3 σ33 pl i33)))
    · refine Eq.trans (congrFun (if_neg z2) 3) ?_
      by_cases z3 : x33_2 ≤ (M_owedAll_r (M_layOrder_L49 pl i33 x33_2 y33_1 pl 0 (M_isOrder_s σ33 pl i33)))
      · refine Eq.trans (congrFun (if_pos z3) 3) ?_
        exact (M_layBack_s_k3 (M_layOrder_L49 pl i33 x33_2 y33_1 pl 0 (M_isOrder_s σ33 pl i33))).trans ((M_layOrder_L49_k3 pl i33 x33_2 y33_1 pl 0 (M_isOrder_s σ33 pl i33)).trans (M_isOrder_s_k3 σ33 pl i33))
      · refine Eq.trans (congrFun (if_neg z3) 3) ?_
        exact (M_layBack_s_k3 (row (M_layOrder_L49 pl i33 x33_2 y33_1 pl 0 (M_isOrder_s σ33 pl i33)) 11 ((M_layOrder_L49 pl i33 x33_2 y33_1 pl 0 (M_isOrder_s σ33 pl i33)) 10))).trans ((row_n _ _ (by decide)).trans ((M_layOrder_L49_k3 pl i33 x33_2 y33_1 pl 0 (M_isOrder_s σ33 pl i33)).trans (M_isOrder_s_k3 σ33 pl i33)))
theorem M_layOrder_L33_k3 (pl : Nat) (y33_1 : Nat) : ∀ (n33 i33 : Nat) (x33_2 : Int32) (σ33 : Nat → Nat → Int32), (M_layOrder_L33 pl y33_1 n33 i33 x33_2 σ33).2 3 = σ33 3 := by
  intro n33
  induction n33 with
  | zero => intros; rfl
  | succ n33 ih => intro i33 x33_2 σ33; exact (ih (i33 + 1) (M_layOrder_S33_0 pl y33_1 i33 x33_2 σ33) (M_layOrder_S33_1 pl y33_1 i33 x33_2 σ33)).trans (M_layOrder_S33_k3 pl y33_1 i33 x33_2 σ33)
theorem M_layOrder_S33_k6 (pl : Nat) (y33_1 : Nat) (i33 : Nat) (x33_2 : Int32) (σ33 : Nat → Nat → Int32) : M_layOrder_S33_1 pl y33_1 i33 x33_2 σ33 6 = σ33 6 := by
  unfold M_layOrder_S33_1
  by_cases z1 : (M_isOrder_r σ33 pl i33) = 0
  · refine Eq.trans (congrFun (if_pos z1) 6) ?_
    exact M_isOrder_s_k6 σ33 pl i33
  · refine Eq.trans (congrFun (if_neg z1) 6) ?_
    by_cases z2 : x33_2 = (-1)
    · refine Eq.trans (congrFun (if_pos z2) 6) ?_
      exact (M_layBack_s_k6 (row (M_layOrder_L49 pl i33 x33_2 y33_1 pl 0 (M_isOrder_s σ33 pl i33)) 11 ((M_layOrder_L49 pl i33 x33_2 y33_1 pl 0 (M_isOrder_s σ33 pl i33)) 10))).trans ((row_n _ _ (by decide)).trans ((M_layOrder_L49_k6 pl i33 x33_2 y33_1 pl 0 (M_isOrder_s σ33 pl i33)).trans (M_isOrder_s_k6 σ33 pl i33)))
    · refine Eq.trans (congrFun (if_neg z2) 6) ?_
      by_cases z3 : x33_2 ≤ (M_owedAll_r (M_layOrder_L49 pl i33 x33_2 y33_1 pl 0 (M_isOrder_s σ33 pl i33)))
      · refine Eq.trans (congrFun (if_pos z3) 6) ?_
        exact (M_layBack_s_k6 (M_layOrder_L49 pl i33 x33_2 y33_1 pl 0 (M_isOrder_s σ33 pl i33))).trans ((M_layOrder_L49_k6 pl i33 x33_2 y33_1 pl 0 (M_isOrder_s σ33 pl i33)).trans (M_isOrder_s_k6 σ33 pl i33))
      · refine Eq.trans (congrFun (if_neg z3) 6) ?_
        exact (M_layBack_s_k6 (row (M_layOrder_L49 pl i33 x33_2 y33_1 pl 0 (M_isOrder_s σ33 pl i33)) 11 ((M_layOrder_L49 pl i33 x33_2 y33_1 pl 0 (M_isOrder_s σ33 pl i33)) 10))).trans ((row_n _ _ (by decide)).trans ((M_layOrder_L49_k6 pl i33 x33_2 y33_1 pl 0 (M_isOrder_s σ33 pl i33)).trans (M_isOrder_s_k6 σ33 pl i33)))
theorem M_layOrder_L33_k6 (pl : Nat) (y33_1 : Nat) : ∀ (n33 i33 : Nat) (x33_2 : Int32) (σ33 : Nat → Nat → Int32), (M_layOrder_L33 pl y33_1 n33 i33 x33_2 σ33).2 6 = σ33 6 := by
  intro n33
  induction n33 with
  | zero => intros; rfl
  | succ n33 ih => intro i33 x33_2 σ33; exact (ih (i33 + 1) (M_layOrder_S33_0 pl y33_1 i33 x33_2 σ33) (M_layOrder_S33_1 pl y33_1 i33 x33_2 σ33)).trans (M_layOrder_S33_k6 pl y33_1 i33 x33_2 σ33)
theorem M_layOrder_S33_k7 (pl : Nat) (y33_1 : Nat) (i33 : Nat) (x33_2 : Int32) (σ33 : Nat → Nat → Int32) : M_layOrder_S33_1 pl y33_1 i33 x33_2 σ33 7 = σ33 7 := by
  unfold M_layOrder_S33_1
  by_cases z1 : (M_isOrder_r σ33 pl i33) = 0
  · refine Eq.trans (congrFun (if_pos z1) 7) ?_
    exact M_isOrder_s_k7 σ33 pl i33
  · refine Eq.trans (congrFun (if_neg z1) 7) ?_
    by_cases z2 : x33_2 = (-1)
    · refine Eq.trans (congrFun (if_pos z2) 7) ?_
      exact (M_layBack_s_k7 (row (M_layOrder_L49 pl i33 x33_2 y33_1 pl 0 (M_isOrder_s σ33 pl i33)) 11 ((M_layOrder_L49 pl i33 x33_2 y33_1 pl 0 (M_isOrder_s σ33 pl i33)) 10))).trans ((row_n _ _ (by decide)).trans ((M_layOrder_L49_k7 pl i33 x33_2 y33_1 pl 0 (M_isOrder_s σ33 pl i33)).trans (M_isOrder_s_k7 σ33 pl i33)))
    · refine Eq.trans (congrFun (if_neg z2) 7) ?_
      by_cases z3 : x33_2 ≤ (M_owedAll_r (M_layOrder_L49 pl i33 x33_2 y33_1 pl 0 (M_isOrder_s σ33 pl i33)))
      · refine Eq.trans (congrFun (if_pos z3) 7) ?_
        exact (M_layBack_s_k7 (M_layOrder_L49 pl i33 x33_2 y33_1 pl 0 (M_isOrder_s σ33 pl i33))).trans ((M_layOrder_L49_k7 pl i33 x33_2 y33_1 pl 0 (M_isOrder_s σ33 pl i33)).trans (M_isOrder_s_k7 σ33 pl i33))
      · refine Eq.trans (congrFun (if_neg z3) 7) ?_
        exact (M_layBack_s_k7 (row (M_layOrder_L49 pl i33 x33_2 y33_1 pl 0 (M_isOrder_s σ33 pl i33)) 11 ((M_layOrder_L49 pl i33 x33_2 y33_1 pl 0 (M_isOrder_s σ33 pl i33)) 10))).trans ((row_n _ _ (by decide)).trans ((M_layOrder_L49_k7 pl i33 x33_2 y33_1 pl 0 (M_isOrder_s σ33 pl i33)).trans (M_isOrder_s_k7 σ33 pl i33)))
theorem M_layOrder_L33_k7 (pl : Nat) (y33_1 : Nat) : ∀ (n33 i33 : Nat) (x33_2 : Int32) (σ33 : Nat → Nat → Int32), (M_layOrder_L33 pl y33_1 n33 i33 x33_2 σ33).2 7 = σ33 7 := by
  intro n33
  induction n33 with
  | zero => intros; rfl
  | succ n33 ih => intro i33 x33_2 σ33; exact (ih (i33 + 1) (M_layOrder_S33_0 pl y33_1 i33 x33_2 σ33) (M_layOrder_S33_1 pl y33_1 i33 x33_2 σ33)).trans (M_layOrder_S33_k7 pl y33_1 i33 x33_2 σ33)
theorem M_layOrder_S33_k8 (pl : Nat) (y33_1 : Nat) (i33 : Nat) (x33_2 : Int32) (σ33 : Nat → Nat → Int32) : M_layOrder_S33_1 pl y33_1 i33 x33_2 σ33 8 = σ33 8 := by
  unfold M_layOrder_S33_1
  by_cases z1 : (M_isOrder_r σ33 pl i33) = 0
  · refine Eq.trans (congrFun (if_pos z1) 8) ?_
    exact M_isOrder_s_k8 σ33 pl i33
  · refine Eq.trans (congrFun (if_neg z1) 8) ?_
    by_cases z2 : x33_2 = (-1)
    · refine Eq.trans (congrFun (if_pos z2) 8) ?_
      exact (M_layBack_s_k8 (row (M_layOrder_L49 pl i33 x33_2 y33_1 pl 0 (M_isOrder_s σ33 pl i33)) 11 ((M_layOrder_L49 pl i33 x33_2 y33_1 pl 0 (M_isOrder_s σ33 pl i33)) 10))).trans ((row_n _ _ (by decide)).trans ((M_layOrder_L49_k8 pl i33 x33_2 y33_1 pl 0 (M_isOrder_s σ33 pl i33)).trans (M_isOrder_s_k8 σ33 pl i33)))
    · refine Eq.trans (congrFun (if_neg z2) 8) ?_
      by_cases z3 : x33_2 ≤ (M_owedAll_r (M_layOrder_L49 pl i33 x33_2 y33_1 pl 0 (M_isOrder_s σ33 pl i33)))
      · refine Eq.trans (congrFun (if_pos z3) 8) ?_
        exact (M_layBack_s_k8 (M_layOrder_L49 pl i33 x33_2 y33_1 pl 0 (M_isOrder_s σ33 pl i33))).trans ((M_layOrder_L49_k8 pl i33 x33_2 y33_1 pl 0 (M_isOrder_s σ33 pl i33)).trans (M_isOrder_s_k8 σ33 pl i33))
      · refine Eq.trans (congrFun (if_neg z3) 8) ?_
        exact (M_layBack_s_k8 (row (M_layOrder_L49 pl i33 x33_2 y33_1 pl 0 (M_isOrder_s σ33 pl i33)) 11 ((M_layOrder_L49 pl i33 x33_2 y33_1 pl 0 (M_isOrder_s σ33 pl i33)) 10))).trans ((row_n _ _ (by decide)).trans ((M_layOrder_L49_k8 pl i33 x33_2 y33_1 pl 0 (M_isOrder_s σ33 pl i33)).trans (M_isOrder_s_k8 σ33 pl i33)))
theorem M_layOrder_L33_k8 (pl : Nat) (y33_1 : Nat) : ∀ (n33 i33 : Nat) (x33_2 : Int32) (σ33 : Nat → Nat → Int32), (M_layOrder_L33 pl y33_1 n33 i33 x33_2 σ33).2 8 = σ33 8 := by
  intro n33
  induction n33 with
  | zero => intros; rfl
  | succ n33 ih => intro i33 x33_2 σ33; exact (ih (i33 + 1) (M_layOrder_S33_0 pl y33_1 i33 x33_2 σ33) (M_layOrder_S33_1 pl y33_1 i33 x33_2 σ33)).trans (M_layOrder_S33_k8 pl y33_1 i33 x33_2 σ33)
theorem M_layOrder_S33_k9 (pl : Nat) (y33_1 : Nat) (i33 : Nat) (x33_2 : Int32) (σ33 : Nat → Nat → Int32) : M_layOrder_S33_1 pl y33_1 i33 x33_2 σ33 9 = σ33 9 := by
  unfold M_layOrder_S33_1
  by_cases z1 : (M_isOrder_r σ33 pl i33) = 0
  · refine Eq.trans (congrFun (if_pos z1) 9) ?_
    exact M_isOrder_s_k9 σ33 pl i33
  · refine Eq.trans (congrFun (if_neg z1) 9) ?_
    by_cases z2 : x33_2 = (-1)
    · refine Eq.trans (congrFun (if_pos z2) 9) ?_
      exact (M_layBack_s_k9 (row (M_layOrder_L49 pl i33 x33_2 y33_1 pl 0 (M_isOrder_s σ33 pl i33)) 11 ((M_layOrder_L49 pl i33 x33_2 y33_1 pl 0 (M_isOrder_s σ33 pl i33)) 10))).trans ((row_n _ _ (by decide)).trans ((M_layOrder_L49_k9 pl i33 x33_2 y33_1 pl 0 (M_isOrder_s σ33 pl i33)).trans (M_isOrder_s_k9 σ33 pl i33)))
    · refine Eq.trans (congrFun (if_neg z2) 9) ?_
      by_cases z3 : x33_2 ≤ (M_owedAll_r (M_layOrder_L49 pl i33 x33_2 y33_1 pl 0 (M_isOrder_s σ33 pl i33)))
      · refine Eq.trans (congrFun (if_pos z3) 9) ?_
        exact (M_layBack_s_k9 (M_layOrder_L49 pl i33 x33_2 y33_1 pl 0 (M_isOrder_s σ33 pl i33))).trans ((M_layOrder_L49_k9 pl i33 x33_2 y33_1 pl 0 (M_isOrder_s σ33 pl i33)).trans (M_isOrder_s_k9 σ33 pl i33))
      · refine Eq.trans (congrFun (if_neg z3) 9) ?_
        exact (M_layBack_s_k9 (row (M_layOrder_L49 pl i33 x33_2 y33_1 pl 0 (M_isOrder_s σ33 pl i33)) 11 ((M_layOrder_L49 pl i33 x33_2 y33_1 pl 0 (M_isOrder_s σ33 pl i33)) 10))).trans ((row_n _ _ (by decide)).trans ((M_layOrder_L49_k9 pl i33 x33_2 y33_1 pl 0 (M_isOrder_s σ33 pl i33)).trans (M_isOrder_s_k9 σ33 pl i33)))
theorem M_layOrder_L33_k9 (pl : Nat) (y33_1 : Nat) : ∀ (n33 i33 : Nat) (x33_2 : Int32) (σ33 : Nat → Nat → Int32), (M_layOrder_L33 pl y33_1 n33 i33 x33_2 σ33).2 9 = σ33 9 := by
  intro n33
  induction n33 with
  | zero => intros; rfl
  | succ n33 ih => intro i33 x33_2 σ33; exact (ih (i33 + 1) (M_layOrder_S33_0 pl y33_1 i33 x33_2 σ33) (M_layOrder_S33_1 pl y33_1 i33 x33_2 σ33)).trans (M_layOrder_S33_k9 pl y33_1 i33 x33_2 σ33)
theorem M_layOrder_S33_k12 (pl : Nat) (y33_1 : Nat) (i33 : Nat) (x33_2 : Int32) (σ33 : Nat → Nat → Int32) : M_layOrder_S33_1 pl y33_1 i33 x33_2 σ33 12 = σ33 12 := by
  unfold M_layOrder_S33_1
  by_cases z1 : (M_isOrder_r σ33 pl i33) = 0
  · refine Eq.trans (congrFun (if_pos z1) 12) ?_
    exact M_isOrder_s_k12 σ33 pl i33
  · refine Eq.trans (congrFun (if_neg z1) 12) ?_
    by_cases z2 : x33_2 = (-1)
    · refine Eq.trans (congrFun (if_pos z2) 12) ?_
      exact (M_layBack_s_k12 (row (M_layOrder_L49 pl i33 x33_2 y33_1 pl 0 (M_isOrder_s σ33 pl i33)) 11 ((M_layOrder_L49 pl i33 x33_2 y33_1 pl 0 (M_isOrder_s σ33 pl i33)) 10))).trans ((row_n _ _ (by decide)).trans ((M_layOrder_L49_k12 pl i33 x33_2 y33_1 pl 0 (M_isOrder_s σ33 pl i33)).trans (M_isOrder_s_k12 σ33 pl i33)))
    · refine Eq.trans (congrFun (if_neg z2) 12) ?_
      by_cases z3 : x33_2 ≤ (M_owedAll_r (M_layOrder_L49 pl i33 x33_2 y33_1 pl 0 (M_isOrder_s σ33 pl i33)))
      · refine Eq.trans (congrFun (if_pos z3) 12) ?_
        exact (M_layBack_s_k12 (M_layOrder_L49 pl i33 x33_2 y33_1 pl 0 (M_isOrder_s σ33 pl i33))).trans ((M_layOrder_L49_k12 pl i33 x33_2 y33_1 pl 0 (M_isOrder_s σ33 pl i33)).trans (M_isOrder_s_k12 σ33 pl i33))
      · refine Eq.trans (congrFun (if_neg z3) 12) ?_
        exact (M_layBack_s_k12 (row (M_layOrder_L49 pl i33 x33_2 y33_1 pl 0 (M_isOrder_s σ33 pl i33)) 11 ((M_layOrder_L49 pl i33 x33_2 y33_1 pl 0 (M_isOrder_s σ33 pl i33)) 10))).trans ((row_n _ _ (by decide)).trans ((M_layOrder_L49_k12 pl i33 x33_2 y33_1 pl 0 (M_isOrder_s σ33 pl i33)).trans (M_isOrder_s_k12 σ33 pl i33)))
theorem M_layOrder_L33_k12 (pl : Nat) (y33_1 : Nat) : ∀ (n33 i33 : Nat) (x33_2 : Int32) (σ33 : Nat → Nat → Int32), (M_layOrder_L33 pl y33_1 n33 i33 x33_2 σ33).2 12 = σ33 12 := by
  intro n33
  induction n33 with
  | zero => intros; rfl
  | succ n33 ih => intro i33 x33_2 σ33; exact (ih (i33 + 1) (M_layOrder_S33_0 pl y33_1 i33 x33_2 σ33) (M_layOrder_S33_1 pl y33_1 i33 x33_2 σ33)).trans (M_layOrder_S33_k12 pl y33_1 i33 x33_2 σ33)
theorem M_layOrder_S33_k13 (pl : Nat) (y33_1 : Nat) (i33 : Nat) (x33_2 : Int32) (σ33 : Nat → Nat → Int32) : M_layOrder_S33_1 pl y33_1 i33 x33_2 σ33 13 = σ33 13 := by
  unfold M_layOrder_S33_1
  by_cases z1 : (M_isOrder_r σ33 pl i33) = 0
  · refine Eq.trans (congrFun (if_pos z1) 13) ?_
    exact M_isOrder_s_k13 σ33 pl i33
  · refine Eq.trans (congrFun (if_neg z1) 13) ?_
    by_cases z2 : x33_2 = (-1)
    · refine Eq.trans (congrFun (if_pos z2) 13) ?_
      exact (M_layBack_s_k13 (row (M_layOrder_L49 pl i33 x33_2 y33_1 pl 0 (M_isOrder_s σ33 pl i33)) 11 ((M_layOrder_L49 pl i33 x33_2 y33_1 pl 0 (M_isOrder_s σ33 pl i33)) 10))).trans ((row_n _ _ (by decide)).trans ((M_layOrder_L49_k13 pl i33 x33_2 y33_1 pl 0 (M_isOrder_s σ33 pl i33)).trans (M_isOrder_s_k13 σ33 pl i33)))
    · refine Eq.trans (congrFun (if_neg z2) 13) ?_
      by_cases z3 : x33_2 ≤ (M_owedAll_r (M_layOrder_L49 pl i33 x33_2 y33_1 pl 0 (M_isOrder_s σ33 pl i33)))
      · refine Eq.trans (congrFun (if_pos z3) 13) ?_
        exact (M_layBack_s_k13 (M_layOrder_L49 pl i33 x33_2 y33_1 pl 0 (M_isOrder_s σ33 pl i33))).trans ((M_layOrder_L49_k13 pl i33 x33_2 y33_1 pl 0 (M_isOrder_s σ33 pl i33)).trans (M_isOrder_s_k13 σ33 pl i33))
      · refine Eq.trans (congrFun (if_neg z3) 13) ?_
        exact (M_layBack_s_k13 (row (M_layOrder_L49 pl i33 x33_2 y33_1 pl 0 (M_isOrder_s σ33 pl i33)) 11 ((M_layOrder_L49 pl i33 x33_2 y33_1 pl 0 (M_isOrder_s σ33 pl i33)) 10))).trans ((row_n _ _ (by decide)).trans ((M_layOrder_L49_k13 pl i33 x33_2 y33_1 pl 0 (M_isOrder_s σ33 pl i33)).trans (M_isOrder_s_k13 σ33 pl i33)))
theorem M_layOrder_L33_k13 (pl : Nat) (y33_1 : Nat) : ∀ (n33 i33 : Nat) (x33_2 : Int32) (σ33 : Nat → Nat → Int32), (M_layOrder_L33 pl y33_1 n33 i33 x33_2 σ33).2 13 = σ33 13 := by
  intro n33
  induction n33 with
  | zero => intros; rfl
  | succ n33 ih => intro i33 x33_2 σ33; exact (ih (i33 + 1) (M_layOrder_S33_0 pl y33_1 i33 x33_2 σ33) (M_layOrder_S33_1 pl y33_1 i33 x33_2 σ33)).trans (M_layOrder_S33_k13 pl y33_1 i33 x33_2 σ33)
theorem M_layOrder_S33_k14 (pl : Nat) (y33_1 : Nat) (i33 : Nat) (x33_2 : Int32) (σ33 : Nat → Nat → Int32) : M_layOrder_S33_1 pl y33_1 i33 x33_2 σ33 14 = σ33 14 := by
  unfold M_layOrder_S33_1
  by_cases z1 : (M_isOrder_r σ33 pl i33) = 0
  · refine Eq.trans (congrFun (if_pos z1) 14) ?_
    exact M_isOrder_s_k14 σ33 pl i33
  · refine Eq.trans (congrFun (if_neg z1) 14) ?_
    by_cases z2 : x33_2 = (-1)
    · refine Eq.trans (congrFun (if_pos z2) 14) ?_
      exact (M_layBack_s_k14 (row (M_layOrder_L49 pl i33 x33_2 y33_1 pl 0 (M_isOrder_s σ33 pl i33)) 11 ((M_layOrder_L49 pl i33 x33_2 y33_1 pl 0 (M_isOrder_s σ33 pl i33)) 10))).trans ((row_n _ _ (by decide)).trans ((M_layOrder_L49_k14 pl i33 x33_2 y33_1 pl 0 (M_isOrder_s σ33 pl i33)).trans (M_isOrder_s_k14 σ33 pl i33)))
    · refine Eq.trans (congrFun (if_neg z2) 14) ?_
      by_cases z3 : x33_2 ≤ (M_owedAll_r (M_layOrder_L49 pl i33 x33_2 y33_1 pl 0 (M_isOrder_s σ33 pl i33)))
      · refine Eq.trans (congrFun (if_pos z3) 14) ?_
        exact (M_layBack_s_k14 (M_layOrder_L49 pl i33 x33_2 y33_1 pl 0 (M_isOrder_s σ33 pl i33))).trans ((M_layOrder_L49_k14 pl i33 x33_2 y33_1 pl 0 (M_isOrder_s σ33 pl i33)).trans (M_isOrder_s_k14 σ33 pl i33))
      · refine Eq.trans (congrFun (if_neg z3) 14) ?_
        exact (M_layBack_s_k14 (row (M_layOrder_L49 pl i33 x33_2 y33_1 pl 0 (M_isOrder_s σ33 pl i33)) 11 ((M_layOrder_L49 pl i33 x33_2 y33_1 pl 0 (M_isOrder_s σ33 pl i33)) 10))).trans ((row_n _ _ (by decide)).trans ((M_layOrder_L49_k14 pl i33 x33_2 y33_1 pl 0 (M_isOrder_s σ33 pl i33)).trans (M_isOrder_s_k14 σ33 pl i33)))
theorem M_layOrder_L33_k14 (pl : Nat) (y33_1 : Nat) : ∀ (n33 i33 : Nat) (x33_2 : Int32) (σ33 : Nat → Nat → Int32), (M_layOrder_L33 pl y33_1 n33 i33 x33_2 σ33).2 14 = σ33 14 := by
  intro n33
  induction n33 with
  | zero => intros; rfl
  | succ n33 ih => intro i33 x33_2 σ33; exact (ih (i33 + 1) (M_layOrder_S33_0 pl y33_1 i33 x33_2 σ33) (M_layOrder_S33_1 pl y33_1 i33 x33_2 σ33)).trans (M_layOrder_S33_k14 pl y33_1 i33 x33_2 σ33)
theorem M_layOrder_S33_k15 (pl : Nat) (y33_1 : Nat) (i33 : Nat) (x33_2 : Int32) (σ33 : Nat → Nat → Int32) : M_layOrder_S33_1 pl y33_1 i33 x33_2 σ33 15 = σ33 15 := by
  unfold M_layOrder_S33_1
  by_cases z1 : (M_isOrder_r σ33 pl i33) = 0
  · refine Eq.trans (congrFun (if_pos z1) 15) ?_
    exact M_isOrder_s_k15 σ33 pl i33
  · refine Eq.trans (congrFun (if_neg z1) 15) ?_
    by_cases z2 : x33_2 = (-1)
    · refine Eq.trans (congrFun (if_pos z2) 15) ?_
      exact (M_layBack_s_k15 (row (M_layOrder_L49 pl i33 x33_2 y33_1 pl 0 (M_isOrder_s σ33 pl i33)) 11 ((M_layOrder_L49 pl i33 x33_2 y33_1 pl 0 (M_isOrder_s σ33 pl i33)) 10))).trans ((row_n _ _ (by decide)).trans ((M_layOrder_L49_k15 pl i33 x33_2 y33_1 pl 0 (M_isOrder_s σ33 pl i33)).trans (M_isOrder_s_k15 σ33 pl i33)))
    · refine Eq.trans (congrFun (if_neg z2) 15) ?_
      by_cases z3 : x33_2 ≤ (M_owedAll_r (M_layOrder_L49 pl i33 x33_2 y33_1 pl 0 (M_isOrder_s σ33 pl i33)))
      · refine Eq.trans (congrFun (if_pos z3) 15) ?_
        exact (M_layBack_s_k15 (M_layOrder_L49 pl i33 x33_2 y33_1 pl 0 (M_isOrder_s σ33 pl i33))).trans ((M_layOrder_L49_k15 pl i33 x33_2 y33_1 pl 0 (M_isOrder_s σ33 pl i33)).trans (M_isOrder_s_k15 σ33 pl i33))
      · refine Eq.trans (congrFun (if_neg z3) 15) ?_
        exact (M_layBack_s_k15 (row (M_layOrder_L49 pl i33 x33_2 y33_1 pl 0 (M_isOrder_s σ33 pl i33)) 11 ((M_layOrder_L49 pl i33 x33_2 y33_1 pl 0 (M_isOrder_s σ33 pl i33)) 10))).trans ((row_n _ _ (by decide)).trans ((M_layOrder_L49_k15 pl i33 x33_2 y33_1 pl 0 (M_isOrder_s σ33 pl i33)).trans (M_isOrder_s_k15 σ33 pl i33)))
theorem M_layOrder_L33_k15 (pl : Nat) (y33_1 : Nat) : ∀ (n33 i33 : Nat) (x33_2 : Int32) (σ33 : Nat → Nat → Int32), (M_layOrder_L33 pl y33_1 n33 i33 x33_2 σ33).2 15 = σ33 15 := by
  intro n33
  induction n33 with
  | zero => intros; rfl
  | succ n33 ih => intro i33 x33_2 σ33; exact (ih (i33 + 1) (M_layOrder_S33_0 pl y33_1 i33 x33_2 σ33) (M_layOrder_S33_1 pl y33_1 i33 x33_2 σ33)).trans (M_layOrder_S33_k15 pl y33_1 i33 x33_2 σ33)
theorem M_layOrder_S33_k16 (pl : Nat) (y33_1 : Nat) (i33 : Nat) (x33_2 : Int32) (σ33 : Nat → Nat → Int32) : M_layOrder_S33_1 pl y33_1 i33 x33_2 σ33 16 = σ33 16 := by
  unfold M_layOrder_S33_1
  by_cases z1 : (M_isOrder_r σ33 pl i33) = 0
  · refine Eq.trans (congrFun (if_pos z1) 16) ?_
    exact M_isOrder_s_k16 σ33 pl i33
  · refine Eq.trans (congrFun (if_neg z1) 16) ?_
    by_cases z2 : x33_2 = (-1)
    · refine Eq.trans (congrFun (if_pos z2) 16) ?_
      exact (M_layBack_s_k16 (row (M_layOrder_L49 pl i33 x33_2 y33_1 pl 0 (M_isOrder_s σ33 pl i33)) 11 ((M_layOrder_L49 pl i33 x33_2 y33_1 pl 0 (M_isOrder_s σ33 pl i33)) 10))).trans ((row_n _ _ (by decide)).trans ((M_layOrder_L49_k16 pl i33 x33_2 y33_1 pl 0 (M_isOrder_s σ33 pl i33)).trans (M_isOrder_s_k16 σ33 pl i33)))
    · refine Eq.trans (congrFun (if_neg z2) 16) ?_
      by_cases z3 : x33_2 ≤ (M_owedAll_r (M_layOrder_L49 pl i33 x33_2 y33_1 pl 0 (M_isOrder_s σ33 pl i33)))
      · refine Eq.trans (congrFun (if_pos z3) 16) ?_
        exact (M_layBack_s_k16 (M_layOrder_L49 pl i33 x33_2 y33_1 pl 0 (M_isOrder_s σ33 pl i33))).trans ((M_layOrder_L49_k16 pl i33 x33_2 y33_1 pl 0 (M_isOrder_s σ33 pl i33)).trans (M_isOrder_s_k16 σ33 pl i33))
      · refine Eq.trans (congrFun (if_neg z3) 16) ?_
        exact (M_layBack_s_k16 (row (M_layOrder_L49 pl i33 x33_2 y33_1 pl 0 (M_isOrder_s σ33 pl i33)) 11 ((M_layOrder_L49 pl i33 x33_2 y33_1 pl 0 (M_isOrder_s σ33 pl i33)) 10))).trans ((row_n _ _ (by decide)).trans ((M_layOrder_L49_k16 pl i33 x33_2 y33_1 pl 0 (M_isOrder_s σ33 pl i33)).trans (M_isOrder_s_k16 σ33 pl i33)))
theorem M_layOrder_L33_k16 (pl : Nat) (y33_1 : Nat) : ∀ (n33 i33 : Nat) (x33_2 : Int32) (σ33 : Nat → Nat → Int32), (M_layOrder_L33 pl y33_1 n33 i33 x33_2 σ33).2 16 = σ33 16 := by
  intro n33
  induction n33 with
  | zero => intros; rfl
  | succ n33 ih => intro i33 x33_2 σ33; exact (ih (i33 + 1) (M_layOrder_S33_0 pl y33_1 i33 x33_2 σ33) (M_layOrder_S33_1 pl y33_1 i33 x33_2 σ33)).trans (M_layOrder_S33_k16 pl y33_1 i33 x33_2 σ33)
theorem M_layOrder_S33_k17 (pl : Nat) (y33_1 : Nat) (i33 : Nat) (x33_2 : Int32) (σ33 : Nat → Nat → Int32) : M_layOrder_S33_1 pl y33_1 i33 x33_2 σ33 17 = σ33 17 := by
  unfold M_layOrder_S33_1
  by_cases z1 : (M_isOrder_r σ33 pl i33) = 0
  · refine Eq.trans (congrFun (if_pos z1) 17) ?_
    exact M_isOrder_s_k17 σ33 pl i33
  · refine Eq.trans (congrFun (if_neg z1) 17) ?_
    by_cases z2 : x33_2 = (-1)
    · refine Eq.trans (congrFun (if_pos z2) 17) ?_
      exact (M_layBack_s_k17 (row (M_layOrder_L49 pl i33 x33_2 y33_1 pl 0 (M_isOrder_s σ33 pl i33)) 11 ((M_layOrder_L49 pl i33 x33_2 y33_1 pl 0 (M_isOrder_s σ33 pl i33)) 10))).trans ((row_n _ _ (by decide)).trans ((M_layOrder_L49_k17 pl i33 x33_2 y33_1 pl 0 (M_isOrder_s σ33 pl i33)).trans (M_isOrder_s_k17 σ33 pl i33)))
    · refine Eq.trans (congrFun (if_neg z2) 17) ?_
      by_cases z3 : x33_2 ≤ (M_owedAll_r (M_layOrder_L49 pl i33 x33_2 y33_1 pl 0 (M_isOrder_s σ33 pl i33)))
      · refine Eq.trans (congrFun (if_pos z3) 17) ?_
        exact (M_layBack_s_k17 (M_layOrder_L49 pl i33 x33_2 y33_1 pl 0 (M_isOrder_s σ33 pl i33))).trans ((M_layOrder_L49_k17 pl i33 x33_2 y33_1 pl 0 (M_isOrder_s σ33 pl i33)).trans (M_isOrder_s_k17 σ33 pl i33))
      · refine Eq.trans (congrFun (if_neg z3) 17) ?_
        exact (M_layBack_s_k17 (row (M_layOrder_L49 pl i33 x33_2 y33_1 pl 0 (M_isOrder_s σ33 pl i33)) 11 ((M_layOrder_L49 pl i33 x33_2 y33_1 pl 0 (M_isOrder_s σ33 pl i33)) 10))).trans ((row_n _ _ (by decide)).trans ((M_layOrder_L49_k17 pl i33 x33_2 y33_1 pl 0 (M_isOrder_s σ33 pl i33)).trans (M_isOrder_s_k17 σ33 pl i33)))
theorem M_layOrder_L33_k17 (pl : Nat) (y33_1 : Nat) : ∀ (n33 i33 : Nat) (x33_2 : Int32) (σ33 : Nat → Nat → Int32), (M_layOrder_L33 pl y33_1 n33 i33 x33_2 σ33).2 17 = σ33 17 := by
  intro n33
  induction n33 with
  | zero => intros; rfl
  | succ n33 ih => intro i33 x33_2 σ33; exact (ih (i33 + 1) (M_layOrder_S33_0 pl y33_1 i33 x33_2 σ33) (M_layOrder_S33_1 pl y33_1 i33 x33_2 σ33)).trans (M_layOrder_S33_k17 pl y33_1 i33 x33_2 σ33)
theorem M_layOrder_S33_k18 (pl : Nat) (y33_1 : Nat) (i33 : Nat) (x33_2 : Int32) (σ33 : Nat → Nat → Int32) : M_layOrder_S33_1 pl y33_1 i33 x33_2 σ33 18 = σ33 18 := by
  unfold M_layOrder_S33_1
  by_cases z1 : (M_isOrder_r σ33 pl i33) = 0
  · refine Eq.trans (congrFun (if_pos z1) 18) ?_
    exact M_isOrder_s_k18 σ33 pl i33
  · refine Eq.trans (congrFun (if_neg z1) 18) ?_
    by_cases z2 : x33_2 = (-1)
    · refine Eq.trans (congrFun (if_pos z2) 18) ?_
      exact (M_layBack_s_k18 (row (M_layOrder_L49 pl i33 x33_2 y33_1 pl 0 (M_isOrder_s σ33 pl i33)) 11 ((M_layOrder_L49 pl i33 x33_2 y33_1 pl 0 (M_isOrder_s σ33 pl i33)) 10))).trans ((row_n _ _ (by decide)).trans ((M_layOrder_L49_k18 pl i33 x33_2 y33_1 pl 0 (M_isOrder_s σ33 pl i33)).trans (M_isOrder_s_k18 σ33 pl i33)))
    · refine Eq.trans (congrFun (if_neg z2) 18) ?_
      by_cases z3 : x33_2 ≤ (M_owedAll_r (M_layOrder_L49 pl i33 x33_2 y33_1 pl 0 (M_isOrder_s σ33 pl i33)))
      · refine Eq.trans (congrFun (if_pos z3) 18) ?_
        exact (M_layBack_s_k18 (M_layOrder_L49 pl i33 x33_2 y33_1 pl 0 (M_isOrder_s σ33 pl i33))).trans ((M_layOrder_L49_k18 pl i33 x33_2 y33_1 pl 0 (M_isOrder_s σ33 pl i33)).trans (M_isOrder_s_k18 σ33 pl i33))
      · refine Eq.trans (congrFun (if_neg z3) 18) ?_
        exact (M_layBack_s_k18 (row (M_layOrder_L49 pl i33 x33_2 y33_1 pl 0 (M_isOrder_s σ33 pl i33)) 11 ((M_layOrder_L49 pl i33 x33_2 y33_1 pl 0 (M_isOrder_s σ33 pl i33)) 10))).trans ((row_n _ _ (by decide)).trans ((M_layOrder_L49_k18 pl i33 x33_2 y33_1 pl 0 (M_isOrder_s σ33 pl i33)).trans (M_isOrder_s_k18 σ33 pl i33)))
theorem M_layOrder_L33_k18 (pl : Nat) (y33_1 : Nat) : ∀ (n33 i33 : Nat) (x33_2 : Int32) (σ33 : Nat → Nat → Int32), (M_layOrder_L33 pl y33_1 n33 i33 x33_2 σ33).2 18 = σ33 18 := by
  intro n33
  induction n33 with
  | zero => intros; rfl
  | succ n33 ih => intro i33 x33_2 σ33; exact (ih (i33 + 1) (M_layOrder_S33_0 pl y33_1 i33 x33_2 σ33) (M_layOrder_S33_1 pl y33_1 i33 x33_2 σ33)).trans (M_layOrder_S33_k18 pl y33_1 i33 x33_2 σ33)
theorem M_layOrder_S33_k19 (pl : Nat) (y33_1 : Nat) (i33 : Nat) (x33_2 : Int32) (σ33 : Nat → Nat → Int32) : M_layOrder_S33_1 pl y33_1 i33 x33_2 σ33 19 = σ33 19 := by
  unfold M_layOrder_S33_1
  by_cases z1 : (M_isOrder_r σ33 pl i33) = 0
  · refine Eq.trans (congrFun (if_pos z1) 19) ?_
    exact M_isOrder_s_k19 σ33 pl i33
  · refine Eq.trans (congrFun (if_neg z1) 19) ?_
    by_cases z2 : x33_2 = (-1)
    · refine Eq.trans (congrFun (if_pos z2) 19) ?_
      exact (M_layBack_s_k19 (row (M_layOrder_L49 pl i33 x33_2 y33_1 pl 0 (M_isOrder_s σ33 pl i33)) 11 ((M_layOrder_L49 pl i33 x33_2 y33_1 pl 0 (M_isOrder_s σ33 pl i33)) 10))).trans ((row_n _ _ (by decide)).trans ((M_layOrder_L49_k19 pl i33 x33_2 y33_1 pl 0 (M_isOrder_s σ33 pl i33)).trans (M_isOrder_s_k19 σ33 pl i33)))
    · refine Eq.trans (congrFun (if_neg z2) 19) ?_
      by_cases z3 : x33_2 ≤ (M_owedAll_r (M_layOrder_L49 pl i33 x33_2 y33_1 pl 0 (M_isOrder_s σ33 pl i33)))
      · refine Eq.trans (congrFun (if_pos z3) 19) ?_
        exact (M_layBack_s_k19 (M_layOrder_L49 pl i33 x33_2 y33_1 pl 0 (M_isOrder_s σ33 pl i33))).trans ((M_layOrder_L49_k19 pl i33 x33_2 y33_1 pl 0 (M_isOrder_s σ33 pl i33)).trans (M_isOrder_s_k19 σ33 pl i33))
      · refine Eq.trans (congrFun (if_neg z3) 19) ?_
        exact (M_layBack_s_k19 (row (M_layOrder_L49 pl i33 x33_2 y33_1 pl 0 (M_isOrder_s σ33 pl i33)) 11 ((M_layOrder_L49 pl i33 x33_2 y33_1 pl 0 (M_isOrder_s σ33 pl i33)) 10))).trans ((row_n _ _ (by decide)).trans ((M_layOrder_L49_k19 pl i33 x33_2 y33_1 pl 0 (M_isOrder_s σ33 pl i33)).trans (M_isOrder_s_k19 σ33 pl i33)))
theorem M_layOrder_L33_k19 (pl : Nat) (y33_1 : Nat) : ∀ (n33 i33 : Nat) (x33_2 : Int32) (σ33 : Nat → Nat → Int32), (M_layOrder_L33 pl y33_1 n33 i33 x33_2 σ33).2 19 = σ33 19 := by
  intro n33
  induction n33 with
  | zero => intros; rfl
  | succ n33 ih => intro i33 x33_2 σ33; exact (ih (i33 + 1) (M_layOrder_S33_0 pl y33_1 i33 x33_2 σ33) (M_layOrder_S33_1 pl y33_1 i33 x33_2 σ33)).trans (M_layOrder_S33_k19 pl y33_1 i33 x33_2 σ33)
def M_layOrder_r (σ : Nat → Nat → Int32) (pl : Nat) : Int32 := (M_layOrder_L33 pl (M_layOrder_L4 σ pl pl 0 1) (M_layOrder_L4 σ pl pl 0 1) 0 (-1) (M_layAside_s σ)).1
def M_layOrder_s (σ : Nat → Nat → Int32) (pl : Nat) : Nat → Nat → Int32 := (M_layOrder_L33 pl (M_layOrder_L4 σ pl pl 0 1) (M_layOrder_L4 σ pl pl 0 1) 0 (-1) (M_layAside_s σ)).2
theorem M_layOrder_codes (σ : Nat → Nat → Int32) {pl : Nat} (h : pl ≤ 4) : M_layOrder_L4 σ pl pl 0 1 ≤ 256 := by
  rcases (by omega : pl = 0 ∨ pl = 1 ∨ pl = 2 ∨ pl = 3 ∨ pl = 4) with rfl | rfl | rfl | rfl | rfl <;> simp only [M_layOrder_L4, M_layOrder_S4_0] <;> decide
theorem M_layOrder_s_k0 (σ : Nat → Nat → Int32) (pl : Nat) : M_layOrder_s σ pl 0 = σ 0 := by
  unfold M_layOrder_s
  exact (M_layOrder_L33_k0 pl (M_layOrder_L4 σ pl pl 0 1) (M_layOrder_L4 σ pl pl 0 1) 0 (-1) (M_layAside_s σ)).trans (M_layAside_s_k0 σ)
theorem M_layOrder_s_k1 (σ : Nat → Nat → Int32) (pl : Nat) : M_layOrder_s σ pl 1 = σ 1 := by
  unfold M_layOrder_s
  exact (M_layOrder_L33_k1 pl (M_layOrder_L4 σ pl pl 0 1) (M_layOrder_L4 σ pl pl 0 1) 0 (-1) (M_layAside_s σ)).trans (M_layAside_s_k1 σ)
theorem M_layOrder_s_k2 (σ : Nat → Nat → Int32) (pl : Nat) : M_layOrder_s σ pl 2 = σ 2 := by
  unfold M_layOrder_s
  exact (M_layOrder_L33_k2 pl (M_layOrder_L4 σ pl pl 0 1) (M_layOrder_L4 σ pl pl 0 1) 0 (-1) (M_layAside_s σ)).trans (M_layAside_s_k2 σ)
theorem M_layOrder_s_k3 (σ : Nat → Nat → Int32) (pl : Nat) : M_layOrder_s σ pl 3 = σ 3 := by
  unfold M_layOrder_s
  exact (M_layOrder_L33_k3 pl (M_layOrder_L4 σ pl pl 0 1) (M_layOrder_L4 σ pl pl 0 1) 0 (-1) (M_layAside_s σ)).trans (M_layAside_s_k3 σ)
theorem M_layOrder_s_k6 (σ : Nat → Nat → Int32) (pl : Nat) : M_layOrder_s σ pl 6 = σ 6 := by
  unfold M_layOrder_s
  exact (M_layOrder_L33_k6 pl (M_layOrder_L4 σ pl pl 0 1) (M_layOrder_L4 σ pl pl 0 1) 0 (-1) (M_layAside_s σ)).trans (M_layAside_s_k6 σ)
theorem M_layOrder_s_k7 (σ : Nat → Nat → Int32) (pl : Nat) : M_layOrder_s σ pl 7 = σ 7 := by
  unfold M_layOrder_s
  exact (M_layOrder_L33_k7 pl (M_layOrder_L4 σ pl pl 0 1) (M_layOrder_L4 σ pl pl 0 1) 0 (-1) (M_layAside_s σ)).trans (M_layAside_s_k7 σ)
theorem M_layOrder_s_k12 (σ : Nat → Nat → Int32) (pl : Nat) : M_layOrder_s σ pl 12 = σ 12 := by
  unfold M_layOrder_s
  exact (M_layOrder_L33_k12 pl (M_layOrder_L4 σ pl pl 0 1) (M_layOrder_L4 σ pl pl 0 1) 0 (-1) (M_layAside_s σ)).trans (M_layAside_s_k12 σ)
theorem M_layOrder_s_k13 (σ : Nat → Nat → Int32) (pl : Nat) : M_layOrder_s σ pl 13 = σ 13 := by
  unfold M_layOrder_s
  exact (M_layOrder_L33_k13 pl (M_layOrder_L4 σ pl pl 0 1) (M_layOrder_L4 σ pl pl 0 1) 0 (-1) (M_layAside_s σ)).trans (M_layAside_s_k13 σ)
theorem M_layOrder_s_k14 (σ : Nat → Nat → Int32) (pl : Nat) : M_layOrder_s σ pl 14 = σ 14 := by
  unfold M_layOrder_s
  exact (M_layOrder_L33_k14 pl (M_layOrder_L4 σ pl pl 0 1) (M_layOrder_L4 σ pl pl 0 1) 0 (-1) (M_layAside_s σ)).trans (M_layAside_s_k14 σ)
theorem M_layOrder_s_k15 (σ : Nat → Nat → Int32) (pl : Nat) : M_layOrder_s σ pl 15 = σ 15 := by
  unfold M_layOrder_s
  exact (M_layOrder_L33_k15 pl (M_layOrder_L4 σ pl pl 0 1) (M_layOrder_L4 σ pl pl 0 1) 0 (-1) (M_layAside_s σ)).trans (M_layAside_s_k15 σ)
theorem M_layOrder_s_k16 (σ : Nat → Nat → Int32) (pl : Nat) : M_layOrder_s σ pl 16 = σ 16 := by
  unfold M_layOrder_s
  exact (M_layOrder_L33_k16 pl (M_layOrder_L4 σ pl pl 0 1) (M_layOrder_L4 σ pl pl 0 1) 0 (-1) (M_layAside_s σ)).trans (M_layAside_s_k16 σ)
theorem M_layOrder_s_k17 (σ : Nat → Nat → Int32) (pl : Nat) : M_layOrder_s σ pl 17 = σ 17 := by
  unfold M_layOrder_s
  exact (M_layOrder_L33_k17 pl (M_layOrder_L4 σ pl pl 0 1) (M_layOrder_L4 σ pl pl 0 1) 0 (-1) (M_layAside_s σ)).trans (M_layAside_s_k17 σ)
theorem M_layOrder_s_k18 (σ : Nat → Nat → Int32) (pl : Nat) : M_layOrder_s σ pl 18 = σ 18 := by
  unfold M_layOrder_s
  exact (M_layOrder_L33_k18 pl (M_layOrder_L4 σ pl pl 0 1) (M_layOrder_L4 σ pl pl 0 1) 0 (-1) (M_layAside_s σ)).trans (M_layAside_s_k18 σ)
theorem M_layOrder_s_k19 (σ : Nat → Nat → Int32) (pl : Nat) : M_layOrder_s σ pl 19 = σ 19 := by
  unfold M_layOrder_s
  exact (M_layOrder_L33_k19 pl (M_layOrder_L4 σ pl pl 0 1) (M_layOrder_L4 σ pl pl 0 1) 0 (-1) (M_layAside_s σ)).trans (M_layAside_s_k19 σ)
set_option maxHeartbeats 4000000 in
set_option maxRecDepth 100000 in
theorem c_M_layOrder (l : Launch) (D : va_G) (cI : ClassId) (a : Nat → Nat) (σ : Nat → Nat → Int32) (h : Int64) (pl : Nat) (hp0 : σ 0 15 = nI pl) (hp0b : pl ≤ 4) (hpl : planOK (σ 7) pl) : gI l D [(cI, .int)] yX12_layOrder wsX12_layOrder 5 [.ref (a 0)] (wM cI a σ h) (M_layOrder_r σ pl) (wM cI a (M_layOrder_s σ pl) h) := by
  refine g_start (cc := cX12_layOrder) (maxL := 6) (ret := some .int) (Qc := gQi D [(cI, .int)] (M_layOrder_r σ pl) (wM cI a (M_layOrder_s σ pl) h)) (by decide) rfl (Nat.le_of_ble_eq_true rfl) ?_
  intro p e s m below meth C A ls S hr hlk hw hl
  obtain ⟨hx, hb, hml, hown, hts⟩ := id S
  have hinX12 : ∀ x ∈ u_ws RX12 TX12 38, x ∈ wsX12_layOrder := fun x h => List.mem_cons_of_mem _ (List.mem_append_right _ h)
  have lk0 : Cond.fieldLink RX12 117 "CowsOwedModel" "plans" "I" ∈ wsX12_layOrder := by decide +kernel
  have lk1 : Cond.fieldLink RX12 28 "CowsOwedModel" "planned" "[I" ∈ wsX12_layOrder := by decide +kernel
  have lk2 : Cond.fieldLink RX12 37 "CowsOwedModel" "row" "[I" ∈ wsX12_layOrder := by decide +kernel
  have lk3 : Cond.fieldLink RX12 108 "CowsOwedModel" "rateNow" "I" ∈ wsX12_layOrder := by decide +kernel
  have lk4 : Cond.fieldLink RX12 40 "CowsOwedModel" "bestRow" "[I" ∈ wsX12_layOrder := by decide +kernel
  have hl : lv_has ls 6 [(0, .ref (a 0))] := hl
  refine lv_iconst (v := 1) hx hb dX12_layOrder_0 (by decide) ?_
  refine lv_istore_n (lv' := [(1, .int 1), (0, .ref (a 0))]) hx hb dX12_layOrder_1 rfl hl (by decide) rfl (fun ls hl => ?_)
  refine lv_iconst (v := 0) hx hb dX12_layOrder_2 (by decide) ?_
  refine lv_istore_n (lv' := [(2, .int 0), (1, .int 1), (0, .ref (a 0))]) hx hb dX12_layOrder_3 rfl hl (by decide) rfl (fun ls hl => ?_)
  have L4 : ∀ (n4 i4 : Nat) (x4_1 : Nat) (H : Heap) (locs : List Loc) (ls : Array Slot), i4 + n4 = pl → M_layOrder_L4 σ pl n4 i4 x4_1 = M_layOrder_L4 σ pl pl 0 1 → gw D [(cI, .int)] A s H locs (wM cI a σ h) → lv_has ls 6 [(2, .int (nI i4)), (1, .int (nI x4_1)), (0, .ref (a 0))] → W p l e (gR 5) s m ([.ref (a 0)] : List Value).toArray below meth C H locs 0 0 (MQ below (gQi D [(cI, .int)] (M_layOrder_r σ pl) (wM cI a (M_layOrder_s σ pl) h) A) ([.ref (a 0)] : List Value).toArray s 0 0 A) (F0 m 4 ls []) := by
    intro n4
    induction n4 with
    | zero =>
      intro i4 x4_1 H locs ls hi4 hF4 hw hl
      refine lv_iload_n hx hb dX12_layOrder_4 rfl (lv_at hl 0 rfl) ?_
      refine lv_aload_n hx hb dX12_layOrder_5 rfl (lv_at hl 2 rfl) ?_
      refine g_get S hw hinX12 (fs := fM a σ h) 0 rfl rfl 15 (by decide) lk0 (v := .int (nI pl)) (congrArg (fun z => some (Value.int z)) (hp0)) dX12_layOrder_6 ?_
      refine ln_ge (x := i4) (y := pl) hx hb (by omega) (by omega) (tgt := 25) dX12_layOrder_9 (by decide) (fun c_x => ?_) (fun c_x => absurd (by omega) c_x)
      have hz4 : pl = i4 := by omega
      subst hz4
      have e4_0 : (M_layOrder_L4 σ pl pl 0 1) = x4_1 := hF4.symm
      subst e4_0
      have hcd := M_layOrder_codes σ hp0b
      refine lv_iconst (v := (-1)) hx hb dX12_layOrder_25 (by decide) ?_
      refine lv_istore_n (lv' := [(2, .int (-1)), (1, .int (nI (M_layOrder_L4 σ pl pl 0 1))), (0, .ref (a 0))]) hx hb dX12_layOrder_26 rfl hl (by decide) rfl (fun ls hl => ?_)
      refine lv_aload_n hx hb dX12_layOrder_27 rfl (lv_at hl 2 rfl) ?_
      refine g_callVv S hw (c_M_layAside l D cI a σ h) gX12_layOrder_X12_layAside rfl 0 rfl rfl 0 rfl (by decide +kernel) (by decide) (by decide) hl.1 rfl (Nat.le_of_ble_eq_true rfl) dX12_layOrder_28 (fun H locs hw => ?_)
      refine lv_iconst (v := 0) hx hb dX12_layOrder_31 (by decide) ?_
      refine lv_istore_n (lv' := [(3, .int 0), (2, .int (-1)), (1, .int (nI (M_layOrder_L4 σ pl pl 0 1))), (0, .ref (a 0))]) hx hb dX12_layOrder_32 rfl hl (by decide) rfl (fun ls hl => ?_)
      have L33 : ∀ (n33 i33 : Nat) (x33_2 : Int32) (σ33 : Nat → Nat → Int32) (H : Heap) (locs : List Loc) (ls : Array Slot), i33 + n33 = (M_layOrder_L4 σ pl pl 0 1) → σ33 0 = (M_layAside_s σ) 0 → planOK (σ33 7) pl → M_layOrder_L33 pl (M_layOrder_L4 σ pl pl 0 1) n33 i33 x33_2 σ33 = M_layOrder_L33 pl (M_layOrder_L4 σ pl pl 0 1) (M_layOrder_L4 σ pl pl 0 1) 0 (-1) (M_layAside_s σ) → gw D [(cI, .int)] A s H locs (wM cI a σ33 h) → lv_has ls 6 [(3, .int (nI i33)), (2, .int x33_2), (1, .int (nI (M_layOrder_L4 σ pl pl 0 1))), (0, .ref (a 0))] → W p l e (gR 5) s m ([.ref (a 0)] : List Value).toArray below meth C H locs 0 0 (MQ below (gQi D [(cI, .int)] (M_layOrder_r σ pl) (wM cI a (M_layOrder_s σ pl) h) A) ([.ref (a 0)] : List Value).toArray s 0 0 A) (F0 m 33 ls []) := by
        intro n33
        induction n33 with
        | zero =>
          intro i33 x33_2 σ33 H locs ls hi33 k33_0 r33_7 hF33 hw hl
          refine lv_iload_n hx hb dX12_layOrder_33 rfl (lv_at hl 0 rfl) ?_
          refine lv_iload_n hx hb dX12_layOrder_34 rfl (lv_at hl 2 rfl) ?_
          refine ln_ge (x := i33) (y := (M_layOrder_L4 σ pl pl 0 1)) hx hb (by omega) (by omega) (tgt := 143) dX12_layOrder_35 (by decide) (fun c_x => ?_) (fun c_x => absurd (by omega) c_x)
          have hz33 : (M_layOrder_L4 σ pl pl 0 1) = i33 := by omega
          subst hz33
          have e33_0 : (M_layOrder_L33 pl (M_layOrder_L4 σ pl pl 0 1) (M_layOrder_L4 σ pl pl 0 1) 0 (-1) (M_layAside_s σ)).1 = x33_2 := (congrArg (fun z => z.1) hF33).symm
          have e33_1 : (M_layOrder_L33 pl (M_layOrder_L4 σ pl pl 0 1) (M_layOrder_L4 σ pl pl 0 1) 0 (-1) (M_layAside_s σ)).2 = σ33 := (congrArg (fun z => z.2) hF33).symm
          subst e33_0
          subst e33_1
          refine lv_iload_n hx hb dX12_layOrder_143 rfl (lv_at hl 1 rfl) ?_
          exact g_iret S hr hlk hw (by simp only [M_layOrder_r]) (by simp only [M_layOrder_s]) dX12_layOrder_144
        | succ n33 ih33 =>
          intro i33 x33_2 σ33 H locs ls hi33 k33_0 r33_7 hF33 hw hl
          refine lv_iload_n hx hb dX12_layOrder_33 rfl (lv_at hl 0 rfl) ?_
          refine lv_iload_n hx hb dX12_layOrder_34 rfl (lv_at hl 2 rfl) ?_
          refine ln_ge (x := i33) (y := (M_layOrder_L4 σ pl pl 0 1)) hx hb (by omega) (by omega) (tgt := 143) dX12_layOrder_35 (by decide) (fun c_x => absurd c_x (by omega)) (fun c_x => ?_)
          refine lv_aload_n hx hb dX12_layOrder_38 rfl (lv_at hl 3 rfl) ?_
          refine lv_iload_n hx hb dX12_layOrder_39 rfl (lv_at hl 0 rfl) ?_
          refine g_callVi S hw (c_M_isOrder l D cI a σ33 h pl i33 ((congrFun k33_0 15).trans ((congrFun (M_layAside_s_k0 σ) 15).trans (hp0))) (by omega) (by omega)) gX12_layOrder_X12_isOrder rfl 0 rfl rfl 1 rfl (by decide +kernel) (by decide) (by decide) hl.1 rfl (Nat.le_of_ble_eq_true rfl) dX12_layOrder_40 (fun H locs hw => ?_)
          refine lv_if_eq hx hb (tgt := 137) dX12_layOrder_43 (by decide) (fun c_4 => ?_) (fun c_4 => ?_)
          · refine lv_iinc (v := nI (i33 + 1)) (lv' := [(3, .int (nI (i33 + 1))), (2, .int x33_2), (1, .int (nI (M_layOrder_L4 σ pl pl 0 1))), (0, .ref (a 0))]) hx hb dX12_layOrder_137 hl (k := 0) rfl (nI_1 _) (by decide) rfl (fun ls hl => ?_)
            refine lv_goto (tgt := 33) hx hb dX12_layOrder_140 (by decide) ?_
            exact ih33 (i33 + 1) x33_2 (M_isOrder_s σ33 pl i33) _ _ _ (by omega) ((M_isOrder_s_k0 σ33 pl i33).trans (k33_0)) (Eq.mpr (congrArg (fun z => planOK z pl) (M_isOrder_s_k7 σ33 pl i33)) r33_7) (by have q := hF33; simp only [M_layOrder_L33, M_layOrder_S33_0, M_layOrder_S33_1, if_pos c_4] at q; exact q) hw (lv_sub hl [0, 1, 2, 3] rfl)
          · have ro := M_isOrder_ok σ33 pl i33 hp0b
            refine lv_iconst (v := 0) hx hb dX12_layOrder_46 (by decide) ?_
            refine lv_istore (lv' := [(4, .int 0), (3, .int (nI i33)), (2, .int x33_2), (1, .int (nI (M_layOrder_L4 σ pl pl 0 1))), (0, .ref (a 0))]) hx hb dX12_layOrder_47 hl (by decide) rfl (fun ls hl => ?_)
            have L49 : ∀ (n49 i49 : Nat) (σ49 : Nat → Nat → Int32) (H : Heap) (locs : List Loc) (ls : Array Slot), i49 + n49 = pl → σ49 0 = (M_isOrder_s σ33 pl i33) 0 → planOK (σ49 7) pl → rowOK (σ49 10) pl → M_layOrder_L49 pl i33 x33_2 (M_layOrder_L4 σ pl pl 0 1) n49 i49 σ49 = M_layOrder_L49 pl i33 x33_2 (M_layOrder_L4 σ pl pl 0 1) pl 0 (M_isOrder_s σ33 pl i33) → gw D [(cI, .int)] A s H locs (wM cI a σ49 h) → lv_has ls 6 [(4, .int (nI i49)), (3, .int (nI i33)), (2, .int x33_2), (1, .int (nI (M_layOrder_L4 σ pl pl 0 1))), (0, .ref (a 0))] → W p l e (gR 5) s m ([.ref (a 0)] : List Value).toArray below meth C H locs 0 0 (MQ below (gQi D [(cI, .int)] (M_layOrder_r σ pl) (wM cI a (M_layOrder_s σ pl) h) A) ([.ref (a 0)] : List Value).toArray s 0 0 A) (F0 m 49 ls []) := by
              intro n49
              induction n49 with
              | zero =>
                intro i49 σ49 H locs ls hi49 k49_0 r49_7 r49_10 hF49 hw hl
                refine lv_iload hx hb dX12_layOrder_49 (lv_at hl 0 rfl) ?_
                refine lv_aload_n hx hb dX12_layOrder_51 rfl (lv_at hl 4 rfl) ?_
                refine g_get S hw hinX12 (fs := fM a σ49 h) 0 rfl rfl 15 (by decide) lk0 (v := .int (nI pl)) (congrArg (fun z => some (Value.int z)) ((congrFun k49_0 15).trans ((congrFun (M_isOrder_s_k0 σ33 pl i33) 15).trans ((congrFun k33_0 15).trans ((congrFun (M_layAside_s_k0 σ) 15).trans (hp0)))))) dX12_layOrder_52 ?_
                refine ln_ge (x := i49) (y := pl) hx hb (by omega) (by omega) (tgt := 104) dX12_layOrder_55 (by decide) (fun c_x => ?_) (fun c_x => absurd (by omega) c_x)
                have hz49 : pl = i49 := by omega
                subst hz49
                have e49_0 : (M_layOrder_L49 pl i33 x33_2 (M_layOrder_L4 σ pl pl 0 1) pl 0 (M_isOrder_s σ33 pl i33)) = σ49 := hF49.symm
                subst e49_0
                refine lv_iload_n hx hb dX12_layOrder_104 rfl (lv_at hl 2 rfl) ?_
                refine lv_iconst (v := (-1)) hx hb dX12_layOrder_105 (by decide) ?_
                refine lv_icmp_eq hx hb (tgt := 117) dX12_layOrder_106 (by decide) (fun c_11 => ?_) (fun c_11 => ?_)
                · refine lv_aload_n hx hb dX12_layOrder_117 rfl (lv_at hl 4 rfl) ?_
                  refine g_callVi S hw (c_M_owedAll l D cI a (M_layOrder_L49 pl i33 x33_2 (M_layOrder_L4 σ pl pl 0 1) pl 0 (M_isOrder_s σ33 pl i33)) h) gX12_layOrder_X12_owedAll rfl 0 rfl rfl 0 rfl (by decide +kernel) (by decide) (by decide) hl.1 rfl (Nat.le_of_ble_eq_true rfl) dX12_layOrder_118 (fun H locs hw => ?_)
                  refine lv_istore_n (lv' := [(2, .int (M_owedAll_r (M_layOrder_L49 pl i33 x33_2 (M_layOrder_L4 σ pl pl 0 1) pl 0 (M_isOrder_s σ33 pl i33)))), (4, .int (nI pl)), (3, .int (nI i33)), (1, .int (nI (M_layOrder_L4 σ pl pl 0 1))), (0, .ref (a 0))]) hx hb dX12_layOrder_121 rfl hl (by decide) rfl (fun ls hl => ?_)
                  refine lv_aload_n hx hb dX12_layOrder_122 rfl (lv_at hl 4 rfl) ?_
                  refine g_get S hw hinX12 (fs := fM a (M_layOrder_L49 pl i33 x33_2 (M_layOrder_L4 σ pl pl 0 1) pl 0 (M_isOrder_s σ33 pl i33)) h) 0 rfl rfl 19 (by decide) lk2 (v := .ref (a 10)) rfl dX12_layOrder_123 ?_
                  refine lv_aload_n hx hb dX12_layOrder_126 rfl (lv_at hl 4 rfl) ?_
                  refine g_get S hw hinX12 (fs := fM a (M_layOrder_L49 pl i33 x33_2 (M_layOrder_L4 σ pl pl 0 1) pl 0 (M_isOrder_s σ33 pl i33)) h) 0 rfl rfl 20 (by decide) lk4 (v := .ref (a 11)) rfl dX12_layOrder_127 ?_
                  refine g_callSv S hw (c_M_copy_10_11 l D cI a (M_layOrder_L49 pl i33 x33_2 (M_layOrder_L4 σ pl pl 0 1) pl 0 (M_isOrder_s σ33 pl i33)) h) gX12_layOrder_X12_copy rfl 2 rfl (by decide +kernel) (by decide) (by decide) hl.1 rfl (Nat.le_of_ble_eq_true rfl) dX12_layOrder_130 (fun H locs hw => ?_)
                  refine lv_aload_n hx hb dX12_layOrder_133 rfl (lv_at hl 4 rfl) ?_
                  refine g_callVv S hw (c_M_layBack l D cI a (row (M_layOrder_L49 pl i33 x33_2 (M_layOrder_L4 σ pl pl 0 1) pl 0 (M_isOrder_s σ33 pl i33)) 11 ((M_layOrder_L49 pl i33 x33_2 (M_layOrder_L4 σ pl pl 0 1) pl 0 (M_isOrder_s σ33 pl i33)) 10)) h) gX12_layOrder_X12_layBack rfl 0 rfl rfl 0 rfl (by decide +kernel) (by decide) (by decide) hl.1 rfl (Nat.le_of_ble_eq_true rfl) dX12_layOrder_134 (fun H locs hw => ?_)
                  refine lv_iinc (v := nI (i33 + 1)) (lv' := [(3, .int (nI (i33 + 1))), (2, .int (M_owedAll_r (M_layOrder_L49 pl i33 x33_2 (M_layOrder_L4 σ pl pl 0 1) pl 0 (M_isOrder_s σ33 pl i33)))), (4, .int (nI pl)), (1, .int (nI (M_layOrder_L4 σ pl pl 0 1))), (0, .ref (a 0))]) hx hb dX12_layOrder_137 hl (k := 2) rfl (nI_1 _) (by decide) rfl (fun ls hl => ?_)
                  refine lv_goto (tgt := 33) hx hb dX12_layOrder_140 (by decide) ?_
                  exact ih33 (i33 + 1) (M_owedAll_r (M_layOrder_L49 pl i33 x33_2 (M_layOrder_L4 σ pl pl 0 1) pl 0 (M_isOrder_s σ33 pl i33))) (M_layBack_s (row (M_layOrder_L49 pl i33 x33_2 (M_layOrder_L4 σ pl pl 0 1) pl 0 (M_isOrder_s σ33 pl i33)) 11 ((M_layOrder_L49 pl i33 x33_2 (M_layOrder_L4 σ pl pl 0 1) pl 0 (M_isOrder_s σ33 pl i33)) 10))) _ _ _ (by omega) ((M_layBack_s_k0 (row (M_layOrder_L49 pl i33 x33_2 (M_layOrder_L4 σ pl pl 0 1) pl 0 (M_isOrder_s σ33 pl i33)) 11 ((M_layOrder_L49 pl i33 x33_2 (M_layOrder_L4 σ pl pl 0 1) pl 0 (M_isOrder_s σ33 pl i33)) 10))).trans ((row_n _ _ (by decide)).trans ((M_layOrder_L49_k0 pl i33 x33_2 (M_layOrder_L4 σ pl pl 0 1) pl 0 (M_isOrder_s σ33 pl i33)).trans ((M_isOrder_s_k0 σ33 pl i33).trans (k33_0))))) (Eq.mpr (congrArg (fun z => planOK z pl) ((M_layBack_s_k7 (row (M_layOrder_L49 pl i33 x33_2 (M_layOrder_L4 σ pl pl 0 1) pl 0 (M_isOrder_s σ33 pl i33)) 11 ((M_layOrder_L49 pl i33 x33_2 (M_layOrder_L4 σ pl pl 0 1) pl 0 (M_isOrder_s σ33 pl i33)) 10))).trans ((row_n _ _ (by decide)).trans ((M_layOrder_L49_k7 pl i33 x33_2 (M_layOrder_L4 σ pl pl 0 1) pl 0 (M_isOrder_s σ33 pl i33)).trans (M_isOrder_s_k7 σ33 pl i33))))) r33_7) (by have q := hF33; simp only [M_layOrder_L33, M_layOrder_S33_0, M_layOrder_S33_1, if_neg c_4, if_pos c_11] at q; exact q) hw (lv_sub hl [0, 1, 3, 4] rfl)
                · refine lv_aload_n hx hb dX12_layOrder_109 rfl (lv_at hl 4 rfl) ?_
                  refine g_callVi S hw (c_M_owedAll l D cI a (M_layOrder_L49 pl i33 x33_2 (M_layOrder_L4 σ pl pl 0 1) pl 0 (M_isOrder_s σ33 pl i33)) h) gX12_layOrder_X12_owedAll rfl 0 rfl rfl 0 rfl (by decide +kernel) (by decide) (by decide) hl.1 rfl (Nat.le_of_ble_eq_true rfl) dX12_layOrder_110 (fun H locs hw => ?_)
                  refine lv_iload_n hx hb dX12_layOrder_113 rfl (lv_at hl 2 rfl) ?_
                  refine lv_icmp_ge hx hb (tgt := 133) dX12_layOrder_114 (by decide) (fun c_12 => ?_) (fun c_12 => ?_)
                  · refine lv_aload_n hx hb dX12_layOrder_133 rfl (lv_at hl 4 rfl) ?_
                    refine g_callVv S hw (c_M_layBack l D cI a (M_layOrder_L49 pl i33 x33_2 (M_layOrder_L4 σ pl pl 0 1) pl 0 (M_isOrder_s σ33 pl i33)) h) gX12_layOrder_X12_layBack rfl 0 rfl rfl 0 rfl (by decide +kernel) (by decide) (by decide) hl.1 rfl (Nat.le_of_ble_eq_true rfl) dX12_layOrder_134 (fun H locs hw => ?_)
                    refine lv_iinc (v := nI (i33 + 1)) (lv' := [(3, .int (nI (i33 + 1))), (4, .int (nI pl)), (2, .int x33_2), (1, .int (nI (M_layOrder_L4 σ pl pl 0 1))), (0, .ref (a 0))]) hx hb dX12_layOrder_137 hl (k := 1) rfl (nI_1 _) (by decide) rfl (fun ls hl => ?_)
                    refine lv_goto (tgt := 33) hx hb dX12_layOrder_140 (by decide) ?_
                    exact ih33 (i33 + 1) x33_2 (M_layBack_s (M_layOrder_L49 pl i33 x33_2 (M_layOrder_L4 σ pl pl 0 1) pl 0 (M_isOrder_s σ33 pl i33))) _ _ _ (by omega) ((M_layBack_s_k0 (M_layOrder_L49 pl i33 x33_2 (M_layOrder_L4 σ pl pl 0 1) pl 0 (M_isOrder_s σ33 pl i33))).trans ((M_layOrder_L49_k0 pl i33 x33_2 (M_layOrder_L4 σ pl pl 0 1) pl 0 (M_isOrder_s σ33 pl i33)).trans ((M_isOrder_s_k0 σ33 pl i33).trans (k33_0)))) (Eq.mpr (congrArg (fun z => planOK z pl) ((M_layBack_s_k7 (M_layOrder_L49 pl i33 x33_2 (M_layOrder_L4 σ pl pl 0 1) pl 0 (M_isOrder_s σ33 pl i33))).trans ((M_layOrder_L49_k7 pl i33 x33_2 (M_layOrder_L4 σ pl pl 0 1) pl 0 (M_isOrder_s σ33 pl i33)).trans (M_isOrder_s_k7 σ33 pl i33)))) r33_7) (by have q := hF33; simp only [M_layOrder_L33, M_layOrder_S33_0, M_layOrder_S33_1, if_neg c_4, if_neg c_11, if_pos c_12] at q; exact q) hw (lv_sub hl [0, 2, 3, 4] rfl)
                  · refine lv_aload_n hx hb dX12_layOrder_117 rfl (lv_at hl 4 rfl) ?_
                    refine g_callVi S hw (c_M_owedAll l D cI a (M_layOrder_L49 pl i33 x33_2 (M_layOrder_L4 σ pl pl 0 1) pl 0 (M_isOrder_s σ33 pl i33)) h) gX12_layOrder_X12_owedAll rfl 0 rfl rfl 0 rfl (by decide +kernel) (by decide) (by decide) hl.1 rfl (Nat.le_of_ble_eq_true rfl) dX12_layOrder_118 (fun H locs hw => ?_)
                    refine lv_istore_n (lv' := [(2, .int (M_owedAll_r (M_layOrder_L49 pl i33 x33_2 (M_layOrder_L4 σ pl pl 0 1) pl 0 (M_isOrder_s σ33 pl i33)))), (4, .int (nI pl)), (3, .int (nI i33)), (1, .int (nI (M_layOrder_L4 σ pl pl 0 1))), (0, .ref (a 0))]) hx hb dX12_layOrder_121 rfl hl (by decide) rfl (fun ls hl => ?_)
                    refine lv_aload_n hx hb dX12_layOrder_122 rfl (lv_at hl 4 rfl) ?_
                    refine g_get S hw hinX12 (fs := fM a (M_layOrder_L49 pl i33 x33_2 (M_layOrder_L4 σ pl pl 0 1) pl 0 (M_isOrder_s σ33 pl i33)) h) 0 rfl rfl 19 (by decide) lk2 (v := .ref (a 10)) rfl dX12_layOrder_123 ?_
                    refine lv_aload_n hx hb dX12_layOrder_126 rfl (lv_at hl 4 rfl) ?_
                    refine g_get S hw hinX12 (fs := fM a (M_layOrder_L49 pl i33 x33_2 (M_layOrder_L4 σ pl pl 0 1) pl 0 (M_isOrder_s σ33 pl i33)) h) 0 rfl rfl 20 (by decide) lk4 (v := .ref (a 11)) rfl dX12_layOrder_127 ?_
                    refine g_callSv S hw (c_M_copy_10_11 l D cI a (M_layOrder_L49 pl i33 x33_2 (M_layOrder_L4 σ pl pl 0 1) pl 0 (M_isOrder_s σ33 pl i33)) h) gX12_layOrder_X12_copy rfl 2 rfl (by decide +kernel) (by decide) (by decide) hl.1 rfl (Nat.le_of_ble_eq_true rfl) dX12_layOrder_130 (fun H locs hw => ?_)
                    refine lv_aload_n hx hb dX12_layOrder_133 rfl (lv_at hl 4 rfl) ?_
                    refine g_callVv S hw (c_M_layBack l D cI a (row (M_layOrder_L49 pl i33 x33_2 (M_layOrder_L4 σ pl pl 0 1) pl 0 (M_isOrder_s σ33 pl i33)) 11 ((M_layOrder_L49 pl i33 x33_2 (M_layOrder_L4 σ pl pl 0 1) pl 0 (M_isOrder_s σ33 pl i33)) 10)) h) gX12_layOrder_X12_layBack rfl 0 rfl rfl 0 rfl (by decide +kernel) (by decide) (by decide) hl.1 rfl (Nat.le_of_ble_eq_true rfl) dX12_layOrder_134 (fun H locs hw => ?_)
                    refine lv_iinc (v := nI (i33 + 1)) (lv' := [(3, .int (nI (i33 + 1))), (2, .int (M_owedAll_r (M_layOrder_L49 pl i33 x33_2 (M_layOrder_L4 σ pl pl 0 1) pl 0 (M_isOrder_s σ33 pl i33)))), (4, .int (nI pl)), (1, .int (nI (M_layOrder_L4 σ pl pl 0 1))), (0, .ref (a 0))]) hx hb dX12_layOrder_137 hl (k := 2) rfl (nI_1 _) (by decide) rfl (fun ls hl => ?_)
                    refine lv_goto (tgt := 33) hx hb dX12_layOrder_140 (by decide) ?_
                    exact ih33 (i33 + 1) (M_owedAll_r (M_layOrder_L49 pl i33 x33_2 (M_layOrder_L4 σ pl pl 0 1) pl 0 (M_isOrder_s σ33 pl i33))) (M_layBack_s (row (M_layOrder_L49 pl i33 x33_2 (M_layOrder_L4 σ pl pl 0 1) pl 0 (M_isOrder_s σ33 pl i33)) 11 ((M_layOrder_L49 pl i33 x33_2 (M_layOrder_L4 σ pl pl 0 1) pl 0 (M_isOrder_s σ33 pl i33)) 10))) _ _ _ (by omega) ((M_layBack_s_k0 (row (M_layOrder_L49 pl i33 x33_2 (M_layOrder_L4 σ pl pl 0 1) pl 0 (M_isOrder_s σ33 pl i33)) 11 ((M_layOrder_L49 pl i33 x33_2 (M_layOrder_L4 σ pl pl 0 1) pl 0 (M_isOrder_s σ33 pl i33)) 10))).trans ((row_n _ _ (by decide)).trans ((M_layOrder_L49_k0 pl i33 x33_2 (M_layOrder_L4 σ pl pl 0 1) pl 0 (M_isOrder_s σ33 pl i33)).trans ((M_isOrder_s_k0 σ33 pl i33).trans (k33_0))))) (Eq.mpr (congrArg (fun z => planOK z pl) ((M_layBack_s_k7 (row (M_layOrder_L49 pl i33 x33_2 (M_layOrder_L4 σ pl pl 0 1) pl 0 (M_isOrder_s σ33 pl i33)) 11 ((M_layOrder_L49 pl i33 x33_2 (M_layOrder_L4 σ pl pl 0 1) pl 0 (M_isOrder_s σ33 pl i33)) 10))).trans ((row_n _ _ (by decide)).trans ((M_layOrder_L49_k7 pl i33 x33_2 (M_layOrder_L4 σ pl pl 0 1) pl 0 (M_isOrder_s σ33 pl i33)).trans (M_isOrder_s_k7 σ33 pl i33))))) r33_7) (by have q := hF33; simp only [M_layOrder_L33, M_layOrder_S33_0, M_layOrder_S33_1, if_neg c_4, if_neg c_11, if_neg c_12] at q; exact q) hw (lv_sub hl [0, 1, 3, 4] rfl)
              | succ n49 ih49 =>
                intro i49 σ49 H locs ls hi49 k49_0 r49_7 r49_10 hF49 hw hl
                refine lv_iload hx hb dX12_layOrder_49 (lv_at hl 0 rfl) ?_
                refine lv_aload_n hx hb dX12_layOrder_51 rfl (lv_at hl 4 rfl) ?_
                refine g_get S hw hinX12 (fs := fM a σ49 h) 0 rfl rfl 15 (by decide) lk0 (v := .int (nI pl)) (congrArg (fun z => some (Value.int z)) ((congrFun k49_0 15).trans ((congrFun (M_isOrder_s_k0 σ33 pl i33) 15).trans ((congrFun k33_0 15).trans ((congrFun (M_layAside_s_k0 σ) 15).trans (hp0)))))) dX12_layOrder_52 ?_
                refine ln_ge (x := i49) (y := pl) hx hb (by omega) (by omega) (tgt := 104) dX12_layOrder_55 (by decide) (fun c_x => absurd c_x (by omega)) (fun c_x => ?_)
                refine lv_aload_n hx hb dX12_layOrder_58 rfl (lv_at hl 4 rfl) ?_
                refine lv_aload_n hx hb dX12_layOrder_59 rfl (lv_at hl 4 rfl) ?_
                refine g_get S hw hinX12 (fs := fM a σ49 h) 0 rfl rfl 16 (by decide) lk1 (v := .ref (a 7)) rfl dX12_layOrder_60 ?_
                refine lv_iconst (v := 2) hx hb dX12_layOrder_63 (by decide) ?_
                refine lv_aload_n hx hb dX12_layOrder_64 rfl (lv_at hl 4 rfl) ?_
                refine g_get S hw hinX12 (fs := fM a σ49 h) 0 rfl rfl 19 (by decide) lk2 (v := .ref (a 10)) rfl dX12_layOrder_65 ?_
                refine lv_iload hx hb dX12_layOrder_68 (lv_at hl 0 rfl) ?_
                have q6 := (r49_10) i49 (by omega)
                have q6b := q6.2
                refine g_iald S hw (f := σ49 10) (i := i49) (x := nI ((σ49 10 i49).toNatClampNeg)) 10 0 rfl rfl (by omega) (by decide) q6.1 dX12_layOrder_70 ?_
                refine ln_imul (x := 2) (y := (σ49 10 i49).toNatClampNeg) hx hb dX12_layOrder_71 ?_
                have q7 := ((r49_7) ((σ49 10 i49).toNatClampNeg) (by omega)).1
                have q7b := q7.2
                refine g_iald S hw (f := σ49 7) (i := 2 * ((σ49 10 i49).toNatClampNeg)) (x := nI ((σ49 7 (2 * ((σ49 10 i49).toNatClampNeg))).toNatClampNeg)) 7 0 rfl rfl (by omega) (by decide) q7.1 dX12_layOrder_72 ?_
                refine lv_aload_n hx hb dX12_layOrder_73 rfl (lv_at hl 4 rfl) ?_
                refine g_get S hw hinX12 (fs := fM a σ49 h) 0 rfl rfl 16 (by decide) lk1 (v := .ref (a 7)) rfl dX12_layOrder_74 ?_
                refine lv_iconst (v := 2) hx hb dX12_layOrder_77 (by decide) ?_
                refine lv_aload_n hx hb dX12_layOrder_78 rfl (lv_at hl 4 rfl) ?_
                refine g_get S hw hinX12 (fs := fM a σ49 h) 0 rfl rfl 19 (by decide) lk2 (v := .ref (a 10)) rfl dX12_layOrder_79 ?_
                refine lv_iload hx hb dX12_layOrder_82 (lv_at hl 0 rfl) ?_
                have q8 := (r49_10) i49 (by omega)
                have q8b := q8.2
                refine g_iald S hw (f := σ49 10) (i := i49) (x := nI ((σ49 10 i49).toNatClampNeg)) 10 0 rfl rfl (by omega) (by decide) q8.1 dX12_layOrder_84 ?_
                refine ln_imul (x := 2) (y := (σ49 10 i49).toNatClampNeg) hx hb dX12_layOrder_85 ?_
                refine lv_iconst (v := 1) hx hb dX12_layOrder_86 (by decide) ?_
                refine ln_iadd (x := 2 * ((σ49 10 i49).toNatClampNeg)) (y := 1) hx hb dX12_layOrder_87 ?_
                have q9 := ((r49_7) ((σ49 10 i49).toNatClampNeg) (by omega)).2
                have q9b := q9.2
                refine g_iald S hw (f := σ49 7) (i := (2 * ((σ49 10 i49).toNatClampNeg)) + 1) (x := nI ((σ49 7 ((2 * ((σ49 10 i49).toNatClampNeg)) + 1)).toNatClampNeg)) 7 0 rfl rfl (by omega) (by decide) q9.1 dX12_layOrder_88 ?_
                refine lv_aload_n hx hb dX12_layOrder_89 rfl (lv_at hl 4 rfl) ?_
                refine g_get S hw hinX12 (fs := fM a σ49 h) 0 rfl rfl 7 (by decide) lk3 (v := .int (σ49 0 7)) rfl dX12_layOrder_90 ?_
                refine g_callVi S hw (c_M_marry l D cI a σ49 h ((σ49 7 (2 * ((σ49 10 i49).toNatClampNeg))).toNatClampNeg) ((σ49 7 ((2 * ((σ49 10 i49).toNatClampNeg)) + 1)).toNatClampNeg) (σ49 0 7) (by omega) (by omega)) gX12_layOrder_X12_marry rfl 0 rfl rfl 3 rfl (by decide +kernel) (by decide) (by decide) hl.1 rfl (Nat.le_of_ble_eq_true rfl) dX12_layOrder_93 (fun H locs hw => ?_)
                refine lv_istore (lv' := [(5, .int (M_marry_r σ49 ((σ49 7 (2 * ((σ49 10 i49).toNatClampNeg))).toNatClampNeg) ((σ49 7 ((2 * ((σ49 10 i49).toNatClampNeg)) + 1)).toNatClampNeg) (σ49 0 7))), (4, .int (nI i49)), (3, .int (nI i33)), (2, .int x33_2), (1, .int (nI (M_layOrder_L4 σ pl pl 0 1))), (0, .ref (a 0))]) hx hb dX12_layOrder_96 hl (by decide) rfl (fun ls hl => ?_)
                refine lv_iinc (v := nI (i49 + 1)) (lv' := [(4, .int (nI (i49 + 1))), (5, .int (M_marry_r σ49 ((σ49 7 (2 * ((σ49 10 i49).toNatClampNeg))).toNatClampNeg) ((σ49 7 ((2 * ((σ49 10 i49).toNatClampNeg)) + 1)).toNatClampNeg) (σ49 0 7))), (3, .int (nI i33)), (2, .int x33_2), (1, .int (nI (M_layOrder_L4 σ pl pl 0 1))), (0, .ref (a 0))]) hx hb dX12_layOrder_98 hl (k := 1) rfl (nI_1 _) (by decide) rfl (fun ls hl => ?_)
                refine lv_goto (tgt := 49) hx hb dX12_layOrder_101 (by decide) ?_
                exact ih49 (i49 + 1) (M_marry_s σ49 ((σ49 7 (2 * ((σ49 10 i49).toNatClampNeg))).toNatClampNeg) ((σ49 7 ((2 * ((σ49 10 i49).toNatClampNeg)) + 1)).toNatClampNeg) (σ49 0 7)) _ _ _ (by omega) ((M_marry_s_k0 σ49 ((σ49 7 (2 * ((σ49 10 i49).toNatClampNeg))).toNatClampNeg) ((σ49 7 ((2 * ((σ49 10 i49).toNatClampNeg)) + 1)).toNatClampNeg) (σ49 0 7)).trans (k49_0)) (Eq.mpr (congrArg (fun z => planOK z pl) (M_marry_s_k7 σ49 ((σ49 7 (2 * ((σ49 10 i49).toNatClampNeg))).toNatClampNeg) ((σ49 7 ((2 * ((σ49 10 i49).toNatClampNeg)) + 1)).toNatClampNeg) (σ49 0 7))) r49_7) (Eq.mpr (congrArg (fun z => rowOK z pl) (M_marry_s_k10 σ49 ((σ49 7 (2 * ((σ49 10 i49).toNatClampNeg))).toNatClampNeg) ((σ49 7 ((2 * ((σ49 10 i49).toNatClampNeg)) + 1)).toNatClampNeg) (σ49 0 7))) r49_10) hF49 hw (lv_sub hl [0, 2, 3, 4, 5] rfl)
            exact L49 pl 0 (M_isOrder_s σ33 pl i33) _ _ _ (by omega) rfl (Eq.mpr (congrArg (fun z => planOK z pl) (M_isOrder_s_k7 σ33 pl i33)) r33_7) (ro) rfl hw (lv_sub hl [0, 1, 2, 3, 4] rfl)
      exact L33 (M_layOrder_L4 σ pl pl 0 1) 0 (-1) (M_layAside_s σ) _ _ _ (by omega) rfl (Eq.mpr (congrArg (fun z => planOK z pl) (M_layAside_s_k7 σ)) hpl) rfl hw (lv_sub hl [0, 1, 2, 3] rfl)
    | succ n4 ih4 =>
      intro i4 x4_1 H locs ls hi4 hF4 hw hl
      refine lv_iload_n hx hb dX12_layOrder_4 rfl (lv_at hl 0 rfl) ?_
      refine lv_aload_n hx hb dX12_layOrder_5 rfl (lv_at hl 2 rfl) ?_
      refine g_get S hw hinX12 (fs := fM a σ h) 0 rfl rfl 15 (by decide) lk0 (v := .int (nI pl)) (congrArg (fun z => some (Value.int z)) (hp0)) dX12_layOrder_6 ?_
      refine ln_ge (x := i4) (y := pl) hx hb (by omega) (by omega) (tgt := 25) dX12_layOrder_9 (by decide) (fun c_x => absurd c_x (by omega)) (fun c_x => ?_)
      refine lv_iload_n hx hb dX12_layOrder_12 rfl (lv_at hl 1 rfl) ?_
      refine lv_aload_n hx hb dX12_layOrder_13 rfl (lv_at hl 2 rfl) ?_
      refine g_get S hw hinX12 (fs := fM a σ h) 0 rfl rfl 15 (by decide) lk0 (v := .int (nI pl)) (congrArg (fun z => some (Value.int z)) (hp0)) dX12_layOrder_14 ?_
      refine ln_imul (x := x4_1) (y := pl) hx hb dX12_layOrder_17 ?_
      refine lv_istore_n (lv' := [(1, .int (nI (x4_1 * pl))), (2, .int (nI i4)), (0, .ref (a 0))]) hx hb dX12_layOrder_18 rfl hl (by decide) rfl (fun ls hl => ?_)
      refine lv_iinc (v := nI (i4 + 1)) (lv' := [(2, .int (nI (i4 + 1))), (1, .int (nI (x4_1 * pl))), (0, .ref (a 0))]) hx hb dX12_layOrder_19 hl (k := 1) rfl (nI_1 _) (by decide) rfl (fun ls hl => ?_)
      refine lv_goto (tgt := 4) hx hb dX12_layOrder_22 (by decide) ?_
      exact ih4 (i4 + 1) (x4_1 * pl) _ _ _ (by omega) hF4 hw (lv_sub hl [0, 1, 2] rfl)
  exact L4 pl 0 1 _ _ _ (by omega) rfl hw (lv_sub hl [0, 1, 2] rfl)

def M_orderOf_r (σ : Nat → Nat → Int32) (pl : Nat) (what : Nat) : Int32 := if what = 0 then (M_layOrder_r σ pl) else (if pl ≤ (what - 10) then (-1) else (((M_layOrder_s σ pl) 11) (what - 10)))
def M_orderOf_s (σ : Nat → Nat → Int32) (pl : Nat) (what : Nat) : Nat → Nat → Int32 := if what = 0 then (M_layOrder_s σ pl) else (if pl ≤ (what - 10) then (M_layOrder_s σ pl) else (M_layOrder_s σ pl))
theorem M_orderOf_s_k0 (σ : Nat → Nat → Int32) (pl : Nat) (what : Nat) : M_orderOf_s σ pl what 0 = σ 0 := by
  unfold M_orderOf_s
  by_cases z1 : what = 0
  · refine Eq.trans (congrFun (if_pos z1) 0) ?_
    exact M_layOrder_s_k0 σ pl
  · refine Eq.trans (congrFun (if_neg z1) 0) ?_
    by_cases z2 : pl ≤ (what - 10)
    · refine Eq.trans (congrFun (if_pos z2) 0) ?_
      exact M_layOrder_s_k0 σ pl
    · refine Eq.trans (congrFun (if_neg z2) 0) ?_
      exact M_layOrder_s_k0 σ pl
theorem M_orderOf_s_k1 (σ : Nat → Nat → Int32) (pl : Nat) (what : Nat) : M_orderOf_s σ pl what 1 = σ 1 := by
  unfold M_orderOf_s
  by_cases z1 : what = 0
  · refine Eq.trans (congrFun (if_pos z1) 1) ?_
    exact M_layOrder_s_k1 σ pl
  · refine Eq.trans (congrFun (if_neg z1) 1) ?_
    by_cases z2 : pl ≤ (what - 10)
    · refine Eq.trans (congrFun (if_pos z2) 1) ?_
      exact M_layOrder_s_k1 σ pl
    · refine Eq.trans (congrFun (if_neg z2) 1) ?_
      exact M_layOrder_s_k1 σ pl
theorem M_orderOf_s_k2 (σ : Nat → Nat → Int32) (pl : Nat) (what : Nat) : M_orderOf_s σ pl what 2 = σ 2 := by
  unfold M_orderOf_s
  by_cases z1 : what = 0
  · refine Eq.trans (congrFun (if_pos z1) 2) ?_
    exact M_layOrder_s_k2 σ pl
  · refine Eq.trans (congrFun (if_neg z1) 2) ?_
    by_cases z2 : pl ≤ (what - 10)
    · refine Eq.trans (congrFun (if_pos z2) 2) ?_
      exact M_layOrder_s_k2 σ pl
    · refine Eq.trans (congrFun (if_neg z2) 2) ?_
      exact M_layOrder_s_k2 σ pl
theorem M_orderOf_s_k3 (σ : Nat → Nat → Int32) (pl : Nat) (what : Nat) : M_orderOf_s σ pl what 3 = σ 3 := by
  unfold M_orderOf_s
  by_cases z1 : what = 0
  · refine Eq.trans (congrFun (if_pos z1) 3) ?_
    exact M_layOrder_s_k3 σ pl
  · refine Eq.trans (congrFun (if_neg z1) 3) ?_
    by_cases z2 : pl ≤ (what - 10)
    · refine Eq.trans (congrFun (if_pos z2) 3) ?_
      exact M_layOrder_s_k3 σ pl
    · refine Eq.trans (congrFun (if_neg z2) 3) ?_
      exact M_layOrder_s_k3 σ pl
theorem M_orderOf_s_k6 (σ : Nat → Nat → Int32) (pl : Nat) (what : Nat) : M_orderOf_s σ pl what 6 = σ 6 := by
  unfold M_orderOf_s
  by_cases z1 : what = 0
  · refine Eq.trans (congrFun (if_pos z1) 6) ?_
    exact M_layOrder_s_k6 σ pl
  · refine Eq.trans (congrFun (if_neg z1) 6) ?_
    by_cases z2 : pl ≤ (what - 10)
    · refine Eq.trans (congrFun (if_pos z2) 6) ?_
      exact M_layOrder_s_k6 σ pl
    · refine Eq.trans (congrFun (if_neg z2) 6) ?_
      exact M_layOrder_s_k6 σ pl
theorem M_orderOf_s_k7 (σ : Nat → Nat → Int32) (pl : Nat) (what : Nat) : M_orderOf_s σ pl what 7 = σ 7 := by
  unfold M_orderOf_s
  by_cases z1 : what = 0
  · refine Eq.trans (congrFun (if_pos z1) 7) ?_
    exact M_layOrder_s_k7 σ pl
  · refine Eq.trans (congrFun (if_neg z1) 7) ?_
    by_cases z2 : pl ≤ (what - 10)
    · refine Eq.trans (congrFun (if_pos z2) 7) ?_
      exact M_layOrder_s_k7 σ pl
    · refine Eq.trans (congrFun (if_neg z2) 7) ?_
      exact M_layOrder_s_k7 σ pl
theorem M_orderOf_s_k12 (σ : Nat → Nat → Int32) (pl : Nat) (what : Nat) : M_orderOf_s σ pl what 12 = σ 12 := by
  unfold M_orderOf_s
  by_cases z1 : what = 0
  · refine Eq.trans (congrFun (if_pos z1) 12) ?_
    exact M_layOrder_s_k12 σ pl
  · refine Eq.trans (congrFun (if_neg z1) 12) ?_
    by_cases z2 : pl ≤ (what - 10)
    · refine Eq.trans (congrFun (if_pos z2) 12) ?_
      exact M_layOrder_s_k12 σ pl
    · refine Eq.trans (congrFun (if_neg z2) 12) ?_
      exact M_layOrder_s_k12 σ pl
theorem M_orderOf_s_k13 (σ : Nat → Nat → Int32) (pl : Nat) (what : Nat) : M_orderOf_s σ pl what 13 = σ 13 := by
  unfold M_orderOf_s
  by_cases z1 : what = 0
  · refine Eq.trans (congrFun (if_pos z1) 13) ?_
    exact M_layOrder_s_k13 σ pl
  · refine Eq.trans (congrFun (if_neg z1) 13) ?_
    by_cases z2 : pl ≤ (what - 10)
    · refine Eq.trans (congrFun (if_pos z2) 13) ?_
      exact M_layOrder_s_k13 σ pl
    · refine Eq.trans (congrFun (if_neg z2) 13) ?_
      exact M_layOrder_s_k13 σ pl
theorem M_orderOf_s_k14 (σ : Nat → Nat → Int32) (pl : Nat) (what : Nat) : M_orderOf_s σ pl what 14 = σ 14 := by
  unfold M_orderOf_s
  by_cases z1 : what = 0
  · refine Eq.trans (congrFun (if_pos z1) 14) ?_
    exact M_layOrder_s_k14 σ pl
  · refine Eq.trans (congrFun (if_neg z1) 14) ?_
    by_cases z2 : pl ≤ (what - 10)
    · refine Eq.trans (congrFun (if_pos z2) 14) ?_
      exact M_layOrder_s_k14 σ pl
    · refine Eq.trans (congrFun (if_neg z2) 14) ?_
      exact M_layOrder_s_k14 σ pl
theorem M_orderOf_s_k15 (σ : Nat → Nat → Int32) (pl : Nat) (what : Nat) : M_orderOf_s σ pl what 15 = σ 15 := by
  unfold M_orderOf_s
  by_cases z1 : what = 0
  · refine Eq.trans (congrFun (if_pos z1) 15) ?_
    exact M_layOrder_s_k15 σ pl
  · refine Eq.trans (congrFun (if_neg z1) 15) ?_
    by_cases z2 : pl ≤ (what - 10)
    · refine Eq.trans (congrFun (if_pos z2) 15) ?_
      exact M_layOrder_s_k15 σ pl
    · refine Eq.trans (congrFun (if_neg z2) 15) ?_
      exact M_layOrder_s_k15 σ pl
theorem M_orderOf_s_k16 (σ : Nat → Nat → Int32) (pl : Nat) (what : Nat) : M_orderOf_s σ pl what 16 = σ 16 := by
  unfold M_orderOf_s
  by_cases z1 : what = 0
  · refine Eq.trans (congrFun (if_pos z1) 16) ?_
    exact M_layOrder_s_k16 σ pl
  · refine Eq.trans (congrFun (if_neg z1) 16) ?_
    by_cases z2 : pl ≤ (what - 10)
    · refine Eq.trans (congrFun (if_pos z2) 16) ?_
      exact M_layOrder_s_k16 σ pl
    · refine Eq.trans (congrFun (if_neg z2) 16) ?_
      exact M_layOrder_s_k16 σ pl
theorem M_orderOf_s_k17 (σ : Nat → Nat → Int32) (pl : Nat) (what : Nat) : M_orderOf_s σ pl what 17 = σ 17 := by
  unfold M_orderOf_s
  by_cases z1 : what = 0
  · refine Eq.trans (congrFun (if_pos z1) 17) ?_
    exact M_layOrder_s_k17 σ pl
  · refine Eq.trans (congrFun (if_neg z1) 17) ?_
    by_cases z2 : pl ≤ (what - 10)
    · refine Eq.trans (congrFun (if_pos z2) 17) ?_
      exact M_layOrder_s_k17 σ pl
    · refine Eq.trans (congrFun (if_neg z2) 17) ?_
      exact M_layOrder_s_k17 σ pl
theorem M_orderOf_s_k18 (σ : Nat → Nat → Int32) (pl : Nat) (what : Nat) : M_orderOf_s σ pl what 18 = σ 18 := by
  unfold M_orderOf_s
  by_cases z1 : what = 0
  · refine Eq.trans (congrFun (if_pos z1) 18) ?_
    exact M_layOrder_s_k18 σ pl
  · refine Eq.trans (congrFun (if_neg z1) 18) ?_
    by_cases z2 : pl ≤ (what - 10)
    · refine Eq.trans (congrFun (if_pos z2) 18) ?_
      exact M_layOrder_s_k18 σ pl
    · refine Eq.trans (congrFun (if_neg z2) 18) ?_
      exact M_layOrder_s_k18 σ pl
theorem M_orderOf_s_k19 (σ : Nat → Nat → Int32) (pl : Nat) (what : Nat) : M_orderOf_s σ pl what 19 = σ 19 := by
  unfold M_orderOf_s
  by_cases z1 : what = 0
  · refine Eq.trans (congrFun (if_pos z1) 19) ?_
    exact M_layOrder_s_k19 σ pl
  · refine Eq.trans (congrFun (if_neg z1) 19) ?_
    by_cases z2 : pl ≤ (what - 10)
    · refine Eq.trans (congrFun (if_pos z2) 19) ?_
      exact M_layOrder_s_k19 σ pl
    · refine Eq.trans (congrFun (if_neg z2) 19) ?_
      exact M_layOrder_s_k19 σ pl
set_option maxHeartbeats 4000000 in
set_option maxRecDepth 100000 in
theorem c_M_orderOf (l : Launch) (D : va_G) (cI : ClassId) (a : Nat → Nat) (σ : Nat → Nat → Int32) (h : Int64) (pl : Nat) (what : Nat) (hp0 : σ 0 15 = nI pl) (hp0b : pl ≤ 4) (hpl : planOK (σ 7) pl) (hwh : what = 0 ∨ (10 ≤ what ∧ what ≤ 13)) : gI l D [(cI, .int)] yX12_orderOf wsX12_orderOf 6 [.ref (a 0), .int (nI what)] (wM cI a σ h) (M_orderOf_r σ pl what) (wM cI a (M_orderOf_s σ pl what) h) := by
  refine g_start (cc := cX12_orderOf) (maxL := 3) (ret := some .int) (Qc := gQi D [(cI, .int)] (M_orderOf_r σ pl what) (wM cI a (M_orderOf_s σ pl what) h)) (by decide) rfl (Nat.le_of_ble_eq_true rfl) ?_
  intro p e s m below meth C A ls S hr hlk hw hl
  obtain ⟨hx, hb, hml, hown, hts⟩ := id S
  have hinX12 : ∀ x ∈ u_ws RX12 TX12 38, x ∈ wsX12_orderOf := fun x h => List.mem_cons_of_mem _ (List.mem_append_right _ h)
  have lk0 : Cond.fieldLink RX12 117 "CowsOwedModel" "plans" "I" ∈ wsX12_orderOf := by decide +kernel
  have lk1 : Cond.fieldLink RX12 40 "CowsOwedModel" "bestRow" "[I" ∈ wsX12_orderOf := by decide +kernel
  have hl : lv_has ls 3 [(0, .ref (a 0)), (1, .int (nI what))] := hl
  refine lv_aload_n hx hb dX12_orderOf_0 rfl (lv_at hl 0 rfl) ?_
  refine g_callVi S hw (c_M_layOrder l D cI a σ h pl (hp0) (by omega) (hpl)) gX12_orderOf_X12_layOrder rfl 0 rfl rfl 0 rfl (by decide +kernel) (by decide) (by decide) hl.1 rfl (Nat.le_of_ble_eq_true rfl) dX12_orderOf_1 (fun H locs hw => ?_)
  refine lv_istore_n (lv' := [(2, .int (M_layOrder_r σ pl)), (0, .ref (a 0)), (1, .int (nI what))]) hx hb dX12_orderOf_4 rfl hl (by decide) rfl (fun ls hl => ?_)
  refine lv_iload_n hx hb dX12_orderOf_5 rfl (lv_at hl 2 rfl) ?_
  refine ln_ifne (x := what) hx hb (by omega) (tgt := 13) dX12_orderOf_6 (by decide) (fun c_1 => ?_) (fun c_1 => ?_)
  · refine lv_iload_n hx hb dX12_orderOf_13 rfl (lv_at hl 2 rfl) ?_
    refine lv_bipush (v := 10) hx hb dX12_orderOf_14 (by decide) ?_
    refine ln_isub (x := what) (y := 10) hx hb (by omega) dX12_orderOf_16 ?_
    refine lv_aload_n hx hb dX12_orderOf_17 rfl (lv_at hl 1 rfl) ?_
    refine g_get S hw hinX12 (fs := fM a (M_layOrder_s σ pl) h) 0 rfl rfl 15 (by decide) lk0 (v := .int (nI pl)) (congrArg (fun z => some (Value.int z)) ((congrFun (M_layOrder_s_k0 σ pl) 15).trans (hp0))) dX12_orderOf_18 ?_
    refine ln_ge (x := (what - 10)) (y := pl) hx hb (by omega) (by omega) (tgt := 36) dX12_orderOf_21 (by decide) (fun c_2 => ?_) (fun c_2 => ?_)
    · refine lv_iconst (v := (-1)) hx hb dX12_orderOf_36 (by decide) ?_
      exact g_iret S hr hlk hw (by simp only [M_orderOf_r, if_neg c_1, if_pos c_2]) (by simp only [M_orderOf_s, if_neg c_1, if_pos c_2]) dX12_orderOf_37
    · refine lv_aload_n hx hb dX12_orderOf_24 rfl (lv_at hl 1 rfl) ?_
      refine g_get S hw hinX12 (fs := fM a (M_layOrder_s σ pl) h) 0 rfl rfl 20 (by decide) lk1 (v := .ref (a 11)) rfl dX12_orderOf_25 ?_
      refine lv_iload_n hx hb dX12_orderOf_28 rfl (lv_at hl 2 rfl) ?_
      refine lv_bipush (v := 10) hx hb dX12_orderOf_29 (by decide) ?_
      refine ln_isub (x := what) (y := 10) hx hb (by omega) dX12_orderOf_31 ?_
      refine g_iald S hw (f := (M_layOrder_s σ pl) 11) (i := what - 10) (x := ((M_layOrder_s σ pl) 11) (what - 10)) 11 0 rfl rfl (by omega) (by decide) rfl dX12_orderOf_32 ?_
      refine lv_goto (tgt := 37) hx hb dX12_orderOf_33 (by decide) ?_
      exact g_iret S hr hlk hw (by simp only [M_orderOf_r, if_neg c_1, if_neg c_2]) (by simp only [M_orderOf_s, if_neg c_1, if_neg c_2]) dX12_orderOf_37
  · refine lv_iload_n hx hb dX12_orderOf_9 rfl (lv_at hl 0 rfl) ?_
    refine lv_goto (tgt := 37) hx hb dX12_orderOf_10 (by decide) ?_
    exact g_iret S hr hlk hw (by simp only [M_orderOf_r, if_pos c_1]) (by simp only [M_orderOf_s, if_pos c_1]) dX12_orderOf_37

def M_order_r (σ : Nat → Nat → Int32) (pl : Nat) (what : Int32) : Int32 := if what = 0 then (if (M_lacks_r σ) = 0 then (M_orderOf_r σ pl 0) else (-103)) else (if (M_in_r what.toInt64 10 13) = 0 then (-102) else (if (M_lacks_r σ) = 0 then (M_orderOf_r σ pl what.toNatClampNeg) else (-103)))
def M_order_s (σ : Nat → Nat → Int32) (pl : Nat) (what : Int32) : Nat → Nat → Int32 := if what = 0 then (if (M_lacks_r σ) = 0 then (M_orderOf_s σ pl 0) else σ) else (if (M_in_r what.toInt64 10 13) = 0 then σ else (if (M_lacks_r σ) = 0 then (M_orderOf_s σ pl what.toNatClampNeg) else σ))
theorem M_order_s_k0 (σ : Nat → Nat → Int32) (pl : Nat) (what : Int32) : M_order_s σ pl what 0 = σ 0 := by
  unfold M_order_s
  by_cases z1 : what = 0
  · refine Eq.trans (congrFun (if_pos z1) 0) ?_
    by_cases z2 : (M_lacks_r σ) = 0
    · refine Eq.trans (congrFun (if_pos z2) 0) ?_
      exact M_orderOf_s_k0 σ pl 0
    · refine Eq.trans (congrFun (if_neg z2) 0) ?_
      exact rfl
  · refine Eq.trans (congrFun (if_neg z1) 0) ?_
    by_cases z2 : (M_in_r what.toInt64 10 13) = 0
    · refine Eq.trans (congrFun (if_pos z2) 0) ?_
      exact rfl
    · refine Eq.trans (congrFun (if_neg z2) 0) ?_
      by_cases z3 : (M_lacks_r σ) = 0
      · refine Eq.trans (congrFun (if_pos z3) 0) ?_
        exact M_orderOf_s_k0 σ pl what.toNatClampNeg
      · refine Eq.trans (congrFun (if_neg z3) 0) ?_
        exact rfl
theorem M_order_s_k1 (σ : Nat → Nat → Int32) (pl : Nat) (what : Int32) : M_order_s σ pl what 1 = σ 1 := by
  unfold M_order_s
  by_cases z1 : what = 0
  · refine Eq.trans (congrFun (if_pos z1) 1) ?_
    by_cases z2 : (M_lacks_r σ) = 0
    · refine Eq.trans (congrFun (if_pos z2) 1) ?_
      exact M_orderOf_s_k1 σ pl 0
    · refine Eq.trans (congrFun (if_neg z2) 1) ?_
      exact rfl
  · refine Eq.trans (congrFun (if_neg z1) 1) ?_
    by_cases z2 : (M_in_r what.toInt64 10 13) = 0
    · refine Eq.trans (congrFun (if_pos z2) 1) ?_
      exact rfl
    · refine Eq.trans (congrFun (if_neg z2) 1) ?_
      by_cases z3 : (M_lacks_r σ) = 0
      · refine Eq.trans (congrFun (if_pos z3) 1) ?_
        exact M_orderOf_s_k1 σ pl what.toNatClampNeg
      · refine Eq.trans (congrFun (if_neg z3) 1) ?_
        exact rfl
theorem M_order_s_k2 (σ : Nat → Nat → Int32) (pl : Nat) (what : Int32) : M_order_s σ pl what 2 = σ 2 := by
  unfold M_order_s
  by_cases z1 : what = 0
  · refine Eq.trans (congrFun (if_pos z1) 2) ?_
    by_cases z2 : (M_lacks_r σ) = 0
    · refine Eq.trans (congrFun (if_pos z2) 2) ?_
      exact M_orderOf_s_k2 σ pl 0
    · refine Eq.trans (congrFun (if_neg z2) 2) ?_
      exact rfl
  · refine Eq.trans (congrFun (if_neg z1) 2) ?_
    by_cases z2 : (M_in_r what.toInt64 10 13) = 0
    · refine Eq.trans (congrFun (if_pos z2) 2) ?_
      exact rfl
    · refine Eq.trans (congrFun (if_neg z2) 2) ?_
      by_cases z3 : (M_lacks_r σ) = 0
      · refine Eq.trans (congrFun (if_pos z3) 2) ?_
        exact M_orderOf_s_k2 σ pl what.toNatClampNeg
      · refine Eq.trans (congrFun (if_neg z3) 2) ?_
        exact rfl
theorem M_order_s_k3 (σ : Nat → Nat → Int32) (pl : Nat) (what : Int32) : M_order_s σ pl what 3 = σ 3 := by
  unfold M_order_s
  by_cases z1 : what = 0
  · refine Eq.trans (congrFun (if_pos z1) 3) ?_
    by_cases z2 : (M_lacks_r σ) = 0
    · refine Eq.trans (congrFun (if_pos z2) 3) ?_
      exact M_orderOf_s_k3 σ pl 0
    · refine Eq.trans (congrFun (if_neg z2) 3) ?_
      exact rfl
  · refine Eq.trans (congrFun (if_neg z1) 3) ?_
    by_cases z2 : (M_in_r what.toInt64 10 13) = 0
    · refine Eq.trans (congrFun (if_pos z2) 3) ?_
      exact rfl
    · refine Eq.trans (congrFun (if_neg z2) 3) ?_
      by_cases z3 : (M_lacks_r σ) = 0
      · refine Eq.trans (congrFun (if_pos z3) 3) ?_
        exact M_orderOf_s_k3 σ pl what.toNatClampNeg
      · refine Eq.trans (congrFun (if_neg z3) 3) ?_
        exact rfl
theorem M_order_s_k6 (σ : Nat → Nat → Int32) (pl : Nat) (what : Int32) : M_order_s σ pl what 6 = σ 6 := by
  unfold M_order_s
  by_cases z1 : what = 0
  · refine Eq.trans (congrFun (if_pos z1) 6) ?_
    by_cases z2 : (M_lacks_r σ) = 0
    · refine Eq.trans (congrFun (if_pos z2) 6) ?_
      exact M_orderOf_s_k6 σ pl 0
    · refine Eq.trans (congrFun (if_neg z2) 6) ?_
      exact rfl
  · refine Eq.trans (congrFun (if_neg z1) 6) ?_
    by_cases z2 : (M_in_r what.toInt64 10 13) = 0
    · refine Eq.trans (congrFun (if_pos z2) 6) ?_
      exact rfl
    · refine Eq.trans (congrFun (if_neg z2) 6) ?_
      by_cases z3 : (M_lacks_r σ) = 0
      · refine Eq.trans (congrFun (if_pos z3) 6) ?_
        exact M_orderOf_s_k6 σ pl what.toNatClampNeg
      · refine Eq.trans (congrFun (if_neg z3) 6) ?_
        exact rfl
theorem M_order_s_k7 (σ : Nat → Nat → Int32) (pl : Nat) (what : Int32) : M_order_s σ pl what 7 = σ 7 := by
  unfold M_order_s
  by_cases z1 : what = 0
  · refine Eq.trans (congrFun (if_pos z1) 7) ?_
    by_cases z2 : (M_lacks_r σ) = 0
    · refine Eq.trans (congrFun (if_pos z2) 7) ?_
      exact M_orderOf_s_k7 σ pl 0
    · refine Eq.trans (congrFun (if_neg z2) 7) ?_
      exact rfl
  · refine Eq.trans (congrFun (if_neg z1) 7) ?_
    by_cases z2 : (M_in_r what.toInt64 10 13) = 0
    · refine Eq.trans (congrFun (if_pos z2) 7) ?_
      exact rfl
    · refine Eq.trans (congrFun (if_neg z2) 7) ?_
      by_cases z3 : (M_lacks_r σ) = 0
      · refine Eq.trans (congrFun (if_pos z3) 7) ?_
        exact M_orderOf_s_k7 σ pl what.toNatClampNeg
      · refine Eq.trans (congrFun (if_neg z3) 7) ?_
        exact rfl
theorem M_order_s_k12 (σ : Nat → Nat → Int32) (pl : Nat) (what : Int32) : M_order_s σ pl what 12 = σ 12 := by
  unfold M_order_s
  by_cases z1 : what = 0
  · refine Eq.trans (congrFun (if_pos z1) 12) ?_
    by_cases z2 : (M_lacks_r σ) = 0
    · refine Eq.trans (congrFun (if_pos z2) 12) ?_
      exact M_orderOf_s_k12 σ pl 0
    · refine Eq.trans (congrFun (if_neg z2) 12) ?_
      exact rfl
  · refine Eq.trans (congrFun (if_neg z1) 12) ?_
    by_cases z2 : (M_in_r what.toInt64 10 13) = 0
    · refine Eq.trans (congrFun (if_pos z2) 12) ?_
      exact rfl
    · refine Eq.trans (congrFun (if_neg z2) 12) ?_
      by_cases z3 : (M_lacks_r σ) = 0
      · refine Eq.trans (congrFun (if_pos z3) 12) ?_
        exact M_orderOf_s_k12 σ pl what.toNatClampNeg
      · refine Eq.trans (congrFun (if_neg z3) 12) ?_
        exact rfl
theorem M_order_s_k13 (σ : Nat → Nat → Int32) (pl : Nat) (what : Int32) : M_order_s σ pl what 13 = σ 13 := by
  unfold M_order_s
  by_cases z1 : what = 0
  · refine Eq.trans (congrFun (if_pos z1) 13) ?_
    by_cases z2 : (M_lacks_r σ) = 0
    · refine Eq.trans (congrFun (if_pos z2) 13) ?_
      exact M_orderOf_s_k13 σ pl 0
    · refine Eq.trans (congrFun (if_neg z2) 13) ?_
      exact rfl
  · refine Eq.trans (congrFun (if_neg z1) 13) ?_
    by_cases z2 : (M_in_r what.toInt64 10 13) = 0
    · refine Eq.trans (congrFun (if_pos z2) 13) ?_
      exact rfl
    · refine Eq.trans (congrFun (if_neg z2) 13) ?_
      by_cases z3 : (M_lacks_r σ) = 0
      · refine Eq.trans (congrFun (if_pos z3) 13) ?_
        exact M_orderOf_s_k13 σ pl what.toNatClampNeg
      · refine Eq.trans (congrFun (if_neg z3) 13) ?_
        exact rfl
theorem M_order_s_k14 (σ : Nat → Nat → Int32) (pl : Nat) (what : Int32) : M_order_s σ pl what 14 = σ 14 := by
  unfold M_order_s
  by_cases z1 : what = 0
  · refine Eq.trans (congrFun (if_pos z1) 14) ?_
    by_cases z2 : (M_lacks_r σ) = 0
    · refine Eq.trans (congrFun (if_pos z2) 14) ?_
      exact M_orderOf_s_k14 σ pl 0
    · refine Eq.trans (congrFun (if_neg z2) 14) ?_
      exact rfl
  · refine Eq.trans (congrFun (if_neg z1) 14) ?_
    by_cases z2 : (M_in_r what.toInt64 10 13) = 0
    · refine Eq.trans (congrFun (if_pos z2) 14) ?_
      exact rfl
    · refine Eq.trans (congrFun (if_neg z2) 14) ?_
      by_cases z3 : (M_lacks_r σ) = 0
      · refine Eq.trans (congrFun (if_pos z3) 14) ?_
        exact M_orderOf_s_k14 σ pl what.toNatClampNeg
      · refine Eq.trans (congrFun (if_neg z3) 14) ?_
        exact rfl
theorem M_order_s_k15 (σ : Nat → Nat → Int32) (pl : Nat) (what : Int32) : M_order_s σ pl what 15 = σ 15 := by
  unfold M_order_s
  by_cases z1 : what = 0
  · refine Eq.trans (congrFun (if_pos z1) 15) ?_
    by_cases z2 : (M_lacks_r σ) = 0
    · refine Eq.trans (congrFun (if_pos z2) 15) ?_
      exact M_orderOf_s_k15 σ pl 0
    · refine Eq.trans (congrFun (if_neg z2) 15) ?_
      exact rfl
  · refine Eq.trans (congrFun (if_neg z1) 15) ?_
    by_cases z2 : (M_in_r what.toInt64 10 13) = 0
    · refine Eq.trans (congrFun (if_pos z2) 15) ?_
      exact rfl
    · refine Eq.trans (congrFun (if_neg z2) 15) ?_
      by_cases z3 : (M_lacks_r σ) = 0
      · refine Eq.trans (congrFun (if_pos z3) 15) ?_
        exact M_orderOf_s_k15 σ pl what.toNatClampNeg
      · refine Eq.trans (congrFun (if_neg z3) 15) ?_
        exact rfl
theorem M_order_s_k16 (σ : Nat → Nat → Int32) (pl : Nat) (what : Int32) : M_order_s σ pl what 16 = σ 16 := by
  unfold M_order_s
  by_cases z1 : what = 0
  · refine Eq.trans (congrFun (if_pos z1) 16) ?_
    by_cases z2 : (M_lacks_r σ) = 0
    · refine Eq.trans (congrFun (if_pos z2) 16) ?_
      exact M_orderOf_s_k16 σ pl 0
    · refine Eq.trans (congrFun (if_neg z2) 16) ?_
      exact rfl
  · refine Eq.trans (congrFun (if_neg z1) 16) ?_
    by_cases z2 : (M_in_r what.toInt64 10 13) = 0
    · refine Eq.trans (congrFun (if_pos z2) 16) ?_
      exact rfl
    · refine Eq.trans (congrFun (if_neg z2) 16) ?_
      by_cases z3 : (M_lacks_r σ) = 0
      · refine Eq.trans (congrFun (if_pos z3) 16) ?_
        exact M_orderOf_s_k16 σ pl what.toNatClampNeg
      · refine Eq.trans (congrFun (if_neg z3) 16) ?_
        exact rfl
theorem M_order_s_k17 (σ : Nat → Nat → Int32) (pl : Nat) (what : Int32) : M_order_s σ pl what 17 = σ 17 := by
  unfold M_order_s
  by_cases z1 : what = 0
  · refine Eq.trans (congrFun (if_pos z1) 17) ?_
    by_cases z2 : (M_lacks_r σ) = 0
    · refine Eq.trans (congrFun (if_pos z2) 17) ?_
      exact M_orderOf_s_k17 σ pl 0
    · refine Eq.trans (congrFun (if_neg z2) 17) ?_
      exact rfl
  · refine Eq.trans (congrFun (if_neg z1) 17) ?_
    by_cases z2 : (M_in_r what.toInt64 10 13) = 0
    · refine Eq.trans (congrFun (if_pos z2) 17) ?_
      exact rfl
    · refine Eq.trans (congrFun (if_neg z2) 17) ?_
      by_cases z3 : (M_lacks_r σ) = 0
      · refine Eq.trans (congrFun (if_pos z3) 17) ?_
        exact M_orderOf_s_k17 σ pl what.toNatClampNeg
      · refine Eq.trans (congrFun (if_neg z3) 17) ?_
        exact rfl
theorem M_order_s_k18 (σ : Nat → Nat → Int32) (pl : Nat) (what : Int32) : M_order_s σ pl what 18 = σ 18 := by
  unfold M_order_s
  by_cases z1 : what = 0
  · refine Eq.trans (congrFun (if_pos z1) 18) ?_
    by_cases z2 : (M_lacks_r σ) = 0
    · refine Eq.trans (congrFun (if_pos z2) 18) ?_
      exact M_orderOf_s_k18 σ pl 0
    · refine Eq.trans (congrFun (if_neg z2) 18) ?_
      exact rfl
  · refine Eq.trans (congrFun (if_neg z1) 18) ?_
    by_cases z2 : (M_in_r what.toInt64 10 13) = 0
    · refine Eq.trans (congrFun (if_pos z2) 18) ?_
      exact rfl
    · refine Eq.trans (congrFun (if_neg z2) 18) ?_
      by_cases z3 : (M_lacks_r σ) = 0
      · refine Eq.trans (congrFun (if_pos z3) 18) ?_
        exact M_orderOf_s_k18 σ pl what.toNatClampNeg
      · refine Eq.trans (congrFun (if_neg z3) 18) ?_
        exact rfl
theorem M_order_s_k19 (σ : Nat → Nat → Int32) (pl : Nat) (what : Int32) : M_order_s σ pl what 19 = σ 19 := by
  unfold M_order_s
  by_cases z1 : what = 0
  · refine Eq.trans (congrFun (if_pos z1) 19) ?_
    by_cases z2 : (M_lacks_r σ) = 0
    · refine Eq.trans (congrFun (if_pos z2) 19) ?_
      exact M_orderOf_s_k19 σ pl 0
    · refine Eq.trans (congrFun (if_neg z2) 19) ?_
      exact rfl
  · refine Eq.trans (congrFun (if_neg z1) 19) ?_
    by_cases z2 : (M_in_r what.toInt64 10 13) = 0
    · refine Eq.trans (congrFun (if_pos z2) 19) ?_
      exact rfl
    · refine Eq.trans (congrFun (if_neg z2) 19) ?_
      by_cases z3 : (M_lacks_r σ) = 0
      · refine Eq.trans (congrFun (if_pos z3) 19) ?_
        exact M_orderOf_s_k19 σ pl what.toNatClampNeg
      · refine Eq.trans (congrFun (if_neg z3) 19) ?_
        exact rfl
set_option maxHeartbeats 4000000 in
set_option maxRecDepth 100000 in
theorem c_M_order (l : Launch) (D : va_G) (cI : ClassId) (a : Nat → Nat) (σ : Nat → Nat → Int32) (h : Int64) (pl : Nat) (what : Int32) (hp0 : σ 0 15 = nI pl) (hp0b : pl ≤ 4) (hpl : planOK (σ 7) pl) : gI l D [(cI, .int)] yX12_order wsX12_order 7 [.ref (a 0), .int what] (wM cI a σ h) (M_order_r σ pl what) (wM cI a (M_order_s σ pl what) h) := by
  refine g_start (cc := cX12_order) (maxL := 2) (ret := some .int) (Qc := gQi D [(cI, .int)] (M_order_r σ pl what) (wM cI a (M_order_s σ pl what) h)) (by decide) rfl (Nat.le_of_ble_eq_true rfl) ?_
  intro p e s m below meth C A ls S hr hlk hw hl
  obtain ⟨hx, hb, hml, hown, hts⟩ := id S
  have lk0 : Cond.constantLong RX12 136 (10) ∈ wsX12_order := by decide +kernel
  have lk1 : Cond.constantLong RX12 138 (13) ∈ wsX12_order := by decide +kernel
  have hl : lv_has ls 2 [(0, .ref (a 0)), (1, .int what)] := hl
  refine lv_iload_n hx hb dX12_order_0 rfl (lv_at hl 1 rfl) ?_
  refine lv_if_eq hx hb (tgt := 21) dX12_order_1 (by decide) (fun c_1 => ?_) (fun c_1 => ?_)
  · have hl : lv_has ls 2 [(0, .ref (a 0)), (1, .int 0)] := by rw [← c_1]; exact hl
    refine lv_aload_n hx hb dX12_order_21 rfl (lv_at hl 0 rfl) ?_
    refine g_callVi S hw (c_M_lacks l D cI a σ h) gX12_order_X12_lacks rfl 0 rfl rfl 0 rfl (by decide +kernel) (by decide) (by decide) hl.1 rfl (Nat.le_of_ble_eq_true rfl) dX12_order_22 (fun H locs hw => ?_)
    refine lv_if_eq hx hb (tgt := 33) dX12_order_25 (by decide) (fun c_2 => ?_) (fun c_2 => ?_)
    · refine lv_aload_n hx hb dX12_order_33 rfl (lv_at hl 0 rfl) ?_
      refine lv_iload_n hx hb dX12_order_34 rfl (lv_at hl 1 rfl) ?_
      refine g_callVi S hw (c_M_orderOf l D cI a σ h pl 0 (hp0) (by omega) (hpl) (by omega)) gX12_order_X12_orderOf rfl 0 rfl rfl 1 rfl (by decide +kernel) (by decide) (by decide) hl.1 rfl (Nat.le_of_ble_eq_true rfl) dX12_order_35 (fun H locs hw => ?_)
      exact g_iret S hr hlk hw (by simp only [M_order_r, if_pos c_1, if_pos c_2]) (by simp only [M_order_s, if_pos c_1, if_pos c_2]) dX12_order_38
    · refine lv_bipush (v := (-103)) hx hb dX12_order_28 (by decide) ?_
      refine lv_goto (tgt := 38) hx hb dX12_order_30 (by decide) ?_
      exact g_iret S hr hlk hw (by simp only [M_order_r, if_pos c_1, if_neg c_2]) (by simp only [M_order_s, if_pos c_1, if_neg c_2]) dX12_order_38
  · refine lv_iload_n hx hb dX12_order_4 rfl (lv_at hl 1 rfl) ?_
    refine lv_i2l hx hb dX12_order_5 rfl ?_
    refine lv_ldc2 (v := 10) hx hb hown (hts _ lk0) dX12_order_6 ?_
    refine lv_ldc2 (v := 13) hx hb hown (hts _ lk1) dX12_order_9 ?_
    refine g_callSi S hw (c_M_in l D [(cI, .int)] (wM cI a σ h) what.toInt64 10 13) gX12_order_X12_in rfl 3 rfl (by decide +kernel) (by decide) (by decide) hl.1 rfl (Nat.le_of_ble_eq_true rfl) dX12_order_12 (fun H locs hw => ?_)
    refine lv_if_ne hx hb (tgt := 21) dX12_order_15 (by decide) (fun c_3 => ?_) (fun c_3 => ?_)
    · obtain ⟨e1, b1, b2⟩ := M_in_nat (l := 10) (h := 13) rfl rfl c_3
      have hl : lv_has ls 2 [(0, .ref (a 0)), (1, .int (nI what.toNatClampNeg))] := by rw [← e1]; exact hl
      refine lv_aload_n hx hb dX12_order_21 rfl (lv_at hl 0 rfl) ?_
      refine g_callVi S hw (c_M_lacks l D cI a σ h) gX12_order_X12_lacks rfl 0 rfl rfl 0 rfl (by decide +kernel) (by decide) (by decide) hl.1 rfl (Nat.le_of_ble_eq_true rfl) dX12_order_22 (fun H locs hw => ?_)
      refine lv_if_eq hx hb (tgt := 33) dX12_order_25 (by decide) (fun c_4 => ?_) (fun c_4 => ?_)
      · refine lv_aload_n hx hb dX12_order_33 rfl (lv_at hl 0 rfl) ?_
        refine lv_iload_n hx hb dX12_order_34 rfl (lv_at hl 1 rfl) ?_
        refine g_callVi S hw (c_M_orderOf l D cI a σ h pl what.toNatClampNeg (hp0) (by omega) (hpl) (by omega)) gX12_order_X12_orderOf rfl 0 rfl rfl 1 rfl (by decide +kernel) (by decide) (by decide) hl.1 rfl (Nat.le_of_ble_eq_true rfl) dX12_order_35 (fun H locs hw => ?_)
        exact g_iret S hr hlk hw (by simp only [M_order_r, if_neg c_1, if_neg c_3, if_pos c_4]) (by simp only [M_order_s, if_neg c_1, if_neg c_3, if_pos c_4]) dX12_order_38
      · refine lv_bipush (v := (-103)) hx hb dX12_order_28 (by decide) ?_
        refine lv_goto (tgt := 38) hx hb dX12_order_30 (by decide) ?_
        exact g_iret S hr hlk hw (by simp only [M_order_r, if_neg c_1, if_neg c_3, if_neg c_4]) (by simp only [M_order_s, if_neg c_1, if_neg c_3, if_neg c_4]) dX12_order_38
    · refine lv_bipush (v := (-102)) hx hb dX12_order_18 (by decide) ?_
      exact g_iret S hr hlk hw (by simp only [M_order_r, if_neg c_1, if_pos c_3]) (by simp only [M_order_s, if_neg c_1, if_pos c_3]) dX12_order_20

def M_highOf_S2_0 (n : Nat) (pl : Nat) (i2 : Nat) (σ2 : Nat → Nat → Int32) : Nat → Nat → Int32 := up2 σ2 12 i2 (M_owesOf_r σ2 i2)
def M_highOf_L2 (n : Nat) (pl : Nat) : Nat → Nat → (Nat → Nat → Int32) → (Nat → Nat → Int32)
  | 0, _, σ2 => σ2
  | n2 + 1, i2, σ2 => M_highOf_L2 n pl n2 (i2 + 1) (M_highOf_S2_0 n pl i2 σ2)
theorem M_highOf_S2_k0 (n : Nat) (pl : Nat) (i2 : Nat) (σ2 : Nat → Nat → Int32) : M_highOf_S2_0 n pl i2 σ2 0 = σ2 0 := by
  unfold M_highOf_S2_0
  exact up2_n _ _ _ (by decide)
theorem M_highOf_L2_k0 (n : Nat) (pl : Nat) : ∀ (n2 i2 : Nat) (σ2 : Nat → Nat → Int32), (M_highOf_L2 n pl n2 i2 σ2) 0 = σ2 0 := by
  intro n2
  induction n2 with
  | zero => intros; rfl
  | succ n2 ih => intro i2 σ2; exact (ih (i2 + 1) (M_highOf_S2_0 n pl i2 σ2)).trans (M_highOf_S2_k0 n pl i2 σ2)
theorem M_highOf_S2_k1 (n : Nat) (pl : Nat) (i2 : Nat) (σ2 : Nat → Nat → Int32) : M_highOf_S2_0 n pl i2 σ2 1 = σ2 1 := by
  unfold M_highOf_S2_0
  exact up2_n _ _ _ (by decide)
theorem M_highOf_L2_k1 (n : Nat) (pl : Nat) : ∀ (n2 i2 : Nat) (σ2 : Nat → Nat → Int32), (M_highOf_L2 n pl n2 i2 σ2) 1 = σ2 1 := by
  intro n2
  induction n2 with
  | zero => intros; rfl
  | succ n2 ih => intro i2 σ2; exact (ih (i2 + 1) (M_highOf_S2_0 n pl i2 σ2)).trans (M_highOf_S2_k1 n pl i2 σ2)
theorem M_highOf_S2_k2 (n : Nat) (pl : Nat) (i2 : Nat) (σ2 : Nat → Nat → Int32) : M_highOf_S2_0 n pl i2 σ2 2 = σ2 2 := by
  unfold M_highOf_S2_0
  exact up2_n _ _ _ (by decide)
theorem M_highOf_L2_k2 (n : Nat) (pl : Nat) : ∀ (n2 i2 : Nat) (σ2 : Nat → Nat → Int32), (M_highOf_L2 n pl n2 i2 σ2) 2 = σ2 2 := by
  intro n2
  induction n2 with
  | zero => intros; rfl
  | succ n2 ih => intro i2 σ2; exact (ih (i2 + 1) (M_highOf_S2_0 n pl i2 σ2)).trans (M_highOf_S2_k2 n pl i2 σ2)
theorem M_highOf_S2_k3 (n : Nat) (pl : Nat) (i2 : Nat) (σ2 : Nat → Nat → Int32) : M_highOf_S2_0 n pl i2 σ2 3 = σ2 3 := by
  unfold M_highOf_S2_0
  exact up2_n _ _ _ (by decide)
theorem M_highOf_L2_k3 (n : Nat) (pl : Nat) : ∀ (n2 i2 : Nat) (σ2 : Nat → Nat → Int32), (M_highOf_L2 n pl n2 i2 σ2) 3 = σ2 3 := by
  intro n2
  induction n2 with
  | zero => intros; rfl
  | succ n2 ih => intro i2 σ2; exact (ih (i2 + 1) (M_highOf_S2_0 n pl i2 σ2)).trans (M_highOf_S2_k3 n pl i2 σ2)
theorem M_highOf_S2_k4 (n : Nat) (pl : Nat) (i2 : Nat) (σ2 : Nat → Nat → Int32) : M_highOf_S2_0 n pl i2 σ2 4 = σ2 4 := by
  unfold M_highOf_S2_0
  exact up2_n _ _ _ (by decide)
theorem M_highOf_L2_k4 (n : Nat) (pl : Nat) : ∀ (n2 i2 : Nat) (σ2 : Nat → Nat → Int32), (M_highOf_L2 n pl n2 i2 σ2) 4 = σ2 4 := by
  intro n2
  induction n2 with
  | zero => intros; rfl
  | succ n2 ih => intro i2 σ2; exact (ih (i2 + 1) (M_highOf_S2_0 n pl i2 σ2)).trans (M_highOf_S2_k4 n pl i2 σ2)
theorem M_highOf_S2_k5 (n : Nat) (pl : Nat) (i2 : Nat) (σ2 : Nat → Nat → Int32) : M_highOf_S2_0 n pl i2 σ2 5 = σ2 5 := by
  unfold M_highOf_S2_0
  exact up2_n _ _ _ (by decide)
theorem M_highOf_L2_k5 (n : Nat) (pl : Nat) : ∀ (n2 i2 : Nat) (σ2 : Nat → Nat → Int32), (M_highOf_L2 n pl n2 i2 σ2) 5 = σ2 5 := by
  intro n2
  induction n2 with
  | zero => intros; rfl
  | succ n2 ih => intro i2 σ2; exact (ih (i2 + 1) (M_highOf_S2_0 n pl i2 σ2)).trans (M_highOf_S2_k5 n pl i2 σ2)
theorem M_highOf_S2_k6 (n : Nat) (pl : Nat) (i2 : Nat) (σ2 : Nat → Nat → Int32) : M_highOf_S2_0 n pl i2 σ2 6 = σ2 6 := by
  unfold M_highOf_S2_0
  exact up2_n _ _ _ (by decide)
theorem M_highOf_L2_k6 (n : Nat) (pl : Nat) : ∀ (n2 i2 : Nat) (σ2 : Nat → Nat → Int32), (M_highOf_L2 n pl n2 i2 σ2) 6 = σ2 6 := by
  intro n2
  induction n2 with
  | zero => intros; rfl
  | succ n2 ih => intro i2 σ2; exact (ih (i2 + 1) (M_highOf_S2_0 n pl i2 σ2)).trans (M_highOf_S2_k6 n pl i2 σ2)
theorem M_highOf_S2_k7 (n : Nat) (pl : Nat) (i2 : Nat) (σ2 : Nat → Nat → Int32) : M_highOf_S2_0 n pl i2 σ2 7 = σ2 7 := by
  unfold M_highOf_S2_0
  exact up2_n _ _ _ (by decide)
theorem M_highOf_L2_k7 (n : Nat) (pl : Nat) : ∀ (n2 i2 : Nat) (σ2 : Nat → Nat → Int32), (M_highOf_L2 n pl n2 i2 σ2) 7 = σ2 7 := by
  intro n2
  induction n2 with
  | zero => intros; rfl
  | succ n2 ih => intro i2 σ2; exact (ih (i2 + 1) (M_highOf_S2_0 n pl i2 σ2)).trans (M_highOf_S2_k7 n pl i2 σ2)
theorem M_highOf_S2_k8 (n : Nat) (pl : Nat) (i2 : Nat) (σ2 : Nat → Nat → Int32) : M_highOf_S2_0 n pl i2 σ2 8 = σ2 8 := by
  unfold M_highOf_S2_0
  exact up2_n _ _ _ (by decide)
theorem M_highOf_L2_k8 (n : Nat) (pl : Nat) : ∀ (n2 i2 : Nat) (σ2 : Nat → Nat → Int32), (M_highOf_L2 n pl n2 i2 σ2) 8 = σ2 8 := by
  intro n2
  induction n2 with
  | zero => intros; rfl
  | succ n2 ih => intro i2 σ2; exact (ih (i2 + 1) (M_highOf_S2_0 n pl i2 σ2)).trans (M_highOf_S2_k8 n pl i2 σ2)
theorem M_highOf_S2_k9 (n : Nat) (pl : Nat) (i2 : Nat) (σ2 : Nat → Nat → Int32) : M_highOf_S2_0 n pl i2 σ2 9 = σ2 9 := by
  unfold M_highOf_S2_0
  exact up2_n _ _ _ (by decide)
theorem M_highOf_L2_k9 (n : Nat) (pl : Nat) : ∀ (n2 i2 : Nat) (σ2 : Nat → Nat → Int32), (M_highOf_L2 n pl n2 i2 σ2) 9 = σ2 9 := by
  intro n2
  induction n2 with
  | zero => intros; rfl
  | succ n2 ih => intro i2 σ2; exact (ih (i2 + 1) (M_highOf_S2_0 n pl i2 σ2)).trans (M_highOf_S2_k9 n pl i2 σ2)
theorem M_highOf_S2_k10 (n : Nat) (pl : Nat) (i2 : Nat) (σ2 : Nat → Nat → Int32) : M_highOf_S2_0 n pl i2 σ2 10 = σ2 10 := by
  unfold M_highOf_S2_0
  exact up2_n _ _ _ (by decide)
theorem M_highOf_L2_k10 (n : Nat) (pl : Nat) : ∀ (n2 i2 : Nat) (σ2 : Nat → Nat → Int32), (M_highOf_L2 n pl n2 i2 σ2) 10 = σ2 10 := by
  intro n2
  induction n2 with
  | zero => intros; rfl
  | succ n2 ih => intro i2 σ2; exact (ih (i2 + 1) (M_highOf_S2_0 n pl i2 σ2)).trans (M_highOf_S2_k10 n pl i2 σ2)
theorem M_highOf_S2_k11 (n : Nat) (pl : Nat) (i2 : Nat) (σ2 : Nat → Nat → Int32) : M_highOf_S2_0 n pl i2 σ2 11 = σ2 11 := by
  unfold M_highOf_S2_0
  exact up2_n _ _ _ (by decide)
theorem M_highOf_L2_k11 (n : Nat) (pl : Nat) : ∀ (n2 i2 : Nat) (σ2 : Nat → Nat → Int32), (M_highOf_L2 n pl n2 i2 σ2) 11 = σ2 11 := by
  intro n2
  induction n2 with
  | zero => intros; rfl
  | succ n2 ih => intro i2 σ2; exact (ih (i2 + 1) (M_highOf_S2_0 n pl i2 σ2)).trans (M_highOf_S2_k11 n pl i2 σ2)
theorem M_highOf_S2_k13 (n : Nat) (pl : Nat) (i2 : Nat) (σ2 : Nat → Nat → Int32) : M_highOf_S2_0 n pl i2 σ2 13 = σ2 13 := by
  unfold M_highOf_S2_0
  exact up2_n _ _ _ (by decide)
theorem M_highOf_L2_k13 (n : Nat) (pl : Nat) : ∀ (n2 i2 : Nat) (σ2 : Nat → Nat → Int32), (M_highOf_L2 n pl n2 i2 σ2) 13 = σ2 13 := by
  intro n2
  induction n2 with
  | zero => intros; rfl
  | succ n2 ih => intro i2 σ2; exact (ih (i2 + 1) (M_highOf_S2_0 n pl i2 σ2)).trans (M_highOf_S2_k13 n pl i2 σ2)
theorem M_highOf_S2_k14 (n : Nat) (pl : Nat) (i2 : Nat) (σ2 : Nat → Nat → Int32) : M_highOf_S2_0 n pl i2 σ2 14 = σ2 14 := by
  unfold M_highOf_S2_0
  exact up2_n _ _ _ (by decide)
theorem M_highOf_L2_k14 (n : Nat) (pl : Nat) : ∀ (n2 i2 : Nat) (σ2 : Nat → Nat → Int32), (M_highOf_L2 n pl n2 i2 σ2) 14 = σ2 14 := by
  intro n2
  induction n2 with
  | zero => intros; rfl
  | succ n2 ih => intro i2 σ2; exact (ih (i2 + 1) (M_highOf_S2_0 n pl i2 σ2)).trans (M_highOf_S2_k14 n pl i2 σ2)
theorem M_highOf_S2_k15 (n : Nat) (pl : Nat) (i2 : Nat) (σ2 : Nat → Nat → Int32) : M_highOf_S2_0 n pl i2 σ2 15 = σ2 15 := by
  unfold M_highOf_S2_0
  exact up2_n _ _ _ (by decide)
theorem M_highOf_L2_k15 (n : Nat) (pl : Nat) : ∀ (n2 i2 : Nat) (σ2 : Nat → Nat → Int32), (M_highOf_L2 n pl n2 i2 σ2) 15 = σ2 15 := by
  intro n2
  induction n2 with
  | zero => intros; rfl
  | succ n2 ih => intro i2 σ2; exact (ih (i2 + 1) (M_highOf_S2_0 n pl i2 σ2)).trans (M_highOf_S2_k15 n pl i2 σ2)
theorem M_highOf_S2_k16 (n : Nat) (pl : Nat) (i2 : Nat) (σ2 : Nat → Nat → Int32) : M_highOf_S2_0 n pl i2 σ2 16 = σ2 16 := by
  unfold M_highOf_S2_0
  exact up2_n _ _ _ (by decide)
theorem M_highOf_L2_k16 (n : Nat) (pl : Nat) : ∀ (n2 i2 : Nat) (σ2 : Nat → Nat → Int32), (M_highOf_L2 n pl n2 i2 σ2) 16 = σ2 16 := by
  intro n2
  induction n2 with
  | zero => intros; rfl
  | succ n2 ih => intro i2 σ2; exact (ih (i2 + 1) (M_highOf_S2_0 n pl i2 σ2)).trans (M_highOf_S2_k16 n pl i2 σ2)
theorem M_highOf_S2_k17 (n : Nat) (pl : Nat) (i2 : Nat) (σ2 : Nat → Nat → Int32) : M_highOf_S2_0 n pl i2 σ2 17 = σ2 17 := by
  unfold M_highOf_S2_0
  exact up2_n _ _ _ (by decide)
theorem M_highOf_L2_k17 (n : Nat) (pl : Nat) : ∀ (n2 i2 : Nat) (σ2 : Nat → Nat → Int32), (M_highOf_L2 n pl n2 i2 σ2) 17 = σ2 17 := by
  intro n2
  induction n2 with
  | zero => intros; rfl
  | succ n2 ih => intro i2 σ2; exact (ih (i2 + 1) (M_highOf_S2_0 n pl i2 σ2)).trans (M_highOf_S2_k17 n pl i2 σ2)
theorem M_highOf_S2_k18 (n : Nat) (pl : Nat) (i2 : Nat) (σ2 : Nat → Nat → Int32) : M_highOf_S2_0 n pl i2 σ2 18 = σ2 18 := by
  unfold M_highOf_S2_0
  exact up2_n _ _ _ (by decide)
theorem M_highOf_L2_k18 (n : Nat) (pl : Nat) : ∀ (n2 i2 : Nat) (σ2 : Nat → Nat → Int32), (M_highOf_L2 n pl n2 i2 σ2) 18 = σ2 18 := by
  intro n2
  induction n2 with
  | zero => intros; rfl
  | succ n2 ih => intro i2 σ2; exact (ih (i2 + 1) (M_highOf_S2_0 n pl i2 σ2)).trans (M_highOf_S2_k18 n pl i2 σ2)
theorem M_highOf_S2_k19 (n : Nat) (pl : Nat) (i2 : Nat) (σ2 : Nat → Nat → Int32) : M_highOf_S2_0 n pl i2 σ2 19 = σ2 19 := by
  unfold M_highOf_S2_0
  exact up2_n _ _ _ (by decide)
theorem M_highOf_L2_k19 (n : Nat) (pl : Nat) : ∀ (n2 i2 : Nat) (σ2 : Nat → Nat → Int32), (M_highOf_L2 n pl n2 i2 σ2) 19 = σ2 19 := by
  intro n2
  induction n2 with
  | zero => intros; rfl
  | succ n2 ih => intro i2 σ2; exact (ih (i2 + 1) (M_highOf_S2_0 n pl i2 σ2)).trans (M_highOf_S2_k19 n pl i2 σ2)
def M_highOf_S43_0 (n : Nat) (pl : Nat) (i35 : Nat) (x35_1 : Int32) (i43 : Nat) (σ43 : Nat → Nat → Int32) : Nat → Nat → Int32 := M_marry_s σ43 ((σ43 7 (2 * i43)).toNatClampNeg) ((σ43 7 ((2 * i43) + 1)).toNatClampNeg) (nI i35)
def M_highOf_L43 (n : Nat) (pl : Nat) (i35 : Nat) (x35_1 : Int32) : Nat → Nat → (Nat → Nat → Int32) → (Nat → Nat → Int32)
  | 0, _, σ43 => σ43
  | n43 + 1, i43, σ43 => M_highOf_L43 n pl i35 x35_1 n43 (i43 + 1) (M_highOf_S43_0 n pl i35 x35_1 i43 σ43)
theorem M_highOf_S43_k0 (n : Nat) (pl : Nat) (i35 : Nat) (x35_1 : Int32) (i43 : Nat) (σ43 : Nat → Nat → Int32) : M_highOf_S43_0 n pl i35 x35_1 i43 σ43 0 = σ43 0 := by
  unfold M_highOf_S43_0
  exact M_marry_s_k0 σ43 ((σ43 7 (2 * i43)).toNatClampNeg) ((σ43 7 ((2 * i43) + 1)).toNatClampNeg) (nI i35)
theorem M_highOf_L43_k0 (n : Nat) (pl : Nat) (i35 : Nat) (x35_1 : Int32) : ∀ (n43 i43 : Nat) (σ43 : Nat → Nat → Int32), (M_highOf_L43 n pl i35 x35_1 n43 i43 σ43) 0 = σ43 0 := by
  intro n43
  induction n43 with
  | zero => intros; rfl
  | succ n43 ih => intro i43 σ43; exact (ih (i43 + 1) (M_highOf_S43_0 n pl i35 x35_1 i43 σ43)).trans (M_highOf_S43_k0 n pl i35 x35_1 i43 σ43)
theorem M_highOf_S43_k1 (n : Nat) (pl : Nat) (i35 : Nat) (x35_1 : Int32) (i43 : Nat) (σ43 : Nat → Nat → Int32) : M_highOf_S43_0 n pl i35 x35_1 i43 σ43 1 = σ43 1 := by
  unfold M_highOf_S43_0
  exact M_marry_s_k1 σ43 ((σ43 7 (2 * i43)).toNatClampNeg) ((σ43 7 ((2 * i43) + 1)).toNatClampNeg) (nI i35)
theorem M_highOf_L43_k1 (n : Nat) (pl : Nat) (i35 : Nat) (x35_1 : Int32) : ∀ (n43 i43 : Nat) (σ43 : Nat → Nat → Int32), (M_highOf_L43 n pl i35 x35_1 n43 i43 σ43) 1 = σ43 1 := by
  intro n43
  induction n43 with
  | zero => intros; rfl
  | succ n43 ih => intro i43 σ43; exact (ih (i43 + 1) (M_highOf_S43_0 n pl i35 x35_1 i43 σ43)).trans (M_highOf_S43_k1 n pl i35 x35_1 i43 σ43)
theorem M_highOf_S43_k2 (n : Nat) (pl : Nat) (i35 : Nat) (x35_1 : Int32) (i43 : Nat) (σ43 : Nat → Nat → Int32) : M_highOf_S43_0 n pl i35 x35_1 i43 σ43 2 = σ43 2 := by
  unfold M_highOf_S43_0
  exact M_marry_s_k2 σ43 ((σ43 7 (2 * i43)).toNatClampNeg) ((σ43 7 ((2 * i43) + 1)).toNatClampNeg) (nI i35)
theorem M_highOf_L43_k2 (n : Nat) (pl : Nat) (i35 : Nat) (x35_1 : Int32) : ∀ (n43 i43 : Nat) (σ43 : Nat → Nat → Int32), (M_highOf_L43 n pl i35 x35_1 n43 i43 σ43) 2 = σ43 2 := by
  intro n43
  induction n43 with
  | zero => intros; rfl
  | succ n43 ih => intro i43 σ43; exact (ih (i43 + 1) (M_highOf_S43_0 n pl i35 x35_1 i43 σ43)).trans (M_highOf_S43_k2 n pl i35 x35_1 i43 σ43)
theorem M_highOf_S43_k3 (n : Nat) (pl : Nat) (i35 : Nat) (x35_1 : Int32) (i43 : Nat) (σ43 : Nat → Nat → Int32) : M_highOf_S43_0 n pl i35 x35_1 i43 σ43 3 = σ43 3 := by
  unfold M_highOf_S43_0
  exact M_marry_s_k3 σ43 ((σ43 7 (2 * i43)).toNatClampNeg) ((σ43 7 ((2 * i43) + 1)).toNatClampNeg) (nI i35)
theorem M_highOf_L43_k3 (n : Nat) (pl : Nat) (i35 : Nat) (x35_1 : Int32) : ∀ (n43 i43 : Nat) (σ43 : Nat → Nat → Int32), (M_highOf_L43 n pl i35 x35_1 n43 i43 σ43) 3 = σ43 3 := by
  intro n43
  induction n43 with
  | zero => intros; rfl
  | succ n43 ih => intro i43 σ43; exact (ih (i43 + 1) (M_highOf_S43_0 n pl i35 x35_1 i43 σ43)).trans (M_highOf_S43_k3 n pl i35 x35_1 i43 σ43)
theorem M_highOf_S43_k6 (n : Nat) (pl : Nat) (i35 : Nat) (x35_1 : Int32) (i43 : Nat) (σ43 : Nat → Nat → Int32) : M_highOf_S43_0 n pl i35 x35_1 i43 σ43 6 = σ43 6 := by
  unfold M_highOf_S43_0
  exact M_marry_s_k6 σ43 ((σ43 7 (2 * i43)).toNatClampNeg) ((σ43 7 ((2 * i43) + 1)).toNatClampNeg) (nI i35)
theorem M_highOf_L43_k6 (n : Nat) (pl : Nat) (i35 : Nat) (x35_1 : Int32) : ∀ (n43 i43 : Nat) (σ43 : Nat → Nat → Int32), (M_highOf_L43 n pl i35 x35_1 n43 i43 σ43) 6 = σ43 6 := by
  intro n43
  induction n43 with
  | zero => intros; rfl
  | succ n43 ih => intro i43 σ43; exact (ih (i43 + 1) (M_highOf_S43_0 n pl i35 x35_1 i43 σ43)).trans (M_highOf_S43_k6 n pl i35 x35_1 i43 σ43)
theorem M_highOf_S43_k7 (n : Nat) (pl : Nat) (i35 : Nat) (x35_1 : Int32) (i43 : Nat) (σ43 : Nat → Nat → Int32) : M_highOf_S43_0 n pl i35 x35_1 i43 σ43 7 = σ43 7 := by
  unfold M_highOf_S43_0
  exact M_marry_s_k7 σ43 ((σ43 7 (2 * i43)).toNatClampNeg) ((σ43 7 ((2 * i43) + 1)).toNatClampNeg) (nI i35)
theorem M_highOf_L43_k7 (n : Nat) (pl : Nat) (i35 : Nat) (x35_1 : Int32) : ∀ (n43 i43 : Nat) (σ43 : Nat → Nat → Int32), (M_highOf_L43 n pl i35 x35_1 n43 i43 σ43) 7 = σ43 7 := by
  intro n43
  induction n43 with
  | zero => intros; rfl
  | succ n43 ih => intro i43 σ43; exact (ih (i43 + 1) (M_highOf_S43_0 n pl i35 x35_1 i43 σ43)).trans (M_highOf_S43_k7 n pl i35 x35_1 i43 σ43)
theorem M_highOf_S43_k8 (n : Nat) (pl : Nat) (i35 : Nat) (x35_1 : Int32) (i43 : Nat) (σ43 : Nat → Nat → Int32) : M_highOf_S43_0 n pl i35 x35_1 i43 σ43 8 = σ43 8 := by
  unfold M_highOf_S43_0
  exact M_marry_s_k8 σ43 ((σ43 7 (2 * i43)).toNatClampNeg) ((σ43 7 ((2 * i43) + 1)).toNatClampNeg) (nI i35)
theorem M_highOf_L43_k8 (n : Nat) (pl : Nat) (i35 : Nat) (x35_1 : Int32) : ∀ (n43 i43 : Nat) (σ43 : Nat → Nat → Int32), (M_highOf_L43 n pl i35 x35_1 n43 i43 σ43) 8 = σ43 8 := by
  intro n43
  induction n43 with
  | zero => intros; rfl
  | succ n43 ih => intro i43 σ43; exact (ih (i43 + 1) (M_highOf_S43_0 n pl i35 x35_1 i43 σ43)).trans (M_highOf_S43_k8 n pl i35 x35_1 i43 σ43)
theorem M_highOf_S43_k9 (n : Nat) (pl : Nat) (i35 : Nat) (x35_1 : Int32) (i43 : Nat) (σ43 : Nat → Nat → Int32) : M_highOf_S43_0 n pl i35 x35_1 i43 σ43 9 = σ43 9 := by
  unfold M_highOf_S43_0
  exact M_marry_s_k9 σ43 ((σ43 7 (2 * i43)).toNatClampNeg) ((σ43 7 ((2 * i43) + 1)).toNatClampNeg) (nI i35)
theorem M_highOf_L43_k9 (n : Nat) (pl : Nat) (i35 : Nat) (x35_1 : Int32) : ∀ (n43 i43 : Nat) (σ43 : Nat → Nat → Int32), (M_highOf_L43 n pl i35 x35_1 n43 i43 σ43) 9 = σ43 9 := by
  intro n43
  induction n43 with
  | zero => intros; rfl
  | succ n43 ih => intro i43 σ43; exact (ih (i43 + 1) (M_highOf_S43_0 n pl i35 x35_1 i43 σ43)).trans (M_highOf_S43_k9 n pl i35 x35_1 i43 σ43)
theorem M_highOf_S43_k10 (n : Nat) (pl : Nat) (i35 : Nat) (x35_1 : Int32) (i43 : Nat) (σ43 : Nat → Nat → Int32) : M_highOf_S43_0 n pl i35 x35_1 i43 σ43 10 = σ43 10 := by
  unfold M_highOf_S43_0
  exact M_marry_s_k10 σ43 ((σ43 7 (2 * i43)).toNatClampNeg) ((σ43 7 ((2 * i43) + 1)).toNatClampNeg) (nI i35)
theorem M_highOf_L43_k10 (n : Nat) (pl : Nat) (i35 : Nat) (x35_1 : Int32) : ∀ (n43 i43 : Nat) (σ43 : Nat → Nat → Int32), (M_highOf_L43 n pl i35 x35_1 n43 i43 σ43) 10 = σ43 10 := by
  intro n43
  induction n43 with
  | zero => intros; rfl
  | succ n43 ih => intro i43 σ43; exact (ih (i43 + 1) (M_highOf_S43_0 n pl i35 x35_1 i43 σ43)).trans (M_highOf_S43_k10 n pl i35 x35_1 i43 σ43)
theorem M_highOf_S43_k11 (n : Nat) (pl : Nat) (i35 : Nat) (x35_1 : Int32) (i43 : Nat) (σ43 : Nat → Nat → Int32) : M_highOf_S43_0 n pl i35 x35_1 i43 σ43 11 = σ43 11 := by
  unfold M_highOf_S43_0
  exact M_marry_s_k11 σ43 ((σ43 7 (2 * i43)).toNatClampNeg) ((σ43 7 ((2 * i43) + 1)).toNatClampNeg) (nI i35)
theorem M_highOf_L43_k11 (n : Nat) (pl : Nat) (i35 : Nat) (x35_1 : Int32) : ∀ (n43 i43 : Nat) (σ43 : Nat → Nat → Int32), (M_highOf_L43 n pl i35 x35_1 n43 i43 σ43) 11 = σ43 11 := by
  intro n43
  induction n43 with
  | zero => intros; rfl
  | succ n43 ih => intro i43 σ43; exact (ih (i43 + 1) (M_highOf_S43_0 n pl i35 x35_1 i43 σ43)).trans (M_highOf_S43_k11 n pl i35 x35_1 i43 σ43)
theorem M_highOf_S43_k12 (n : Nat) (pl : Nat) (i35 : Nat) (x35_1 : Int32) (i43 : Nat) (σ43 : Nat → Nat → Int32) : M_highOf_S43_0 n pl i35 x35_1 i43 σ43 12 = σ43 12 := by
  unfold M_highOf_S43_0
  exact M_marry_s_k12 σ43 ((σ43 7 (2 * i43)).toNatClampNeg) ((σ43 7 ((2 * i43) + 1)).toNatClampNeg) (nI i35)
theorem M_highOf_L43_k12 (n : Nat) (pl : Nat) (i35 : Nat) (x35_1 : Int32) : ∀ (n43 i43 : Nat) (σ43 : Nat → Nat → Int32), (M_highOf_L43 n pl i35 x35_1 n43 i43 σ43) 12 = σ43 12 := by
  intro n43
  induction n43 with
  | zero => intros; rfl
  | succ n43 ih => intro i43 σ43; exact (ih (i43 + 1) (M_highOf_S43_0 n pl i35 x35_1 i43 σ43)).trans (M_highOf_S43_k12 n pl i35 x35_1 i43 σ43)
theorem M_highOf_S43_k13 (n : Nat) (pl : Nat) (i35 : Nat) (x35_1 : Int32) (i43 : Nat) (σ43 : Nat → Nat → Int32) : M_highOf_S43_0 n pl i35 x35_1 i43 σ43 13 = σ43 13 := by
  unfold M_highOf_S43_0
  exact M_marry_s_k13 σ43 ((σ43 7 (2 * i43)).toNatClampNeg) ((σ43 7 ((2 * i43) + 1)).toNatClampNeg) (nI i35)
theorem M_highOf_L43_k13 (n : Nat) (pl : Nat) (i35 : Nat) (x35_1 : Int32) : ∀ (n43 i43 : Nat) (σ43 : Nat → Nat → Int32), (M_highOf_L43 n pl i35 x35_1 n43 i43 σ43) 13 = σ43 13 := by
  intro n43
  induction n43 with
  | zero => intros; rfl
  | succ n43 ih => intro i43 σ43; exact (ih (i43 + 1) (M_highOf_S43_0 n pl i35 x35_1 i43 σ43)).trans (M_highOf_S43_k13 n pl i35 x35_1 i43 σ43)
theorem M_highOf_S43_k14 (n : Nat) (pl : Nat) (i35 : Nat) (x35_1 : Int32) (i43 : Nat) (σ43 : Nat → Nat → Int32) : M_highOf_S43_0 n pl i35 x35_1 i43 σ43 14 = σ43 14 := by
  unfold M_highOf_S43_0
  exact M_marry_s_k14 σ43 ((σ43 7 (2 * i43)).toNatClampNeg) ((σ43 7 ((2 * i43) + 1)).toNatClampNeg) (nI i35)
theorem M_highOf_L43_k14 (n : Nat) (pl : Nat) (i35 : Nat) (x35_1 : Int32) : ∀ (n43 i43 : Nat) (σ43 : Nat → Nat → Int32), (M_highOf_L43 n pl i35 x35_1 n43 i43 σ43) 14 = σ43 14 := by
  intro n43
  induction n43 with
  | zero => intros; rfl
  | succ n43 ih => intro i43 σ43; exact (ih (i43 + 1) (M_highOf_S43_0 n pl i35 x35_1 i43 σ43)).trans (M_highOf_S43_k14 n pl i35 x35_1 i43 σ43)
theorem M_highOf_S43_k15 (n : Nat) (pl : Nat) (i35 : Nat) (x35_1 : Int32) (i43 : Nat) (σ43 : Nat → Nat → Int32) : M_highOf_S43_0 n pl i35 x35_1 i43 σ43 15 = σ43 15 := by
  unfold M_highOf_S43_0
  exact M_marry_s_k15 σ43 ((σ43 7 (2 * i43)).toNatClampNeg) ((σ43 7 ((2 * i43) + 1)).toNatClampNeg) (nI i35)
theorem M_highOf_L43_k15 (n : Nat) (pl : Nat) (i35 : Nat) (x35_1 : Int32) : ∀ (n43 i43 : Nat) (σ43 : Nat → Nat → Int32), (M_highOf_L43 n pl i35 x35_1 n43 i43 σ43) 15 = σ43 15 := by
  intro n43
  induction n43 with
  | zero => intros; rfl
  | succ n43 ih => intro i43 σ43; exact (ih (i43 + 1) (M_highOf_S43_0 n pl i35 x35_1 i43 σ43)).trans (M_highOf_S43_k15 n pl i35 x35_1 i43 σ43)
theorem M_highOf_S43_k16 (n : Nat) (pl : Nat) (i35 : Nat) (x35_1 : Int32) (i43 : Nat) (σ43 : Nat → Nat → Int32) : M_highOf_S43_0 n pl i35 x35_1 i43 σ43 16 = σ43 16 := by
  unfold M_highOf_S43_0
  exact M_marry_s_k16 σ43 ((σ43 7 (2 * i43)).toNatClampNeg) ((σ43 7 ((2 * i43) + 1)).toNatClampNeg) (nI i35)
theorem M_highOf_L43_k16 (n : Nat) (pl : Nat) (i35 : Nat) (x35_1 : Int32) : ∀ (n43 i43 : Nat) (σ43 : Nat → Nat → Int32), (M_highOf_L43 n pl i35 x35_1 n43 i43 σ43) 16 = σ43 16 := by
  intro n43
  induction n43 with
  | zero => intros; rfl
  | succ n43 ih => intro i43 σ43; exact (ih (i43 + 1) (M_highOf_S43_0 n pl i35 x35_1 i43 σ43)).trans (M_highOf_S43_k16 n pl i35 x35_1 i43 σ43)
theorem M_highOf_S43_k17 (n : Nat) (pl : Nat) (i35 : Nat) (x35_1 : Int32) (i43 : Nat) (σ43 : Nat → Nat → Int32) : M_highOf_S43_0 n pl i35 x35_1 i43 σ43 17 = σ43 17 := by
  unfold M_highOf_S43_0
  exact M_marry_s_k17 σ43 ((σ43 7 (2 * i43)).toNatClampNeg) ((σ43 7 ((2 * i43) + 1)).toNatClampNeg) (nI i35)
theorem M_highOf_L43_k17 (n : Nat) (pl : Nat) (i35 : Nat) (x35_1 : Int32) : ∀ (n43 i43 : Nat) (σ43 : Nat → Nat → Int32), (M_highOf_L43 n pl i35 x35_1 n43 i43 σ43) 17 = σ43 17 := by
  intro n43
  induction n43 with
  | zero => intros; rfl
  | succ n43 ih => intro i43 σ43; exact (ih (i43 + 1) (M_highOf_S43_0 n pl i35 x35_1 i43 σ43)).trans (M_highOf_S43_k17 n pl i35 x35_1 i43 σ43)
theorem M_highOf_S43_k18 (n : Nat) (pl : Nat) (i35 : Nat) (x35_1 : Int32) (i43 : Nat) (σ43 : Nat → Nat → Int32) : M_highOf_S43_0 n pl i35 x35_1 i43 σ43 18 = σ43 18 := by
  unfold M_highOf_S43_0
  exact M_marry_s_k18 σ43 ((σ43 7 (2 * i43)).toNatClampNeg) ((σ43 7 ((2 * i43) + 1)).toNatClampNeg) (nI i35)
theorem M_highOf_L43_k18 (n : Nat) (pl : Nat) (i35 : Nat) (x35_1 : Int32) : ∀ (n43 i43 : Nat) (σ43 : Nat → Nat → Int32), (M_highOf_L43 n pl i35 x35_1 n43 i43 σ43) 18 = σ43 18 := by
  intro n43
  induction n43 with
  | zero => intros; rfl
  | succ n43 ih => intro i43 σ43; exact (ih (i43 + 1) (M_highOf_S43_0 n pl i35 x35_1 i43 σ43)).trans (M_highOf_S43_k18 n pl i35 x35_1 i43 σ43)
theorem M_highOf_S43_k19 (n : Nat) (pl : Nat) (i35 : Nat) (x35_1 : Int32) (i43 : Nat) (σ43 : Nat → Nat → Int32) : M_highOf_S43_0 n pl i35 x35_1 i43 σ43 19 = σ43 19 := by
  unfold M_highOf_S43_0
  exact M_marry_s_k19 σ43 ((σ43 7 (2 * i43)).toNatClampNeg) ((σ43 7 ((2 * i43) + 1)).toNatClampNeg) (nI i35)
theorem M_highOf_L43_k19 (n : Nat) (pl : Nat) (i35 : Nat) (x35_1 : Int32) : ∀ (n43 i43 : Nat) (σ43 : Nat → Nat → Int32), (M_highOf_L43 n pl i35 x35_1 n43 i43 σ43) 19 = σ43 19 := by
  intro n43
  induction n43 with
  | zero => intros; rfl
  | succ n43 ih => intro i43 σ43; exact (ih (i43 + 1) (M_highOf_S43_0 n pl i35 x35_1 i43 σ43)).trans (M_highOf_S43_k19 n pl i35 x35_1 i43 σ43)
def M_highOf_S87_0 (σ : Nat → Nat → Int32) (n : Nat) (pl : Nat) (i35 : Nat) (x35_1 : Int32) (i87 : Nat) (x87_3 : Int32) : Int32 := if x87_3 = 0 then 0 else (if (σ 12 i87) < (M_owesOf_r σ i87) then 0 else 1)
def M_highOf_L87 (σ : Nat → Nat → Int32) (n : Nat) (pl : Nat) (i35 : Nat) (x35_1 : Int32) : Nat → Nat → (Int32) → (Int32)
  | 0, _, x87_3 => x87_3
  | n87 + 1, i87, x87_3 => M_highOf_L87 σ n pl i35 x35_1 n87 (i87 + 1) (M_highOf_S87_0 σ n pl i35 x35_1 i87 x87_3)
def M_highOf_S35_0 (n : Nat) (pl : Nat) (i35 : Nat) (x35_1 : Int32) (σ35 : Nat → Nat → Int32) : Int32 := if (M_highOf_L87 (M_highOf_L43 n pl i35 x35_1 pl 0 σ35) n pl i35 x35_1 n 0 1) = 0 then x35_1 else (nI i35)
def M_highOf_S35_1 (n : Nat) (pl : Nat) (i35 : Nat) (x35_1 : Int32) (σ35 : Nat → Nat → Int32) : Nat → Nat → Int32 := if (M_highOf_L87 (M_highOf_L43 n pl i35 x35_1 pl 0 σ35) n pl i35 x35_1 n 0 1) = 0 then (M_layBack_s (M_highOf_L43 n pl i35 x35_1 pl 0 σ35)) else (M_layBack_s (M_highOf_L43 n pl i35 x35_1 pl 0 σ35))
def M_highOf_L35 (n : Nat) (pl : Nat) : Nat → Nat → (Int32) → (Nat → Nat → Int32) → (Int32) × (Nat → Nat → Int32)
  | 0, _, x35_1, σ35 => (x35_1, σ35)
  | n35 + 1, i35, x35_1, σ35 => M_highOf_L35 n pl n35 (i35 + 1) (M_highOf_S35_0 n pl i35 x35_1 σ35) (M_highOf_S35_1 n pl i35 x35_1 σ35)
theorem M_highOf_S35_k0 (n : Nat) (pl : Nat) (i35 : Nat) (x35_1 : Int32) (σ35 : Nat → Nat → Int32) : M_highOf_S35_1 n pl i35 x35_1 σ35 0 = σ35 0 := by
  unfold M_highOf_S35_1
  by_cases z1 : (M_highOf_L87 (M_highOf_L43 n pl i35 x35_1 pl 0 σ35) n pl i35 x35_1 n 0 1) = 0
  · refine Eq.trans (congrFun (if_pos z1) 0) ?_
    exact (M_layBack_s_k0 (M_highOf_L43 n pl i35 x35_1 pl 0 σ35)).trans (M_highOf_L43_k0 n pl i35 x35_1 pl 0 σ35)
  · refine Eq.trans (congrFun (if_neg z1) 0) ?_
    exact (M_layBack_s_k0 (M_highOf_L43 n pl i35 x35_1 pl 0 σ35)).trans (M_highOf_L43_k0 n pl i35 x35_1 pl 0 σ35)
theorem M_highOf_L35_k0 (n : Nat) (pl : Nat) : ∀ (n35 i35 : Nat) (x35_1 : Int32) (σ35 : Nat → Nat → Int32), (M_highOf_L35 n pl n35 i35 x35_1 σ35).2 0 = σ35 0 := by
  intro n35
  induction n35 with
  | zero => intros; rfl
  | succ n35 ih => intro i35 x35_1 σ35; exact (ih (i35 + 1) (M_highOf_S35_0 n pl i35 x35_1 σ35) (M_highOf_S35_1 n pl i35 x35_1 σ35)).trans (M_highOf_S35_k0 n pl i35 x35_1 σ35)
theorem M_highOf_S35_k1 (n : Nat) (pl : Nat) (i35 : Nat) (x35_1 : Int32) (σ35 : Nat → Nat → Int32) : M_highOf_S35_1 n pl i35 x35_1 σ35 1 = σ35 1 := by
  unfold M_highOf_S35_1
  by_cases z1 : (M_highOf_L87 (M_highOf_L43 n pl i35 x35_1 pl 0 σ35) n pl i35 x35_1 n 0 1) = 0
  · refine Eq.trans (congrFun (if_pos z1) 1) ?_
    exact (M_layBack_s_k1 (M_highOf_L43 n pl i35 x35_1 pl 0 σ35)).trans (M_highOf_L43_k1 n pl i35 x35_1 pl 0 σ35)
  · refine Eq.trans (congrFun (if_neg z1) 1) ?_
    exact (M_layBack_s_k1 (M_highOf_L43 n pl i35 x35_1 pl 0 σ35)).trans (M_highOf_L43_k1 n pl i35 x35_1 pl 0 σ35)
theorem M_highOf_L35_k1 (n : Nat) (pl : Nat) : ∀ (n35 i35 : Nat) (x35_1 : Int32) (σ35 : Nat → Nat → Int32), (M_highOf_L35 n pl n35 i35 x35_1 σ35).2 1 = σ35 1 := by
  intro n35
  induction n35 with
  | zero => intros; rfl
  | succ n35 ih => intro i35 x35_1 σ35; exact (ih (i35 + 1) (M_highOf_S35_0 n pl i35 x35_1 σ35) (M_highOf_S35_1 n pl i35 x35_1 σ35)).trans (M_highOf_S35_k1 n pl i35 x35_1 σ35)
theorem M_highOf_S35_k2 (n : Nat) (pl : Nat) (i35 : Nat) (x35_1 : Int32) (σ35 : Nat → Nat → Int32) : M_highOf_S35_1 n pl i35 x35_1 σ35 2 = σ35 2 := by
  unfold M_highOf_S35_1
  by_cases z1 : (M_highOf_L87 (M_highOf_L43 n pl i35 x35_1 pl 0 σ35) n pl i35 x35_1 n 0 1) = 0
  · refine Eq.trans (congrFun (if_pos z1) 2) ?_
    exact (M_layBack_s_k2 (M_highOf_L43 n pl i35 x35_1 pl 0 σ35)).trans (M_highOf_L43_k2 n pl i35 x35_1 pl 0 σ35)
  · refine Eq.trans (congrFun (if_neg z1) 2) ?_
    exact (M_layBack_s_k2 (M_highOf_L43 n pl i35 x35_1 pl 0 σ35)).trans (M_highOf_L43_k2 n pl i35 x35_1 pl 0 σ35)
theorem M_highOf_L35_k2 (n : Nat) (pl : Nat) : ∀ (n35 i35 : Nat) (x35_1 : Int32) (σ35 : Nat → Nat → Int32), (M_highOf_L35 n pl n35 i35 x35_1 σ35).2 2 = σ35 2 := by
  intro n35
  induction n35 with
  | zero => intros; rfl
  | succ n35 ih => intro i35 x35_1 σ35; exact (ih (i35 + 1) (M_highOf_S35_0 n pl i35 x35_1 σ35) (M_highOf_S35_1 n pl i35 x35_1 σ35)).trans (M_highOf_S35_k2 n pl i35 x35_1 σ35)
theorem M_highOf_S35_k3 (n : Nat) (pl : Nat) (i35 : Nat) (x35_1 : Int32) (σ35 : Nat → Nat → Int32) : M_highOf_S35_1 n pl i35 x35_1 σ35 3 = σ35 3 := by
  unfold M_highOf_S35_1
  by_cases z1 : (M_highOf_L87 (M_highOf_L43 n pl i35 x35_1 pl 0 σ35) n pl i35 x35_1 n 0 1) = 0
  · refine Eq.trans (congrFun (if_pos z1) 3) ?_
    exact (M_layBack_s_k3 (M_highOf_L43 n pl i35 x35_1 pl 0 σ35)).trans (M_highOf_L43_k3 n pl i35 x35_1 pl 0 σ35)
  · refine Eq.trans (congrFun (if_neg z1) 3) ?_
    exact (M_layBack_s_k3 (M_highOf_L43 n pl i35 x35_1 pl 0 σ35)).trans (M_highOf_L43_k3 n pl i35 x35_1 pl 0 σ35)
theorem M_highOf_L35_k3 (n : Nat) (pl : Nat) : ∀ (n35 i35 : Nat) (x35_1 : Int32) (σ35 : Nat → Nat → Int32), (M_highOf_L35 n pl n35 i35 x35_1 σ35).2 3 = σ35 3 := by
  intro n35
  induction n35 with
  | zero => intros; rfl
  | succ n35 ih => intro i35 x35_1 σ35; exact (ih (i35 + 1) (M_highOf_S35_0 n pl i35 x35_1 σ35) (M_highOf_S35_1 n pl i35 x35_1 σ35)).trans (M_highOf_S35_k3 n pl i35 x35_1 σ35)
theorem M_highOf_S35_k6 (n : Nat) (pl : Nat) (i35 : Nat) (x35_1 : Int32) (σ35 : Nat → Nat → Int32) : M_highOf_S35_1 n pl i35 x35_1 σ35 6 = σ35 6 := by
  unfold M_highOf_S35_1
  by_cases z1 : (M_highOf_L87 (M_highOf_L43 n pl i35 x35_1 pl 0 σ35) n pl i35 x35_1 n 0 1) = 0
  · refine Eq.trans (congrFun (if_pos z1) 6) ?_
    exact (M_layBack_s_k6 (M_highOf_L43 n pl i35 x35_1 pl 0 σ35)).trans (M_highOf_L43_k6 n pl i35 x35_1 pl 0 σ35)
  · refine Eq.trans (congrFun (if_neg z1) 6) ?_
    exact (M_layBack_s_k6 (M_highOf_L43 n pl i35 x35_1 pl 0 σ35)).trans (M_highOf_L43_k6 n pl i35 x35_1 pl 0 σ35)
theorem M_highOf_L35_k6 (n : Nat) (pl : Nat) : ∀ (n35 i35 : Nat) (x35_1 : Int32) (σ35 : Nat → Nat → Int32), (M_highOf_L35 n pl n35 i35 x35_1 σ35).2 6 = σ35 6 := by
  intro n35
  induction n35 with
  | zero => intros; rfl
  | succ n35 ih => intro i35 x35_1 σ35; exact (ih (i35 + 1) (M_highOf_S35_0 n pl i35 x35_1 σ35) (M_highOf_S35_1 n pl i35 x35_1 σ35)).trans (M_highOf_S35_k6 n pl i35 x35_1 σ35)
theorem M_highOf_S35_k7 (n : Nat) (pl : Nat) (i35 : Nat) (x35_1 : Int32) (σ35 : Nat → Nat → Int32) : M_highOf_S35_1 n pl i35 x35_1 σ35 7 = σ35 7 := by
  unfold M_highOf_S35_1
  by_cases z1 : (M_highOf_L87 (M_highOf_L43 n pl i35 x35_1 pl 0 σ35) n pl i35 x35_1 n 0 1) = 0
  · refine Eq.trans (congrFun (if_pos z1) 7) ?_
    exact (M_layBack_s_k7 (M_highOf_L43 n pl i35 x35_1 pl 0 σ35)).trans (M_highOf_L43_k7 n pl i35 x35_1 pl 0 σ35)
  · refine Eq.trans (congrFun (if_neg z1) 7) ?_
    exact (M_layBack_s_k7 (M_highOf_L43 n pl i35 x35_1 pl 0 σ35)).trans (M_highOf_L43_k7 n pl i35 x35_1 pl 0 σ35)
theorem M_highOf_L35_k7 (n : Nat) (pl : Nat) : ∀ (n35 i35 : Nat) (x35_1 : Int32) (σ35 : Nat → Nat → Int32), (M_highOf_L35 n pl n35 i35 x35_1 σ35).2 7 = σ35 7 := by
  intro n35
  induction n35 with
  | zero => intros; rfl
  | succ n35 ih => intro i35 x35_1 σ35; exact (ih (i35 + 1) (M_highOf_S35_0 n pl i35 x35_1 σ35) (M_highOf_S35_1 n pl i35 x35_1 σ35)).trans (M_highOf_S35_k7 n pl i35 x35_1 σ35)
theorem M_highOf_S35_k8 (n : Nat) (pl : Nat) (i35 : Nat) (x35_1 : Int32) (σ35 : Nat → Nat → Int32) : M_highOf_S35_1 n pl i35 x35_1 σ35 8 = σ35 8 := by
  unfold M_highOf_S35_1
  by_cases z1 : (M_highOf_L87 (M_highOf_L43 n pl i35 x35_1 pl 0 σ35) n pl i35 x35_1 n 0 1) = 0
  · refine Eq.trans (congrFun (if_pos z1) 8) ?_
    exact (M_layBack_s_k8 (M_highOf_L43 n pl i35 x35_1 pl 0 σ35)).trans (M_highOf_L43_k8 n pl i35 x35_1 pl 0 σ35)
  · refine Eq.trans (congrFun (if_neg z1) 8) ?_
    exact (M_layBack_s_k8 (M_highOf_L43 n pl i35 x35_1 pl 0 σ35)).trans (M_highOf_L43_k8 n pl i35 x35_1 pl 0 σ35)
theorem M_highOf_L35_k8 (n : Nat) (pl : Nat) : ∀ (n35 i35 : Nat) (x35_1 : Int32) (σ35 : Nat → Nat → Int32), (M_highOf_L35 n pl n35 i35 x35_1 σ35).2 8 = σ35 8 := by
  intro n35
  induction n35 with
  | zero => intros; rfl
  | succ n35 ih => intro i35 x35_1 σ35; exact (ih (i35 + 1) (M_highOf_S35_0 n pl i35 x35_1 σ35) (M_highOf_S35_1 n pl i35 x35_1 σ35)).trans (M_highOf_S35_k8 n pl i35 x35_1 σ35)
theorem M_highOf_S35_k9 (n : Nat) (pl : Nat) (i35 : Nat) (x35_1 : Int32) (σ35 : Nat → Nat → Int32) : M_highOf_S35_1 n pl i35 x35_1 σ35 9 = σ35 9 := by
  unfold M_highOf_S35_1
  by_cases z1 : (M_highOf_L87 (M_highOf_L43 n pl i35 x35_1 pl 0 σ35) n pl i35 x35_1 n 0 1) = 0
  · refine Eq.trans (congrFun (if_pos z1) 9) ?_
    exact (M_layBack_s_k9 (M_highOf_L43 n pl i35 x35_1 pl 0 σ35)).trans (M_highOf_L43_k9 n pl i35 x35_1 pl 0 σ35)
  · refine Eq.trans (congrFun (if_neg z1) 9) ?_
    exact (M_layBack_s_k9 (M_highOf_L43 n pl i35 x35_1 pl 0 σ35)).trans (M_highOf_L43_k9 n pl i35 x35_1 pl 0 σ35)
theorem M_highOf_L35_k9 (n : Nat) (pl : Nat) : ∀ (n35 i35 : Nat) (x35_1 : Int32) (σ35 : Nat → Nat → Int32), (M_highOf_L35 n pl n35 i35 x35_1 σ35).2 9 = σ35 9 := by
  intro n35
  induction n35 with
  | zero => intros; rfl
  | succ n35 ih => intro i35 x35_1 σ35; exact (ih (i35 + 1) (M_highOf_S35_0 n pl i35 x35_1 σ35) (M_highOf_S35_1 n pl i35 x35_1 σ35)).trans (M_highOf_S35_k9 n pl i35 x35_1 σ35)
theorem M_highOf_S35_k10 (n : Nat) (pl : Nat) (i35 : Nat) (x35_1 : Int32) (σ35 : Nat → Nat → Int32) : M_highOf_S35_1 n pl i35 x35_1 σ35 10 = σ35 10 := by
  unfold M_highOf_S35_1
  by_cases z1 : (M_highOf_L87 (M_highOf_L43 n pl i35 x35_1 pl 0 σ35) n pl i35 x35_1 n 0 1) = 0
  · refine Eq.trans (congrFun (if_pos z1) 10) ?_
    exact (M_layBack_s_k10 (M_highOf_L43 n pl i35 x35_1 pl 0 σ35)).trans (M_highOf_L43_k10 n pl i35 x35_1 pl 0 σ35)
  · refine Eq.trans (congrFun (if_neg z1) 10) ?_
    exact (M_layBack_s_k10 (M_highOf_L43 n pl i35 x35_1 pl 0 σ35)).trans (M_highOf_L43_k10 n pl i35 x35_1 pl 0 σ35)
theorem M_highOf_L35_k10 (n : Nat) (pl : Nat) : ∀ (n35 i35 : Nat) (x35_1 : Int32) (σ35 : Nat → Nat → Int32), (M_highOf_L35 n pl n35 i35 x35_1 σ35).2 10 = σ35 10 := by
  intro n35
  induction n35 with
  | zero => intros; rfl
  | succ n35 ih => intro i35 x35_1 σ35; exact (ih (i35 + 1) (M_highOf_S35_0 n pl i35 x35_1 σ35) (M_highOf_S35_1 n pl i35 x35_1 σ35)).trans (M_highOf_S35_k10 n pl i35 x35_1 σ35)
theorem M_highOf_S35_k11 (n : Nat) (pl : Nat) (i35 : Nat) (x35_1 : Int32) (σ35 : Nat → Nat → Int32) : M_highOf_S35_1 n pl i35 x35_1 σ35 11 = σ35 11 := by
  unfold M_highOf_S35_1
  by_cases z1 : (M_highOf_L87 (M_highOf_L43 n pl i35 x35_1 pl 0 σ35) n pl i35 x35_1 n 0 1) = 0
  · refine Eq.trans (congrFun (if_pos z1) 11) ?_
    exact (M_layBack_s_k11 (M_highOf_L43 n pl i35 x35_1 pl 0 σ35)).trans (M_highOf_L43_k11 n pl i35 x35_1 pl 0 σ35)
  · refine Eq.trans (congrFun (if_neg z1) 11) ?_
    exact (M_layBack_s_k11 (M_highOf_L43 n pl i35 x35_1 pl 0 σ35)).trans (M_highOf_L43_k11 n pl i35 x35_1 pl 0 σ35)
theorem M_highOf_L35_k11 (n : Nat) (pl : Nat) : ∀ (n35 i35 : Nat) (x35_1 : Int32) (σ35 : Nat → Nat → Int32), (M_highOf_L35 n pl n35 i35 x35_1 σ35).2 11 = σ35 11 := by
  intro n35
  induction n35 with
  | zero => intros; rfl
  | succ n35 ih => intro i35 x35_1 σ35; exact (ih (i35 + 1) (M_highOf_S35_0 n pl i35 x35_1 σ35) (M_highOf_S35_1 n pl i35 x35_1 σ35)).trans (M_highOf_S35_k11 n pl i35 x35_1 σ35)
theorem M_highOf_S35_k12 (n : Nat) (pl : Nat) (i35 : Nat) (x35_1 : Int32) (σ35 : Nat → Nat → Int32) : M_highOf_S35_1 n pl i35 x35_1 σ35 12 = σ35 12 := by
  unfold M_highOf_S35_1
  by_cases z1 : (M_highOf_L87 (M_highOf_L43 n pl i35 x35_1 pl 0 σ35) n pl i35 x35_1 n 0 1) = 0
  · refine Eq.trans (congrFun (if_pos z1) 12) ?_
    exact (M_layBack_s_k12 (M_highOf_L43 n pl i35 x35_1 pl 0 σ35)).trans (M_highOf_L43_k12 n pl i35 x35_1 pl 0 σ35)
  · refine Eq.trans (congrFun (if_neg z1) 12) ?_
    exact (M_layBack_s_k12 (M_highOf_L43 n pl i35 x35_1 pl 0 σ35)).trans (M_highOf_L43_k12 n pl i35 x35_1 pl 0 σ35)
theorem M_highOf_L35_k12 (n : Nat) (pl : Nat) : ∀ (n35 i35 : Nat) (x35_1 : Int32) (σ35 : Nat → Nat → Int32), (M_highOf_L35 n pl n35 i35 x35_1 σ35).2 12 = σ35 12 := by
  intro n35
  induction n35 with
  | zero => intros; rfl
  | succ n35 ih => intro i35 x35_1 σ35; exact (ih (i35 + 1) (M_highOf_S35_0 n pl i35 x35_1 σ35) (M_highOf_S35_1 n pl i35 x35_1 σ35)).trans (M_highOf_S35_k12 n pl i35 x35_1 σ35)
theorem M_highOf_S35_k13 (n : Nat) (pl : Nat) (i35 : Nat) (x35_1 : Int32) (σ35 : Nat → Nat → Int32) : M_highOf_S35_1 n pl i35 x35_1 σ35 13 = σ35 13 := by
  unfold M_highOf_S35_1
  by_cases z1 : (M_highOf_L87 (M_highOf_L43 n pl i35 x35_1 pl 0 σ35) n pl i35 x35_1 n 0 1) = 0
  · refine Eq.trans (congrFun (if_pos z1) 13) ?_
    exact (M_layBack_s_k13 (M_highOf_L43 n pl i35 x35_1 pl 0 σ35)).trans (M_highOf_L43_k13 n pl i35 x35_1 pl 0 σ35)
  · refine Eq.trans (congrFun (if_neg z1) 13) ?_
    exact (M_layBack_s_k13 (M_highOf_L43 n pl i35 x35_1 pl 0 σ35)).trans (M_highOf_L43_k13 n pl i35 x35_1 pl 0 σ35)
theorem M_highOf_L35_k13 (n : Nat) (pl : Nat) : ∀ (n35 i35 : Nat) (x35_1 : Int32) (σ35 : Nat → Nat → Int32), (M_highOf_L35 n pl n35 i35 x35_1 σ35).2 13 = σ35 13 := by
  intro n35
  induction n35 with
  | zero => intros; rfl
  | succ n35 ih => intro i35 x35_1 σ35; exact (ih (i35 + 1) (M_highOf_S35_0 n pl i35 x35_1 σ35) (M_highOf_S35_1 n pl i35 x35_1 σ35)).trans (M_highOf_S35_k13 n pl i35 x35_1 σ35)
theorem M_highOf_S35_k14 (n : Nat) (pl : Nat) (i35 : Nat) (x35_1 : Int32) (σ35 : Nat → Nat → Int32) : M_highOf_S35_1 n pl i35 x35_1 σ35 14 = σ35 14 := by
  unfold M_highOf_S35_1
  by_cases z1 : (M_highOf_L87 (M_highOf_L43 n pl i35 x35_1 pl 0 σ35) n pl i35 x35_1 n 0 1) = 0
  · refine Eq.trans (congrFun (if_pos z1) 14) ?_
    exact (M_layBack_s_k14 (M_highOf_L43 n pl i35 x35_1 pl 0 σ35)).trans (M_highOf_L43_k14 n pl i35 x35_1 pl 0 σ35)
  · refine Eq.trans (congrFun (if_neg z1) 14) ?_
    exact (M_layBack_s_k14 (M_highOf_L43 n pl i35 x35_1 pl 0 σ35)).trans (M_highOf_L43_k14 n pl i35 x35_1 pl 0 σ35)
theorem M_highOf_L35_k14 (n : Nat) (pl : Nat) : ∀ (n35 i35 : Nat) (x35_1 : Int32) (σ35 : Nat → Nat → Int32), (M_highOf_L35 n pl n35 i35 x35_1 σ35).2 14 = σ35 14 := by
  intro n35
  induction n35 with
  | zero => intros; rfl
  | succ n35 ih => intro i35 x35_1 σ35; exact (ih (i35 + 1) (M_highOf_S35_0 n pl i35 x35_1 σ35) (M_highOf_S35_1 n pl i35 x35_1 σ35)).trans (M_highOf_S35_k14 n pl i35 x35_1 σ35)
theorem M_highOf_S35_k15 (n : Nat) (pl : Nat) (i35 : Nat) (x35_1 : Int32) (σ35 : Nat → Nat → Int32) : M_highOf_S35_1 n pl i35 x35_1 σ35 15 = σ35 15 := by
  unfold M_highOf_S35_1
  by_cases z1 : (M_highOf_L87 (M_highOf_L43 n pl i35 x35_1 pl 0 σ35) n pl i35 x35_1 n 0 1) = 0
  · refine Eq.trans (congrFun (if_pos z1) 15) ?_
    exact (M_layBack_s_k15 (M_highOf_L43 n pl i35 x35_1 pl 0 σ35)).trans (M_highOf_L43_k15 n pl i35 x35_1 pl 0 σ35)
  · refine Eq.trans (congrFun (if_neg z1) 15) ?_
    exact (M_layBack_s_k15 (M_highOf_L43 n pl i35 x35_1 pl 0 σ35)).trans (M_highOf_L43_k15 n pl i35 x35_1 pl 0 σ35)
theorem M_highOf_L35_k15 (n : Nat) (pl : Nat) : ∀ (n35 i35 : Nat) (x35_1 : Int32) (σ35 : Nat → Nat → Int32), (M_highOf_L35 n pl n35 i35 x35_1 σ35).2 15 = σ35 15 := by
  intro n35
  induction n35 with
  | zero => intros; rfl
  | succ n35 ih => intro i35 x35_1 σ35; exact (ih (i35 + 1) (M_highOf_S35_0 n pl i35 x35_1 σ35) (M_highOf_S35_1 n pl i35 x35_1 σ35)).trans (M_highOf_S35_k15 n pl i35 x35_1 σ35)
theorem M_highOf_S35_k16 (n : Nat) (pl : Nat) (i35 : Nat) (x35_1 : Int32) (σ35 : Nat → Nat → Int32) : M_highOf_S35_1 n pl i35 x35_1 σ35 16 = σ35 16 := by
  unfold M_highOf_S35_1
  by_cases z1 : (M_highOf_L87 (M_highOf_L43 n pl i35 x35_1 pl 0 σ35) n pl i35 x35_1 n 0 1) = 0
  · refine Eq.trans (congrFun (if_pos z1) 16) ?_
    exact (M_layBack_s_k16 (M_highOf_L43 n pl i35 x35_1 pl 0 σ35)).trans (M_highOf_L43_k16 n pl i35 x35_1 pl 0 σ35)
  · refine Eq.trans (congrFun (if_neg z1) 16) ?_
    exact (M_layBack_s_k16 (M_highOf_L43 n pl i35 x35_1 pl 0 σ35)).trans (M_highOf_L43_k16 n pl i35 x35_1 pl 0 σ35)
theorem M_highOf_L35_k16 (n : Nat) (pl : Nat) : ∀ (n35 i35 : Nat) (x35_1 : Int32) (σ35 : Nat → Nat → Int32), (M_highOf_L35 n pl n35 i35 x35_1 σ35).2 16 = σ35 16 := by
  intro n35
  induction n35 with
  | zero => intros; rfl
  | succ n35 ih => intro i35 x35_1 σ35; exact (ih (i35 + 1) (M_highOf_S35_0 n pl i35 x35_1 σ35) (M_highOf_S35_1 n pl i35 x35_1 σ35)).trans (M_highOf_S35_k16 n pl i35 x35_1 σ35)
theorem M_highOf_S35_k17 (n : Nat) (pl : Nat) (i35 : Nat) (x35_1 : Int32) (σ35 : Nat → Nat → Int32) : M_highOf_S35_1 n pl i35 x35_1 σ35 17 = σ35 17 := by
  unfold M_highOf_S35_1
  by_cases z1 : (M_highOf_L87 (M_highOf_L43 n pl i35 x35_1 pl 0 σ35) n pl i35 x35_1 n 0 1) = 0
  · refine Eq.trans (congrFun (if_pos z1) 17) ?_
    exact (M_layBack_s_k17 (M_highOf_L43 n pl i35 x35_1 pl 0 σ35)).trans (M_highOf_L43_k17 n pl i35 x35_1 pl 0 σ35)
  · refine Eq.trans (congrFun (if_neg z1) 17) ?_
    exact (M_layBack_s_k17 (M_highOf_L43 n pl i35 x35_1 pl 0 σ35)).trans (M_highOf_L43_k17 n pl i35 x35_1 pl 0 σ35)
theorem M_highOf_L35_k17 (n : Nat) (pl : Nat) : ∀ (n35 i35 : Nat) (x35_1 : Int32) (σ35 : Nat → Nat → Int32), (M_highOf_L35 n pl n35 i35 x35_1 σ35).2 17 = σ35 17 := by
  intro n35
  induction n35 with
  | zero => intros; rfl
  | succ n35 ih => intro i35 x35_1 σ35; exact (ih (i35 + 1) (M_highOf_S35_0 n pl i35 x35_1 σ35) (M_highOf_S35_1 n pl i35 x35_1 σ35)).trans (M_highOf_S35_k17 n pl i35 x35_1 σ35)
theorem M_highOf_S35_k18 (n : Nat) (pl : Nat) (i35 : Nat) (x35_1 : Int32) (σ35 : Nat → Nat → Int32) : M_highOf_S35_1 n pl i35 x35_1 σ35 18 = σ35 18 := by
  unfold M_highOf_S35_1
  by_cases z1 : (M_highOf_L87 (M_highOf_L43 n pl i35 x35_1 pl 0 σ35) n pl i35 x35_1 n 0 1) = 0
  · refine Eq.trans (congrFun (if_pos z1) 18) ?_
    exact (M_layBack_s_k18 (M_highOf_L43 n pl i35 x35_1 pl 0 σ35)).trans (M_highOf_L43_k18 n pl i35 x35_1 pl 0 σ35)
  · refine Eq.trans (congrFun (if_neg z1) 18) ?_
    exact (M_layBack_s_k18 (M_highOf_L43 n pl i35 x35_1 pl 0 σ35)).trans (M_highOf_L43_k18 n pl i35 x35_1 pl 0 σ35)
theorem M_highOf_L35_k18 (n : Nat) (pl : Nat) : ∀ (n35 i35 : Nat) (x35_1 : Int32) (σ35 : Nat → Nat → Int32), (M_highOf_L35 n pl n35 i35 x35_1 σ35).2 18 = σ35 18 := by
  intro n35
  induction n35 with
  | zero => intros; rfl
  | succ n35 ih => intro i35 x35_1 σ35; exact (ih (i35 + 1) (M_highOf_S35_0 n pl i35 x35_1 σ35) (M_highOf_S35_1 n pl i35 x35_1 σ35)).trans (M_highOf_S35_k18 n pl i35 x35_1 σ35)
theorem M_highOf_S35_k19 (n : Nat) (pl : Nat) (i35 : Nat) (x35_1 : Int32) (σ35 : Nat → Nat → Int32) : M_highOf_S35_1 n pl i35 x35_1 σ35 19 = σ35 19 := by
  unfold M_highOf_S35_1
  by_cases z1 : (M_highOf_L87 (M_highOf_L43 n pl i35 x35_1 pl 0 σ35) n pl i35 x35_1 n 0 1) = 0
  · refine Eq.trans (congrFun (if_pos z1) 19) ?_
    exact (M_layBack_s_k19 (M_highOf_L43 n pl i35 x35_1 pl 0 σ35)).trans (M_highOf_L43_k19 n pl i35 x35_1 pl 0 σ35)
  · refine Eq.trans (congrFun (if_neg z1) 19) ?_
    exact (M_layBack_s_k19 (M_highOf_L43 n pl i35 x35_1 pl 0 σ35)).trans (M_highOf_L43_k19 n pl i35 x35_1 pl 0 σ35)
theorem M_highOf_L35_k19 (n : Nat) (pl : Nat) : ∀ (n35 i35 : Nat) (x35_1 : Int32) (σ35 : Nat → Nat → Int32), (M_highOf_L35 n pl n35 i35 x35_1 σ35).2 19 = σ35 19 := by
  intro n35
  induction n35 with
  | zero => intros; rfl
  | succ n35 ih => intro i35 x35_1 σ35; exact (ih (i35 + 1) (M_highOf_S35_0 n pl i35 x35_1 σ35) (M_highOf_S35_1 n pl i35 x35_1 σ35)).trans (M_highOf_S35_k19 n pl i35 x35_1 σ35)
def M_highOf_r (σ : Nat → Nat → Int32) (n : Nat) (pl : Nat) : Int32 := (M_highOf_L35 n pl (10 - 1) 1 (-1) (M_layAside_s (M_highOf_L2 n pl n 0 σ))).1
def M_highOf_s (σ : Nat → Nat → Int32) (n : Nat) (pl : Nat) : Nat → Nat → Int32 := (M_highOf_L35 n pl (10 - 1) 1 (-1) (M_layAside_s (M_highOf_L2 n pl n 0 σ))).2
theorem M_highOf_s_k0 (σ : Nat → Nat → Int32) (n : Nat) (pl : Nat) : M_highOf_s σ n pl 0 = σ 0 := by
  unfold M_highOf_s
  exact (M_highOf_L35_k0 n pl (10 - 1) 1 (-1) (M_layAside_s (M_highOf_L2 n pl n 0 σ))).trans ((M_layAside_s_k0 (M_highOf_L2 n pl n 0 σ)).trans (M_highOf_L2_k0 n pl n 0 σ))
theorem M_highOf_s_k1 (σ : Nat → Nat → Int32) (n : Nat) (pl : Nat) : M_highOf_s σ n pl 1 = σ 1 := by
  unfold M_highOf_s
  exact (M_highOf_L35_k1 n pl (10 - 1) 1 (-1) (M_layAside_s (M_highOf_L2 n pl n 0 σ))).trans ((M_layAside_s_k1 (M_highOf_L2 n pl n 0 σ)).trans (M_highOf_L2_k1 n pl n 0 σ))
theorem M_highOf_s_k2 (σ : Nat → Nat → Int32) (n : Nat) (pl : Nat) : M_highOf_s σ n pl 2 = σ 2 := by
  unfold M_highOf_s
  exact (M_highOf_L35_k2 n pl (10 - 1) 1 (-1) (M_layAside_s (M_highOf_L2 n pl n 0 σ))).trans ((M_layAside_s_k2 (M_highOf_L2 n pl n 0 σ)).trans (M_highOf_L2_k2 n pl n 0 σ))
theorem M_highOf_s_k3 (σ : Nat → Nat → Int32) (n : Nat) (pl : Nat) : M_highOf_s σ n pl 3 = σ 3 := by
  unfold M_highOf_s
  exact (M_highOf_L35_k3 n pl (10 - 1) 1 (-1) (M_layAside_s (M_highOf_L2 n pl n 0 σ))).trans ((M_layAside_s_k3 (M_highOf_L2 n pl n 0 σ)).trans (M_highOf_L2_k3 n pl n 0 σ))
theorem M_highOf_s_k6 (σ : Nat → Nat → Int32) (n : Nat) (pl : Nat) : M_highOf_s σ n pl 6 = σ 6 := by
  unfold M_highOf_s
  exact (M_highOf_L35_k6 n pl (10 - 1) 1 (-1) (M_layAside_s (M_highOf_L2 n pl n 0 σ))).trans ((M_layAside_s_k6 (M_highOf_L2 n pl n 0 σ)).trans (M_highOf_L2_k6 n pl n 0 σ))
theorem M_highOf_s_k7 (σ : Nat → Nat → Int32) (n : Nat) (pl : Nat) : M_highOf_s σ n pl 7 = σ 7 := by
  unfold M_highOf_s
  exact (M_highOf_L35_k7 n pl (10 - 1) 1 (-1) (M_layAside_s (M_highOf_L2 n pl n 0 σ))).trans ((M_layAside_s_k7 (M_highOf_L2 n pl n 0 σ)).trans (M_highOf_L2_k7 n pl n 0 σ))
theorem M_highOf_s_k10 (σ : Nat → Nat → Int32) (n : Nat) (pl : Nat) : M_highOf_s σ n pl 10 = σ 10 := by
  unfold M_highOf_s
  exact (M_highOf_L35_k10 n pl (10 - 1) 1 (-1) (M_layAside_s (M_highOf_L2 n pl n 0 σ))).trans ((M_layAside_s_k10 (M_highOf_L2 n pl n 0 σ)).trans (M_highOf_L2_k10 n pl n 0 σ))
theorem M_highOf_s_k11 (σ : Nat → Nat → Int32) (n : Nat) (pl : Nat) : M_highOf_s σ n pl 11 = σ 11 := by
  unfold M_highOf_s
  exact (M_highOf_L35_k11 n pl (10 - 1) 1 (-1) (M_layAside_s (M_highOf_L2 n pl n 0 σ))).trans ((M_layAside_s_k11 (M_highOf_L2 n pl n 0 σ)).trans (M_highOf_L2_k11 n pl n 0 σ))
theorem M_highOf_s_k13 (σ : Nat → Nat → Int32) (n : Nat) (pl : Nat) : M_highOf_s σ n pl 13 = σ 13 := by
  unfold M_highOf_s
  exact (M_highOf_L35_k13 n pl (10 - 1) 1 (-1) (M_layAside_s (M_highOf_L2 n pl n 0 σ))).trans ((M_layAside_s_k13 (M_highOf_L2 n pl n 0 σ)).trans (M_highOf_L2_k13 n pl n 0 σ))
theorem M_highOf_s_k14 (σ : Nat → Nat → Int32) (n : Nat) (pl : Nat) : M_highOf_s σ n pl 14 = σ 14 := by
  unfold M_highOf_s
  exact (M_highOf_L35_k14 n pl (10 - 1) 1 (-1) (M_layAside_s (M_highOf_L2 n pl n 0 σ))).trans ((M_layAside_s_k14 (M_highOf_L2 n pl n 0 σ)).trans (M_highOf_L2_k14 n pl n 0 σ))
theorem M_highOf_s_k15 (σ : Nat → Nat → Int32) (n : Nat) (pl : Nat) : M_highOf_s σ n pl 15 = σ 15 := by
  unfold M_highOf_s
  exact (M_highOf_L35_k15 n pl (10 - 1) 1 (-1) (M_layAside_s (M_highOf_L2 n pl n 0 σ))).trans ((M_layAside_s_k15 (M_highOf_L2 n pl n 0 σ)).trans (M_highOf_L2_k15 n pl n 0 σ))
theorem M_highOf_s_k16 (σ : Nat → Nat → Int32) (n : Nat) (pl : Nat) : M_highOf_s σ n pl 16 = σ 16 := by
  unfold M_highOf_s
  exact (M_highOf_L35_k16 n pl (10 - 1) 1 (-1) (M_layAside_s (M_highOf_L2 n pl n 0 σ))).trans ((M_layAside_s_k16 (M_highOf_L2 n pl n 0 σ)).trans (M_highOf_L2_k16 n pl n 0 σ))
theorem M_highOf_s_k17 (σ : Nat → Nat → Int32) (n : Nat) (pl : Nat) : M_highOf_s σ n pl 17 = σ 17 := by
  unfold M_highOf_s
  exact (M_highOf_L35_k17 n pl (10 - 1) 1 (-1) (M_layAside_s (M_highOf_L2 n pl n 0 σ))).trans ((M_layAside_s_k17 (M_highOf_L2 n pl n 0 σ)).trans (M_highOf_L2_k17 n pl n 0 σ))
theorem M_highOf_s_k18 (σ : Nat → Nat → Int32) (n : Nat) (pl : Nat) : M_highOf_s σ n pl 18 = σ 18 := by
  unfold M_highOf_s
  exact (M_highOf_L35_k18 n pl (10 - 1) 1 (-1) (M_layAside_s (M_highOf_L2 n pl n 0 σ))).trans ((M_layAside_s_k18 (M_highOf_L2 n pl n 0 σ)).trans (M_highOf_L2_k18 n pl n 0 σ))
theorem M_highOf_s_k19 (σ : Nat → Nat → Int32) (n : Nat) (pl : Nat) : M_highOf_s σ n pl 19 = σ 19 := by
  unfold M_highOf_s
  exact (M_highOf_L35_k19 n pl (10 - 1) 1 (-1) (M_layAside_s (M_highOf_L2 n pl n 0 σ))).trans ((M_layAside_s_k19 (M_highOf_L2 n pl n 0 σ)).trans (M_highOf_L2_k19 n pl n 0 σ))
set_option maxHeartbeats 4000000 in
set_option maxRecDepth 100000 in
theorem c_M_highOf (l : Launch) (D : va_G) (cI : ClassId) (a : Nat → Nat) (σ : Nat → Nat → Int32) (h : Int64) (n : Nat) (pl : Nat) (hn : σ 0 6 = nI n) (hnb : n ≤ 4) (hp0 : σ 0 15 = nI pl) (hp0b : pl ≤ 4) (hpl : planOK (σ 7) pl) : gI l D [(cI, .int)] yX12_highOf wsX12_highOf 5 [.ref (a 0)] (wM cI a σ h) (M_highOf_r σ n pl) (wM cI a (M_highOf_s σ n pl) h) := by
  refine g_start (cc := cX12_highOf) (maxL := 5) (ret := some .int) (Qc := gQi D [(cI, .int)] (M_highOf_r σ n pl) (wM cI a (M_highOf_s σ n pl) h)) (by decide) rfl (Nat.le_of_ble_eq_true rfl) ?_
  intro p e s m below meth C A ls S hr hlk hw hl
  obtain ⟨hx, hb, hml, hown, hts⟩ := id S
  have hinX12 : ∀ x ∈ u_ws RX12 TX12 38, x ∈ wsX12_highOf := fun x h => List.mem_cons_of_mem _ (List.mem_append_right _ h)
  have lk0 : Cond.fieldLink RX12 105 "CowsOwedModel" "clans" "I" ∈ wsX12_highOf := by decide +kernel
  have lk1 : Cond.fieldLink RX12 43 "CowsOwedModel" "owedBefore" "[I" ∈ wsX12_highOf := by decide +kernel
  have lk2 : Cond.fieldLink RX12 117 "CowsOwedModel" "plans" "I" ∈ wsX12_highOf := by decide +kernel
  have lk3 : Cond.fieldLink RX12 28 "CowsOwedModel" "planned" "[I" ∈ wsX12_highOf := by decide +kernel
  have hl : lv_has ls 5 [(0, .ref (a 0))] := hl
  refine lv_iconst (v := 0) hx hb dX12_highOf_0 (by decide) ?_
  refine lv_istore_n (lv' := [(1, .int 0), (0, .ref (a 0))]) hx hb dX12_highOf_1 rfl hl (by decide) rfl (fun ls hl => ?_)
  have L2 : ∀ (n2 i2 : Nat) (σ2 : Nat → Nat → Int32) (H : Heap) (locs : List Loc) (ls : Array Slot), i2 + n2 = n → σ2 0 = σ 0 → planOK (σ2 7) pl → M_highOf_L2 n pl n2 i2 σ2 = M_highOf_L2 n pl n 0 σ → gw D [(cI, .int)] A s H locs (wM cI a σ2 h) → lv_has ls 5 [(1, .int (nI i2)), (0, .ref (a 0))] → W p l e (gR 5) s m ([.ref (a 0)] : List Value).toArray below meth C H locs 0 0 (MQ below (gQi D [(cI, .int)] (M_highOf_r σ n pl) (wM cI a (M_highOf_s σ n pl) h) A) ([.ref (a 0)] : List Value).toArray s 0 0 A) (F0 m 2 ls []) := by
    intro n2
    induction n2 with
    | zero =>
      intro i2 σ2 H locs ls hi2 k2_0 r2_7 hF2 hw hl
      refine lv_iload_n hx hb dX12_highOf_2 rfl (lv_at hl 0 rfl) ?_
      refine lv_aload_n hx hb dX12_highOf_3 rfl (lv_at hl 1 rfl) ?_
      refine g_get S hw hinX12 (fs := fM a σ2 h) 0 rfl rfl 6 (by decide) lk0 (v := .int (nI n)) (congrArg (fun z => some (Value.int z)) ((congrFun k2_0 6).trans (hn))) dX12_highOf_4 ?_
      refine ln_ge (x := i2) (y := n) hx hb (by omega) (by omega) (tgt := 27) dX12_highOf_7 (by decide) (fun c_x => ?_) (fun c_x => absurd (by omega) c_x)
      have hz2 : n = i2 := by omega
      subst hz2
      have e2_0 : (M_highOf_L2 n pl n 0 σ) = σ2 := hF2.symm
      subst e2_0
      refine lv_iconst (v := (-1)) hx hb dX12_highOf_27 (by decide) ?_
      refine lv_istore_n (lv' := [(1, .int (-1)), (0, .ref (a 0))]) hx hb dX12_highOf_28 rfl hl (by decide) rfl (fun ls hl => ?_)
      refine lv_aload_n hx hb dX12_highOf_29 rfl (lv_at hl 1 rfl) ?_
      refine g_callVv S hw (c_M_layAside l D cI a (M_highOf_L2 n pl n 0 σ) h) gX12_highOf_X12_layAside rfl 0 rfl rfl 0 rfl (by decide +kernel) (by decide) (by decide) hl.1 rfl (Nat.le_of_ble_eq_true rfl) dX12_highOf_30 (fun H locs hw => ?_)
      refine lv_iconst (v := 1) hx hb dX12_highOf_33 (by decide) ?_
      refine lv_istore_n (lv' := [(2, .int 1), (1, .int (-1)), (0, .ref (a 0))]) hx hb dX12_highOf_34 rfl hl (by decide) rfl (fun ls hl => ?_)
      have L35 : ∀ (n35 i35 : Nat) (x35_1 : Int32) (σ35 : Nat → Nat → Int32) (H : Heap) (locs : List Loc) (ls : Array Slot), i35 + n35 = 10 → 1 ≤ i35 → σ35 0 = (M_layAside_s (M_highOf_L2 n pl n 0 σ)) 0 → planOK (σ35 7) pl → M_highOf_L35 n pl n35 i35 x35_1 σ35 = M_highOf_L35 n pl (10 - 1) 1 (-1) (M_layAside_s (M_highOf_L2 n pl n 0 σ)) → gw D [(cI, .int)] A s H locs (wM cI a σ35 h) → lv_has ls 5 [(2, .int (nI i35)), (1, .int x35_1), (0, .ref (a 0))] → W p l e (gR 5) s m ([.ref (a 0)] : List Value).toArray below meth C H locs 0 0 (MQ below (gQi D [(cI, .int)] (M_highOf_r σ n pl) (wM cI a (M_highOf_s σ n pl) h) A) ([.ref (a 0)] : List Value).toArray s 0 0 A) (F0 m 35 ls []) := by
        intro n35
        induction n35 with
        | zero =>
          intro i35 x35_1 σ35 H locs ls hi35 hj35 k35_0 r35_7 hF35 hw hl
          refine lv_iload_n hx hb dX12_highOf_35 rfl (lv_at hl 0 rfl) ?_
          refine lv_bipush (v := 10) hx hb dX12_highOf_36 (by decide) ?_
          refine ln_ge (x := i35) (y := 10) hx hb (by omega) (by omega) (tgt := 148) dX12_highOf_38 (by decide) (fun c_x => ?_) (fun c_x => absurd (by omega) c_x)
          have hz35 : 10 = i35 := by omega
          subst hz35
          have e35_0 : (M_highOf_L35 n pl (10 - 1) 1 (-1) (M_layAside_s (M_highOf_L2 n pl n 0 σ))).1 = x35_1 := (congrArg (fun z => z.1) hF35).symm
          have e35_1 : (M_highOf_L35 n pl (10 - 1) 1 (-1) (M_layAside_s (M_highOf_L2 n pl n 0 σ))).2 = σ35 := (congrArg (fun z => z.2) hF35).symm
          subst e35_0
          subst e35_1
          refine lv_iload_n hx hb dX12_highOf_148 rfl (lv_at hl 1 rfl) ?_
          exact g_iret S hr hlk hw (by simp only [M_highOf_r]) (by simp only [M_highOf_s]) dX12_highOf_149
        | succ n35 ih35 =>
          intro i35 x35_1 σ35 H locs ls hi35 hj35 k35_0 r35_7 hF35 hw hl
          refine lv_iload_n hx hb dX12_highOf_35 rfl (lv_at hl 0 rfl) ?_
          refine lv_bipush (v := 10) hx hb dX12_highOf_36 (by decide) ?_
          refine ln_ge (x := i35) (y := 10) hx hb (by omega) (by omega) (tgt := 148) dX12_highOf_38 (by decide) (fun c_x => absurd c_x (by omega)) (fun c_x => ?_)
          refine lv_iconst (v := 0) hx hb dX12_highOf_41 (by decide) ?_
          refine lv_istore_n (lv' := [(3, .int 0), (2, .int (nI i35)), (1, .int x35_1), (0, .ref (a 0))]) hx hb dX12_highOf_42 rfl hl (by decide) rfl (fun ls hl => ?_)
          have L43 : ∀ (n43 i43 : Nat) (σ43 : Nat → Nat → Int32) (H : Heap) (locs : List Loc) (ls : Array Slot), i43 + n43 = pl → σ43 0 = σ35 0 → planOK (σ43 7) pl → M_highOf_L43 n pl i35 x35_1 n43 i43 σ43 = M_highOf_L43 n pl i35 x35_1 pl 0 σ35 → gw D [(cI, .int)] A s H locs (wM cI a σ43 h) → lv_has ls 5 [(3, .int (nI i43)), (2, .int (nI i35)), (1, .int x35_1), (0, .ref (a 0))] → W p l e (gR 5) s m ([.ref (a 0)] : List Value).toArray below meth C H locs 0 0 (MQ below (gQi D [(cI, .int)] (M_highOf_r σ n pl) (wM cI a (M_highOf_s σ n pl) h) A) ([.ref (a 0)] : List Value).toArray s 0 0 A) (F0 m 43 ls []) := by
            intro n43
            induction n43 with
            | zero =>
              intro i43 σ43 H locs ls hi43 k43_0 r43_7 hF43 hw hl
              refine lv_iload_n hx hb dX12_highOf_43 rfl (lv_at hl 0 rfl) ?_
              refine lv_aload_n hx hb dX12_highOf_44 rfl (lv_at hl 3 rfl) ?_
              refine g_get S hw hinX12 (fs := fM a σ43 h) 0 rfl rfl 15 (by decide) lk2 (v := .int (nI pl)) (congrArg (fun z => some (Value.int z)) ((congrFun k43_0 15).trans ((congrFun k35_0 15).trans (((congrFun (M_layAside_s_k0 (M_highOf_L2 n pl n 0 σ)) 15).trans (congrFun (M_highOf_L2_k0 n pl n 0 σ) 15)).trans (hp0))))) dX12_highOf_45 ?_
              refine ln_ge (x := i43) (y := pl) hx hb (by omega) (by omega) (tgt := 82) dX12_highOf_48 (by decide) (fun c_x => ?_) (fun c_x => absurd (by omega) c_x)
              have hz43 : pl = i43 := by omega
              subst hz43
              have e43_0 : (M_highOf_L43 n pl i35 x35_1 pl 0 σ35) = σ43 := hF43.symm
              subst e43_0
              refine lv_iconst (v := 1) hx hb dX12_highOf_82 (by decide) ?_
              refine lv_istore_n (lv' := [(3, .int 1), (2, .int (nI i35)), (1, .int x35_1), (0, .ref (a 0))]) hx hb dX12_highOf_83 rfl hl (by decide) rfl (fun ls hl => ?_)
              refine lv_iconst (v := 0) hx hb dX12_highOf_84 (by decide) ?_
              refine lv_istore (lv' := [(4, .int 0), (3, .int 1), (2, .int (nI i35)), (1, .int x35_1), (0, .ref (a 0))]) hx hb dX12_highOf_85 hl (by decide) rfl (fun ls hl => ?_)
              have L87 : ∀ (n87 i87 : Nat) (x87_3 : Int32) (H : Heap) (locs : List Loc) (ls : Array Slot), i87 + n87 = n → M_highOf_L87 (M_highOf_L43 n pl i35 x35_1 pl 0 σ35) n pl i35 x35_1 n87 i87 x87_3 = M_highOf_L87 (M_highOf_L43 n pl i35 x35_1 pl 0 σ35) n pl i35 x35_1 n 0 1 → gw D [(cI, .int)] A s H locs (wM cI a (M_highOf_L43 n pl i35 x35_1 pl 0 σ35) h) → lv_has ls 5 [(4, .int (nI i87)), (3, .int x87_3), (2, .int (nI i35)), (1, .int x35_1), (0, .ref (a 0))] → W p l e (gR 5) s m ([.ref (a 0)] : List Value).toArray below meth C H locs 0 0 (MQ below (gQi D [(cI, .int)] (M_highOf_r σ n pl) (wM cI a (M_highOf_s σ n pl) h) A) ([.ref (a 0)] : List Value).toArray s 0 0 A) (F0 m 87 ls []) := by
                intro n87
                induction n87 with
                | zero =>
                  intro i87 x87_3 H locs ls hi87 hF87 hw hl
                  refine lv_iload hx hb dX12_highOf_87 (lv_at hl 0 rfl) ?_
                  refine lv_aload_n hx hb dX12_highOf_89 rfl (lv_at hl 4 rfl) ?_
                  refine g_get S hw hinX12 (fs := fM a (M_highOf_L43 n pl i35 x35_1 pl 0 σ35) h) 0 rfl rfl 6 (by decide) lk0 (v := .int (nI n)) (congrArg (fun z => some (Value.int z)) ((congrFun (M_highOf_L43_k0 n pl i35 x35_1 pl 0 σ35) 6).trans ((congrFun k35_0 6).trans (((congrFun (M_layAside_s_k0 (M_highOf_L2 n pl n 0 σ)) 6).trans (congrFun (M_highOf_L2_k0 n pl n 0 σ) 6)).trans (hn))))) dX12_highOf_90 ?_
                  refine ln_ge (x := i87) (y := n) hx hb (by omega) (by omega) (tgt := 128) dX12_highOf_93 (by decide) (fun c_x => ?_) (fun c_x => absurd (by omega) c_x)
                  have hz87 : n = i87 := by omega
                  subst hz87
                  have e87_0 : (M_highOf_L87 (M_highOf_L43 n pl i35 x35_1 pl 0 σ35) n pl i35 x35_1 n 0 1) = x87_3 := hF87.symm
                  subst e87_0
                  refine lv_iload_n hx hb dX12_highOf_128 rfl (lv_at hl 1 rfl) ?_
                  refine lv_if_eq hx hb (tgt := 136) dX12_highOf_129 (by decide) (fun c_12 => ?_) (fun c_12 => ?_)
                  · refine lv_iload_n hx hb dX12_highOf_136 rfl (lv_at hl 3 rfl) ?_
                    refine lv_istore_n (lv' := [(1, .int x35_1), (4, .int (nI n)), (3, .int (M_highOf_L87 (M_highOf_L43 n pl i35 x35_1 pl 0 σ35) n pl i35 x35_1 n 0 1)), (2, .int (nI i35)), (0, .ref (a 0))]) hx hb dX12_highOf_137 rfl hl (by decide) rfl (fun ls hl => ?_)
                    refine lv_aload_n hx hb dX12_highOf_138 rfl (lv_at hl 4 rfl) ?_
                    refine g_callVv S hw (c_M_layBack l D cI a (M_highOf_L43 n pl i35 x35_1 pl 0 σ35) h) gX12_highOf_X12_layBack rfl 0 rfl rfl 0 rfl (by decide +kernel) (by decide) (by decide) hl.1 rfl (Nat.le_of_ble_eq_true rfl) dX12_highOf_139 (fun H locs hw => ?_)
                    refine lv_iinc (v := nI (i35 + 1)) (lv' := [(2, .int (nI (i35 + 1))), (1, .int x35_1), (4, .int (nI n)), (3, .int (M_highOf_L87 (M_highOf_L43 n pl i35 x35_1 pl 0 σ35) n pl i35 x35_1 n 0 1)), (0, .ref (a 0))]) hx hb dX12_highOf_142 hl (k := 3) rfl (nI_1 _) (by decide) rfl (fun ls hl => ?_)
                    refine lv_goto (tgt := 35) hx hb dX12_highOf_145 (by decide) ?_
                    exact ih35 (i35 + 1) x35_1 (M_layBack_s (M_highOf_L43 n pl i35 x35_1 pl 0 σ35)) _ _ _ (by omega) (by omega) ((M_layBack_s_k0 (M_highOf_L43 n pl i35 x35_1 pl 0 σ35)).trans ((M_highOf_L43_k0 n pl i35 x35_1 pl 0 σ35).trans (k35_0))) (Eq.mpr (congrArg (fun z => planOK z pl) ((M_layBack_s_k7 (M_highOf_L43 n pl i35 x35_1 pl 0 σ35)).trans (M_highOf_L43_k7 n pl i35 x35_1 pl 0 σ35))) r35_7) (by have q := hF35; simp only [M_highOf_L35, M_highOf_S35_0, M_highOf_S35_1, if_pos c_12] at q; exact q) hw (lv_sub hl [0, 1, 4] rfl)
                  · refine lv_iload_n hx hb dX12_highOf_132 rfl (lv_at hl 2 rfl) ?_
                    refine lv_goto (tgt := 137) hx hb dX12_highOf_133 (by decide) ?_
                    refine lv_istore_n (lv' := [(1, .int (nI i35)), (4, .int (nI n)), (3, .int (M_highOf_L87 (M_highOf_L43 n pl i35 x35_1 pl 0 σ35) n pl i35 x35_1 n 0 1)), (2, .int (nI i35)), (0, .ref (a 0))]) hx hb dX12_highOf_137 rfl hl (by decide) rfl (fun ls hl => ?_)
                    refine lv_aload_n hx hb dX12_highOf_138 rfl (lv_at hl 4 rfl) ?_
                    refine g_callVv S hw (c_M_layBack l D cI a (M_highOf_L43 n pl i35 x35_1 pl 0 σ35) h) gX12_highOf_X12_layBack rfl 0 rfl rfl 0 rfl (by decide +kernel) (by decide) (by decide) hl.1 rfl (Nat.le_of_ble_eq_true rfl) dX12_highOf_139 (fun H locs hw => ?_)
                    refine lv_iinc (v := nI (i35 + 1)) (lv' := [(2, .int (nI (i35 + 1))), (1, .int (nI i35)), (4, .int (nI n)), (3, .int (M_highOf_L87 (M_highOf_L43 n pl i35 x35_1 pl 0 σ35) n pl i35 x35_1 n 0 1)), (0, .ref (a 0))]) hx hb dX12_highOf_142 hl (k := 3) rfl (nI_1 _) (by decide) rfl (fun ls hl => ?_)
                    refine lv_goto (tgt := 35) hx hb dX12_highOf_145 (by decide) ?_
                    exact ih35 (i35 + 1) (nI i35) (M_layBack_s (M_highOf_L43 n pl i35 x35_1 pl 0 σ35)) _ _ _ (by omega) (by omega) ((M_layBack_s_k0 (M_highOf_L43 n pl i35 x35_1 pl 0 σ35)).trans ((M_highOf_L43_k0 n pl i35 x35_1 pl 0 σ35).trans (k35_0))) (Eq.mpr (congrArg (fun z => planOK z pl) ((M_layBack_s_k7 (M_highOf_L43 n pl i35 x35_1 pl 0 σ35)).trans (M_highOf_L43_k7 n pl i35 x35_1 pl 0 σ35))) r35_7) (by have q := hF35; simp only [M_highOf_L35, M_highOf_S35_0, M_highOf_S35_1, if_neg c_12] at q; exact q) hw (lv_sub hl [0, 1, 4] rfl)
                | succ n87 ih87 =>
                  intro i87 x87_3 H locs ls hi87 hF87 hw hl
                  refine lv_iload hx hb dX12_highOf_87 (lv_at hl 0 rfl) ?_
                  refine lv_aload_n hx hb dX12_highOf_89 rfl (lv_at hl 4 rfl) ?_
                  refine g_get S hw hinX12 (fs := fM a (M_highOf_L43 n pl i35 x35_1 pl 0 σ35) h) 0 rfl rfl 6 (by decide) lk0 (v := .int (nI n)) (congrArg (fun z => some (Value.int z)) ((congrFun (M_highOf_L43_k0 n pl i35 x35_1 pl 0 σ35) 6).trans ((congrFun k35_0 6).trans (((congrFun (M_layAside_s_k0 (M_highOf_L2 n pl n 0 σ)) 6).trans (congrFun (M_highOf_L2_k0 n pl n 0 σ) 6)).trans (hn))))) dX12_highOf_90 ?_
                  refine ln_ge (x := i87) (y := n) hx hb (by omega) (by omega) (tgt := 128) dX12_highOf_93 (by decide) (fun c_x => absurd c_x (by omega)) (fun c_x => ?_)
                  refine lv_iload_n hx hb dX12_highOf_96 rfl (lv_at hl 1 rfl) ?_
                  refine lv_if_eq hx hb (tgt := 120) dX12_highOf_97 (by decide) (fun c_9 => ?_) (fun c_9 => ?_)
                  · refine lv_iconst (v := 0) hx hb dX12_highOf_120 (by decide) ?_
                    refine lv_istore_n (lv' := [(3, .int 0), (4, .int (nI i87)), (2, .int (nI i35)), (1, .int x35_1), (0, .ref (a 0))]) hx hb dX12_highOf_121 rfl hl (by decide) rfl (fun ls hl => ?_)
                    refine lv_iinc (v := nI (i87 + 1)) (lv' := [(4, .int (nI (i87 + 1))), (3, .int 0), (2, .int (nI i35)), (1, .int x35_1), (0, .ref (a 0))]) hx hb dX12_highOf_122 hl (k := 1) rfl (nI_1 _) (by decide) rfl (fun ls hl => ?_)
                    refine lv_goto (tgt := 87) hx hb dX12_highOf_125 (by decide) ?_
                    exact ih87 (i87 + 1) 0 _ _ _ (by omega) (by have q := hF87; simp only [M_highOf_L87, M_highOf_S87_0, if_pos c_9] at q; exact q) hw (lv_sub hl [0, 1, 2, 3, 4] rfl)
                  · refine lv_aload_n hx hb dX12_highOf_100 rfl (lv_at hl 4 rfl) ?_
                    refine lv_iload hx hb dX12_highOf_101 (lv_at hl 0 rfl) ?_
                    refine g_callVi S hw (c_M_owesOf l D cI a (M_highOf_L43 n pl i35 x35_1 pl 0 σ35) h i87 (by omega)) gX12_highOf_X12_owesOf rfl 0 rfl rfl 1 rfl (by decide +kernel) (by decide) (by decide) hl.1 rfl (Nat.le_of_ble_eq_true rfl) dX12_highOf_103 (fun H locs hw => ?_)
                    refine lv_aload_n hx hb dX12_highOf_106 rfl (lv_at hl 4 rfl) ?_
                    refine g_get S hw hinX12 (fs := fM a (M_highOf_L43 n pl i35 x35_1 pl 0 σ35) h) 0 rfl rfl 21 (by decide) lk1 (v := .ref (a 12)) rfl dX12_highOf_107 ?_
                    refine lv_iload hx hb dX12_highOf_110 (lv_at hl 0 rfl) ?_
                    refine g_iald S hw (f := (M_highOf_L43 n pl i35 x35_1 pl 0 σ35) 12) (i := i87) (x := (M_highOf_L43 n pl i35 x35_1 pl 0 σ35) 12 i87) 12 0 rfl rfl (by omega) (by decide) rfl dX12_highOf_112 ?_
                    refine lv_icmp_gt hx hb (tgt := 120) dX12_highOf_113 (by decide) (fun c_10 => ?_) (fun c_10 => ?_)
                    · refine lv_iconst (v := 0) hx hb dX12_highOf_120 (by decide) ?_
                      refine lv_istore_n (lv' := [(3, .int 0), (4, .int (nI i87)), (2, .int (nI i35)), (1, .int x35_1), (0, .ref (a 0))]) hx hb dX12_highOf_121 rfl hl (by decide) rfl (fun ls hl => ?_)
                      refine lv_iinc (v := nI (i87 + 1)) (lv' := [(4, .int (nI (i87 + 1))), (3, .int 0), (2, .int (nI i35)), (1, .int x35_1), (0, .ref (a 0))]) hx hb dX12_highOf_122 hl (k := 1) rfl (nI_1 _) (by decide) rfl (fun ls hl => ?_)
                      refine lv_goto (tgt := 87) hx hb dX12_highOf_125 (by decide) ?_
                      exact ih87 (i87 + 1) 0 _ _ _ (by omega) (by have q := hF87; simp only [M_highOf_L87, M_highOf_S87_0, if_neg c_9, if_pos c_10] at q; exact q) hw (lv_sub hl [0, 1, 2, 3, 4] rfl)
                    · refine lv_iconst (v := 1) hx hb dX12_highOf_116 (by decide) ?_
                      refine lv_goto (tgt := 121) hx hb dX12_highOf_117 (by decide) ?_
                      refine lv_istore_n (lv' := [(3, .int 1), (4, .int (nI i87)), (2, .int (nI i35)), (1, .int x35_1), (0, .ref (a 0))]) hx hb dX12_highOf_121 rfl hl (by decide) rfl (fun ls hl => ?_)
                      refine lv_iinc (v := nI (i87 + 1)) (lv' := [(4, .int (nI (i87 + 1))), (3, .int 1), (2, .int (nI i35)), (1, .int x35_1), (0, .ref (a 0))]) hx hb dX12_highOf_122 hl (k := 1) rfl (nI_1 _) (by decide) rfl (fun ls hl => ?_)
                      refine lv_goto (tgt := 87) hx hb dX12_highOf_125 (by decide) ?_
                      exact ih87 (i87 + 1) 1 _ _ _ (by omega) (by have q := hF87; simp only [M_highOf_L87, M_highOf_S87_0, if_neg c_9, if_neg c_10] at q; exact q) hw (lv_sub hl [0, 1, 2, 3, 4] rfl)
              exact L87 n 0 1 _ _ _ (by omega) rfl hw (lv_sub hl [0, 1, 2, 3, 4] rfl)
            | succ n43 ih43 =>
              intro i43 σ43 H locs ls hi43 k43_0 r43_7 hF43 hw hl
              refine lv_iload_n hx hb dX12_highOf_43 rfl (lv_at hl 0 rfl) ?_
              refine lv_aload_n hx hb dX12_highOf_44 rfl (lv_at hl 3 rfl) ?_
              refine g_get S hw hinX12 (fs := fM a σ43 h) 0 rfl rfl 15 (by decide) lk2 (v := .int (nI pl)) (congrArg (fun z => some (Value.int z)) ((congrFun k43_0 15).trans ((congrFun k35_0 15).trans (((congrFun (M_layAside_s_k0 (M_highOf_L2 n pl n 0 σ)) 15).trans (congrFun (M_highOf_L2_k0 n pl n 0 σ) 15)).trans (hp0))))) dX12_highOf_45 ?_
              refine ln_ge (x := i43) (y := pl) hx hb (by omega) (by omega) (tgt := 82) dX12_highOf_48 (by decide) (fun c_x => absurd c_x (by omega)) (fun c_x => ?_)
              refine lv_aload_n hx hb dX12_highOf_51 rfl (lv_at hl 3 rfl) ?_
              refine lv_aload_n hx hb dX12_highOf_52 rfl (lv_at hl 3 rfl) ?_
              refine g_get S hw hinX12 (fs := fM a σ43 h) 0 rfl rfl 16 (by decide) lk3 (v := .ref (a 7)) rfl dX12_highOf_53 ?_
              refine lv_iconst (v := 2) hx hb dX12_highOf_56 (by decide) ?_
              refine lv_iload_n hx hb dX12_highOf_57 rfl (lv_at hl 0 rfl) ?_
              refine ln_imul (x := 2) (y := i43) hx hb dX12_highOf_58 ?_
              have q5 := ((r43_7) i43 (by omega)).1
              have q5b := q5.2
              refine g_iald S hw (f := σ43 7) (i := 2 * i43) (x := nI ((σ43 7 (2 * i43)).toNatClampNeg)) 7 0 rfl rfl (by omega) (by decide) q5.1 dX12_highOf_59 ?_
              refine lv_aload_n hx hb dX12_highOf_60 rfl (lv_at hl 3 rfl) ?_
              refine g_get S hw hinX12 (fs := fM a σ43 h) 0 rfl rfl 16 (by decide) lk3 (v := .ref (a 7)) rfl dX12_highOf_61 ?_
              refine lv_iconst (v := 2) hx hb dX12_highOf_64 (by decide) ?_
              refine lv_iload_n hx hb dX12_highOf_65 rfl (lv_at hl 0 rfl) ?_
              refine ln_imul (x := 2) (y := i43) hx hb dX12_highOf_66 ?_
              refine lv_iconst (v := 1) hx hb dX12_highOf_67 (by decide) ?_
              refine ln_iadd (x := 2 * i43) (y := 1) hx hb dX12_highOf_68 ?_
              have q6 := ((r43_7) i43 (by omega)).2
              have q6b := q6.2
              refine g_iald S hw (f := σ43 7) (i := (2 * i43) + 1) (x := nI ((σ43 7 ((2 * i43) + 1)).toNatClampNeg)) 7 0 rfl rfl (by omega) (by decide) q6.1 dX12_highOf_69 ?_
              refine lv_iload_n hx hb dX12_highOf_70 rfl (lv_at hl 1 rfl) ?_
              refine g_callVi S hw (c_M_marry l D cI a σ43 h ((σ43 7 (2 * i43)).toNatClampNeg) ((σ43 7 ((2 * i43) + 1)).toNatClampNeg) (nI i35) (by omega) (by omega)) gX12_highOf_X12_marry rfl 0 rfl rfl 3 rfl (by decide +kernel) (by decide) (by decide) hl.1 rfl (Nat.le_of_ble_eq_true rfl) dX12_highOf_71 (fun H locs hw => ?_)
              refine lv_istore (lv' := [(4, .int (M_marry_r σ43 ((σ43 7 (2 * i43)).toNatClampNeg) ((σ43 7 ((2 * i43) + 1)).toNatClampNeg) (nI i35))), (3, .int (nI i43)), (2, .int (nI i35)), (1, .int x35_1), (0, .ref (a 0))]) hx hb dX12_highOf_74 hl (by decide) rfl (fun ls hl => ?_)
              refine lv_iinc (v := nI (i43 + 1)) (lv' := [(3, .int (nI (i43 + 1))), (4, .int (M_marry_r σ43 ((σ43 7 (2 * i43)).toNatClampNeg) ((σ43 7 ((2 * i43) + 1)).toNatClampNeg) (nI i35))), (2, .int (nI i35)), (1, .int x35_1), (0, .ref (a 0))]) hx hb dX12_highOf_76 hl (k := 1) rfl (nI_1 _) (by decide) rfl (fun ls hl => ?_)
              refine lv_goto (tgt := 43) hx hb dX12_highOf_79 (by decide) ?_
              exact ih43 (i43 + 1) (M_marry_s σ43 ((σ43 7 (2 * i43)).toNatClampNeg) ((σ43 7 ((2 * i43) + 1)).toNatClampNeg) (nI i35)) _ _ _ (by omega) ((M_marry_s_k0 σ43 ((σ43 7 (2 * i43)).toNatClampNeg) ((σ43 7 ((2 * i43) + 1)).toNatClampNeg) (nI i35)).trans (k43_0)) (Eq.mpr (congrArg (fun z => planOK z pl) (M_marry_s_k7 σ43 ((σ43 7 (2 * i43)).toNatClampNeg) ((σ43 7 ((2 * i43) + 1)).toNatClampNeg) (nI i35))) r43_7) hF43 hw (lv_sub hl [0, 2, 3, 4] rfl)
          exact L43 pl 0 σ35 _ _ _ (by omega) rfl (r35_7) rfl hw (lv_sub hl [0, 1, 2, 3] rfl)
      exact L35 (10 - 1) 1 (-1) (M_layAside_s (M_highOf_L2 n pl n 0 σ)) _ _ _ (by omega) (Nat.le_refl _) rfl (Eq.mpr (congrArg (fun z => planOK z pl) ((M_layAside_s_k7 (M_highOf_L2 n pl n 0 σ)).trans (M_highOf_L2_k7 n pl n 0 σ))) hpl) rfl hw (lv_sub hl [0, 1, 2] rfl)
    | succ n2 ih2 =>
      intro i2 σ2 H locs ls hi2 k2_0 r2_7 hF2 hw hl
      refine lv_iload_n hx hb dX12_highOf_2 rfl (lv_at hl 0 rfl) ?_
      refine lv_aload_n hx hb dX12_highOf_3 rfl (lv_at hl 1 rfl) ?_
      refine g_get S hw hinX12 (fs := fM a σ2 h) 0 rfl rfl 6 (by decide) lk0 (v := .int (nI n)) (congrArg (fun z => some (Value.int z)) ((congrFun k2_0 6).trans (hn))) dX12_highOf_4 ?_
      refine ln_ge (x := i2) (y := n) hx hb (by omega) (by omega) (tgt := 27) dX12_highOf_7 (by decide) (fun c_x => absurd c_x (by omega)) (fun c_x => ?_)
      refine lv_aload_n hx hb dX12_highOf_10 rfl (lv_at hl 1 rfl) ?_
      refine g_get S hw hinX12 (fs := fM a σ2 h) 0 rfl rfl 21 (by decide) lk1 (v := .ref (a 12)) rfl dX12_highOf_11 ?_
      refine lv_iload_n hx hb dX12_highOf_14 rfl (lv_at hl 0 rfl) ?_
      refine lv_aload_n hx hb dX12_highOf_15 rfl (lv_at hl 1 rfl) ?_
      refine lv_iload_n hx hb dX12_highOf_16 rfl (lv_at hl 0 rfl) ?_
      refine g_callVi S hw (c_M_owesOf l D cI a σ2 h i2 (by omega)) gX12_highOf_X12_owesOf rfl 0 rfl rfl 1 rfl (by decide +kernel) (by decide) (by decide) hl.1 rfl (Nat.le_of_ble_eq_true rfl) dX12_highOf_17 (fun H locs hw => ?_)
      refine g_iast S hw (f := σ2 12) (i := i2) 12 0 rfl rfl (by omega) (by decide) (w2 := wM cI a (up2 σ2 12 i2 (M_owesOf_r σ2 i2)) h) (wM_a12 _ _ _ _ _ _) dX12_highOf_20 (fun H locs hw => ?_)
      refine lv_iinc (v := nI (i2 + 1)) (lv' := [(1, .int (nI (i2 + 1))), (0, .ref (a 0))]) hx hb dX12_highOf_21 hl (k := 0) rfl (nI_1 _) (by decide) rfl (fun ls hl => ?_)
      refine lv_goto (tgt := 2) hx hb dX12_highOf_24 (by decide) ?_
      exact ih2 (i2 + 1) (up2 σ2 12 i2 (M_owesOf_r σ2 i2)) _ _ _ (by omega) ((up2_n _ _ _ (by decide)).trans (k2_0)) (Eq.mpr (congrArg (fun z => planOK z pl) (up2_n _ _ _ (by decide))) r2_7) hF2 hw (lv_sub hl [0, 1] rfl)
  exact L2 n 0 σ _ _ _ (by omega) rfl (hpl) rfl hw (lv_sub hl [0, 1] rfl)

def M_high_r (σ : Nat → Nat → Int32) (n : Nat) (pl : Nat) : Int32 := if (M_lacks_r σ) = 0 then (M_highOf_r σ n pl) else (-103)
def M_high_s (σ : Nat → Nat → Int32) (n : Nat) (pl : Nat) : Nat → Nat → Int32 := if (M_lacks_r σ) = 0 then (M_highOf_s σ n pl) else σ
theorem M_high_s_k0 (σ : Nat → Nat → Int32) (n : Nat) (pl : Nat) : M_high_s σ n pl 0 = σ 0 := by
  unfold M_high_s
  by_cases z1 : (M_lacks_r σ) = 0
  · refine Eq.trans (congrFun (if_pos z1) 0) ?_
    exact M_highOf_s_k0 σ n pl
  · refine Eq.trans (congrFun (if_neg z1) 0) ?_
    exact rfl
theorem M_high_s_k1 (σ : Nat → Nat → Int32) (n : Nat) (pl : Nat) : M_high_s σ n pl 1 = σ 1 := by
  unfold M_high_s
  by_cases z1 : (M_lacks_r σ) = 0
  · refine Eq.trans (congrFun (if_pos z1) 1) ?_
    exact M_highOf_s_k1 σ n pl
  · refine Eq.trans (congrFun (if_neg z1) 1) ?_
    exact rfl
theorem M_high_s_k2 (σ : Nat → Nat → Int32) (n : Nat) (pl : Nat) : M_high_s σ n pl 2 = σ 2 := by
  unfold M_high_s
  by_cases z1 : (M_lacks_r σ) = 0
  · refine Eq.trans (congrFun (if_pos z1) 2) ?_
    exact M_highOf_s_k2 σ n pl
  · refine Eq.trans (congrFun (if_neg z1) 2) ?_
    exact rfl
theorem M_high_s_k3 (σ : Nat → Nat → Int32) (n : Nat) (pl : Nat) : M_high_s σ n pl 3 = σ 3 := by
  unfold M_high_s
  by_cases z1 : (M_lacks_r σ) = 0
  · refine Eq.trans (congrFun (if_pos z1) 3) ?_
    exact M_highOf_s_k3 σ n pl
  · refine Eq.trans (congrFun (if_neg z1) 3) ?_
    exact rfl
theorem M_high_s_k6 (σ : Nat → Nat → Int32) (n : Nat) (pl : Nat) : M_high_s σ n pl 6 = σ 6 := by
  unfold M_high_s
  by_cases z1 : (M_lacks_r σ) = 0
  · refine Eq.trans (congrFun (if_pos z1) 6) ?_
    exact M_highOf_s_k6 σ n pl
  · refine Eq.trans (congrFun (if_neg z1) 6) ?_
    exact rfl
theorem M_high_s_k7 (σ : Nat → Nat → Int32) (n : Nat) (pl : Nat) : M_high_s σ n pl 7 = σ 7 := by
  unfold M_high_s
  by_cases z1 : (M_lacks_r σ) = 0
  · refine Eq.trans (congrFun (if_pos z1) 7) ?_
    exact M_highOf_s_k7 σ n pl
  · refine Eq.trans (congrFun (if_neg z1) 7) ?_
    exact rfl
theorem M_high_s_k10 (σ : Nat → Nat → Int32) (n : Nat) (pl : Nat) : M_high_s σ n pl 10 = σ 10 := by
  unfold M_high_s
  by_cases z1 : (M_lacks_r σ) = 0
  · refine Eq.trans (congrFun (if_pos z1) 10) ?_
    exact M_highOf_s_k10 σ n pl
  · refine Eq.trans (congrFun (if_neg z1) 10) ?_
    exact rfl
theorem M_high_s_k11 (σ : Nat → Nat → Int32) (n : Nat) (pl : Nat) : M_high_s σ n pl 11 = σ 11 := by
  unfold M_high_s
  by_cases z1 : (M_lacks_r σ) = 0
  · refine Eq.trans (congrFun (if_pos z1) 11) ?_
    exact M_highOf_s_k11 σ n pl
  · refine Eq.trans (congrFun (if_neg z1) 11) ?_
    exact rfl
theorem M_high_s_k13 (σ : Nat → Nat → Int32) (n : Nat) (pl : Nat) : M_high_s σ n pl 13 = σ 13 := by
  unfold M_high_s
  by_cases z1 : (M_lacks_r σ) = 0
  · refine Eq.trans (congrFun (if_pos z1) 13) ?_
    exact M_highOf_s_k13 σ n pl
  · refine Eq.trans (congrFun (if_neg z1) 13) ?_
    exact rfl
theorem M_high_s_k14 (σ : Nat → Nat → Int32) (n : Nat) (pl : Nat) : M_high_s σ n pl 14 = σ 14 := by
  unfold M_high_s
  by_cases z1 : (M_lacks_r σ) = 0
  · refine Eq.trans (congrFun (if_pos z1) 14) ?_
    exact M_highOf_s_k14 σ n pl
  · refine Eq.trans (congrFun (if_neg z1) 14) ?_
    exact rfl
theorem M_high_s_k15 (σ : Nat → Nat → Int32) (n : Nat) (pl : Nat) : M_high_s σ n pl 15 = σ 15 := by
  unfold M_high_s
  by_cases z1 : (M_lacks_r σ) = 0
  · refine Eq.trans (congrFun (if_pos z1) 15) ?_
    exact M_highOf_s_k15 σ n pl
  · refine Eq.trans (congrFun (if_neg z1) 15) ?_
    exact rfl
theorem M_high_s_k16 (σ : Nat → Nat → Int32) (n : Nat) (pl : Nat) : M_high_s σ n pl 16 = σ 16 := by
  unfold M_high_s
  by_cases z1 : (M_lacks_r σ) = 0
  · refine Eq.trans (congrFun (if_pos z1) 16) ?_
    exact M_highOf_s_k16 σ n pl
  · refine Eq.trans (congrFun (if_neg z1) 16) ?_
    exact rfl
theorem M_high_s_k17 (σ : Nat → Nat → Int32) (n : Nat) (pl : Nat) : M_high_s σ n pl 17 = σ 17 := by
  unfold M_high_s
  by_cases z1 : (M_lacks_r σ) = 0
  · refine Eq.trans (congrFun (if_pos z1) 17) ?_
    exact M_highOf_s_k17 σ n pl
  · refine Eq.trans (congrFun (if_neg z1) 17) ?_
    exact rfl
theorem M_high_s_k18 (σ : Nat → Nat → Int32) (n : Nat) (pl : Nat) : M_high_s σ n pl 18 = σ 18 := by
  unfold M_high_s
  by_cases z1 : (M_lacks_r σ) = 0
  · refine Eq.trans (congrFun (if_pos z1) 18) ?_
    exact M_highOf_s_k18 σ n pl
  · refine Eq.trans (congrFun (if_neg z1) 18) ?_
    exact rfl
theorem M_high_s_k19 (σ : Nat → Nat → Int32) (n : Nat) (pl : Nat) : M_high_s σ n pl 19 = σ 19 := by
  unfold M_high_s
  by_cases z1 : (M_lacks_r σ) = 0
  · refine Eq.trans (congrFun (if_pos z1) 19) ?_
    exact M_highOf_s_k19 σ n pl
  · refine Eq.trans (congrFun (if_neg z1) 19) ?_
    exact rfl
set_option maxHeartbeats 4000000 in
set_option maxRecDepth 100000 in
theorem c_M_high (l : Launch) (D : va_G) (cI : ClassId) (a : Nat → Nat) (σ : Nat → Nat → Int32) (h : Int64) (n : Nat) (pl : Nat) (hn : σ 0 6 = nI n) (hnb : n ≤ 4) (hp0 : σ 0 15 = nI pl) (hp0b : pl ≤ 4) (hpl : planOK (σ 7) pl) : gI l D [(cI, .int)] yX12_high wsX12_high 6 [.ref (a 0)] (wM cI a σ h) (M_high_r σ n pl) (wM cI a (M_high_s σ n pl) h) := by
  refine g_start (cc := cX12_high) (maxL := 1) (ret := some .int) (Qc := gQi D [(cI, .int)] (M_high_r σ n pl) (wM cI a (M_high_s σ n pl) h)) (by decide) rfl (Nat.le_of_ble_eq_true rfl) ?_
  intro p e s m below meth C A ls S hr hlk hw hl
  obtain ⟨hx, hb, hml, hown, hts⟩ := id S
  have hl : lv_has ls 1 [(0, .ref (a 0))] := hl
  refine lv_aload_n hx hb dX12_high_0 rfl (lv_at hl 0 rfl) ?_
  refine g_callVi S hw (c_M_lacks l D cI a σ h) gX12_high_X12_lacks rfl 0 rfl rfl 0 rfl (by decide +kernel) (by decide) (by decide) hl.1 rfl (Nat.le_of_ble_eq_true rfl) dX12_high_1 (fun H locs hw => ?_)
  refine lv_if_eq hx hb (tgt := 12) dX12_high_4 (by decide) (fun c_1 => ?_) (fun c_1 => ?_)
  · refine lv_aload_n hx hb dX12_high_12 rfl (lv_at hl 0 rfl) ?_
    refine g_callVi S hw (c_M_highOf l D cI a σ h n pl (hn) (by omega) (hp0) (by omega) (hpl)) gX12_high_X12_highOf rfl 0 rfl rfl 0 rfl (by decide +kernel) (by decide) (by decide) hl.1 rfl (Nat.le_of_ble_eq_true rfl) dX12_high_13 (fun H locs hw => ?_)
    exact g_iret S hr hlk hw (by simp only [M_high_r, if_pos c_1]) (by simp only [M_high_s, if_pos c_1]) dX12_high_16
  · refine lv_bipush (v := (-103)) hx hb dX12_high_7 (by decide) ?_
    refine lv_goto (tgt := 16) hx hb dX12_high_9 (by decide) ?_
    exact g_iret S hr hlk hw (by simp only [M_high_r, if_neg c_1]) (by simp only [M_high_s, if_neg c_1]) dX12_high_16

def M_ages_S53_0 (n : Nat) (years : Int32) (seed : Int32) (what : Int32) (y53_1 : Nat) (i53 : Nat) (σ53 : Nat → Nat → Int32) : Nat → Nat → Int32 := if (M_draw_n σ53 n) = (M_draw_n (M_draw_s σ53 n) n) then (M_passYear_s (M_draw_s (M_draw_s σ53 n) n) n) else (M_passYear_s (M_marry_s (M_draw_s (M_draw_s σ53 n) n) (M_draw_n σ53 n) (M_draw_n (M_draw_s σ53 n) n) (σ53 0 7)) n)
def M_ages_L53 (n : Nat) (years : Int32) (seed : Int32) (what : Int32) (y53_1 : Nat) : Nat → Nat → (Nat → Nat → Int32) → (Nat → Nat → Int32)
  | 0, _, σ53 => σ53
  | n53 + 1, i53, σ53 => M_ages_L53 n years seed what y53_1 n53 (i53 + 1) (M_ages_S53_0 n years seed what y53_1 i53 σ53)
theorem M_ages_S53_p0_6 (n : Nat) (years : Int32) (seed : Int32) (what : Int32) (y53_1 : Nat) (i53 : Nat) (σ53 : Nat → Nat → Int32) : M_ages_S53_0 n years seed what y53_1 i53 σ53 0 6 = σ53 0 6 := by
  unfold M_ages_S53_0
  by_cases z1 : (M_draw_n σ53 n) = (M_draw_n (M_draw_s σ53 n) n)
  · refine Eq.trans (congrFun (congrFun (if_pos z1) 0) 6) ?_
    exact (congrFun (M_passYear_s_k0 (M_draw_s (M_draw_s σ53 n) n) n) 6).trans ((M_draw_s_p0_6 (M_draw_s σ53 n) n).trans (M_draw_s_p0_6 σ53 n))
  · refine Eq.trans (congrFun (congrFun (if_neg z1) 0) 6) ?_
    exact (congrFun (M_passYear_s_k0 (M_marry_s (M_draw_s (M_draw_s σ53 n) n) (M_draw_n σ53 n) (M_draw_n (M_draw_s σ53 n) n) (σ53 0 7)) n) 6).trans ((congrFun (M_marry_s_k0 (M_draw_s (M_draw_s σ53 n) n) (M_draw_n σ53 n) (M_draw_n (M_draw_s σ53 n) n) (σ53 0 7)) 6).trans ((M_draw_s_p0_6 (M_draw_s σ53 n) n).trans (M_draw_s_p0_6 σ53 n)))
theorem M_ages_L53_p0_6 (n : Nat) (years : Int32) (seed : Int32) (what : Int32) (y53_1 : Nat) : ∀ (n53 i53 : Nat) (σ53 : Nat → Nat → Int32), (M_ages_L53 n years seed what y53_1 n53 i53 σ53) 0 6 = σ53 0 6 := by
  intro n53
  induction n53 with
  | zero => intros; rfl
  | succ n53 ih => intro i53 σ53; exact (ih (i53 + 1) (M_ages_S53_0 n years seed what y53_1 i53 σ53)).trans (M_ages_S53_p0_6 n years seed what y53_1 i53 σ53)
theorem M_ages_S53_k1 (n : Nat) (years : Int32) (seed : Int32) (what : Int32) (y53_1 : Nat) (i53 : Nat) (σ53 : Nat → Nat → Int32) : M_ages_S53_0 n years seed what y53_1 i53 σ53 1 = σ53 1 := by
  unfold M_ages_S53_0
  by_cases z1 : (M_draw_n σ53 n) = (M_draw_n (M_draw_s σ53 n) n)
  · refine Eq.trans (congrFun (if_pos z1) 1) ?_
    exact (M_passYear_s_k1 (M_draw_s (M_draw_s σ53 n) n) n).trans ((M_draw_s_k1 (M_draw_s σ53 n) n).trans (M_draw_s_k1 σ53 n))
  · refine Eq.trans (congrFun (if_neg z1) 1) ?_
    exact (M_passYear_s_k1 (M_marry_s (M_draw_s (M_draw_s σ53 n) n) (M_draw_n σ53 n) (M_draw_n (M_draw_s σ53 n) n) (σ53 0 7)) n).trans ((M_marry_s_k1 (M_draw_s (M_draw_s σ53 n) n) (M_draw_n σ53 n) (M_draw_n (M_draw_s σ53 n) n) (σ53 0 7)).trans ((M_draw_s_k1 (M_draw_s σ53 n) n).trans (M_draw_s_k1 σ53 n)))
theorem M_ages_L53_k1 (n : Nat) (years : Int32) (seed : Int32) (what : Int32) (y53_1 : Nat) : ∀ (n53 i53 : Nat) (σ53 : Nat → Nat → Int32), (M_ages_L53 n years seed what y53_1 n53 i53 σ53) 1 = σ53 1 := by
  intro n53
  induction n53 with
  | zero => intros; rfl
  | succ n53 ih => intro i53 σ53; exact (ih (i53 + 1) (M_ages_S53_0 n years seed what y53_1 i53 σ53)).trans (M_ages_S53_k1 n years seed what y53_1 i53 σ53)
theorem M_ages_S53_k2 (n : Nat) (years : Int32) (seed : Int32) (what : Int32) (y53_1 : Nat) (i53 : Nat) (σ53 : Nat → Nat → Int32) : M_ages_S53_0 n years seed what y53_1 i53 σ53 2 = σ53 2 := by
  unfold M_ages_S53_0
  by_cases z1 : (M_draw_n σ53 n) = (M_draw_n (M_draw_s σ53 n) n)
  · refine Eq.trans (congrFun (if_pos z1) 2) ?_
    exact (M_passYear_s_k2 (M_draw_s (M_draw_s σ53 n) n) n).trans ((M_draw_s_k2 (M_draw_s σ53 n) n).trans (M_draw_s_k2 σ53 n))
  · refine Eq.trans (congrFun (if_neg z1) 2) ?_
    exact (M_passYear_s_k2 (M_marry_s (M_draw_s (M_draw_s σ53 n) n) (M_draw_n σ53 n) (M_draw_n (M_draw_s σ53 n) n) (σ53 0 7)) n).trans ((M_marry_s_k2 (M_draw_s (M_draw_s σ53 n) n) (M_draw_n σ53 n) (M_draw_n (M_draw_s σ53 n) n) (σ53 0 7)).trans ((M_draw_s_k2 (M_draw_s σ53 n) n).trans (M_draw_s_k2 σ53 n)))
theorem M_ages_L53_k2 (n : Nat) (years : Int32) (seed : Int32) (what : Int32) (y53_1 : Nat) : ∀ (n53 i53 : Nat) (σ53 : Nat → Nat → Int32), (M_ages_L53 n years seed what y53_1 n53 i53 σ53) 2 = σ53 2 := by
  intro n53
  induction n53 with
  | zero => intros; rfl
  | succ n53 ih => intro i53 σ53; exact (ih (i53 + 1) (M_ages_S53_0 n years seed what y53_1 i53 σ53)).trans (M_ages_S53_k2 n years seed what y53_1 i53 σ53)
theorem M_ages_S53_k3 (n : Nat) (years : Int32) (seed : Int32) (what : Int32) (y53_1 : Nat) (i53 : Nat) (σ53 : Nat → Nat → Int32) : M_ages_S53_0 n years seed what y53_1 i53 σ53 3 = σ53 3 := by
  unfold M_ages_S53_0
  by_cases z1 : (M_draw_n σ53 n) = (M_draw_n (M_draw_s σ53 n) n)
  · refine Eq.trans (congrFun (if_pos z1) 3) ?_
    exact (M_passYear_s_k3 (M_draw_s (M_draw_s σ53 n) n) n).trans ((M_draw_s_k3 (M_draw_s σ53 n) n).trans (M_draw_s_k3 σ53 n))
  · refine Eq.trans (congrFun (if_neg z1) 3) ?_
    exact (M_passYear_s_k3 (M_marry_s (M_draw_s (M_draw_s σ53 n) n) (M_draw_n σ53 n) (M_draw_n (M_draw_s σ53 n) n) (σ53 0 7)) n).trans ((M_marry_s_k3 (M_draw_s (M_draw_s σ53 n) n) (M_draw_n σ53 n) (M_draw_n (M_draw_s σ53 n) n) (σ53 0 7)).trans ((M_draw_s_k3 (M_draw_s σ53 n) n).trans (M_draw_s_k3 σ53 n)))
theorem M_ages_L53_k3 (n : Nat) (years : Int32) (seed : Int32) (what : Int32) (y53_1 : Nat) : ∀ (n53 i53 : Nat) (σ53 : Nat → Nat → Int32), (M_ages_L53 n years seed what y53_1 n53 i53 σ53) 3 = σ53 3 := by
  intro n53
  induction n53 with
  | zero => intros; rfl
  | succ n53 ih => intro i53 σ53; exact (ih (i53 + 1) (M_ages_S53_0 n years seed what y53_1 i53 σ53)).trans (M_ages_S53_k3 n years seed what y53_1 i53 σ53)
theorem M_ages_S53_k6 (n : Nat) (years : Int32) (seed : Int32) (what : Int32) (y53_1 : Nat) (i53 : Nat) (σ53 : Nat → Nat → Int32) : M_ages_S53_0 n years seed what y53_1 i53 σ53 6 = σ53 6 := by
  unfold M_ages_S53_0
  by_cases z1 : (M_draw_n σ53 n) = (M_draw_n (M_draw_s σ53 n) n)
  · refine Eq.trans (congrFun (if_pos z1) 6) ?_
    exact (M_passYear_s_k6 (M_draw_s (M_draw_s σ53 n) n) n).trans ((M_draw_s_k6 (M_draw_s σ53 n) n).trans (M_draw_s_k6 σ53 n))
  · refine Eq.trans (congrFun (if_neg z1) 6) ?_
    exact (M_passYear_s_k6 (M_marry_s (M_draw_s (M_draw_s σ53 n) n) (M_draw_n σ53 n) (M_draw_n (M_draw_s σ53 n) n) (σ53 0 7)) n).trans ((M_marry_s_k6 (M_draw_s (M_draw_s σ53 n) n) (M_draw_n σ53 n) (M_draw_n (M_draw_s σ53 n) n) (σ53 0 7)).trans ((M_draw_s_k6 (M_draw_s σ53 n) n).trans (M_draw_s_k6 σ53 n)))
theorem M_ages_L53_k6 (n : Nat) (years : Int32) (seed : Int32) (what : Int32) (y53_1 : Nat) : ∀ (n53 i53 : Nat) (σ53 : Nat → Nat → Int32), (M_ages_L53 n years seed what y53_1 n53 i53 σ53) 6 = σ53 6 := by
  intro n53
  induction n53 with
  | zero => intros; rfl
  | succ n53 ih => intro i53 σ53; exact (ih (i53 + 1) (M_ages_S53_0 n years seed what y53_1 i53 σ53)).trans (M_ages_S53_k6 n years seed what y53_1 i53 σ53)
theorem M_ages_S53_k7 (n : Nat) (years : Int32) (seed : Int32) (what : Int32) (y53_1 : Nat) (i53 : Nat) (σ53 : Nat → Nat → Int32) : M_ages_S53_0 n years seed what y53_1 i53 σ53 7 = σ53 7 := by
  unfold M_ages_S53_0
  by_cases z1 : (M_draw_n σ53 n) = (M_draw_n (M_draw_s σ53 n) n)
  · refine Eq.trans (congrFun (if_pos z1) 7) ?_
    exact (M_passYear_s_k7 (M_draw_s (M_draw_s σ53 n) n) n).trans ((M_draw_s_k7 (M_draw_s σ53 n) n).trans (M_draw_s_k7 σ53 n))
  · refine Eq.trans (congrFun (if_neg z1) 7) ?_
    exact (M_passYear_s_k7 (M_marry_s (M_draw_s (M_draw_s σ53 n) n) (M_draw_n σ53 n) (M_draw_n (M_draw_s σ53 n) n) (σ53 0 7)) n).trans ((M_marry_s_k7 (M_draw_s (M_draw_s σ53 n) n) (M_draw_n σ53 n) (M_draw_n (M_draw_s σ53 n) n) (σ53 0 7)).trans ((M_draw_s_k7 (M_draw_s σ53 n) n).trans (M_draw_s_k7 σ53 n)))
theorem M_ages_L53_k7 (n : Nat) (years : Int32) (seed : Int32) (what : Int32) (y53_1 : Nat) : ∀ (n53 i53 : Nat) (σ53 : Nat → Nat → Int32), (M_ages_L53 n years seed what y53_1 n53 i53 σ53) 7 = σ53 7 := by
  intro n53
  induction n53 with
  | zero => intros; rfl
  | succ n53 ih => intro i53 σ53; exact (ih (i53 + 1) (M_ages_S53_0 n years seed what y53_1 i53 σ53)).trans (M_ages_S53_k7 n years seed what y53_1 i53 σ53)
theorem M_ages_S53_k8 (n : Nat) (years : Int32) (seed : Int32) (what : Int32) (y53_1 : Nat) (i53 : Nat) (σ53 : Nat → Nat → Int32) : M_ages_S53_0 n years seed what y53_1 i53 σ53 8 = σ53 8 := by
  unfold M_ages_S53_0
  by_cases z1 : (M_draw_n σ53 n) = (M_draw_n (M_draw_s σ53 n) n)
  · refine Eq.trans (congrFun (if_pos z1) 8) ?_
    exact (M_passYear_s_k8 (M_draw_s (M_draw_s σ53 n) n) n).trans ((M_draw_s_k8 (M_draw_s σ53 n) n).trans (M_draw_s_k8 σ53 n))
  · refine Eq.trans (congrFun (if_neg z1) 8) ?_
    exact (M_passYear_s_k8 (M_marry_s (M_draw_s (M_draw_s σ53 n) n) (M_draw_n σ53 n) (M_draw_n (M_draw_s σ53 n) n) (σ53 0 7)) n).trans ((M_marry_s_k8 (M_draw_s (M_draw_s σ53 n) n) (M_draw_n σ53 n) (M_draw_n (M_draw_s σ53 n) n) (σ53 0 7)).trans ((M_draw_s_k8 (M_draw_s σ53 n) n).trans (M_draw_s_k8 σ53 n)))
theorem M_ages_L53_k8 (n : Nat) (years : Int32) (seed : Int32) (what : Int32) (y53_1 : Nat) : ∀ (n53 i53 : Nat) (σ53 : Nat → Nat → Int32), (M_ages_L53 n years seed what y53_1 n53 i53 σ53) 8 = σ53 8 := by
  intro n53
  induction n53 with
  | zero => intros; rfl
  | succ n53 ih => intro i53 σ53; exact (ih (i53 + 1) (M_ages_S53_0 n years seed what y53_1 i53 σ53)).trans (M_ages_S53_k8 n years seed what y53_1 i53 σ53)
theorem M_ages_S53_k9 (n : Nat) (years : Int32) (seed : Int32) (what : Int32) (y53_1 : Nat) (i53 : Nat) (σ53 : Nat → Nat → Int32) : M_ages_S53_0 n years seed what y53_1 i53 σ53 9 = σ53 9 := by
  unfold M_ages_S53_0
  by_cases z1 : (M_draw_n σ53 n) = (M_draw_n (M_draw_s σ53 n) n)
  · refine Eq.trans (congrFun (if_pos z1) 9) ?_
    exact (M_passYear_s_k9 (M_draw_s (M_draw_s σ53 n) n) n).trans ((M_draw_s_k9 (M_draw_s σ53 n) n).trans (M_draw_s_k9 σ53 n))
  · refine Eq.trans (congrFun (if_neg z1) 9) ?_
    exact (M_passYear_s_k9 (M_marry_s (M_draw_s (M_draw_s σ53 n) n) (M_draw_n σ53 n) (M_draw_n (M_draw_s σ53 n) n) (σ53 0 7)) n).trans ((M_marry_s_k9 (M_draw_s (M_draw_s σ53 n) n) (M_draw_n σ53 n) (M_draw_n (M_draw_s σ53 n) n) (σ53 0 7)).trans ((M_draw_s_k9 (M_draw_s σ53 n) n).trans (M_draw_s_k9 σ53 n)))
theorem M_ages_L53_k9 (n : Nat) (years : Int32) (seed : Int32) (what : Int32) (y53_1 : Nat) : ∀ (n53 i53 : Nat) (σ53 : Nat → Nat → Int32), (M_ages_L53 n years seed what y53_1 n53 i53 σ53) 9 = σ53 9 := by
  intro n53
  induction n53 with
  | zero => intros; rfl
  | succ n53 ih => intro i53 σ53; exact (ih (i53 + 1) (M_ages_S53_0 n years seed what y53_1 i53 σ53)).trans (M_ages_S53_k9 n years seed what y53_1 i53 σ53)
theorem M_ages_S53_k10 (n : Nat) (years : Int32) (seed : Int32) (what : Int32) (y53_1 : Nat) (i53 : Nat) (σ53 : Nat → Nat → Int32) : M_ages_S53_0 n years seed what y53_1 i53 σ53 10 = σ53 10 := by
  unfold M_ages_S53_0
  by_cases z1 : (M_draw_n σ53 n) = (M_draw_n (M_draw_s σ53 n) n)
  · refine Eq.trans (congrFun (if_pos z1) 10) ?_
    exact (M_passYear_s_k10 (M_draw_s (M_draw_s σ53 n) n) n).trans ((M_draw_s_k10 (M_draw_s σ53 n) n).trans (M_draw_s_k10 σ53 n))
  · refine Eq.trans (congrFun (if_neg z1) 10) ?_
    exact (M_passYear_s_k10 (M_marry_s (M_draw_s (M_draw_s σ53 n) n) (M_draw_n σ53 n) (M_draw_n (M_draw_s σ53 n) n) (σ53 0 7)) n).trans ((M_marry_s_k10 (M_draw_s (M_draw_s σ53 n) n) (M_draw_n σ53 n) (M_draw_n (M_draw_s σ53 n) n) (σ53 0 7)).trans ((M_draw_s_k10 (M_draw_s σ53 n) n).trans (M_draw_s_k10 σ53 n)))
theorem M_ages_L53_k10 (n : Nat) (years : Int32) (seed : Int32) (what : Int32) (y53_1 : Nat) : ∀ (n53 i53 : Nat) (σ53 : Nat → Nat → Int32), (M_ages_L53 n years seed what y53_1 n53 i53 σ53) 10 = σ53 10 := by
  intro n53
  induction n53 with
  | zero => intros; rfl
  | succ n53 ih => intro i53 σ53; exact (ih (i53 + 1) (M_ages_S53_0 n years seed what y53_1 i53 σ53)).trans (M_ages_S53_k10 n years seed what y53_1 i53 σ53)
theorem M_ages_S53_k11 (n : Nat) (years : Int32) (seed : Int32) (what : Int32) (y53_1 : Nat) (i53 : Nat) (σ53 : Nat → Nat → Int32) : M_ages_S53_0 n years seed what y53_1 i53 σ53 11 = σ53 11 := by
  unfold M_ages_S53_0
  by_cases z1 : (M_draw_n σ53 n) = (M_draw_n (M_draw_s σ53 n) n)
  · refine Eq.trans (congrFun (if_pos z1) 11) ?_
    exact (M_passYear_s_k11 (M_draw_s (M_draw_s σ53 n) n) n).trans ((M_draw_s_k11 (M_draw_s σ53 n) n).trans (M_draw_s_k11 σ53 n))
  · refine Eq.trans (congrFun (if_neg z1) 11) ?_
    exact (M_passYear_s_k11 (M_marry_s (M_draw_s (M_draw_s σ53 n) n) (M_draw_n σ53 n) (M_draw_n (M_draw_s σ53 n) n) (σ53 0 7)) n).trans ((M_marry_s_k11 (M_draw_s (M_draw_s σ53 n) n) (M_draw_n σ53 n) (M_draw_n (M_draw_s σ53 n) n) (σ53 0 7)).trans ((M_draw_s_k11 (M_draw_s σ53 n) n).trans (M_draw_s_k11 σ53 n)))
theorem M_ages_L53_k11 (n : Nat) (years : Int32) (seed : Int32) (what : Int32) (y53_1 : Nat) : ∀ (n53 i53 : Nat) (σ53 : Nat → Nat → Int32), (M_ages_L53 n years seed what y53_1 n53 i53 σ53) 11 = σ53 11 := by
  intro n53
  induction n53 with
  | zero => intros; rfl
  | succ n53 ih => intro i53 σ53; exact (ih (i53 + 1) (M_ages_S53_0 n years seed what y53_1 i53 σ53)).trans (M_ages_S53_k11 n years seed what y53_1 i53 σ53)
theorem M_ages_S53_k12 (n : Nat) (years : Int32) (seed : Int32) (what : Int32) (y53_1 : Nat) (i53 : Nat) (σ53 : Nat → Nat → Int32) : M_ages_S53_0 n years seed what y53_1 i53 σ53 12 = σ53 12 := by
  unfold M_ages_S53_0
  by_cases z1 : (M_draw_n σ53 n) = (M_draw_n (M_draw_s σ53 n) n)
  · refine Eq.trans (congrFun (if_pos z1) 12) ?_
    exact (M_passYear_s_k12 (M_draw_s (M_draw_s σ53 n) n) n).trans ((M_draw_s_k12 (M_draw_s σ53 n) n).trans (M_draw_s_k12 σ53 n))
  · refine Eq.trans (congrFun (if_neg z1) 12) ?_
    exact (M_passYear_s_k12 (M_marry_s (M_draw_s (M_draw_s σ53 n) n) (M_draw_n σ53 n) (M_draw_n (M_draw_s σ53 n) n) (σ53 0 7)) n).trans ((M_marry_s_k12 (M_draw_s (M_draw_s σ53 n) n) (M_draw_n σ53 n) (M_draw_n (M_draw_s σ53 n) n) (σ53 0 7)).trans ((M_draw_s_k12 (M_draw_s σ53 n) n).trans (M_draw_s_k12 σ53 n)))
theorem M_ages_L53_k12 (n : Nat) (years : Int32) (seed : Int32) (what : Int32) (y53_1 : Nat) : ∀ (n53 i53 : Nat) (σ53 : Nat → Nat → Int32), (M_ages_L53 n years seed what y53_1 n53 i53 σ53) 12 = σ53 12 := by
  intro n53
  induction n53 with
  | zero => intros; rfl
  | succ n53 ih => intro i53 σ53; exact (ih (i53 + 1) (M_ages_S53_0 n years seed what y53_1 i53 σ53)).trans (M_ages_S53_k12 n years seed what y53_1 i53 σ53)
theorem M_ages_S53_k13 (n : Nat) (years : Int32) (seed : Int32) (what : Int32) (y53_1 : Nat) (i53 : Nat) (σ53 : Nat → Nat → Int32) : M_ages_S53_0 n years seed what y53_1 i53 σ53 13 = σ53 13 := by
  unfold M_ages_S53_0
  by_cases z1 : (M_draw_n σ53 n) = (M_draw_n (M_draw_s σ53 n) n)
  · refine Eq.trans (congrFun (if_pos z1) 13) ?_
    exact (M_passYear_s_k13 (M_draw_s (M_draw_s σ53 n) n) n).trans ((M_draw_s_k13 (M_draw_s σ53 n) n).trans (M_draw_s_k13 σ53 n))
  · refine Eq.trans (congrFun (if_neg z1) 13) ?_
    exact (M_passYear_s_k13 (M_marry_s (M_draw_s (M_draw_s σ53 n) n) (M_draw_n σ53 n) (M_draw_n (M_draw_s σ53 n) n) (σ53 0 7)) n).trans ((M_marry_s_k13 (M_draw_s (M_draw_s σ53 n) n) (M_draw_n σ53 n) (M_draw_n (M_draw_s σ53 n) n) (σ53 0 7)).trans ((M_draw_s_k13 (M_draw_s σ53 n) n).trans (M_draw_s_k13 σ53 n)))
theorem M_ages_L53_k13 (n : Nat) (years : Int32) (seed : Int32) (what : Int32) (y53_1 : Nat) : ∀ (n53 i53 : Nat) (σ53 : Nat → Nat → Int32), (M_ages_L53 n years seed what y53_1 n53 i53 σ53) 13 = σ53 13 := by
  intro n53
  induction n53 with
  | zero => intros; rfl
  | succ n53 ih => intro i53 σ53; exact (ih (i53 + 1) (M_ages_S53_0 n years seed what y53_1 i53 σ53)).trans (M_ages_S53_k13 n years seed what y53_1 i53 σ53)
theorem M_ages_S53_k14 (n : Nat) (years : Int32) (seed : Int32) (what : Int32) (y53_1 : Nat) (i53 : Nat) (σ53 : Nat → Nat → Int32) : M_ages_S53_0 n years seed what y53_1 i53 σ53 14 = σ53 14 := by
  unfold M_ages_S53_0
  by_cases z1 : (M_draw_n σ53 n) = (M_draw_n (M_draw_s σ53 n) n)
  · refine Eq.trans (congrFun (if_pos z1) 14) ?_
    exact (M_passYear_s_k14 (M_draw_s (M_draw_s σ53 n) n) n).trans ((M_draw_s_k14 (M_draw_s σ53 n) n).trans (M_draw_s_k14 σ53 n))
  · refine Eq.trans (congrFun (if_neg z1) 14) ?_
    exact (M_passYear_s_k14 (M_marry_s (M_draw_s (M_draw_s σ53 n) n) (M_draw_n σ53 n) (M_draw_n (M_draw_s σ53 n) n) (σ53 0 7)) n).trans ((M_marry_s_k14 (M_draw_s (M_draw_s σ53 n) n) (M_draw_n σ53 n) (M_draw_n (M_draw_s σ53 n) n) (σ53 0 7)).trans ((M_draw_s_k14 (M_draw_s σ53 n) n).trans (M_draw_s_k14 σ53 n)))
theorem M_ages_L53_k14 (n : Nat) (years : Int32) (seed : Int32) (what : Int32) (y53_1 : Nat) : ∀ (n53 i53 : Nat) (σ53 : Nat → Nat → Int32), (M_ages_L53 n years seed what y53_1 n53 i53 σ53) 14 = σ53 14 := by
  intro n53
  induction n53 with
  | zero => intros; rfl
  | succ n53 ih => intro i53 σ53; exact (ih (i53 + 1) (M_ages_S53_0 n years seed what y53_1 i53 σ53)).trans (M_ages_S53_k14 n years seed what y53_1 i53 σ53)
theorem M_ages_S53_k15 (n : Nat) (years : Int32) (seed : Int32) (what : Int32) (y53_1 : Nat) (i53 : Nat) (σ53 : Nat → Nat → Int32) : M_ages_S53_0 n years seed what y53_1 i53 σ53 15 = σ53 15 := by
  unfold M_ages_S53_0
  by_cases z1 : (M_draw_n σ53 n) = (M_draw_n (M_draw_s σ53 n) n)
  · refine Eq.trans (congrFun (if_pos z1) 15) ?_
    exact (M_passYear_s_k15 (M_draw_s (M_draw_s σ53 n) n) n).trans ((M_draw_s_k15 (M_draw_s σ53 n) n).trans (M_draw_s_k15 σ53 n))
  · refine Eq.trans (congrFun (if_neg z1) 15) ?_
    exact (M_passYear_s_k15 (M_marry_s (M_draw_s (M_draw_s σ53 n) n) (M_draw_n σ53 n) (M_draw_n (M_draw_s σ53 n) n) (σ53 0 7)) n).trans ((M_marry_s_k15 (M_draw_s (M_draw_s σ53 n) n) (M_draw_n σ53 n) (M_draw_n (M_draw_s σ53 n) n) (σ53 0 7)).trans ((M_draw_s_k15 (M_draw_s σ53 n) n).trans (M_draw_s_k15 σ53 n)))
theorem M_ages_L53_k15 (n : Nat) (years : Int32) (seed : Int32) (what : Int32) (y53_1 : Nat) : ∀ (n53 i53 : Nat) (σ53 : Nat → Nat → Int32), (M_ages_L53 n years seed what y53_1 n53 i53 σ53) 15 = σ53 15 := by
  intro n53
  induction n53 with
  | zero => intros; rfl
  | succ n53 ih => intro i53 σ53; exact (ih (i53 + 1) (M_ages_S53_0 n years seed what y53_1 i53 σ53)).trans (M_ages_S53_k15 n years seed what y53_1 i53 σ53)
theorem M_ages_S53_k16 (n : Nat) (years : Int32) (seed : Int32) (what : Int32) (y53_1 : Nat) (i53 : Nat) (σ53 : Nat → Nat → Int32) : M_ages_S53_0 n years seed what y53_1 i53 σ53 16 = σ53 16 := by
  unfold M_ages_S53_0
  by_cases z1 : (M_draw_n σ53 n) = (M_draw_n (M_draw_s σ53 n) n)
  · refine Eq.trans (congrFun (if_pos z1) 16) ?_
    exact (M_passYear_s_k16 (M_draw_s (M_draw_s σ53 n) n) n).trans ((M_draw_s_k16 (M_draw_s σ53 n) n).trans (M_draw_s_k16 σ53 n))
  · refine Eq.trans (congrFun (if_neg z1) 16) ?_
    exact (M_passYear_s_k16 (M_marry_s (M_draw_s (M_draw_s σ53 n) n) (M_draw_n σ53 n) (M_draw_n (M_draw_s σ53 n) n) (σ53 0 7)) n).trans ((M_marry_s_k16 (M_draw_s (M_draw_s σ53 n) n) (M_draw_n σ53 n) (M_draw_n (M_draw_s σ53 n) n) (σ53 0 7)).trans ((M_draw_s_k16 (M_draw_s σ53 n) n).trans (M_draw_s_k16 σ53 n)))
theorem M_ages_L53_k16 (n : Nat) (years : Int32) (seed : Int32) (what : Int32) (y53_1 : Nat) : ∀ (n53 i53 : Nat) (σ53 : Nat → Nat → Int32), (M_ages_L53 n years seed what y53_1 n53 i53 σ53) 16 = σ53 16 := by
  intro n53
  induction n53 with
  | zero => intros; rfl
  | succ n53 ih => intro i53 σ53; exact (ih (i53 + 1) (M_ages_S53_0 n years seed what y53_1 i53 σ53)).trans (M_ages_S53_k16 n years seed what y53_1 i53 σ53)
theorem M_ages_S53_k17 (n : Nat) (years : Int32) (seed : Int32) (what : Int32) (y53_1 : Nat) (i53 : Nat) (σ53 : Nat → Nat → Int32) : M_ages_S53_0 n years seed what y53_1 i53 σ53 17 = σ53 17 := by
  unfold M_ages_S53_0
  by_cases z1 : (M_draw_n σ53 n) = (M_draw_n (M_draw_s σ53 n) n)
  · refine Eq.trans (congrFun (if_pos z1) 17) ?_
    exact (M_passYear_s_k17 (M_draw_s (M_draw_s σ53 n) n) n).trans ((M_draw_s_k17 (M_draw_s σ53 n) n).trans (M_draw_s_k17 σ53 n))
  · refine Eq.trans (congrFun (if_neg z1) 17) ?_
    exact (M_passYear_s_k17 (M_marry_s (M_draw_s (M_draw_s σ53 n) n) (M_draw_n σ53 n) (M_draw_n (M_draw_s σ53 n) n) (σ53 0 7)) n).trans ((M_marry_s_k17 (M_draw_s (M_draw_s σ53 n) n) (M_draw_n σ53 n) (M_draw_n (M_draw_s σ53 n) n) (σ53 0 7)).trans ((M_draw_s_k17 (M_draw_s σ53 n) n).trans (M_draw_s_k17 σ53 n)))
theorem M_ages_L53_k17 (n : Nat) (years : Int32) (seed : Int32) (what : Int32) (y53_1 : Nat) : ∀ (n53 i53 : Nat) (σ53 : Nat → Nat → Int32), (M_ages_L53 n years seed what y53_1 n53 i53 σ53) 17 = σ53 17 := by
  intro n53
  induction n53 with
  | zero => intros; rfl
  | succ n53 ih => intro i53 σ53; exact (ih (i53 + 1) (M_ages_S53_0 n years seed what y53_1 i53 σ53)).trans (M_ages_S53_k17 n years seed what y53_1 i53 σ53)
theorem M_ages_S53_k18 (n : Nat) (years : Int32) (seed : Int32) (what : Int32) (y53_1 : Nat) (i53 : Nat) (σ53 : Nat → Nat → Int32) : M_ages_S53_0 n years seed what y53_1 i53 σ53 18 = σ53 18 := by
  unfold M_ages_S53_0
  by_cases z1 : (M_draw_n σ53 n) = (M_draw_n (M_draw_s σ53 n) n)
  · refine Eq.trans (congrFun (if_pos z1) 18) ?_
    exact (M_passYear_s_k18 (M_draw_s (M_draw_s σ53 n) n) n).trans ((M_draw_s_k18 (M_draw_s σ53 n) n).trans (M_draw_s_k18 σ53 n))
  · refine Eq.trans (congrFun (if_neg z1) 18) ?_
    exact (M_passYear_s_k18 (M_marry_s (M_draw_s (M_draw_s σ53 n) n) (M_draw_n σ53 n) (M_draw_n (M_draw_s σ53 n) n) (σ53 0 7)) n).trans ((M_marry_s_k18 (M_draw_s (M_draw_s σ53 n) n) (M_draw_n σ53 n) (M_draw_n (M_draw_s σ53 n) n) (σ53 0 7)).trans ((M_draw_s_k18 (M_draw_s σ53 n) n).trans (M_draw_s_k18 σ53 n)))
theorem M_ages_L53_k18 (n : Nat) (years : Int32) (seed : Int32) (what : Int32) (y53_1 : Nat) : ∀ (n53 i53 : Nat) (σ53 : Nat → Nat → Int32), (M_ages_L53 n years seed what y53_1 n53 i53 σ53) 18 = σ53 18 := by
  intro n53
  induction n53 with
  | zero => intros; rfl
  | succ n53 ih => intro i53 σ53; exact (ih (i53 + 1) (M_ages_S53_0 n years seed what y53_1 i53 σ53)).trans (M_ages_S53_k18 n years seed what y53_1 i53 σ53)
theorem M_ages_S53_k19 (n : Nat) (years : Int32) (seed : Int32) (what : Int32) (y53_1 : Nat) (i53 : Nat) (σ53 : Nat → Nat → Int32) : M_ages_S53_0 n years seed what y53_1 i53 σ53 19 = σ53 19 := by
  unfold M_ages_S53_0
  by_cases z1 : (M_draw_n σ53 n) = (M_draw_n (M_draw_s σ53 n) n)
  · refine Eq.trans (congrFun (if_pos z1) 19) ?_
    exact (M_passYear_s_k19 (M_draw_s (M_draw_s σ53 n) n) n).trans ((M_draw_s_k19 (M_draw_s σ53 n) n).trans (M_draw_s_k19 σ53 n))
  · refine Eq.trans (congrFun (if_neg z1) 19) ?_
    exact (M_passYear_s_k19 (M_marry_s (M_draw_s (M_draw_s σ53 n) n) (M_draw_n σ53 n) (M_draw_n (M_draw_s σ53 n) n) (σ53 0 7)) n).trans ((M_marry_s_k19 (M_draw_s (M_draw_s σ53 n) n) (M_draw_n σ53 n) (M_draw_n (M_draw_s σ53 n) n) (σ53 0 7)).trans ((M_draw_s_k19 (M_draw_s σ53 n) n).trans (M_draw_s_k19 σ53 n)))
theorem M_ages_L53_k19 (n : Nat) (years : Int32) (seed : Int32) (what : Int32) (y53_1 : Nat) : ∀ (n53 i53 : Nat) (σ53 : Nat → Nat → Int32), (M_ages_L53 n years seed what y53_1 n53 i53 σ53) 19 = σ53 19 := by
  intro n53
  induction n53 with
  | zero => intros; rfl
  | succ n53 ih => intro i53 σ53; exact (ih (i53 + 1) (M_ages_S53_0 n years seed what y53_1 i53 σ53)).trans (M_ages_S53_k19 n years seed what y53_1 i53 σ53)
def M_ages_r (σ : Nat → Nat → Int32) (n : Nat) (years : Int32) (seed : Int32) (what : Int32) : Int32 := if (M_in_r years.toInt64 1 40) = 0 then (-102) else (if seed < 0 then (-102) else (if (M_in_r what.toInt64 0 2) = 0 then (-102) else (if (M_lacks_r σ) = 0 then (if what = 0 then (M_owedAll_r (M_ages_L53 n years seed what years.toNatClampNeg years.toNatClampNeg 0 (up2 (M_layAside_s σ) 0 25 seed))) else (if what = 1 then (M_cowsAll_r (M_ages_L53 n years seed what years.toNatClampNeg years.toNatClampNeg 0 (up2 (M_layAside_s σ) 0 25 seed)) n) else (((M_ages_L53 n years seed what years.toNatClampNeg years.toNatClampNeg 0 (up2 (M_layAside_s σ) 0 25 seed)) 0) 25))) else (-103))))
def M_ages_s (σ : Nat → Nat → Int32) (n : Nat) (years : Int32) (seed : Int32) (what : Int32) : Nat → Nat → Int32 := if (M_in_r years.toInt64 1 40) = 0 then σ else (if seed < 0 then σ else (if (M_in_r what.toInt64 0 2) = 0 then σ else (if (M_lacks_r σ) = 0 then (if what = 0 then (M_layBack_s (M_ages_L53 n years seed what years.toNatClampNeg years.toNatClampNeg 0 (up2 (M_layAside_s σ) 0 25 seed))) else (if what = 1 then (M_layBack_s (M_ages_L53 n years seed what years.toNatClampNeg years.toNatClampNeg 0 (up2 (M_layAside_s σ) 0 25 seed))) else (M_layBack_s (M_ages_L53 n years seed what years.toNatClampNeg years.toNatClampNeg 0 (up2 (M_layAside_s σ) 0 25 seed))))) else σ)))
theorem M_ages_s_k1 (σ : Nat → Nat → Int32) (n : Nat) (years : Int32) (seed : Int32) (what : Int32) : M_ages_s σ n years seed what 1 = σ 1 := by
  unfold M_ages_s
  by_cases z1 : (M_in_r years.toInt64 1 40) = 0
  · refine Eq.trans (congrFun (if_pos z1) 1) ?_
    exact rfl
  · refine Eq.trans (congrFun (if_neg z1) 1) ?_
    by_cases z2 : seed < 0
    · refine Eq.trans (congrFun (if_pos z2) 1) ?_
      exact rfl
    · refine Eq.trans (congrFun (if_neg z2) 1) ?_
      by_cases z3 : (M_in_r what.toInt64 0 2) = 0
      · refine Eq.trans (congrFun (if_pos z3) 1) ?_
        exact rfl
      · refine Eq.trans (congrFun (if_neg z3) 1) ?_
        by_cases z4 : (M_lacks_r σ) = 0
        · refine Eq.trans (congrFun (if_pos z4) 1) ?_
          by_cases z5 : what = 0
          · refine Eq.trans (congrFun (if_pos z5) 1) ?_
            exact (M_layBack_s_k1 (M_ages_L53 n years seed what years.toNatClampNeg years.toNatClampNeg 0 (up2 (M_layAside_s σ) 0 25 seed))).trans ((M_ages_L53_k1 n years seed what years.toNatClampNeg years.toNatClampNeg 0 (up2 (M_layAside_s σ) 0 25 seed)).trans ((up2_n _ _ _ (by decide)).trans (M_layAside_s_k1 σ)))
          · refine Eq.trans (congrFun (if_neg z5) 1) ?_
            by_cases z6 : what = 1
            · refine Eq.trans (congrFun (if_pos z6) 1) ?_
              exact (M_layBack_s_k1 (M_ages_L53 n years seed what years.toNatClampNeg years.toNatClampNeg 0 (up2 (M_layAside_s σ) 0 25 seed))).trans ((M_ages_L53_k1 n years seed what years.toNatClampNeg years.toNatClampNeg 0 (up2 (M_layAside_s σ) 0 25 seed)).trans ((up2_n _ _ _ (by decide)).trans (M_layAside_s_k1 σ)))
            · refine Eq.trans (congrFun (if_neg z6) 1) ?_
              exact (M_layBack_s_k1 (M_ages_L53 n years seed what years.toNatClampNeg years.toNatClampNeg 0 (up2 (M_layAside_s σ) 0 25 seed))).trans ((M_ages_L53_k1 n years seed what years.toNatClampNeg years.toNatClampNeg 0 (up2 (M_layAside_s σ) 0 25 seed)).trans ((up2_n _ _ _ (by decide)).trans (M_layAside_s_k1 σ)))
        · refine Eq.trans (congrFun (if_neg z4) 1) ?_
          exact rfl
theorem M_ages_s_k2 (σ : Nat → Nat → Int32) (n : Nat) (years : Int32) (seed : Int32) (what : Int32) : M_ages_s σ n years seed what 2 = σ 2 := by
  unfold M_ages_s
  by_cases z1 : (M_in_r years.toInt64 1 40) = 0
  · refine Eq.trans (congrFun (if_pos z1) 2) ?_
    exact rfl
  · refine Eq.trans (congrFun (if_neg z1) 2) ?_
    by_cases z2 : seed < 0
    · refine Eq.trans (congrFun (if_pos z2) 2) ?_
      exact rfl
    · refine Eq.trans (congrFun (if_neg z2) 2) ?_
      by_cases z3 : (M_in_r what.toInt64 0 2) = 0
      · refine Eq.trans (congrFun (if_pos z3) 2) ?_
        exact rfl
      · refine Eq.trans (congrFun (if_neg z3) 2) ?_
        by_cases z4 : (M_lacks_r σ) = 0
        · refine Eq.trans (congrFun (if_pos z4) 2) ?_
          by_cases z5 : what = 0
          · refine Eq.trans (congrFun (if_pos z5) 2) ?_
            exact (M_layBack_s_k2 (M_ages_L53 n years seed what years.toNatClampNeg years.toNatClampNeg 0 (up2 (M_layAside_s σ) 0 25 seed))).trans ((M_ages_L53_k2 n years seed what years.toNatClampNeg years.toNatClampNeg 0 (up2 (M_layAside_s σ) 0 25 seed)).trans ((up2_n _ _ _ (by decide)).trans (M_layAside_s_k2 σ)))
          · refine Eq.trans (congrFun (if_neg z5) 2) ?_
            by_cases z6 : what = 1
            · refine Eq.trans (congrFun (if_pos z6) 2) ?_
              exact (M_layBack_s_k2 (M_ages_L53 n years seed what years.toNatClampNeg years.toNatClampNeg 0 (up2 (M_layAside_s σ) 0 25 seed))).trans ((M_ages_L53_k2 n years seed what years.toNatClampNeg years.toNatClampNeg 0 (up2 (M_layAside_s σ) 0 25 seed)).trans ((up2_n _ _ _ (by decide)).trans (M_layAside_s_k2 σ)))
            · refine Eq.trans (congrFun (if_neg z6) 2) ?_
              exact (M_layBack_s_k2 (M_ages_L53 n years seed what years.toNatClampNeg years.toNatClampNeg 0 (up2 (M_layAside_s σ) 0 25 seed))).trans ((M_ages_L53_k2 n years seed what years.toNatClampNeg years.toNatClampNeg 0 (up2 (M_layAside_s σ) 0 25 seed)).trans ((up2_n _ _ _ (by decide)).trans (M_layAside_s_k2 σ)))
        · refine Eq.trans (congrFun (if_neg z4) 2) ?_
          exact rfl
theorem M_ages_s_k3 (σ : Nat → Nat → Int32) (n : Nat) (years : Int32) (seed : Int32) (what : Int32) : M_ages_s σ n years seed what 3 = σ 3 := by
  unfold M_ages_s
  by_cases z1 : (M_in_r years.toInt64 1 40) = 0
  · refine Eq.trans (congrFun (if_pos z1) 3) ?_
    exact rfl
  · refine Eq.trans (congrFun (if_neg z1) 3) ?_
    by_cases z2 : seed < 0
    · refine Eq.trans (congrFun (if_pos z2) 3) ?_
      exact rfl
    · refine Eq.trans (congrFun (if_neg z2) 3) ?_
      by_cases z3 : (M_in_r what.toInt64 0 2) = 0
      · refine Eq.trans (congrFun (if_pos z3) 3) ?_
        exact rfl
      · refine Eq.trans (congrFun (if_neg z3) 3) ?_
        by_cases z4 : (M_lacks_r σ) = 0
        · refine Eq.trans (congrFun (if_pos z4) 3) ?_
          by_cases z5 : what = 0
          · refine Eq.trans (congrFun (if_pos z5) 3) ?_
            exact (M_layBack_s_k3 (M_ages_L53 n years seed what years.toNatClampNeg years.toNatClampNeg 0 (up2 (M_layAside_s σ) 0 25 seed))).trans ((M_ages_L53_k3 n years seed what years.toNatClampNeg years.toNatClampNeg 0 (up2 (M_layAside_s σ) 0 25 seed)).trans ((up2_n _ _ _ (by decide)).trans (M_layAside_s_k3 σ)))
          · refine Eq.trans (congrFun (if_neg z5) 3) ?_
            by_cases z6 : what = 1
            · refine Eq.trans (congrFun (if_pos z6) 3) ?_
              exact (M_layBack_s_k3 (M_ages_L53 n years seed what years.toNatClampNeg years.toNatClampNeg 0 (up2 (M_layAside_s σ) 0 25 seed))).trans ((M_ages_L53_k3 n years seed what years.toNatClampNeg years.toNatClampNeg 0 (up2 (M_layAside_s σ) 0 25 seed)).trans ((up2_n _ _ _ (by decide)).trans (M_layAside_s_k3 σ)))
            · refine Eq.trans (congrFun (if_neg z6) 3) ?_
              exact (M_layBack_s_k3 (M_ages_L53 n years seed what years.toNatClampNeg years.toNatClampNeg 0 (up2 (M_layAside_s σ) 0 25 seed))).trans ((M_ages_L53_k3 n years seed what years.toNatClampNeg years.toNatClampNeg 0 (up2 (M_layAside_s σ) 0 25 seed)).trans ((up2_n _ _ _ (by decide)).trans (M_layAside_s_k3 σ)))
        · refine Eq.trans (congrFun (if_neg z4) 3) ?_
          exact rfl
theorem M_ages_s_k6 (σ : Nat → Nat → Int32) (n : Nat) (years : Int32) (seed : Int32) (what : Int32) : M_ages_s σ n years seed what 6 = σ 6 := by
  unfold M_ages_s
  by_cases z1 : (M_in_r years.toInt64 1 40) = 0
  · refine Eq.trans (congrFun (if_pos z1) 6) ?_
    exact rfl
  · refine Eq.trans (congrFun (if_neg z1) 6) ?_
    by_cases z2 : seed < 0
    · refine Eq.trans (congrFun (if_pos z2) 6) ?_
      exact rfl
    · refine Eq.trans (congrFun (if_neg z2) 6) ?_
      by_cases z3 : (M_in_r what.toInt64 0 2) = 0
      · refine Eq.trans (congrFun (if_pos z3) 6) ?_
        exact rfl
      · refine Eq.trans (congrFun (if_neg z3) 6) ?_
        by_cases z4 : (M_lacks_r σ) = 0
        · refine Eq.trans (congrFun (if_pos z4) 6) ?_
          by_cases z5 : what = 0
          · refine Eq.trans (congrFun (if_pos z5) 6) ?_
            exact (M_layBack_s_k6 (M_ages_L53 n years seed what years.toNatClampNeg years.toNatClampNeg 0 (up2 (M_layAside_s σ) 0 25 seed))).trans ((M_ages_L53_k6 n years seed what years.toNatClampNeg years.toNatClampNeg 0 (up2 (M_layAside_s σ) 0 25 seed)).trans ((up2_n _ _ _ (by decide)).trans (M_layAside_s_k6 σ)))
          · refine Eq.trans (congrFun (if_neg z5) 6) ?_
            by_cases z6 : what = 1
            · refine Eq.trans (congrFun (if_pos z6) 6) ?_
              exact (M_layBack_s_k6 (M_ages_L53 n years seed what years.toNatClampNeg years.toNatClampNeg 0 (up2 (M_layAside_s σ) 0 25 seed))).trans ((M_ages_L53_k6 n years seed what years.toNatClampNeg years.toNatClampNeg 0 (up2 (M_layAside_s σ) 0 25 seed)).trans ((up2_n _ _ _ (by decide)).trans (M_layAside_s_k6 σ)))
            · refine Eq.trans (congrFun (if_neg z6) 6) ?_
              exact (M_layBack_s_k6 (M_ages_L53 n years seed what years.toNatClampNeg years.toNatClampNeg 0 (up2 (M_layAside_s σ) 0 25 seed))).trans ((M_ages_L53_k6 n years seed what years.toNatClampNeg years.toNatClampNeg 0 (up2 (M_layAside_s σ) 0 25 seed)).trans ((up2_n _ _ _ (by decide)).trans (M_layAside_s_k6 σ)))
        · refine Eq.trans (congrFun (if_neg z4) 6) ?_
          exact rfl
theorem M_ages_s_k7 (σ : Nat → Nat → Int32) (n : Nat) (years : Int32) (seed : Int32) (what : Int32) : M_ages_s σ n years seed what 7 = σ 7 := by
  unfold M_ages_s
  by_cases z1 : (M_in_r years.toInt64 1 40) = 0
  · refine Eq.trans (congrFun (if_pos z1) 7) ?_
    exact rfl
  · refine Eq.trans (congrFun (if_neg z1) 7) ?_
    by_cases z2 : seed < 0
    · refine Eq.trans (congrFun (if_pos z2) 7) ?_
      exact rfl
    · refine Eq.trans (congrFun (if_neg z2) 7) ?_
      by_cases z3 : (M_in_r what.toInt64 0 2) = 0
      · refine Eq.trans (congrFun (if_pos z3) 7) ?_
        exact rfl
      · refine Eq.trans (congrFun (if_neg z3) 7) ?_
        by_cases z4 : (M_lacks_r σ) = 0
        · refine Eq.trans (congrFun (if_pos z4) 7) ?_
          by_cases z5 : what = 0
          · refine Eq.trans (congrFun (if_pos z5) 7) ?_
            exact (M_layBack_s_k7 (M_ages_L53 n years seed what years.toNatClampNeg years.toNatClampNeg 0 (up2 (M_layAside_s σ) 0 25 seed))).trans ((M_ages_L53_k7 n years seed what years.toNatClampNeg years.toNatClampNeg 0 (up2 (M_layAside_s σ) 0 25 seed)).trans ((up2_n _ _ _ (by decide)).trans (M_layAside_s_k7 σ)))
          · refine Eq.trans (congrFun (if_neg z5) 7) ?_
            by_cases z6 : what = 1
            · refine Eq.trans (congrFun (if_pos z6) 7) ?_
              exact (M_layBack_s_k7 (M_ages_L53 n years seed what years.toNatClampNeg years.toNatClampNeg 0 (up2 (M_layAside_s σ) 0 25 seed))).trans ((M_ages_L53_k7 n years seed what years.toNatClampNeg years.toNatClampNeg 0 (up2 (M_layAside_s σ) 0 25 seed)).trans ((up2_n _ _ _ (by decide)).trans (M_layAside_s_k7 σ)))
            · refine Eq.trans (congrFun (if_neg z6) 7) ?_
              exact (M_layBack_s_k7 (M_ages_L53 n years seed what years.toNatClampNeg years.toNatClampNeg 0 (up2 (M_layAside_s σ) 0 25 seed))).trans ((M_ages_L53_k7 n years seed what years.toNatClampNeg years.toNatClampNeg 0 (up2 (M_layAside_s σ) 0 25 seed)).trans ((up2_n _ _ _ (by decide)).trans (M_layAside_s_k7 σ)))
        · refine Eq.trans (congrFun (if_neg z4) 7) ?_
          exact rfl
theorem M_ages_s_k10 (σ : Nat → Nat → Int32) (n : Nat) (years : Int32) (seed : Int32) (what : Int32) : M_ages_s σ n years seed what 10 = σ 10 := by
  unfold M_ages_s
  by_cases z1 : (M_in_r years.toInt64 1 40) = 0
  · refine Eq.trans (congrFun (if_pos z1) 10) ?_
    exact rfl
  · refine Eq.trans (congrFun (if_neg z1) 10) ?_
    by_cases z2 : seed < 0
    · refine Eq.trans (congrFun (if_pos z2) 10) ?_
      exact rfl
    · refine Eq.trans (congrFun (if_neg z2) 10) ?_
      by_cases z3 : (M_in_r what.toInt64 0 2) = 0
      · refine Eq.trans (congrFun (if_pos z3) 10) ?_
        exact rfl
      · refine Eq.trans (congrFun (if_neg z3) 10) ?_
        by_cases z4 : (M_lacks_r σ) = 0
        · refine Eq.trans (congrFun (if_pos z4) 10) ?_
          by_cases z5 : what = 0
          · refine Eq.trans (congrFun (if_pos z5) 10) ?_
            exact (M_layBack_s_k10 (M_ages_L53 n years seed what years.toNatClampNeg years.toNatClampNeg 0 (up2 (M_layAside_s σ) 0 25 seed))).trans ((M_ages_L53_k10 n years seed what years.toNatClampNeg years.toNatClampNeg 0 (up2 (M_layAside_s σ) 0 25 seed)).trans ((up2_n _ _ _ (by decide)).trans (M_layAside_s_k10 σ)))
          · refine Eq.trans (congrFun (if_neg z5) 10) ?_
            by_cases z6 : what = 1
            · refine Eq.trans (congrFun (if_pos z6) 10) ?_
              exact (M_layBack_s_k10 (M_ages_L53 n years seed what years.toNatClampNeg years.toNatClampNeg 0 (up2 (M_layAside_s σ) 0 25 seed))).trans ((M_ages_L53_k10 n years seed what years.toNatClampNeg years.toNatClampNeg 0 (up2 (M_layAside_s σ) 0 25 seed)).trans ((up2_n _ _ _ (by decide)).trans (M_layAside_s_k10 σ)))
            · refine Eq.trans (congrFun (if_neg z6) 10) ?_
              exact (M_layBack_s_k10 (M_ages_L53 n years seed what years.toNatClampNeg years.toNatClampNeg 0 (up2 (M_layAside_s σ) 0 25 seed))).trans ((M_ages_L53_k10 n years seed what years.toNatClampNeg years.toNatClampNeg 0 (up2 (M_layAside_s σ) 0 25 seed)).trans ((up2_n _ _ _ (by decide)).trans (M_layAside_s_k10 σ)))
        · refine Eq.trans (congrFun (if_neg z4) 10) ?_
          exact rfl
theorem M_ages_s_k11 (σ : Nat → Nat → Int32) (n : Nat) (years : Int32) (seed : Int32) (what : Int32) : M_ages_s σ n years seed what 11 = σ 11 := by
  unfold M_ages_s
  by_cases z1 : (M_in_r years.toInt64 1 40) = 0
  · refine Eq.trans (congrFun (if_pos z1) 11) ?_
    exact rfl
  · refine Eq.trans (congrFun (if_neg z1) 11) ?_
    by_cases z2 : seed < 0
    · refine Eq.trans (congrFun (if_pos z2) 11) ?_
      exact rfl
    · refine Eq.trans (congrFun (if_neg z2) 11) ?_
      by_cases z3 : (M_in_r what.toInt64 0 2) = 0
      · refine Eq.trans (congrFun (if_pos z3) 11) ?_
        exact rfl
      · refine Eq.trans (congrFun (if_neg z3) 11) ?_
        by_cases z4 : (M_lacks_r σ) = 0
        · refine Eq.trans (congrFun (if_pos z4) 11) ?_
          by_cases z5 : what = 0
          · refine Eq.trans (congrFun (if_pos z5) 11) ?_
            exact (M_layBack_s_k11 (M_ages_L53 n years seed what years.toNatClampNeg years.toNatClampNeg 0 (up2 (M_layAside_s σ) 0 25 seed))).trans ((M_ages_L53_k11 n years seed what years.toNatClampNeg years.toNatClampNeg 0 (up2 (M_layAside_s σ) 0 25 seed)).trans ((up2_n _ _ _ (by decide)).trans (M_layAside_s_k11 σ)))
          · refine Eq.trans (congrFun (if_neg z5) 11) ?_
            by_cases z6 : what = 1
            · refine Eq.trans (congrFun (if_pos z6) 11) ?_
              exact (M_layBack_s_k11 (M_ages_L53 n years seed what years.toNatClampNeg years.toNatClampNeg 0 (up2 (M_layAside_s σ) 0 25 seed))).trans ((M_ages_L53_k11 n years seed what years.toNatClampNeg years.toNatClampNeg 0 (up2 (M_layAside_s σ) 0 25 seed)).trans ((up2_n _ _ _ (by decide)).trans (M_layAside_s_k11 σ)))
            · refine Eq.trans (congrFun (if_neg z6) 11) ?_
              exact (M_layBack_s_k11 (M_ages_L53 n years seed what years.toNatClampNeg years.toNatClampNeg 0 (up2 (M_layAside_s σ) 0 25 seed))).trans ((M_ages_L53_k11 n years seed what years.toNatClampNeg years.toNatClampNeg 0 (up2 (M_layAside_s σ) 0 25 seed)).trans ((up2_n _ _ _ (by decide)).trans (M_layAside_s_k11 σ)))
        · refine Eq.trans (congrFun (if_neg z4) 11) ?_
          exact rfl
theorem M_ages_s_k12 (σ : Nat → Nat → Int32) (n : Nat) (years : Int32) (seed : Int32) (what : Int32) : M_ages_s σ n years seed what 12 = σ 12 := by
  unfold M_ages_s
  by_cases z1 : (M_in_r years.toInt64 1 40) = 0
  · refine Eq.trans (congrFun (if_pos z1) 12) ?_
    exact rfl
  · refine Eq.trans (congrFun (if_neg z1) 12) ?_
    by_cases z2 : seed < 0
    · refine Eq.trans (congrFun (if_pos z2) 12) ?_
      exact rfl
    · refine Eq.trans (congrFun (if_neg z2) 12) ?_
      by_cases z3 : (M_in_r what.toInt64 0 2) = 0
      · refine Eq.trans (congrFun (if_pos z3) 12) ?_
        exact rfl
      · refine Eq.trans (congrFun (if_neg z3) 12) ?_
        by_cases z4 : (M_lacks_r σ) = 0
        · refine Eq.trans (congrFun (if_pos z4) 12) ?_
          by_cases z5 : what = 0
          · refine Eq.trans (congrFun (if_pos z5) 12) ?_
            exact (M_layBack_s_k12 (M_ages_L53 n years seed what years.toNatClampNeg years.toNatClampNeg 0 (up2 (M_layAside_s σ) 0 25 seed))).trans ((M_ages_L53_k12 n years seed what years.toNatClampNeg years.toNatClampNeg 0 (up2 (M_layAside_s σ) 0 25 seed)).trans ((up2_n _ _ _ (by decide)).trans (M_layAside_s_k12 σ)))
          · refine Eq.trans (congrFun (if_neg z5) 12) ?_
            by_cases z6 : what = 1
            · refine Eq.trans (congrFun (if_pos z6) 12) ?_
              exact (M_layBack_s_k12 (M_ages_L53 n years seed what years.toNatClampNeg years.toNatClampNeg 0 (up2 (M_layAside_s σ) 0 25 seed))).trans ((M_ages_L53_k12 n years seed what years.toNatClampNeg years.toNatClampNeg 0 (up2 (M_layAside_s σ) 0 25 seed)).trans ((up2_n _ _ _ (by decide)).trans (M_layAside_s_k12 σ)))
            · refine Eq.trans (congrFun (if_neg z6) 12) ?_
              exact (M_layBack_s_k12 (M_ages_L53 n years seed what years.toNatClampNeg years.toNatClampNeg 0 (up2 (M_layAside_s σ) 0 25 seed))).trans ((M_ages_L53_k12 n years seed what years.toNatClampNeg years.toNatClampNeg 0 (up2 (M_layAside_s σ) 0 25 seed)).trans ((up2_n _ _ _ (by decide)).trans (M_layAside_s_k12 σ)))
        · refine Eq.trans (congrFun (if_neg z4) 12) ?_
          exact rfl
theorem M_ages_s_k13 (σ : Nat → Nat → Int32) (n : Nat) (years : Int32) (seed : Int32) (what : Int32) : M_ages_s σ n years seed what 13 = σ 13 := by
  unfold M_ages_s
  by_cases z1 : (M_in_r years.toInt64 1 40) = 0
  · refine Eq.trans (congrFun (if_pos z1) 13) ?_
    exact rfl
  · refine Eq.trans (congrFun (if_neg z1) 13) ?_
    by_cases z2 : seed < 0
    · refine Eq.trans (congrFun (if_pos z2) 13) ?_
      exact rfl
    · refine Eq.trans (congrFun (if_neg z2) 13) ?_
      by_cases z3 : (M_in_r what.toInt64 0 2) = 0
      · refine Eq.trans (congrFun (if_pos z3) 13) ?_
        exact rfl
      · refine Eq.trans (congrFun (if_neg z3) 13) ?_
        by_cases z4 : (M_lacks_r σ) = 0
        · refine Eq.trans (congrFun (if_pos z4) 13) ?_
          by_cases z5 : what = 0
          · refine Eq.trans (congrFun (if_pos z5) 13) ?_
            exact (M_layBack_s_k13 (M_ages_L53 n years seed what years.toNatClampNeg years.toNatClampNeg 0 (up2 (M_layAside_s σ) 0 25 seed))).trans ((M_ages_L53_k13 n years seed what years.toNatClampNeg years.toNatClampNeg 0 (up2 (M_layAside_s σ) 0 25 seed)).trans ((up2_n _ _ _ (by decide)).trans (M_layAside_s_k13 σ)))
          · refine Eq.trans (congrFun (if_neg z5) 13) ?_
            by_cases z6 : what = 1
            · refine Eq.trans (congrFun (if_pos z6) 13) ?_
              exact (M_layBack_s_k13 (M_ages_L53 n years seed what years.toNatClampNeg years.toNatClampNeg 0 (up2 (M_layAside_s σ) 0 25 seed))).trans ((M_ages_L53_k13 n years seed what years.toNatClampNeg years.toNatClampNeg 0 (up2 (M_layAside_s σ) 0 25 seed)).trans ((up2_n _ _ _ (by decide)).trans (M_layAside_s_k13 σ)))
            · refine Eq.trans (congrFun (if_neg z6) 13) ?_
              exact (M_layBack_s_k13 (M_ages_L53 n years seed what years.toNatClampNeg years.toNatClampNeg 0 (up2 (M_layAside_s σ) 0 25 seed))).trans ((M_ages_L53_k13 n years seed what years.toNatClampNeg years.toNatClampNeg 0 (up2 (M_layAside_s σ) 0 25 seed)).trans ((up2_n _ _ _ (by decide)).trans (M_layAside_s_k13 σ)))
        · refine Eq.trans (congrFun (if_neg z4) 13) ?_
          exact rfl
theorem M_ages_s_k14 (σ : Nat → Nat → Int32) (n : Nat) (years : Int32) (seed : Int32) (what : Int32) : M_ages_s σ n years seed what 14 = σ 14 := by
  unfold M_ages_s
  by_cases z1 : (M_in_r years.toInt64 1 40) = 0
  · refine Eq.trans (congrFun (if_pos z1) 14) ?_
    exact rfl
  · refine Eq.trans (congrFun (if_neg z1) 14) ?_
    by_cases z2 : seed < 0
    · refine Eq.trans (congrFun (if_pos z2) 14) ?_
      exact rfl
    · refine Eq.trans (congrFun (if_neg z2) 14) ?_
      by_cases z3 : (M_in_r what.toInt64 0 2) = 0
      · refine Eq.trans (congrFun (if_pos z3) 14) ?_
        exact rfl
      · refine Eq.trans (congrFun (if_neg z3) 14) ?_
        by_cases z4 : (M_lacks_r σ) = 0
        · refine Eq.trans (congrFun (if_pos z4) 14) ?_
          by_cases z5 : what = 0
          · refine Eq.trans (congrFun (if_pos z5) 14) ?_
            exact (M_layBack_s_k14 (M_ages_L53 n years seed what years.toNatClampNeg years.toNatClampNeg 0 (up2 (M_layAside_s σ) 0 25 seed))).trans ((M_ages_L53_k14 n years seed what years.toNatClampNeg years.toNatClampNeg 0 (up2 (M_layAside_s σ) 0 25 seed)).trans ((up2_n _ _ _ (by decide)).trans (M_layAside_s_k14 σ)))
          · refine Eq.trans (congrFun (if_neg z5) 14) ?_
            by_cases z6 : what = 1
            · refine Eq.trans (congrFun (if_pos z6) 14) ?_
              exact (M_layBack_s_k14 (M_ages_L53 n years seed what years.toNatClampNeg years.toNatClampNeg 0 (up2 (M_layAside_s σ) 0 25 seed))).trans ((M_ages_L53_k14 n years seed what years.toNatClampNeg years.toNatClampNeg 0 (up2 (M_layAside_s σ) 0 25 seed)).trans ((up2_n _ _ _ (by decide)).trans (M_layAside_s_k14 σ)))
            · refine Eq.trans (congrFun (if_neg z6) 14) ?_
              exact (M_layBack_s_k14 (M_ages_L53 n years seed what years.toNatClampNeg years.toNatClampNeg 0 (up2 (M_layAside_s σ) 0 25 seed))).trans ((M_ages_L53_k14 n years seed what years.toNatClampNeg years.toNatClampNeg 0 (up2 (M_layAside_s σ) 0 25 seed)).trans ((up2_n _ _ _ (by decide)).trans (M_layAside_s_k14 σ)))
        · refine Eq.trans (congrFun (if_neg z4) 14) ?_
          exact rfl
theorem M_ages_s_k15 (σ : Nat → Nat → Int32) (n : Nat) (years : Int32) (seed : Int32) (what : Int32) : M_ages_s σ n years seed what 15 = σ 15 := by
  unfold M_ages_s
  by_cases z1 : (M_in_r years.toInt64 1 40) = 0
  · refine Eq.trans (congrFun (if_pos z1) 15) ?_
    exact rfl
  · refine Eq.trans (congrFun (if_neg z1) 15) ?_
    by_cases z2 : seed < 0
    · refine Eq.trans (congrFun (if_pos z2) 15) ?_
      exact rfl
    · refine Eq.trans (congrFun (if_neg z2) 15) ?_
      by_cases z3 : (M_in_r what.toInt64 0 2) = 0
      · refine Eq.trans (congrFun (if_pos z3) 15) ?_
        exact rfl
      · refine Eq.trans (congrFun (if_neg z3) 15) ?_
        by_cases z4 : (M_lacks_r σ) = 0
        · refine Eq.trans (congrFun (if_pos z4) 15) ?_
          by_cases z5 : what = 0
          · refine Eq.trans (congrFun (if_pos z5) 15) ?_
            exact (M_layBack_s_k15 (M_ages_L53 n years seed what years.toNatClampNeg years.toNatClampNeg 0 (up2 (M_layAside_s σ) 0 25 seed))).trans ((M_ages_L53_k15 n years seed what years.toNatClampNeg years.toNatClampNeg 0 (up2 (M_layAside_s σ) 0 25 seed)).trans ((up2_n _ _ _ (by decide)).trans (M_layAside_s_k15 σ)))
          · refine Eq.trans (congrFun (if_neg z5) 15) ?_
            by_cases z6 : what = 1
            · refine Eq.trans (congrFun (if_pos z6) 15) ?_
              exact (M_layBack_s_k15 (M_ages_L53 n years seed what years.toNatClampNeg years.toNatClampNeg 0 (up2 (M_layAside_s σ) 0 25 seed))).trans ((M_ages_L53_k15 n years seed what years.toNatClampNeg years.toNatClampNeg 0 (up2 (M_layAside_s σ) 0 25 seed)).trans ((up2_n _ _ _ (by decide)).trans (M_layAside_s_k15 σ)))
            · refine Eq.trans (congrFun (if_neg z6) 15) ?_
              exact (M_layBack_s_k15 (M_ages_L53 n years seed what years.toNatClampNeg years.toNatClampNeg 0 (up2 (M_layAside_s σ) 0 25 seed))).trans ((M_ages_L53_k15 n years seed what years.toNatClampNeg years.toNatClampNeg 0 (up2 (M_layAside_s σ) 0 25 seed)).trans ((up2_n _ _ _ (by decide)).trans (M_layAside_s_k15 σ)))
        · refine Eq.trans (congrFun (if_neg z4) 15) ?_
          exact rfl
theorem M_ages_s_k16 (σ : Nat → Nat → Int32) (n : Nat) (years : Int32) (seed : Int32) (what : Int32) : M_ages_s σ n years seed what 16 = σ 16 := by
  unfold M_ages_s
  by_cases z1 : (M_in_r years.toInt64 1 40) = 0
  · refine Eq.trans (congrFun (if_pos z1) 16) ?_
    exact rfl
  · refine Eq.trans (congrFun (if_neg z1) 16) ?_
    by_cases z2 : seed < 0
    · refine Eq.trans (congrFun (if_pos z2) 16) ?_
      exact rfl
    · refine Eq.trans (congrFun (if_neg z2) 16) ?_
      by_cases z3 : (M_in_r what.toInt64 0 2) = 0
      · refine Eq.trans (congrFun (if_pos z3) 16) ?_
        exact rfl
      · refine Eq.trans (congrFun (if_neg z3) 16) ?_
        by_cases z4 : (M_lacks_r σ) = 0
        · refine Eq.trans (congrFun (if_pos z4) 16) ?_
          by_cases z5 : what = 0
          · refine Eq.trans (congrFun (if_pos z5) 16) ?_
            exact (M_layBack_s_k16 (M_ages_L53 n years seed what years.toNatClampNeg years.toNatClampNeg 0 (up2 (M_layAside_s σ) 0 25 seed))).trans ((M_ages_L53_k16 n years seed what years.toNatClampNeg years.toNatClampNeg 0 (up2 (M_layAside_s σ) 0 25 seed)).trans ((up2_n _ _ _ (by decide)).trans (M_layAside_s_k16 σ)))
          · refine Eq.trans (congrFun (if_neg z5) 16) ?_
            by_cases z6 : what = 1
            · refine Eq.trans (congrFun (if_pos z6) 16) ?_
              exact (M_layBack_s_k16 (M_ages_L53 n years seed what years.toNatClampNeg years.toNatClampNeg 0 (up2 (M_layAside_s σ) 0 25 seed))).trans ((M_ages_L53_k16 n years seed what years.toNatClampNeg years.toNatClampNeg 0 (up2 (M_layAside_s σ) 0 25 seed)).trans ((up2_n _ _ _ (by decide)).trans (M_layAside_s_k16 σ)))
            · refine Eq.trans (congrFun (if_neg z6) 16) ?_
              exact (M_layBack_s_k16 (M_ages_L53 n years seed what years.toNatClampNeg years.toNatClampNeg 0 (up2 (M_layAside_s σ) 0 25 seed))).trans ((M_ages_L53_k16 n years seed what years.toNatClampNeg years.toNatClampNeg 0 (up2 (M_layAside_s σ) 0 25 seed)).trans ((up2_n _ _ _ (by decide)).trans (M_layAside_s_k16 σ)))
        · refine Eq.trans (congrFun (if_neg z4) 16) ?_
          exact rfl
theorem M_ages_s_k17 (σ : Nat → Nat → Int32) (n : Nat) (years : Int32) (seed : Int32) (what : Int32) : M_ages_s σ n years seed what 17 = σ 17 := by
  unfold M_ages_s
  by_cases z1 : (M_in_r years.toInt64 1 40) = 0
  · refine Eq.trans (congrFun (if_pos z1) 17) ?_
    exact rfl
  · refine Eq.trans (congrFun (if_neg z1) 17) ?_
    by_cases z2 : seed < 0
    · refine Eq.trans (congrFun (if_pos z2) 17) ?_
      exact rfl
    · refine Eq.trans (congrFun (if_neg z2) 17) ?_
      by_cases z3 : (M_in_r what.toInt64 0 2) = 0
      · refine Eq.trans (congrFun (if_pos z3) 17) ?_
        exact rfl
      · refine Eq.trans (congrFun (if_neg z3) 17) ?_
        by_cases z4 : (M_lacks_r σ) = 0
        · refine Eq.trans (congrFun (if_pos z4) 17) ?_
          by_cases z5 : what = 0
          · refine Eq.trans (congrFun (if_pos z5) 17) ?_
            exact (M_layBack_s_k17 (M_ages_L53 n years seed what years.toNatClampNeg years.toNatClampNeg 0 (up2 (M_layAside_s σ) 0 25 seed))).trans ((M_ages_L53_k17 n years seed what years.toNatClampNeg years.toNatClampNeg 0 (up2 (M_layAside_s σ) 0 25 seed)).trans ((up2_n _ _ _ (by decide)).trans (M_layAside_s_k17 σ)))
          · refine Eq.trans (congrFun (if_neg z5) 17) ?_
            by_cases z6 : what = 1
            · refine Eq.trans (congrFun (if_pos z6) 17) ?_
              exact (M_layBack_s_k17 (M_ages_L53 n years seed what years.toNatClampNeg years.toNatClampNeg 0 (up2 (M_layAside_s σ) 0 25 seed))).trans ((M_ages_L53_k17 n years seed what years.toNatClampNeg years.toNatClampNeg 0 (up2 (M_layAside_s σ) 0 25 seed)).trans ((up2_n _ _ _ (by decide)).trans (M_layAside_s_k17 σ)))
            · refine Eq.trans (congrFun (if_neg z6) 17) ?_
              exact (M_layBack_s_k17 (M_ages_L53 n years seed what years.toNatClampNeg years.toNatClampNeg 0 (up2 (M_layAside_s σ) 0 25 seed))).trans ((M_ages_L53_k17 n years seed what years.toNatClampNeg years.toNatClampNeg 0 (up2 (M_layAside_s σ) 0 25 seed)).trans ((up2_n _ _ _ (by decide)).trans (M_layAside_s_k17 σ)))
        · refine Eq.trans (congrFun (if_neg z4) 17) ?_
          exact rfl
theorem M_ages_s_k18 (σ : Nat → Nat → Int32) (n : Nat) (years : Int32) (seed : Int32) (what : Int32) : M_ages_s σ n years seed what 18 = σ 18 := by
  unfold M_ages_s
  by_cases z1 : (M_in_r years.toInt64 1 40) = 0
  · refine Eq.trans (congrFun (if_pos z1) 18) ?_
    exact rfl
  · refine Eq.trans (congrFun (if_neg z1) 18) ?_
    by_cases z2 : seed < 0
    · refine Eq.trans (congrFun (if_pos z2) 18) ?_
      exact rfl
    · refine Eq.trans (congrFun (if_neg z2) 18) ?_
      by_cases z3 : (M_in_r what.toInt64 0 2) = 0
      · refine Eq.trans (congrFun (if_pos z3) 18) ?_
        exact rfl
      · refine Eq.trans (congrFun (if_neg z3) 18) ?_
        by_cases z4 : (M_lacks_r σ) = 0
        · refine Eq.trans (congrFun (if_pos z4) 18) ?_
          by_cases z5 : what = 0
          · refine Eq.trans (congrFun (if_pos z5) 18) ?_
            exact (M_layBack_s_k18 (M_ages_L53 n years seed what years.toNatClampNeg years.toNatClampNeg 0 (up2 (M_layAside_s σ) 0 25 seed))).trans ((M_ages_L53_k18 n years seed what years.toNatClampNeg years.toNatClampNeg 0 (up2 (M_layAside_s σ) 0 25 seed)).trans ((up2_n _ _ _ (by decide)).trans (M_layAside_s_k18 σ)))
          · refine Eq.trans (congrFun (if_neg z5) 18) ?_
            by_cases z6 : what = 1
            · refine Eq.trans (congrFun (if_pos z6) 18) ?_
              exact (M_layBack_s_k18 (M_ages_L53 n years seed what years.toNatClampNeg years.toNatClampNeg 0 (up2 (M_layAside_s σ) 0 25 seed))).trans ((M_ages_L53_k18 n years seed what years.toNatClampNeg years.toNatClampNeg 0 (up2 (M_layAside_s σ) 0 25 seed)).trans ((up2_n _ _ _ (by decide)).trans (M_layAside_s_k18 σ)))
            · refine Eq.trans (congrFun (if_neg z6) 18) ?_
              exact (M_layBack_s_k18 (M_ages_L53 n years seed what years.toNatClampNeg years.toNatClampNeg 0 (up2 (M_layAside_s σ) 0 25 seed))).trans ((M_ages_L53_k18 n years seed what years.toNatClampNeg years.toNatClampNeg 0 (up2 (M_layAside_s σ) 0 25 seed)).trans ((up2_n _ _ _ (by decide)).trans (M_layAside_s_k18 σ)))
        · refine Eq.trans (congrFun (if_neg z4) 18) ?_
          exact rfl
theorem M_ages_s_k19 (σ : Nat → Nat → Int32) (n : Nat) (years : Int32) (seed : Int32) (what : Int32) : M_ages_s σ n years seed what 19 = σ 19 := by
  unfold M_ages_s
  by_cases z1 : (M_in_r years.toInt64 1 40) = 0
  · refine Eq.trans (congrFun (if_pos z1) 19) ?_
    exact rfl
  · refine Eq.trans (congrFun (if_neg z1) 19) ?_
    by_cases z2 : seed < 0
    · refine Eq.trans (congrFun (if_pos z2) 19) ?_
      exact rfl
    · refine Eq.trans (congrFun (if_neg z2) 19) ?_
      by_cases z3 : (M_in_r what.toInt64 0 2) = 0
      · refine Eq.trans (congrFun (if_pos z3) 19) ?_
        exact rfl
      · refine Eq.trans (congrFun (if_neg z3) 19) ?_
        by_cases z4 : (M_lacks_r σ) = 0
        · refine Eq.trans (congrFun (if_pos z4) 19) ?_
          by_cases z5 : what = 0
          · refine Eq.trans (congrFun (if_pos z5) 19) ?_
            exact (M_layBack_s_k19 (M_ages_L53 n years seed what years.toNatClampNeg years.toNatClampNeg 0 (up2 (M_layAside_s σ) 0 25 seed))).trans ((M_ages_L53_k19 n years seed what years.toNatClampNeg years.toNatClampNeg 0 (up2 (M_layAside_s σ) 0 25 seed)).trans ((up2_n _ _ _ (by decide)).trans (M_layAside_s_k19 σ)))
          · refine Eq.trans (congrFun (if_neg z5) 19) ?_
            by_cases z6 : what = 1
            · refine Eq.trans (congrFun (if_pos z6) 19) ?_
              exact (M_layBack_s_k19 (M_ages_L53 n years seed what years.toNatClampNeg years.toNatClampNeg 0 (up2 (M_layAside_s σ) 0 25 seed))).trans ((M_ages_L53_k19 n years seed what years.toNatClampNeg years.toNatClampNeg 0 (up2 (M_layAside_s σ) 0 25 seed)).trans ((up2_n _ _ _ (by decide)).trans (M_layAside_s_k19 σ)))
            · refine Eq.trans (congrFun (if_neg z6) 19) ?_
              exact (M_layBack_s_k19 (M_ages_L53 n years seed what years.toNatClampNeg years.toNatClampNeg 0 (up2 (M_layAside_s σ) 0 25 seed))).trans ((M_ages_L53_k19 n years seed what years.toNatClampNeg years.toNatClampNeg 0 (up2 (M_layAside_s σ) 0 25 seed)).trans ((up2_n _ _ _ (by decide)).trans (M_layAside_s_k19 σ)))
        · refine Eq.trans (congrFun (if_neg z4) 19) ?_
          exact rfl
set_option maxHeartbeats 4000000 in
set_option maxRecDepth 100000 in
theorem c_M_ages (l : Launch) (D : va_G) (cI : ClassId) (a : Nat → Nat) (σ : Nat → Nat → Int32) (h : Int64) (n : Nat) (years : Int32) (seed : Int32) (what : Int32) (hn : σ 0 6 = nI n) (hnb : n ≤ 4) : gI l D [(cI, .int)] yX12_ages wsX12_ages 5 [.ref (a 0), .int years, .int seed, .int what] (wM cI a σ h) (M_ages_r σ n years seed what) (wM cI a (M_ages_s σ n years seed what) h) := by
  refine g_start (cc := cX12_ages) (maxL := 8) (ret := some .int) (Qc := gQi D [(cI, .int)] (M_ages_r σ n years seed what) (wM cI a (M_ages_s σ n years seed what) h)) (by decide) rfl (Nat.le_of_ble_eq_true rfl) ?_
  intro p e s m below meth C A ls S hr hlk hw hl
  obtain ⟨hx, hb, hml, hown, hts⟩ := id S
  have hinX12 : ∀ x ∈ u_ws RX12 TX12 38, x ∈ wsX12_ages := fun x h => List.mem_cons_of_mem _ (List.mem_append_right _ h)
  have lk0 : Cond.constantLong RX12 220 (40) ∈ wsX12_ages := by decide +kernel
  have lk1 : Cond.constantLong RX12 222 (2) ∈ wsX12_ages := by decide +kernel
  have lk2 : Cond.fieldLink RX12 212 "CowsOwedModel" "seedNow" "I" ∈ wsX12_ages := by decide +kernel
  have lk3 : Cond.fieldLink RX12 105 "CowsOwedModel" "clans" "I" ∈ wsX12_ages := by decide +kernel
  have lk4 : Cond.fieldLink RX12 108 "CowsOwedModel" "rateNow" "I" ∈ wsX12_ages := by decide +kernel
  have hl : lv_has ls 8 [(0, .ref (a 0)), (1, .int years), (2, .int seed), (3, .int what)] := hl
  refine lv_iload_n hx hb dX12_ages_0 rfl (lv_at hl 1 rfl) ?_
  refine lv_i2l hx hb dX12_ages_1 rfl ?_
  refine lv_lconst (v := 1) hx hb dX12_ages_2 (by decide) ?_
  refine lv_ldc2 (v := 40) hx hb hown (hts _ lk0) dX12_ages_3 ?_
  refine g_callSi S hw (c_M_in l D [(cI, .int)] (wM cI a σ h) years.toInt64 1 40) gX12_ages_X12_in rfl 3 rfl (by decide +kernel) (by decide) (by decide) hl.1 rfl (Nat.le_of_ble_eq_true rfl) dX12_ages_6 (fun H locs hw => ?_)
  refine lv_if_eq hx hb (tgt := 28) dX12_ages_9 (by decide) (fun c_1 => ?_) (fun c_1 => ?_)
  · refine lv_bipush (v := (-102)) hx hb dX12_ages_28 (by decide) ?_
    exact g_iret S hr hlk hw (by simp only [M_ages_r, if_pos c_1]) (by simp only [M_ages_s, if_pos c_1]) dX12_ages_30
  · refine lv_iload_n hx hb dX12_ages_12 rfl (lv_at hl 2 rfl) ?_
    refine lv_if_lt hx hb (tgt := 28) dX12_ages_13 (by decide) (fun c_2 => ?_) (fun c_2 => ?_)
    · refine lv_bipush (v := (-102)) hx hb dX12_ages_28 (by decide) ?_
      exact g_iret S hr hlk hw (by simp only [M_ages_r, if_neg c_1, if_pos c_2]) (by simp only [M_ages_s, if_neg c_1, if_pos c_2]) dX12_ages_30
    · refine lv_iload_n hx hb dX12_ages_16 rfl (lv_at hl 3 rfl) ?_
      refine lv_i2l hx hb dX12_ages_17 rfl ?_
      refine lv_lconst (v := 0) hx hb dX12_ages_18 (by decide) ?_
      refine lv_ldc2 (v := 2) hx hb hown (hts _ lk1) dX12_ages_19 ?_
      refine g_callSi S hw (c_M_in l D [(cI, .int)] (wM cI a σ h) what.toInt64 0 2) gX12_ages_X12_in rfl 3 rfl (by decide +kernel) (by decide) (by decide) hl.1 rfl (Nat.le_of_ble_eq_true rfl) dX12_ages_22 (fun H locs hw => ?_)
      refine lv_if_ne hx hb (tgt := 31) dX12_ages_25 (by decide) (fun c_3 => ?_) (fun c_3 => ?_)
      · refine lv_aload_n hx hb dX12_ages_31 rfl (lv_at hl 0 rfl) ?_
        refine g_callVi S hw (c_M_lacks l D cI a σ h) gX12_ages_X12_lacks rfl 0 rfl rfl 0 rfl (by decide +kernel) (by decide) (by decide) hl.1 rfl (Nat.le_of_ble_eq_true rfl) dX12_ages_32 (fun H locs hw => ?_)
        refine lv_if_eq hx hb (tgt := 41) dX12_ages_35 (by decide) (fun c_4 => ?_) (fun c_4 => ?_)
        · obtain ⟨e1, b1, b2⟩ := M_in_nat (l := 1) (h := 40) rfl rfl c_1
          have hn0 : 0 < n := M_lacks_pos hn c_4
          have hl : lv_has ls 8 [(0, .ref (a 0)), (1, .int (nI years.toNatClampNeg)), (2, .int seed), (3, .int what)] := by rw [← e1]; exact hl
          refine lv_aload_n hx hb dX12_ages_41 rfl (lv_at hl 0 rfl) ?_
          refine g_callVv S hw (c_M_layAside l D cI a σ h) gX12_ages_X12_layAside rfl 0 rfl rfl 0 rfl (by decide +kernel) (by decide) (by decide) hl.1 rfl (Nat.le_of_ble_eq_true rfl) dX12_ages_42 (fun H locs hw => ?_)
          refine lv_aload_n hx hb dX12_ages_45 rfl (lv_at hl 0 rfl) ?_
          refine lv_iload_n hx hb dX12_ages_46 rfl (lv_at hl 2 rfl) ?_
          refine g_put S hw hinX12 tyX12 tyX12_ok nmX12 (fs := fM a (M_layAside_s σ) h) 0 rfl rfl 25 (by decide) lk2 rfl rfl rfl (Nat.le_of_ble_eq_true rfl) (w2 := wM cI a (up2 (M_layAside_s σ) 0 25 seed) h) (wM_f25 _ _ _ _ _) dX12_ages_47 (fun H locs hw => ?_)
          refine lv_iconst (v := 0) hx hb dX12_ages_50 (by decide) ?_
          refine lv_istore (lv' := [(4, .int 0), (0, .ref (a 0)), (1, .int (nI years.toNatClampNeg)), (2, .int seed), (3, .int what)]) hx hb dX12_ages_51 hl (by decide) rfl (fun ls hl => ?_)
          have L53 : ∀ (n53 i53 : Nat) (σ53 : Nat → Nat → Int32) (H : Heap) (locs : List Loc) (ls : Array Slot), i53 + n53 = years.toNatClampNeg → σ53 0 6 = nI n → M_ages_L53 n years seed what years.toNatClampNeg n53 i53 σ53 = M_ages_L53 n years seed what years.toNatClampNeg years.toNatClampNeg 0 (up2 (M_layAside_s σ) 0 25 seed) → gw D [(cI, .int)] A s H locs (wM cI a σ53 h) → lv_has ls 8 [(4, .int (nI i53)), (0, .ref (a 0)), (1, .int (nI years.toNatClampNeg)), (2, .int seed), (3, .int what)] → W p l e (gR 5) s m ([.ref (a 0), .int years, .int seed, .int what] : List Value).toArray below meth C H locs 0 0 (MQ below (gQi D [(cI, .int)] (M_ages_r σ n years seed what) (wM cI a (M_ages_s σ n years seed what) h) A) ([.ref (a 0), .int years, .int seed, .int what] : List Value).toArray s 0 0 A) (F0 m 53 ls []) := by
            intro n53
            induction n53 with
            | zero =>
              intro i53 σ53 H locs ls hi53 f53_0_6 hF53 hw hl
              refine lv_iload hx hb dX12_ages_53 (lv_at hl 0 rfl) ?_
              refine lv_iload_n hx hb dX12_ages_55 rfl (lv_at hl 2 rfl) ?_
              refine ln_ge (x := i53) (y := years.toNatClampNeg) hx hb (by omega) (by omega) (tgt := 110) dX12_ages_56 (by decide) (fun c_x => ?_) (fun c_x => absurd (by omega) c_x)
              have hz53 : years.toNatClampNeg = i53 := by omega
              subst hz53
              have e53_0 : (M_ages_L53 n years seed what years.toNatClampNeg years.toNatClampNeg 0 (up2 (M_layAside_s σ) 0 25 seed)) = σ53 := hF53.symm
              subst e53_0
              refine lv_aload_n hx hb dX12_ages_110 rfl (lv_at hl 1 rfl) ?_
              refine g_callVi S hw (c_M_owedAll l D cI a (M_ages_L53 n years seed what years.toNatClampNeg years.toNatClampNeg 0 (up2 (M_layAside_s σ) 0 25 seed)) h) gX12_ages_X12_owedAll rfl 0 rfl rfl 0 rfl (by decide +kernel) (by decide) (by decide) hl.1 rfl (Nat.le_of_ble_eq_true rfl) dX12_ages_111 (fun H locs hw => ?_)
              refine lv_istore (lv' := [(4, .int (M_owedAll_r (M_ages_L53 n years seed what years.toNatClampNeg years.toNatClampNeg 0 (up2 (M_layAside_s σ) 0 25 seed)))), (0, .ref (a 0)), (1, .int (nI years.toNatClampNeg)), (2, .int seed), (3, .int what)]) hx hb dX12_ages_114 hl (by decide) rfl (fun ls hl => ?_)
              refine lv_aload_n hx hb dX12_ages_116 rfl (lv_at hl 1 rfl) ?_
              refine g_callVi S hw (c_M_cowsAll l D cI a (M_ages_L53 n years seed what years.toNatClampNeg years.toNatClampNeg 0 (up2 (M_layAside_s σ) 0 25 seed)) h n (((M_ages_L53_p0_6 n years seed what years.toNatClampNeg years.toNatClampNeg 0 (up2 (M_layAside_s σ) 0 25 seed)).trans ((up2_rp (by decide)).trans (congrFun (M_layAside_s_k0 σ) 6))).trans (hn)) (by omega)) gX12_ages_X12_cowsAll rfl 0 rfl rfl 0 rfl (by decide +kernel) (by decide) (by decide) hl.1 rfl (Nat.le_of_ble_eq_true rfl) dX12_ages_117 (fun H locs hw => ?_)
              refine lv_istore (lv' := [(5, .int (M_cowsAll_r (M_ages_L53 n years seed what years.toNatClampNeg years.toNatClampNeg 0 (up2 (M_layAside_s σ) 0 25 seed)) n)), (4, .int (M_owedAll_r (M_ages_L53 n years seed what years.toNatClampNeg years.toNatClampNeg 0 (up2 (M_layAside_s σ) 0 25 seed)))), (0, .ref (a 0)), (1, .int (nI years.toNatClampNeg)), (2, .int seed), (3, .int what)]) hx hb dX12_ages_120 hl (by decide) rfl (fun ls hl => ?_)
              refine lv_aload_n hx hb dX12_ages_122 rfl (lv_at hl 2 rfl) ?_
              refine g_callVv S hw (c_M_layBack l D cI a (M_ages_L53 n years seed what years.toNatClampNeg years.toNatClampNeg 0 (up2 (M_layAside_s σ) 0 25 seed)) h) gX12_ages_X12_layBack rfl 0 rfl rfl 0 rfl (by decide +kernel) (by decide) (by decide) hl.1 rfl (Nat.le_of_ble_eq_true rfl) dX12_ages_123 (fun H locs hw => ?_)
              refine lv_iload_n hx hb dX12_ages_126 rfl (lv_at hl 5 rfl) ?_
              refine lv_if_ne hx hb (tgt := 135) dX12_ages_127 (by decide) (fun c_8 => ?_) (fun c_8 => ?_)
              · refine lv_iload_n hx hb dX12_ages_135 rfl (lv_at hl 5 rfl) ?_
                refine lv_iconst (v := 1) hx hb dX12_ages_136 (by decide) ?_
                refine lv_icmp_ne hx hb (tgt := 145) dX12_ages_137 (by decide) (fun c_9 => ?_) (fun c_9 => ?_)
                · refine lv_aload_n hx hb dX12_ages_145 rfl (lv_at hl 2 rfl) ?_
                  refine g_get S hw hinX12 (fs := fM a (M_layBack_s (M_ages_L53 n years seed what years.toNatClampNeg years.toNatClampNeg 0 (up2 (M_layAside_s σ) 0 25 seed))) h) 0 rfl rfl 25 (by decide) lk2 (v := .int (((M_ages_L53 n years seed what years.toNatClampNeg years.toNatClampNeg 0 (up2 (M_layAside_s σ) 0 25 seed)) 0) 25)) (congrArg (fun z => some (Value.int z)) (congrFun (M_layBack_s_k0 (M_ages_L53 n years seed what years.toNatClampNeg years.toNatClampNeg 0 (up2 (M_layAside_s σ) 0 25 seed))) 25)) dX12_ages_146 ?_
                  exact g_iret S hr hlk hw (by simp only [M_ages_r, if_neg c_1, if_neg c_2, if_neg c_3, if_pos c_4, if_neg c_8, if_neg c_9]) (by simp only [M_ages_s, if_neg c_1, if_neg c_2, if_neg c_3, if_pos c_4, if_neg c_8, if_neg c_9]) dX12_ages_149
                · refine lv_iload hx hb dX12_ages_140 (lv_at hl 0 rfl) ?_
                  refine lv_goto (tgt := 149) hx hb dX12_ages_142 (by decide) ?_
                  exact g_iret S hr hlk hw (by simp only [M_ages_r, if_neg c_1, if_neg c_2, if_neg c_3, if_pos c_4, if_neg c_8, if_pos c_9]) (by simp only [M_ages_s, if_neg c_1, if_neg c_2, if_neg c_3, if_pos c_4, if_neg c_8, if_pos c_9]) dX12_ages_149
              · refine lv_iload hx hb dX12_ages_130 (lv_at hl 1 rfl) ?_
                refine lv_goto (tgt := 149) hx hb dX12_ages_132 (by decide) ?_
                exact g_iret S hr hlk hw (by simp only [M_ages_r, if_neg c_1, if_neg c_2, if_neg c_3, if_pos c_4, if_pos c_8]) (by simp only [M_ages_s, if_neg c_1, if_neg c_2, if_neg c_3, if_pos c_4, if_pos c_8]) dX12_ages_149
            | succ n53 ih53 =>
              intro i53 σ53 H locs ls hi53 f53_0_6 hF53 hw hl
              refine lv_iload hx hb dX12_ages_53 (lv_at hl 0 rfl) ?_
              refine lv_iload_n hx hb dX12_ages_55 rfl (lv_at hl 2 rfl) ?_
              refine ln_ge (x := i53) (y := years.toNatClampNeg) hx hb (by omega) (by omega) (tgt := 110) dX12_ages_56 (by decide) (fun c_x => absurd c_x (by omega)) (fun c_x => ?_)
              refine lv_aload_n hx hb dX12_ages_59 rfl (lv_at hl 1 rfl) ?_
              refine lv_aload_n hx hb dX12_ages_60 rfl (lv_at hl 1 rfl) ?_
              refine g_get S hw hinX12 (fs := fM a σ53 h) 0 rfl rfl 6 (by decide) lk3 (v := .int (nI n)) (congrArg (fun z => some (Value.int z)) (f53_0_6)) dX12_ages_61 ?_
              refine g_callVi S hw (c_M_draw l D cI a σ53 h n (by omega) (by omega)) gX12_ages_X12_draw rfl 0 rfl rfl 1 rfl (by decide +kernel) (by decide) (by decide) hl.1 rfl (Nat.le_of_ble_eq_true rfl) dX12_ages_64 (fun H locs hw => ?_)
              refine lv_istore (lv' := [(5, .int (nI (M_draw_n σ53 n))), (4, .int (nI i53)), (0, .ref (a 0)), (1, .int (nI years.toNatClampNeg)), (2, .int seed), (3, .int what)]) hx hb dX12_ages_67 hl (by decide) rfl (fun ls hl => ?_)
              have d1 := M_draw_lt σ53 hn0
              refine lv_aload_n hx hb dX12_ages_69 rfl (lv_at hl 2 rfl) ?_
              refine lv_aload_n hx hb dX12_ages_70 rfl (lv_at hl 2 rfl) ?_
              refine g_get S hw hinX12 (fs := fM a (M_draw_s σ53 n) h) 0 rfl rfl 6 (by decide) lk3 (v := .int (nI n)) (congrArg (fun z => some (Value.int z)) ((M_draw_s_p0_6 σ53 n).trans (f53_0_6))) dX12_ages_71 ?_
              refine g_callVi S hw (c_M_draw l D cI a (M_draw_s σ53 n) h n (by omega) (by omega)) gX12_ages_X12_draw rfl 0 rfl rfl 1 rfl (by decide +kernel) (by decide) (by decide) hl.1 rfl (Nat.le_of_ble_eq_true rfl) dX12_ages_74 (fun H locs hw => ?_)
              refine lv_istore (lv' := [(6, .int (nI (M_draw_n (M_draw_s σ53 n) n))), (5, .int (nI (M_draw_n σ53 n))), (4, .int (nI i53)), (0, .ref (a 0)), (1, .int (nI years.toNatClampNeg)), (2, .int seed), (3, .int what)]) hx hb dX12_ages_77 hl (by decide) rfl (fun ls hl => ?_)
              have d2 := M_draw_lt (M_draw_s σ53 n) hn0
              refine lv_iload hx hb dX12_ages_79 (lv_at hl 1 rfl) ?_
              refine lv_iload hx hb dX12_ages_81 (lv_at hl 0 rfl) ?_
              refine ln_eq (x := (M_draw_n σ53 n)) (y := (M_draw_n (M_draw_s σ53 n) n)) hx hb (by omega) (by omega) (tgt := 100) dX12_ages_83 (by decide) (fun c_6 => ?_) (fun c_6 => ?_)
              · refine lv_aload_n hx hb dX12_ages_100 rfl (lv_at hl 3 rfl) ?_
                refine g_callVv S hw (c_M_passYear l D cI a (M_draw_s (M_draw_s σ53 n) n) h n (((M_draw_s_p0_6 (M_draw_s σ53 n) n).trans (M_draw_s_p0_6 σ53 n)).trans (f53_0_6)) (by omega)) gX12_ages_X12_passYear rfl 0 rfl rfl 0 rfl (by decide +kernel) (by decide) (by decide) hl.1 rfl (Nat.le_of_ble_eq_true rfl) dX12_ages_101 (fun H locs hw => ?_)
                refine lv_iinc (v := nI (i53 + 1)) (lv' := [(4, .int (nI (i53 + 1))), (6, .int (nI (M_draw_n (M_draw_s σ53 n) n))), (5, .int (nI (M_draw_n σ53 n))), (0, .ref (a 0)), (1, .int (nI years.toNatClampNeg)), (2, .int seed), (3, .int what)]) hx hb dX12_ages_104 hl (k := 2) rfl (nI_1 _) (by decide) rfl (fun ls hl => ?_)
                refine lv_goto (tgt := 53) hx hb dX12_ages_107 (by decide) ?_
                exact ih53 (i53 + 1) (M_passYear_s (M_draw_s (M_draw_s σ53 n) n) n) _ _ _ (by omega) (((congrFun (M_passYear_s_k0 (M_draw_s (M_draw_s σ53 n) n) n) 6).trans ((M_draw_s_p0_6 (M_draw_s σ53 n) n).trans (M_draw_s_p0_6 σ53 n))).trans (f53_0_6)) (by have q := hF53; simp only [M_ages_L53, M_ages_S53_0, if_pos c_6] at q; exact q) hw (lv_sub hl [0, 3, 4, 5, 6] rfl)
              · refine lv_aload_n hx hb dX12_ages_86 rfl (lv_at hl 3 rfl) ?_
                refine lv_iload hx hb dX12_ages_87 (lv_at hl 1 rfl) ?_
                refine lv_iload hx hb dX12_ages_89 (lv_at hl 0 rfl) ?_
                refine lv_aload_n hx hb dX12_ages_91 rfl (lv_at hl 3 rfl) ?_
                refine g_get S hw hinX12 (fs := fM a (M_draw_s (M_draw_s σ53 n) n) h) 0 rfl rfl 7 (by decide) lk4 (v := .int (σ53 0 7)) (congrArg (fun z => some (Value.int z)) ((M_draw_s_p0_7 (M_draw_s σ53 n) n).trans (M_draw_s_p0_7 σ53 n))) dX12_ages_92 ?_
                refine g_callVi S hw (c_M_marry l D cI a (M_draw_s (M_draw_s σ53 n) n) h (M_draw_n σ53 n) (M_draw_n (M_draw_s σ53 n) n) (σ53 0 7) (by omega) (by omega)) gX12_ages_X12_marry rfl 0 rfl rfl 3 rfl (by decide +kernel) (by decide) (by decide) hl.1 rfl (Nat.le_of_ble_eq_true rfl) dX12_ages_95 (fun H locs hw => ?_)
                refine lv_istore (lv' := [(7, .int (M_marry_r (M_draw_s (M_draw_s σ53 n) n) (M_draw_n σ53 n) (M_draw_n (M_draw_s σ53 n) n) (σ53 0 7))), (6, .int (nI (M_draw_n (M_draw_s σ53 n) n))), (5, .int (nI (M_draw_n σ53 n))), (4, .int (nI i53)), (0, .ref (a 0)), (1, .int (nI years.toNatClampNeg)), (2, .int seed), (3, .int what)]) hx hb dX12_ages_98 hl (by decide) rfl (fun ls hl => ?_)
                refine lv_aload_n hx hb dX12_ages_100 rfl (lv_at hl 4 rfl) ?_
                refine g_callVv S hw (c_M_passYear l D cI a (M_marry_s (M_draw_s (M_draw_s σ53 n) n) (M_draw_n σ53 n) (M_draw_n (M_draw_s σ53 n) n) (σ53 0 7)) h n (((congrFun (M_marry_s_k0 (M_draw_s (M_draw_s σ53 n) n) (M_draw_n σ53 n) (M_draw_n (M_draw_s σ53 n) n) (σ53 0 7)) 6).trans ((M_draw_s_p0_6 (M_draw_s σ53 n) n).trans (M_draw_s_p0_6 σ53 n))).trans (f53_0_6)) (by omega)) gX12_ages_X12_passYear rfl 0 rfl rfl 0 rfl (by decide +kernel) (by decide) (by decide) hl.1 rfl (Nat.le_of_ble_eq_true rfl) dX12_ages_101 (fun H locs hw => ?_)
                refine lv_iinc (v := nI (i53 + 1)) (lv' := [(4, .int (nI (i53 + 1))), (7, .int (M_marry_r (M_draw_s (M_draw_s σ53 n) n) (M_draw_n σ53 n) (M_draw_n (M_draw_s σ53 n) n) (σ53 0 7))), (6, .int (nI (M_draw_n (M_draw_s σ53 n) n))), (5, .int (nI (M_draw_n σ53 n))), (0, .ref (a 0)), (1, .int (nI years.toNatClampNeg)), (2, .int seed), (3, .int what)]) hx hb dX12_ages_104 hl (k := 3) rfl (nI_1 _) (by decide) rfl (fun ls hl => ?_)
                refine lv_goto (tgt := 53) hx hb dX12_ages_107 (by decide) ?_
                exact ih53 (i53 + 1) (M_passYear_s (M_marry_s (M_draw_s (M_draw_s σ53 n) n) (M_draw_n σ53 n) (M_draw_n (M_draw_s σ53 n) n) (σ53 0 7)) n) _ _ _ (by omega) (((congrFun (M_passYear_s_k0 (M_marry_s (M_draw_s (M_draw_s σ53 n) n) (M_draw_n σ53 n) (M_draw_n (M_draw_s σ53 n) n) (σ53 0 7)) n) 6).trans ((congrFun (M_marry_s_k0 (M_draw_s (M_draw_s σ53 n) n) (M_draw_n σ53 n) (M_draw_n (M_draw_s σ53 n) n) (σ53 0 7)) 6).trans ((M_draw_s_p0_6 (M_draw_s σ53 n) n).trans (M_draw_s_p0_6 σ53 n)))).trans (f53_0_6)) (by have q := hF53; simp only [M_ages_L53, M_ages_S53_0, if_neg c_6] at q; exact q) hw (lv_sub hl [0, 4, 5, 6, 7] rfl)
          exact L53 years.toNatClampNeg 0 (up2 (M_layAside_s σ) 0 25 seed) _ _ _ (by omega) (((up2_rp (by decide)).trans (congrFun (M_layAside_s_k0 σ) 6)).trans (hn)) rfl hw (lv_sub hl [0, 1, 2, 3, 4] rfl)
        · refine lv_bipush (v := (-103)) hx hb dX12_ages_38 (by decide) ?_
          exact g_iret S hr hlk hw (by simp only [M_ages_r, if_neg c_1, if_neg c_2, if_neg c_3, if_neg c_4]) (by simp only [M_ages_s, if_neg c_1, if_neg c_2, if_neg c_3, if_neg c_4]) dX12_ages_40
      · refine lv_bipush (v := (-102)) hx hb dX12_ages_28 (by decide) ?_
        exact g_iret S hr hlk hw (by simp only [M_ages_r, if_neg c_1, if_neg c_2, if_pos c_3]) (by simp only [M_ages_s, if_neg c_1, if_neg c_2, if_pos c_3]) dX12_ages_30
