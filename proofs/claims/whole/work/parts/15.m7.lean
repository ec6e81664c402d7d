def M_fault_r (σ : Nat → Nat → Int32) (pm : Nat) : Int32 := nI (M_faultOf_n σ pm)
def M_fault_s (σ : Nat → Nat → Int32) (pm : Nat) : Nat → Nat → Int32 := M_faultOf_s σ pm
theorem M_fault_s_k1 (σ : Nat → Nat → Int32) (pm : Nat) : M_fault_s σ pm 1 = σ 1 := by
  unfold M_fault_s
  exact M_faultOf_s_k1 σ pm
theorem M_fault_s_k3 (σ : Nat → Nat → Int32) (pm : Nat) : M_fault_s σ pm 3 = σ 3 := by
  unfold M_fault_s
  exact M_faultOf_s_k3 σ pm
theorem M_fault_s_k4 (σ : Nat → Nat → Int32) (pm : Nat) : M_fault_s σ pm 4 = σ 4 := by
  unfold M_fault_s
  exact M_faultOf_s_k4 σ pm
theorem M_fault_s_k5 (σ : Nat → Nat → Int32) (pm : Nat) : M_fault_s σ pm 5 = σ 5 := by
  unfold M_fault_s
  exact M_faultOf_s_k5 σ pm
theorem M_fault_s_k6 (σ : Nat → Nat → Int32) (pm : Nat) : M_fault_s σ pm 6 = σ 6 := by
  unfold M_fault_s
  exact M_faultOf_s_k6 σ pm
theorem M_fault_s_k7 (σ : Nat → Nat → Int32) (pm : Nat) : M_fault_s σ pm 7 = σ 7 := by
  unfold M_fault_s
  exact M_faultOf_s_k7 σ pm
theorem M_fault_s_k8 (σ : Nat → Nat → Int32) (pm : Nat) : M_fault_s σ pm 8 = σ 8 := by
  unfold M_fault_s
  exact M_faultOf_s_k8 σ pm
theorem M_fault_s_k9 (σ : Nat → Nat → Int32) (pm : Nat) : M_fault_s σ pm 9 = σ 9 := by
  unfold M_fault_s
  exact M_faultOf_s_k9 σ pm
theorem M_fault_s_k10 (σ : Nat → Nat → Int32) (pm : Nat) : M_fault_s σ pm 10 = σ 10 := by
  unfold M_fault_s
  exact M_faultOf_s_k10 σ pm
theorem M_fault_s_k11 (σ : Nat → Nat → Int32) (pm : Nat) : M_fault_s σ pm 11 = σ 11 := by
  unfold M_fault_s
  exact M_faultOf_s_k11 σ pm
theorem M_fault_s_k12 (σ : Nat → Nat → Int32) (pm : Nat) : M_fault_s σ pm 12 = σ 12 := by
  unfold M_fault_s
  exact M_faultOf_s_k12 σ pm
theorem M_fault_s_k13 (σ : Nat → Nat → Int32) (pm : Nat) : M_fault_s σ pm 13 = σ 13 := by
  unfold M_fault_s
  exact M_faultOf_s_k13 σ pm
theorem M_fault_s_k14 (σ : Nat → Nat → Int32) (pm : Nat) : M_fault_s σ pm 14 = σ 14 := by
  unfold M_fault_s
  exact M_faultOf_s_k14 σ pm
theorem M_fault_s_k15 (σ : Nat → Nat → Int32) (pm : Nat) : M_fault_s σ pm 15 = σ 15 := by
  unfold M_fault_s
  exact M_faultOf_s_k15 σ pm
theorem M_fault_s_k16 (σ : Nat → Nat → Int32) (pm : Nat) : M_fault_s σ pm 16 = σ 16 := by
  unfold M_fault_s
  exact M_faultOf_s_k16 σ pm
theorem M_fault_s_k17 (σ : Nat → Nat → Int32) (pm : Nat) : M_fault_s σ pm 17 = σ 17 := by
  unfold M_fault_s
  exact M_faultOf_s_k17 σ pm
theorem M_fault_s_k18 (σ : Nat → Nat → Int32) (pm : Nat) : M_fault_s σ pm 18 = σ 18 := by
  unfold M_fault_s
  exact M_faultOf_s_k18 σ pm
theorem M_fault_s_k19 (σ : Nat → Nat → Int32) (pm : Nat) : M_fault_s σ pm 19 = σ 19 := by
  unfold M_fault_s
  exact M_faultOf_s_k19 σ pm
set_option maxHeartbeats 4000000 in
set_option maxRecDepth 100000 in
theorem c_M_fault (l : Launch) (D : va_G) (cI : ClassId) (a : Nat → Nat) (σ : Nat → Nat → Int32) (h : Int64) (pm : Nat) (hpm : σ 0 1 = nI pm) (hpmb : pm ≤ 16) : gI l D [(cI, .int)] yX12_fault wsX12_fault 4 [.ref (a 0)] (wM cI a σ h) (M_fault_r σ pm) (wM cI a (M_fault_s σ pm) h) := by
  refine g_start (cc := cX12_fault) (maxL := 1) (ret := some .int) (Qc := gQi D [(cI, .int)] (M_fault_r σ pm) (wM cI a (M_fault_s σ pm) h)) (by decide) rfl (Nat.le_of_ble_eq_true rfl) ?_
  intro p e s m below meth C A ls S hr hlk hw hl
  obtain ⟨hx, hb, hml, hown, hts⟩ := id S
  have hl : lv_has ls 1 [(0, .ref (a 0))] := hl
  refine lv_aload_n hx hb dX12_fault_0 rfl (lv_at hl 0 rfl) ?_
  refine g_callVi S hw (c_M_faultOf l D cI a σ h pm (hpm) (by omega)) gX12_fault_X12_faultOf rfl 0 rfl rfl 0 rfl (by decide +kernel) (by decide) (by decide) hl.1 rfl (Nat.le_of_ble_eq_true rfl) dX12_fault_1 (fun H locs hw => ?_)
  exact g_iret S hr hlk hw (by simp only [M_fault_r]) (by simp only [M_fault_s]) dX12_fault_4

def M_hills_S32_0 (pm : Nat) (i32 : Nat) (σ32 : Nat → Nat → Int32) : Nat → Nat → Int32 := up2 (up2 σ32 3 i32 (σ32 2 (2 * i32))) 4 i32 (σ32 2 ((2 * i32) + 1))
def M_hills_L32 (pm : Nat) : Nat → Nat → (Nat → Nat → Int32) → (Nat → Nat → Int32)
  | 0, _, σ32 => σ32
  | n32 + 1, i32, σ32 => M_hills_L32 pm n32 (i32 + 1) (M_hills_S32_0 pm i32 σ32)
theorem M_hills_S32_k0 (pm : Nat) (i32 : Nat) (σ32 : Nat → Nat → Int32) : M_hills_S32_0 pm i32 σ32 0 = σ32 0 := by
  unfold M_hills_S32_0
  exact (up2_n _ _ _ (by decide)).trans (up2_n _ _ _ (by decide))
theorem M_hills_L32_k0 (pm : Nat) : ∀ (n32 i32 : Nat) (σ32 : Nat → Nat → Int32), (M_hills_L32 pm n32 i32 σ32) 0 = σ32 0 := by
  intro n32
  induction n32 with
  | zero => intros; rfl
  | succ n32 ih => intro i32 σ32; exact (ih (i32 + 1) (M_hills_S32_0 pm i32 σ32)).trans (M_hills_S32_k0 pm i32 σ32)
theorem M_hills_S32_k1 (pm : Nat) (i32 : Nat) (σ32 : Nat → Nat → Int32) : M_hills_S32_0 pm i32 σ32 1 = σ32 1 := by
  unfold M_hills_S32_0
  exact (up2_n _ _ _ (by decide)).trans (up2_n _ _ _ (by decide))
theorem M_hills_L32_k1 (pm : Nat) : ∀ (n32 i32 : Nat) (σ32 : Nat → Nat → Int32), (M_hills_L32 pm n32 i32 σ32) 1 = σ32 1 := by
  intro n32
  induction n32 with
  | zero => intros; rfl
  | succ n32 ih => intro i32 σ32; exact (ih (i32 + 1) (M_hills_S32_0 pm i32 σ32)).trans (M_hills_S32_k1 pm i32 σ32)
theorem M_hills_S32_k2 (pm : Nat) (i32 : Nat) (σ32 : Nat → Nat → Int32) : M_hills_S32_0 pm i32 σ32 2 = σ32 2 := by
  unfold M_hills_S32_0
  exact (up2_n _ _ _ (by decide)).trans (up2_n _ _ _ (by decide))
theorem M_hills_L32_k2 (pm : Nat) : ∀ (n32 i32 : Nat) (σ32 : Nat → Nat → Int32), (M_hills_L32 pm n32 i32 σ32) 2 = σ32 2 := by
  intro n32
  induction n32 with
  | zero => intros; rfl
  | succ n32 ih => intro i32 σ32; exact (ih (i32 + 1) (M_hills_S32_0 pm i32 σ32)).trans (M_hills_S32_k2 pm i32 σ32)
theorem M_hills_S32_k5 (pm : Nat) (i32 : Nat) (σ32 : Nat → Nat → Int32) : M_hills_S32_0 pm i32 σ32 5 = σ32 5 := by
  unfold M_hills_S32_0
  exact (up2_n _ _ _ (by decide)).trans (up2_n _ _ _ (by decide))
theorem M_hills_L32_k5 (pm : Nat) : ∀ (n32 i32 : Nat) (σ32 : Nat → Nat → Int32), (M_hills_L32 pm n32 i32 σ32) 5 = σ32 5 := by
  intro n32
  induction n32 with
  | zero => intros; rfl
  | succ n32 ih => intro i32 σ32; exact (ih (i32 + 1) (M_hills_S32_0 pm i32 σ32)).trans (M_hills_S32_k5 pm i32 σ32)
theorem M_hills_S32_k6 (pm : Nat) (i32 : Nat) (σ32 : Nat → Nat → Int32) : M_hills_S32_0 pm i32 σ32 6 = σ32 6 := by
  unfold M_hills_S32_0
  exact (up2_n _ _ _ (by decide)).trans (up2_n _ _ _ (by decide))
theorem M_hills_L32_k6 (pm : Nat) : ∀ (n32 i32 : Nat) (σ32 : Nat → Nat → Int32), (M_hills_L32 pm n32 i32 σ32) 6 = σ32 6 := by
  intro n32
  induction n32 with
  | zero => intros; rfl
  | succ n32 ih => intro i32 σ32; exact (ih (i32 + 1) (M_hills_S32_0 pm i32 σ32)).trans (M_hills_S32_k6 pm i32 σ32)
theorem M_hills_S32_k7 (pm : Nat) (i32 : Nat) (σ32 : Nat → Nat → Int32) : M_hills_S32_0 pm i32 σ32 7 = σ32 7 := by
  unfold M_hills_S32_0
  exact (up2_n _ _ _ (by decide)).trans (up2_n _ _ _ (by decide))
theorem M_hills_L32_k7 (pm : Nat) : ∀ (n32 i32 : Nat) (σ32 : Nat → Nat → Int32), (M_hills_L32 pm n32 i32 σ32) 7 = σ32 7 := by
  intro n32
  induction n32 with
  | zero => intros; rfl
  | succ n32 ih => intro i32 σ32; exact (ih (i32 + 1) (M_hills_S32_0 pm i32 σ32)).trans (M_hills_S32_k7 pm i32 σ32)
theorem M_hills_S32_k8 (pm : Nat) (i32 : Nat) (σ32 : Nat → Nat → Int32) : M_hills_S32_0 pm i32 σ32 8 = σ32 8 := by
  unfold M_hills_S32_0
  exact (up2_n _ _ _ (by decide)).trans (up2_n _ _ _ (by decide))
theorem M_hills_L32_k8 (pm : Nat) : ∀ (n32 i32 : Nat) (σ32 : Nat → Nat → Int32), (M_hills_L32 pm n32 i32 σ32) 8 = σ32 8 := by
  intro n32
  induction n32 with
  | zero => intros; rfl
  | succ n32 ih => intro i32 σ32; exact (ih (i32 + 1) (M_hills_S32_0 pm i32 σ32)).trans (M_hills_S32_k8 pm i32 σ32)
theorem M_hills_S32_k9 (pm : Nat) (i32 : Nat) (σ32 : Nat → Nat → Int32) : M_hills_S32_0 pm i32 σ32 9 = σ32 9 := by
  unfold M_hills_S32_0
  exact (up2_n _ _ _ (by decide)).trans (up2_n _ _ _ (by decide))
theorem M_hills_L32_k9 (pm : Nat) : ∀ (n32 i32 : Nat) (σ32 : Nat → Nat → Int32), (M_hills_L32 pm n32 i32 σ32) 9 = σ32 9 := by
  intro n32
  induction n32 with
  | zero => intros; rfl
  | succ n32 ih => intro i32 σ32; exact (ih (i32 + 1) (M_hills_S32_0 pm i32 σ32)).trans (M_hills_S32_k9 pm i32 σ32)
theorem M_hills_S32_k10 (pm : Nat) (i32 : Nat) (σ32 : Nat → Nat → Int32) : M_hills_S32_0 pm i32 σ32 10 = σ32 10 := by
  unfold M_hills_S32_0
  exact (up2_n _ _ _ (by decide)).trans (up2_n _ _ _ (by decide))
theorem M_hills_L32_k10 (pm : Nat) : ∀ (n32 i32 : Nat) (σ32 : Nat → Nat → Int32), (M_hills_L32 pm n32 i32 σ32) 10 = σ32 10 := by
  intro n32
  induction n32 with
  | zero => intros; rfl
  | succ n32 ih => intro i32 σ32; exact (ih (i32 + 1) (M_hills_S32_0 pm i32 σ32)).trans (M_hills_S32_k10 pm i32 σ32)
theorem M_hills_S32_k11 (pm : Nat) (i32 : Nat) (σ32 : Nat → Nat → Int32) : M_hills_S32_0 pm i32 σ32 11 = σ32 11 := by
  unfold M_hills_S32_0
  exact (up2_n _ _ _ (by decide)).trans (up2_n _ _ _ (by decide))
theorem M_hills_L32_k11 (pm : Nat) : ∀ (n32 i32 : Nat) (σ32 : Nat → Nat → Int32), (M_hills_L32 pm n32 i32 σ32) 11 = σ32 11 := by
  intro n32
  induction n32 with
  | zero => intros; rfl
  | succ n32 ih => intro i32 σ32; exact (ih (i32 + 1) (M_hills_S32_0 pm i32 σ32)).trans (M_hills_S32_k11 pm i32 σ32)
theorem M_hills_S32_k12 (pm : Nat) (i32 : Nat) (σ32 : Nat → Nat → Int32) : M_hills_S32_0 pm i32 σ32 12 = σ32 12 := by
  unfold M_hills_S32_0
  exact (up2_n _ _ _ (by decide)).trans (up2_n _ _ _ (by decide))
theorem M_hills_L32_k12 (pm : Nat) : ∀ (n32 i32 : Nat) (σ32 : Nat → Nat → Int32), (M_hills_L32 pm n32 i32 σ32) 12 = σ32 12 := by
  intro n32
  induction n32 with
  | zero => intros; rfl
  | succ n32 ih => intro i32 σ32; exact (ih (i32 + 1) (M_hills_S32_0 pm i32 σ32)).trans (M_hills_S32_k12 pm i32 σ32)
theorem M_hills_S32_k13 (pm : Nat) (i32 : Nat) (σ32 : Nat → Nat → Int32) : M_hills_S32_0 pm i32 σ32 13 = σ32 13 := by
  unfold M_hills_S32_0
  exact (up2_n _ _ _ (by decide)).trans (up2_n _ _ _ (by decide))
theorem M_hills_L32_k13 (pm : Nat) : ∀ (n32 i32 : Nat) (σ32 : Nat → Nat → Int32), (M_hills_L32 pm n32 i32 σ32) 13 = σ32 13 := by
  intro n32
  induction n32 with
  | zero => intros; rfl
  | succ n32 ih => intro i32 σ32; exact (ih (i32 + 1) (M_hills_S32_0 pm i32 σ32)).trans (M_hills_S32_k13 pm i32 σ32)
theorem M_hills_S32_k14 (pm : Nat) (i32 : Nat) (σ32 : Nat → Nat → Int32) : M_hills_S32_0 pm i32 σ32 14 = σ32 14 := by
  unfold M_hills_S32_0
  exact (up2_n _ _ _ (by decide)).trans (up2_n _ _ _ (by decide))
theorem M_hills_L32_k14 (pm : Nat) : ∀ (n32 i32 : Nat) (σ32 : Nat → Nat → Int32), (M_hills_L32 pm n32 i32 σ32) 14 = σ32 14 := by
  intro n32
  induction n32 with
  | zero => intros; rfl
  | succ n32 ih => intro i32 σ32; exact (ih (i32 + 1) (M_hills_S32_0 pm i32 σ32)).trans (M_hills_S32_k14 pm i32 σ32)
theorem M_hills_S32_k15 (pm : Nat) (i32 : Nat) (σ32 : Nat → Nat → Int32) : M_hills_S32_0 pm i32 σ32 15 = σ32 15 := by
  unfold M_hills_S32_0
  exact (up2_n _ _ _ (by decide)).trans (up2_n _ _ _ (by decide))
theorem M_hills_L32_k15 (pm : Nat) : ∀ (n32 i32 : Nat) (σ32 : Nat → Nat → Int32), (M_hills_L32 pm n32 i32 σ32) 15 = σ32 15 := by
  intro n32
  induction n32 with
  | zero => intros; rfl
  | succ n32 ih => intro i32 σ32; exact (ih (i32 + 1) (M_hills_S32_0 pm i32 σ32)).trans (M_hills_S32_k15 pm i32 σ32)
theorem M_hills_S32_k16 (pm : Nat) (i32 : Nat) (σ32 : Nat → Nat → Int32) : M_hills_S32_0 pm i32 σ32 16 = σ32 16 := by
  unfold M_hills_S32_0
  exact (up2_n _ _ _ (by decide)).trans (up2_n _ _ _ (by decide))
theorem M_hills_L32_k16 (pm : Nat) : ∀ (n32 i32 : Nat) (σ32 : Nat → Nat → Int32), (M_hills_L32 pm n32 i32 σ32) 16 = σ32 16 := by
  intro n32
  induction n32 with
  | zero => intros; rfl
  | succ n32 ih => intro i32 σ32; exact (ih (i32 + 1) (M_hills_S32_0 pm i32 σ32)).trans (M_hills_S32_k16 pm i32 σ32)
theorem M_hills_S32_k17 (pm : Nat) (i32 : Nat) (σ32 : Nat → Nat → Int32) : M_hills_S32_0 pm i32 σ32 17 = σ32 17 := by
  unfold M_hills_S32_0
  exact (up2_n _ _ _ (by decide)).trans (up2_n _ _ _ (by decide))
theorem M_hills_L32_k17 (pm : Nat) : ∀ (n32 i32 : Nat) (σ32 : Nat → Nat → Int32), (M_hills_L32 pm n32 i32 σ32) 17 = σ32 17 := by
  intro n32
  induction n32 with
  | zero => intros; rfl
  | succ n32 ih => intro i32 σ32; exact (ih (i32 + 1) (M_hills_S32_0 pm i32 σ32)).trans (M_hills_S32_k17 pm i32 σ32)
theorem M_hills_S32_k18 (pm : Nat) (i32 : Nat) (σ32 : Nat → Nat → Int32) : M_hills_S32_0 pm i32 σ32 18 = σ32 18 := by
  unfold M_hills_S32_0
  exact (up2_n _ _ _ (by decide)).trans (up2_n _ _ _ (by decide))
theorem M_hills_L32_k18 (pm : Nat) : ∀ (n32 i32 : Nat) (σ32 : Nat → Nat → Int32), (M_hills_L32 pm n32 i32 σ32) 18 = σ32 18 := by
  intro n32
  induction n32 with
  | zero => intros; rfl
  | succ n32 ih => intro i32 σ32; exact (ih (i32 + 1) (M_hills_S32_0 pm i32 σ32)).trans (M_hills_S32_k18 pm i32 σ32)
theorem M_hills_S32_k19 (pm : Nat) (i32 : Nat) (σ32 : Nat → Nat → Int32) : M_hills_S32_0 pm i32 σ32 19 = σ32 19 := by
  unfold M_hills_S32_0
  exact (up2_n _ _ _ (by decide)).trans (up2_n _ _ _ (by decide))
theorem M_hills_L32_k19 (pm : Nat) : ∀ (n32 i32 : Nat) (σ32 : Nat → Nat → Int32), (M_hills_L32 pm n32 i32 σ32) 19 = σ32 19 := by
  intro n32
  induction n32 with
  | zero => intros; rfl
  | succ n32 ih => intro i32 σ32; exact (ih (i32 + 1) (M_hills_S32_0 pm i32 σ32)).trans (M_hills_S32_k19 pm i32 σ32)
def M_hills_S78_0 (pm : Nat) (i78 : Nat) (σ78 : Nat → Nat → Int32) : Nat → Nat → Int32 := up2 σ78 5 i78 0
def M_hills_L78 (pm : Nat) : Nat → Nat → (Nat → Nat → Int32) → (Nat → Nat → Int32)
  | 0, _, σ78 => σ78
  | n78 + 1, i78, σ78 => M_hills_L78 pm n78 (i78 + 1) (M_hills_S78_0 pm i78 σ78)
theorem M_hills_S78_k0 (pm : Nat) (i78 : Nat) (σ78 : Nat → Nat → Int32) : M_hills_S78_0 pm i78 σ78 0 = σ78 0 := by
  unfold M_hills_S78_0
  exact up2_n _ _ _ (by decide)
theorem M_hills_L78_k0 (pm : Nat) : ∀ (n78 i78 : Nat) (σ78 : Nat → Nat → Int32), (M_hills_L78 pm n78 i78 σ78) 0 = σ78 0 := by
  intro n78
  induction n78 with
  | zero => intros; rfl
  | succ n78 ih => intro i78 σ78; exact (ih (i78 + 1) (M_hills_S78_0 pm i78 σ78)).trans (M_hills_S78_k0 pm i78 σ78)
theorem M_hills_S78_k1 (pm : Nat) (i78 : Nat) (σ78 : Nat → Nat → Int32) : M_hills_S78_0 pm i78 σ78 1 = σ78 1 := by
  unfold M_hills_S78_0
  exact up2_n _ _ _ (by decide)
theorem M_hills_L78_k1 (pm : Nat) : ∀ (n78 i78 : Nat) (σ78 : Nat → Nat → Int32), (M_hills_L78 pm n78 i78 σ78) 1 = σ78 1 := by
  intro n78
  induction n78 with
  | zero => intros; rfl
  | succ n78 ih => intro i78 σ78; exact (ih (i78 + 1) (M_hills_S78_0 pm i78 σ78)).trans (M_hills_S78_k1 pm i78 σ78)
theorem M_hills_S78_k2 (pm : Nat) (i78 : Nat) (σ78 : Nat → Nat → Int32) : M_hills_S78_0 pm i78 σ78 2 = σ78 2 := by
  unfold M_hills_S78_0
  exact up2_n _ _ _ (by decide)
theorem M_hills_L78_k2 (pm : Nat) : ∀ (n78 i78 : Nat) (σ78 : Nat → Nat → Int32), (M_hills_L78 pm n78 i78 σ78) 2 = σ78 2 := by
  intro n78
  induction n78 with
  | zero => intros; rfl
  | succ n78 ih => intro i78 σ78; exact (ih (i78 + 1) (M_hills_S78_0 pm i78 σ78)).trans (M_hills_S78_k2 pm i78 σ78)
theorem M_hills_S78_k3 (pm : Nat) (i78 : Nat) (σ78 : Nat → Nat → Int32) : M_hills_S78_0 pm i78 σ78 3 = σ78 3 := by
  unfold M_hills_S78_0
  exact up2_n _ _ _ (by decide)
theorem M_hills_L78_k3 (pm : Nat) : ∀ (n78 i78 : Nat) (σ78 : Nat → Nat → Int32), (M_hills_L78 pm n78 i78 σ78) 3 = σ78 3 := by
  intro n78
  induction n78 with
  | zero => intros; rfl
  | succ n78 ih => intro i78 σ78; exact (ih (i78 + 1) (M_hills_S78_0 pm i78 σ78)).trans (M_hills_S78_k3 pm i78 σ78)
theorem M_hills_S78_k4 (pm : Nat) (i78 : Nat) (σ78 : Nat → Nat → Int32) : M_hills_S78_0 pm i78 σ78 4 = σ78 4 := by
  unfold M_hills_S78_0
  exact up2_n _ _ _ (by decide)
theorem M_hills_L78_k4 (pm : Nat) : ∀ (n78 i78 : Nat) (σ78 : Nat → Nat → Int32), (M_hills_L78 pm n78 i78 σ78) 4 = σ78 4 := by
  intro n78
  induction n78 with
  | zero => intros; rfl
  | succ n78 ih => intro i78 σ78; exact (ih (i78 + 1) (M_hills_S78_0 pm i78 σ78)).trans (M_hills_S78_k4 pm i78 σ78)
theorem M_hills_S78_k6 (pm : Nat) (i78 : Nat) (σ78 : Nat → Nat → Int32) : M_hills_S78_0 pm i78 σ78 6 = σ78 6 := by
  unfold M_hills_S78_0
  exact up2_n _ _ _ (by decide)
theorem M_hills_L78_k6 (pm : Nat) : ∀ (n78 i78 : Nat) (σ78 : Nat → Nat → Int32), (M_hills_L78 pm n78 i78 σ78) 6 = σ78 6 := by
  intro n78
  induction n78 with
  | zero => intros; rfl
  | succ n78 ih => intro i78 σ78; exact (ih (i78 + 1) (M_hills_S78_0 pm i78 σ78)).trans (M_hills_S78_k6 pm i78 σ78)
theorem M_hills_S78_k7 (pm : Nat) (i78 : Nat) (σ78 : Nat → Nat → Int32) : M_hills_S78_0 pm i78 σ78 7 = σ78 7 := by
  unfold M_hills_S78_0
  exact up2_n _ _ _ (by decide)
theorem M_hills_L78_k7 (pm : Nat) : ∀ (n78 i78 : Nat) (σ78 : Nat → Nat → Int32), (M_hills_L78 pm n78 i78 σ78) 7 = σ78 7 := by
  intro n78
  induction n78 with
  | zero => intros; rfl
  | succ n78 ih => intro i78 σ78; exact (ih (i78 + 1) (M_hills_S78_0 pm i78 σ78)).trans (M_hills_S78_k7 pm i78 σ78)
theorem M_hills_S78_k8 (pm : Nat) (i78 : Nat) (σ78 : Nat → Nat → Int32) : M_hills_S78_0 pm i78 σ78 8 = σ78 8 := by
  unfold M_hills_S78_0
  exact up2_n _ _ _ (by decide)
theorem M_hills_L78_k8 (pm : Nat) : ∀ (n78 i78 : Nat) (σ78 : Nat → Nat → Int32), (M_hills_L78 pm n78 i78 σ78) 8 = σ78 8 := by
  intro n78
  induction n78 with
  | zero => intros; rfl
  | succ n78 ih => intro i78 σ78; exact (ih (i78 + 1) (M_hills_S78_0 pm i78 σ78)).trans (M_hills_S78_k8 pm i78 σ78)
theorem M_hills_S78_k9 (pm : Nat) (i78 : Nat) (σ78 : Nat → Nat → Int32) : M_hills_S78_0 pm i78 σ78 9 = σ78 9 := by
  unfold M_hills_S78_0
  exact up2_n _ _ _ (by decide)
theorem M_hills_L78_k9 (pm : Nat) : ∀ (n78 i78 : Nat) (σ78 : Nat → Nat → Int32), (M_hills_L78 pm n78 i78 σ78) 9 = σ78 9 := by
  intro n78
  induction n78 with
  | zero => intros; rfl
  | succ n78 ih => intro i78 σ78; exact (ih (i78 + 1) (M_hills_S78_0 pm i78 σ78)).trans (M_hills_S78_k9 pm i78 σ78)
theorem M_hills_S78_k10 (pm : Nat) (i78 : Nat) (σ78 : Nat → Nat → Int32) : M_hills_S78_0 pm i78 σ78 10 = σ78 10 := by
  unfold M_hills_S78_0
  exact up2_n _ _ _ (by decide)
theorem M_hills_L78_k10 (pm : Nat) : ∀ (n78 i78 : Nat) (σ78 : Nat → Nat → Int32), (M_hills_L78 pm n78 i78 σ78) 10 = σ78 10 := by
  intro n78
  induction n78 with
  | zero => intros; rfl
  | succ n78 ih => intro i78 σ78; exact (ih (i78 + 1) (M_hills_S78_0 pm i78 σ78)).trans (M_hills_S78_k10 pm i78 σ78)
theorem M_hills_S78_k11 (pm : Nat) (i78 : Nat) (σ78 : Nat → Nat → Int32) : M_hills_S78_0 pm i78 σ78 11 = σ78 11 := by
  unfold M_hills_S78_0
  exact up2_n _ _ _ (by decide)
theorem M_hills_L78_k11 (pm : Nat) : ∀ (n78 i78 : Nat) (σ78 : Nat → Nat → Int32), (M_hills_L78 pm n78 i78 σ78) 11 = σ78 11 := by
  intro n78
  induction n78 with
  | zero => intros; rfl
  | succ n78 ih => intro i78 σ78; exact (ih (i78 + 1) (M_hills_S78_0 pm i78 σ78)).trans (M_hills_S78_k11 pm i78 σ78)
theorem M_hills_S78_k12 (pm : Nat) (i78 : Nat) (σ78 : Nat → Nat → Int32) : M_hills_S78_0 pm i78 σ78 12 = σ78 12 := by
  unfold M_hills_S78_0
  exact up2_n _ _ _ (by decide)
theorem M_hills_L78_k12 (pm : Nat) : ∀ (n78 i78 : Nat) (σ78 : Nat → Nat → Int32), (M_hills_L78 pm n78 i78 σ78) 12 = σ78 12 := by
  intro n78
  induction n78 with
  | zero => intros; rfl
  | succ n78 ih => intro i78 σ78; exact (ih (i78 + 1) (M_hills_S78_0 pm i78 σ78)).trans (M_hills_S78_k12 pm i78 σ78)
theorem M_hills_S78_k13 (pm : Nat) (i78 : Nat) (σ78 : Nat → Nat → Int32) : M_hills_S78_0 pm i78 σ78 13 = σ78 13 := by
  unfold M_hills_S78_0
  exact up2_n _ _ _ (by decide)
theorem M_hills_L78_k13 (pm : Nat) : ∀ (n78 i78 : Nat) (σ78 : Nat → Nat → Int32), (M_hills_L78 pm n78 i78 σ78) 13 = σ78 13 := by
  intro n78
  induction n78 with
  | zero => intros; rfl
  | succ n78 ih => intro i78 σ78; exact (ih (i78 + 1) (M_hills_S78_0 pm i78 σ78)).trans (M_hills_S78_k13 pm i78 σ78)
theorem M_hills_S78_k14 (pm : Nat) (i78 : Nat) (σ78 : Nat → Nat → Int32) : M_hills_S78_0 pm i78 σ78 14 = σ78 14 := by
  unfold M_hills_S78_0
  exact up2_n _ _ _ (by decide)
theorem M_hills_L78_k14 (pm : Nat) : ∀ (n78 i78 : Nat) (σ78 : Nat → Nat → Int32), (M_hills_L78 pm n78 i78 σ78) 14 = σ78 14 := by
  intro n78
  induction n78 with
  | zero => intros; rfl
  | succ n78 ih => intro i78 σ78; exact (ih (i78 + 1) (M_hills_S78_0 pm i78 σ78)).trans (M_hills_S78_k14 pm i78 σ78)
theorem M_hills_S78_k15 (pm : Nat) (i78 : Nat) (σ78 : Nat → Nat → Int32) : M_hills_S78_0 pm i78 σ78 15 = σ78 15 := by
  unfold M_hills_S78_0
  exact up2_n _ _ _ (by decide)
theorem M_hills_L78_k15 (pm : Nat) : ∀ (n78 i78 : Nat) (σ78 : Nat → Nat → Int32), (M_hills_L78 pm n78 i78 σ78) 15 = σ78 15 := by
  intro n78
  induction n78 with
  | zero => intros; rfl
  | succ n78 ih => intro i78 σ78; exact (ih (i78 + 1) (M_hills_S78_0 pm i78 σ78)).trans (M_hills_S78_k15 pm i78 σ78)
theorem M_hills_S78_k16 (pm : Nat) (i78 : Nat) (σ78 : Nat → Nat → Int32) : M_hills_S78_0 pm i78 σ78 16 = σ78 16 := by
  unfold M_hills_S78_0
  exact up2_n _ _ _ (by decide)
theorem M_hills_L78_k16 (pm : Nat) : ∀ (n78 i78 : Nat) (σ78 : Nat → Nat → Int32), (M_hills_L78 pm n78 i78 σ78) 16 = σ78 16 := by
  intro n78
  induction n78 with
  | zero => intros; rfl
  | succ n78 ih => intro i78 σ78; exact (ih (i78 + 1) (M_hills_S78_0 pm i78 σ78)).trans (M_hills_S78_k16 pm i78 σ78)
theorem M_hills_S78_k17 (pm : Nat) (i78 : Nat) (σ78 : Nat → Nat → Int32) : M_hills_S78_0 pm i78 σ78 17 = σ78 17 := by
  unfold M_hills_S78_0
  exact up2_n _ _ _ (by decide)
theorem M_hills_L78_k17 (pm : Nat) : ∀ (n78 i78 : Nat) (σ78 : Nat → Nat → Int32), (M_hills_L78 pm n78 i78 σ78) 17 = σ78 17 := by
  intro n78
  induction n78 with
  | zero => intros; rfl
  | succ n78 ih => intro i78 σ78; exact (ih (i78 + 1) (M_hills_S78_0 pm i78 σ78)).trans (M_hills_S78_k17 pm i78 σ78)
theorem M_hills_S78_k18 (pm : Nat) (i78 : Nat) (σ78 : Nat → Nat → Int32) : M_hills_S78_0 pm i78 σ78 18 = σ78 18 := by
  unfold M_hills_S78_0
  exact up2_n _ _ _ (by decide)
theorem M_hills_L78_k18 (pm : Nat) : ∀ (n78 i78 : Nat) (σ78 : Nat → Nat → Int32), (M_hills_L78 pm n78 i78 σ78) 18 = σ78 18 := by
  intro n78
  induction n78 with
  | zero => intros; rfl
  | succ n78 ih => intro i78 σ78; exact (ih (i78 + 1) (M_hills_S78_0 pm i78 σ78)).trans (M_hills_S78_k18 pm i78 σ78)
theorem M_hills_S78_k19 (pm : Nat) (i78 : Nat) (σ78 : Nat → Nat → Int32) : M_hills_S78_0 pm i78 σ78 19 = σ78 19 := by
  unfold M_hills_S78_0
  exact up2_n _ _ _ (by decide)
theorem M_hills_L78_k19 (pm : Nat) : ∀ (n78 i78 : Nat) (σ78 : Nat → Nat → Int32), (M_hills_L78 pm n78 i78 σ78) 19 = σ78 19 := by
  intro n78
  induction n78 with
  | zero => intros; rfl
  | succ n78 ih => intro i78 σ78; exact (ih (i78 + 1) (M_hills_S78_0 pm i78 σ78)).trans (M_hills_S78_k19 pm i78 σ78)
def M_hills_r (σ : Nat → Nat → Int32) (pm : Nat) : Int32 := if (M_faultOf_n σ pm) < pm then (-103) else (if (((M_faultOf_s σ pm) 0) 5) = 4 then (nI (((M_faultOf_s σ pm) 0 3).toNatClampNeg)) else (-103))
def M_hills_s (σ : Nat → Nat → Int32) (pm : Nat) : Nat → Nat → Int32 := if (M_faultOf_n σ pm) < pm then (M_faultOf_s σ pm) else (if (((M_faultOf_s σ pm) 0) 5) = 4 then (up2 (up2 (up2 (up2 (up2 (up2 (up2 (M_hills_L78 pm 16 0 (M_hills_L32 pm (((M_faultOf_s σ pm) 0 3).toNatClampNeg) 0 (up2 (M_faultOf_s σ pm) 0 6 (nI (((M_faultOf_s σ pm) 0 3).toNatClampNeg))))) 0 7 (((M_faultOf_s σ pm) 0) 4)) 0 8 0) 0 13 0) 0 15 0) 0 22 0) 0 9 ((σ 0 9) + 1)) 0 1 0) else (M_faultOf_s σ pm))
theorem M_hills_s_k1 (σ : Nat → Nat → Int32) (pm : Nat) : M_hills_s σ pm 1 = σ 1 := by
  unfold M_hills_s
  by_cases z1 : (M_faultOf_n σ pm) < pm
  · refine Eq.trans (congrFun (if_pos z1) 1) ?_
    exact M_faultOf_s_k1 σ pm
  · refine Eq.trans (congrFun (if_neg z1) 1) ?_
    by_cases z2 : (((M_faultOf_s σ pm) 0) 5) = 4
    · refine Eq.trans (congrFun (if_pos z2) 1) ?_
      exact (up2_n _ _ _ (by decide)).trans ((up2_n _ _ _ (by decide)).trans ((up2_n _ _ _ (by decide)).trans ((up2_n _ _ _ (by decide)).trans ((up2_n _ _ _ (by decide)).trans ((up2_n _ _ _ (by decide)).trans ((up2_n _ _ _ (by decide)).trans ((M_hills_L78_k1 pm 16 0 (M_hills_L32 pm (((M_faultOf_s σ pm) 0 3).toNatClampNeg) 0 (up2 (M_faultOf_s σ pm) 0 6 (nI (((M_faultOf_s σ pm) 0 3).toNatClampNeg))))).trans ((M_hills_L32_k1 pm (((M_faultOf_s σ pm) 0 3).toNatClampNeg) 0 (up2 (M_faultOf_s σ pm) 0 6 (nI (((M_faultOf_s σ pm) 0 3).toNatClampNeg)))).trans ((up2_n _ _ _ (by decide)).trans (M_faultOf_s_k1 σ pm))))))))))
    · refine Eq.trans (congrFun (if_neg z2) 1) ?_
      exact M_faultOf_s_k1 σ pm
theorem M_hills_s_k6 (σ : Nat → Nat → Int32) (pm : Nat) : M_hills_s σ pm 6 = σ 6 := by
  unfold M_hills_s
  by_cases z1 : (M_faultOf_n σ pm) < pm
  · refine Eq.trans (congrFun (if_pos z1) 6) ?_
    exact M_faultOf_s_k6 σ pm
  · refine Eq.trans (congrFun (if_neg z1) 6) ?_
    by_cases z2 : (((M_faultOf_s σ pm) 0) 5) = 4
    · refine Eq.trans (congrFun (if_pos z2) 6) ?_
      exact (up2_n _ _ _ (by decide)).trans ((up2_n _ _ _ (by decide)).trans ((up2_n _ _ _ (by decide)).trans ((up2_n _ _ _ (by decide)).trans ((up2_n _ _ _ (by decide)).trans ((up2_n _ _ _ (by decide)).trans ((up2_n _ _ _ (by decide)).trans ((M_hills_L78_k6 pm 16 0 (M_hills_L32 pm (((M_faultOf_s σ pm) 0 3).toNatClampNeg) 0 (up2 (M_faultOf_s σ pm) 0 6 (nI (((M_faultOf_s σ pm) 0 3).toNatClampNeg))))).trans ((M_hills_L32_k6 pm (((M_faultOf_s σ pm) 0 3).toNatClampNeg) 0 (up2 (M_faultOf_s σ pm) 0 6 (nI (((M_faultOf_s σ pm) 0 3).toNatClampNeg)))).trans ((up2_n _ _ _ (by decide)).trans (M_faultOf_s_k6 σ pm))))))))))
    · refine Eq.trans (congrFun (if_neg z2) 6) ?_
      exact M_faultOf_s_k6 σ pm
theorem M_hills_s_k7 (σ : Nat → Nat → Int32) (pm : Nat) : M_hills_s σ pm 7 = σ 7 := by
  unfold M_hills_s
  by_cases z1 : (M_faultOf_n σ pm) < pm
  · refine Eq.trans (congrFun (if_pos z1) 7) ?_
    exact M_faultOf_s_k7 σ pm
  · refine Eq.trans (congrFun (if_neg z1) 7) ?_
    by_cases z2 : (((M_faultOf_s σ pm) 0) 5) = 4
    · refine Eq.trans (congrFun (if_pos z2) 7) ?_
      exact (up2_n _ _ _ (by decide)).trans ((up2_n _ _ _ (by decide)).trans ((up2_n _ _ _ (by decide)).trans ((up2_n _ _ _ (by decide)).trans ((up2_n _ _ _ (by decide)).trans ((up2_n _ _ _ (by decide)).trans ((up2_n _ _ _ (by decide)).trans ((M_hills_L78_k7 pm 16 0 (M_hills_L32 pm (((M_faultOf_s σ pm) 0 3).toNatClampNeg) 0 (up2 (M_faultOf_s σ pm) 0 6 (nI (((M_faultOf_s σ pm) 0 3).toNatClampNeg))))).trans ((M_hills_L32_k7 pm (((M_faultOf_s σ pm) 0 3).toNatClampNeg) 0 (up2 (M_faultOf_s σ pm) 0 6 (nI (((M_faultOf_s σ pm) 0 3).toNatClampNeg)))).trans ((up2_n _ _ _ (by decide)).trans (M_faultOf_s_k7 σ pm))))))))))
    · refine Eq.trans (congrFun (if_neg z2) 7) ?_
      exact M_faultOf_s_k7 σ pm
theorem M_hills_s_k8 (σ : Nat → Nat → Int32) (pm : Nat) : M_hills_s σ pm 8 = σ 8 := by
  unfold M_hills_s
  by_cases z1 : (M_faultOf_n σ pm) < pm
  · refine Eq.trans (congrFun (if_pos z1) 8) ?_
    exact M_faultOf_s_k8 σ pm
  · refine Eq.trans (congrFun (if_neg z1) 8) ?_
    by_cases z2 : (((M_faultOf_s σ pm) 0) 5) = 4
    · refine Eq.trans (congrFun (if_pos z2) 8) ?_
      exact (up2_n _ _ _ (by decide)).trans ((up2_n _ _ _ (by decide)).trans ((up2_n _ _ _ (by decide)).trans ((up2_n _ _ _ (by decide)).trans ((up2_n _ _ _ (by decide)).trans ((up2_n _ _ _ (by decide)).trans ((up2_n _ _ _ (by decide)).trans ((M_hills_L78_k8 pm 16 0 (M_hills_L32 pm (((M_faultOf_s σ pm) 0 3).toNatClampNeg) 0 (up2 (M_faultOf_s σ pm) 0 6 (nI (((M_faultOf_s σ pm) 0 3).toNatClampNeg))))).trans ((M_hills_L32_k8 pm (((M_faultOf_s σ pm) 0 3).toNatClampNeg) 0 (up2 (M_faultOf_s σ pm) 0 6 (nI (((M_faultOf_s σ pm) 0 3).toNatClampNeg)))).trans ((up2_n _ _ _ (by decide)).trans (M_faultOf_s_k8 σ pm))))))))))
    · refine Eq.trans (congrFun (if_neg z2) 8) ?_
      exact M_faultOf_s_k8 σ pm
theorem M_hills_s_k9 (σ : Nat → Nat → Int32) (pm : Nat) : M_hills_s σ pm 9 = σ 9 := by
  unfold M_hills_s
  by_cases z1 : (M_faultOf_n σ pm) < pm
  · refine Eq.trans (congrFun (if_pos z1) 9) ?_
    exact M_faultOf_s_k9 σ pm
  · refine Eq.trans (congrFun (if_neg z1) 9) ?_
    by_cases z2 : (((M_faultOf_s σ pm) 0) 5) = 4
    · refine Eq.trans (congrFun (if_pos z2) 9) ?_
      exact (up2_n _ _ _ (by decide)).trans ((up2_n _ _ _ (by decide)).trans ((up2_n _ _ _ (by decide)).trans ((up2_n _ _ _ (by decide)).trans ((up2_n _ _ _ (by decide)).trans ((up2_n _ _ _ (by decide)).trans ((up2_n _ _ _ (by decide)).trans ((M_hills_L78_k9 pm 16 0 (M_hills_L32 pm (((M_faultOf_s σ pm) 0 3).toNatClampNeg) 0 (up2 (M_faultOf_s σ pm) 0 6 (nI (((M_faultOf_s σ pm) 0 3).toNatClampNeg))))).trans ((M_hills_L32_k9 pm (((M_faultOf_s σ pm) 0 3).toNatClampNeg) 0 (up2 (M_faultOf_s σ pm) 0 6 (nI (((M_faultOf_s σ pm) 0 3).toNatClampNeg)))).trans ((up2_n _ _ _ (by decide)).trans (M_faultOf_s_k9 σ pm))))))))))
    · refine Eq.trans (congrFun (if_neg z2) 9) ?_
      exact M_faultOf_s_k9 σ pm
theorem M_hills_s_k10 (σ : Nat → Nat → Int32) (pm : Nat) : M_hills_s σ pm 10 = σ 10 := by
  unfold M_hills_s
  by_cases z1 : (M_faultOf_n σ pm) < pm
  · refine Eq.trans (congrFun (if_pos z1) 10) ?_
    exact M_faultOf_s_k10 σ pm
  · refine Eq.trans (congrFun (if_neg z1) 10) ?_
    by_cases z2 : (((M_faultOf_s σ pm) 0) 5) = 4
    · refine Eq.trans (congrFun (if_pos z2) 10) ?_
      exact (up2_n _ _ _ (by decide)).trans ((up2_n _ _ _ (by decide)).trans ((up2_n _ _ _ (by decide)).trans ((up2_n _ _ _ (by decide)).trans ((up2_n _ _ _ (by decide)).trans ((up2_n _ _ _ (by decide)).trans ((up2_n _ _ _ (by decide)).trans ((M_hills_L78_k10 pm 16 0 (M_hills_L32 pm (((M_faultOf_s σ pm) 0 3).toNatClampNeg) 0 (up2 (M_faultOf_s σ pm) 0 6 (nI (((M_faultOf_s σ pm) 0 3).toNatClampNeg))))).trans ((M_hills_L32_k10 pm (((M_faultOf_s σ pm) 0 3).toNatClampNeg) 0 (up2 (M_faultOf_s σ pm) 0 6 (nI (((M_faultOf_s σ pm) 0 3).toNatClampNeg)))).trans ((up2_n _ _ _ (by decide)).trans (M_faultOf_s_k10 σ pm))))))))))
    · refine Eq.trans (congrFun (if_neg z2) 10) ?_
      exact M_faultOf_s_k10 σ pm
theorem M_hills_s_k11 (σ : Nat → Nat → Int32) (pm : Nat) : M_hills_s σ pm 11 = σ 11 := by
  unfold M_hills_s
  by_cases z1 : (M_faultOf_n σ pm) < pm
  · refine Eq.trans (congrFun (if_pos z1) 11) ?_
    exact M_faultOf_s_k11 σ pm
  · refine Eq.trans (congrFun (if_neg z1) 11) ?_
    by_cases z2 : (((M_faultOf_s σ pm) 0) 5) = 4
    · refine Eq.trans (congrFun (if_pos z2) 11) ?_
      exact (up2_n _ _ _ (by decide)).trans ((up2_n _ _ _ (by decide)).trans ((up2_n _ _ _ (by decide)).trans ((up2_n _ _ _ (by decide)).trans ((up2_n _ _ _ (by decide)).trans ((up2_n _ _ _ (by decide)).trans ((up2_n _ _ _ (by decide)).trans ((M_hills_L78_k11 pm 16 0 (M_hills_L32 pm (((M_faultOf_s σ pm) 0 3).toNatClampNeg) 0 (up2 (M_faultOf_s σ pm) 0 6 (nI (((M_faultOf_s σ pm) 0 3).toNatClampNeg))))).trans ((M_hills_L32_k11 pm (((M_faultOf_s σ pm) 0 3).toNatClampNeg) 0 (up2 (M_faultOf_s σ pm) 0 6 (nI (((M_faultOf_s σ pm) 0 3).toNatClampNeg)))).trans ((up2_n _ _ _ (by decide)).trans (M_faultOf_s_k11 σ pm))))))))))
    · refine Eq.trans (congrFun (if_neg z2) 11) ?_
      exact M_faultOf_s_k11 σ pm
theorem M_hills_s_k12 (σ : Nat → Nat → Int32) (pm : Nat) : M_hills_s σ pm 12 = σ 12 := by
  unfold M_hills_s
  by_cases z1 : (M_faultOf_n σ pm) < pm
  · refine Eq.trans (congrFun (if_pos z1) 12) ?_
    exact M_faultOf_s_k12 σ pm
  · refine Eq.trans (congrFun (if_neg z1) 12) ?_
    by_cases z2 : (((M_faultOf_s σ pm) 0) 5) = 4
    · refine Eq.trans (congrFun (if_pos z2) 12) ?_
      exact (up2_n _ _ _ (by decide)).trans ((up2_n _ _ _ (by decide)).trans ((up2_n _ _ _ (by decide)).trans ((up2_n _ _ _ (by decide)).trans ((up2_n _ _ _ (by decide)).trans ((up2_n _ _ _ (by decide)).trans ((up2_n _ _ _ (by decide)).trans ((M_hills_L78_k12 pm 16 0 (M_hills_L32 pm (((M_faultOf_s σ pm) 0 3).toNatClampNeg) 0 (up2 (M_faultOf_s σ pm) 0 6 (nI (((M_faultOf_s σ pm) 0 3).toNatClampNeg))))).trans ((M_hills_L32_k12 pm (((M_faultOf_s σ pm) 0 3).toNatClampNeg) 0 (up2 (M_faultOf_s σ pm) 0 6 (nI (((M_faultOf_s σ pm) 0 3).toNatClampNeg)))).trans ((up2_n _ _ _ (by decide)).trans (M_faultOf_s_k12 σ pm))))))))))
    · refine Eq.trans (congrFun (if_neg z2) 12) ?_
      exact M_faultOf_s_k12 σ pm
theorem M_hills_s_k13 (σ : Nat → Nat → Int32) (pm : Nat) : M_hills_s σ pm 13 = σ 13 := by
  unfold M_hills_s
  by_cases z1 : (M_faultOf_n σ pm) < pm
  · refine Eq.trans (congrFun (if_pos z1) 13) ?_
    exact M_faultOf_s_k13 σ pm
  · refine Eq.trans (congrFun (if_neg z1) 13) ?_
    by_cases z2 : (((M_faultOf_s σ pm) 0) 5) = 4
    · refine Eq.trans (congrFun (if_pos z2) 13) ?_
      exact (up2_n _ _ _ (by decide)).trans ((up2_n _ _ _ (by decide)).trans ((up2_n _ _ _ (by decide)).trans ((up2_n _ _ _ (by decide)).trans ((up2_n _ _ _ (by decide)).trans ((up2_n _ _ _ (by decide)).trans ((up2_n _ _ _ (by decide)).trans ((M_hills_L78_k13 pm 16 0 (M_hills_L32 pm (((M_faultOf_s σ pm) 0 3).toNatClampNeg) 0 (up2 (M_faultOf_s σ pm) 0 6 (nI (((M_faultOf_s σ pm) 0 3).toNatClampNeg))))).trans ((M_hills_L32_k13 pm (((M_faultOf_s σ pm) 0 3).toNatClampNeg) 0 (up2 (M_faultOf_s σ pm) 0 6 (nI (((M_faultOf_s σ pm) 0 3).toNatClampNeg)))).trans ((up2_n _ _ _ (by decide)).trans (M_faultOf_s_k13 σ pm))))))))))
    · refine Eq.trans (congrFun (if_neg z2) 13) ?_
      exact M_faultOf_s_k13 σ pm
theorem M_hills_s_k14 (σ : Nat → Nat → Int32) (pm : Nat) : M_hills_s σ pm 14 = σ 14 := by
  unfold M_hills_s
  by_cases z1 : (M_faultOf_n σ pm) < pm
  · refine Eq.trans (congrFun (if_pos z1) 14) ?_
    exact M_faultOf_s_k14 σ pm
  · refine Eq.trans (congrFun (if_neg z1) 14) ?_
    by_cases z2 : (((M_faultOf_s σ pm) 0) 5) = 4
    · refine Eq.trans (congrFun (if_pos z2) 14) ?_
      exact (up2_n _ _ _ (by decide)).trans ((up2_n _ _ _ (by decide)).trans ((up2_n _ _ _ (by decide)).trans ((up2_n _ _ _ (by decide)).trans ((up2_n _ _ _ (by decide)).trans ((up2_n _ _ _ (by decide)).trans ((up2_n _ _ _ (by decide)).trans ((M_hills_L78_k14 pm 16 0 (M_hills_L32 pm (((M_faultOf_s σ pm) 0 3).toNatClampNeg) 0 (up2 (M_faultOf_s σ pm) 0 6 (nI (((M_faultOf_s σ pm) 0 3).toNatClampNeg))))).trans ((M_hills_L32_k14 pm (((M_faultOf_s σ pm) 0 3).toNatClampNeg) 0 (up2 (M_faultOf_s σ pm) 0 6 (nI (((M_faultOf_s σ pm) 0 3).toNatClampNeg)))).trans ((up2_n _ _ _ (by decide)).trans (M_faultOf_s_k14 σ pm))))))))))
    · refine Eq.trans (congrFun (if_neg z2) 14) ?_
      exact M_faultOf_s_k14 σ pm
theorem M_hills_s_k15 (σ : Nat → Nat → Int32) (pm : Nat) : M_hills_s σ pm 15 = σ 15 := by
  unfold M_hills_s
  by_cases z1 : (M_faultOf_n σ pm) < pm
  · refine Eq.trans (congrFun (if_pos z1) 15) ?_
    exact M_faultOf_s_k15 σ pm
  · refine Eq.trans (congrFun (if_neg z1) 15) ?_
    by_cases z2 : (((M_faultOf_s σ pm) 0) 5) = 4
    · refine Eq.trans (congrFun (if_pos z2) 15) ?_
      exact (up2_n _ _ _ (by decide)).trans ((up2_n _ _ _ (by decide)).trans ((up2_n _ _ _ (by decide)).trans ((up2_n _ _ _ (by decide)).trans ((up2_n _ _ _ (by decide)).trans ((up2_n _ _ _ (by decide)).trans ((up2_n _ _ _ (by decide)).trans ((M_hills_L78_k15 pm 16 0 (M_hills_L32 pm (((M_faultOf_s σ pm) 0 3).toNatClampNeg) 0 (up2 (M_faultOf_s σ pm) 0 6 (nI (((M_faultOf_s σ pm) 0 3).toNatClampNeg))))).trans ((M_hills_L32_k15 pm (((M_faultOf_s σ pm) 0 3).toNatClampNeg) 0 (up2 (M_faultOf_s σ pm) 0 6 (nI (((M_faultOf_s σ pm) 0 3).toNatClampNeg)))).trans ((up2_n _ _ _ (by decide)).trans (M_faultOf_s_k15 σ pm))))))))))
    · refine Eq.trans (congrFun (if_neg z2) 15) ?_
      exact M_faultOf_s_k15 σ pm
theorem M_hills_s_k16 (σ : Nat → Nat → Int32) (pm : Nat) : M_hills_s σ pm 16 = σ 16 := by
  unfold M_hills_s
  by_cases z1 : (M_faultOf_n σ pm) < pm
  · refine Eq.trans (congrFun (if_pos z1) 16) ?_
    exact M_faultOf_s_k16 σ pm
  · refine Eq.trans (congrFun (if_neg z1) 16) ?_
    by_cases z2 : (((M_faultOf_s σ pm) 0) 5) = 4
    · refine Eq.trans (congrFun (if_pos z2) 16) ?_
      exact (up2_n _ _ _ (by decide)).trans ((up2_n _ _ _ (by decide)).trans ((up2_n _ _ _ (by decide)).trans ((up2_n _ _ _ (by decide)).trans ((up2_n _ _ _ (by decide)).trans ((up2_n _ _ _ (by decide)).trans ((up2_n _ _ _ (by decide)).trans ((M_hills_L78_k16 pm 16 0 (M_hills_L32 pm (((M_faultOf_s σ pm) 0 3).toNatClampNeg) 0 (up2 (M_faultOf_s σ pm) 0 6 (nI (((M_faultOf_s σ pm) 0 3).toNatClampNeg))))).trans ((M_hills_L32_k16 pm (((M_faultOf_s σ pm) 0 3).toNatClampNeg) 0 (up2 (M_faultOf_s σ pm) 0 6 (nI (((M_faultOf_s σ pm) 0 3).toNatClampNeg)))).trans ((up2_n _ _ _ (by decide)).trans (M_faultOf_s_k16 σ pm))))))))))
    · refine Eq.trans (congrFun (if_neg z2) 16) ?_
      exact M_faultOf_s_k16 σ pm
theorem M_hills_s_k17 (σ : Nat → Nat → Int32) (pm : Nat) : M_hills_s σ pm 17 = σ 17 := by
  unfold M_hills_s
  by_cases z1 : (M_faultOf_n σ pm) < pm
  · refine Eq.trans (congrFun (if_pos z1) 17) ?_
    exact M_faultOf_s_k17 σ pm
  · refine Eq.trans (congrFun (if_neg z1) 17) ?_
    by_cases z2 : (((M_faultOf_s σ pm) 0) 5) = 4
    · refine Eq.trans (congrFun (if_pos z2) 17) ?_
      exact (up2_n _ _ _ (by decide)).trans ((up2_n _ _ _ (by decide)).trans ((up2_n _ _ _ (by decide)).trans ((up2_n _ _ _ (by decide)).trans ((up2_n _ _ _ (by decide)).trans ((up2_n _ _ _ (by decide)).trans ((up2_n _ _ _ (by decide)).trans ((M_hills_L78_k17 pm 16 0 (M_hills_L32 pm (((M_faultOf_s σ pm) 0 3).toNatClampNeg) 0 (up2 (M_faultOf_s σ pm) 0 6 (nI (((M_faultOf_s σ pm) 0 3).toNatClampNeg))))).trans ((M_hills_L32_k17 pm (((M_faultOf_s σ pm) 0 3).toNatClampNeg) 0 (up2 (M_faultOf_s σ pm) 0 6 (nI (((M_faultOf_s σ pm) 0 3).toNatClampNeg)))).trans ((up2_n _ _ _ (by decide)).trans (M_faultOf_s_k17 σ pm))))))))))
    · refine Eq.trans (congrFun (if_neg z2) 17) ?_
      exact M_faultOf_s_k17 σ pm
theorem M_hills_s_k18 (σ : Nat → Nat → Int32) (pm : Nat) : M_hills_s σ pm 18 = σ 18 := by
  unfold M_hills_s
  by_cases z1 : (M_faultOf_n σ pm) < pm
  · refine Eq.trans (congrFun (if_pos z1) 18) ?_
    exact M_faultOf_s_k18 σ pm
  · refine Eq.trans (congrFun (if_neg z1) 18) ?_
    by_cases z2 : (((M_faultOf_s σ pm) 0) 5) = 4
    · refine Eq.trans (congrFun (if_pos z2) 18) ?_
      exact (up2_n _ _ _ (by decide)).trans ((up2_n _ _ _ (by decide)).trans ((up2_n _ _ _ (by decide)).trans ((up2_n _ _ _ (by decide)).trans ((up2_n _ _ _ (by decide)).trans ((up2_n _ _ _ (by decide)).trans ((up2_n _ _ _ (by decide)).trans ((M_hills_L78_k18 pm 16 0 (M_hills_L32 pm (((M_faultOf_s σ pm) 0 3).toNatClampNeg) 0 (up2 (M_faultOf_s σ pm) 0 6 (nI (((M_faultOf_s σ pm) 0 3).toNatClampNeg))))).trans ((M_hills_L32_k18 pm (((M_faultOf_s σ pm) 0 3).toNatClampNeg) 0 (up2 (M_faultOf_s σ pm) 0 6 (nI (((M_faultOf_s σ pm) 0 3).toNatClampNeg)))).trans ((up2_n _ _ _ (by decide)).trans (M_faultOf_s_k18 σ pm))))))))))
    · refine Eq.trans (congrFun (if_neg z2) 18) ?_
      exact M_faultOf_s_k18 σ pm
theorem M_hills_s_k19 (σ : Nat → Nat → Int32) (pm : Nat) : M_hills_s σ pm 19 = σ 19 := by
  unfold M_hills_s
  by_cases z1 : (M_faultOf_n σ pm) < pm
  · refine Eq.trans (congrFun (if_pos z1) 19) ?_
    exact M_faultOf_s_k19 σ pm
  · refine Eq.trans (congrFun (if_neg z1) 19) ?_
    by_cases z2 : (((M_faultOf_s σ pm) 0) 5) = 4
    · refine Eq.trans (congrFun (if_pos z2) 19) ?_
      exact (up2_n _ _ _ (by decide)).trans ((up2_n _ _ _ (by decide)).trans ((up2_n _ _ _ (by decide)).trans ((up2_n _ _ _ (by decide)).trans ((up2_n _ _ _ (by decide)).trans ((up2_n _ _ _ (by decide)).trans ((up2_n _ _ _ (by decide)).trans ((M_hills_L78_k19 pm 16 0 (M_hills_L32 pm (((M_faultOf_s σ pm) 0 3).toNatClampNeg) 0 (up2 (M_faultOf_s σ pm) 0 6 (nI (((M_faultOf_s σ pm) 0 3).toNatClampNeg))))).trans ((M_hills_L32_k19 pm (((M_faultOf_s σ pm) 0 3).toNatClampNeg) 0 (up2 (M_faultOf_s σ pm) 0 6 (nI (((M_faultOf_s σ pm) 0 3).toNatClampNeg)))).trans ((up2_n _ _ _ (by decide)).trans (M_faultOf_s_k19 σ pm))))))))))
    · refine Eq.trans (congrFun (if_neg z2) 19) ?_
      exact M_faultOf_s_k19 σ pm
set_option maxHeartbeats 4000000 in
set_option maxRecDepth 100000 in
theorem c_M_hills (l : Launch) (D : va_G) (cI : ClassId) (a : Nat → Nat) (σ : Nat → Nat → Int32) (h : Int64) (pm : Nat) (hpm : σ 0 1 = nI pm) (hpmb : pm ≤ 16) : gI l D [(cI, .int)] yX12_hills wsX12_hills 4 [.ref (a 0)] (wM cI a σ h) (M_hills_r σ pm) (wM cI a (M_hills_s σ pm) h) := by
  refine g_start (cc := cX12_hills) (maxL := 2) (ret := some .int) (Qc := gQi D [(cI, .int)] (M_hills_r σ pm) (wM cI a (M_hills_s σ pm) h)) (by decide) rfl (Nat.le_of_ble_eq_true rfl) ?_
  intro p e s m below meth C A ls S hr hlk hw hl
  obtain ⟨hx, hb, hml, hown, hts⟩ := id S
  have hinX12 : ∀ x ∈ u_ws RX12 TX12 38, x ∈ wsX12_hills := fun x h => List.mem_cons_of_mem _ (List.mem_append_right _ h)
  have lk0 : Cond.fieldLink RX12 77 "CowsOwedModel" "pageMany" "I" ∈ wsX12_hills := by decide +kernel
  have lk1 : Cond.fieldLink RX12 80 "CowsOwedModel" "state" "I" ∈ wsX12_hills := by decide +kernel
  have lk2 : Cond.fieldLink RX12 83 "CowsOwedModel" "readMany" "I" ∈ wsX12_hills := by decide +kernel
  have lk3 : Cond.fieldLink RX12 105 "CowsOwedModel" "clans" "I" ∈ wsX12_hills := by decide +kernel
  have lk4 : Cond.fieldLink RX12 16 "CowsOwedModel" "kinds" "[I" ∈ wsX12_hills := by decide +kernel
  have lk5 : Cond.fieldLink RX12 13 "CowsOwedModel" "read" "[I" ∈ wsX12_hills := by decide +kernel
  have lk6 : Cond.fieldLink RX12 19 "CowsOwedModel" "herds" "[I" ∈ wsX12_hills := by decide +kernel
  have lk7 : Cond.fieldLink RX12 22 "CowsOwedModel" "debts" "[I" ∈ wsX12_hills := by decide +kernel
  have lk8 : Cond.fieldLink RX12 92 "CowsOwedModel" "readRate" "I" ∈ wsX12_hills := by decide +kernel
  have lk9 : Cond.fieldLink RX12 108 "CowsOwedModel" "rateNow" "I" ∈ wsX12_hills := by decide +kernel
  have lk10 : Cond.fieldLink RX12 111 "CowsOwedModel" "yearsNow" "I" ∈ wsX12_hills := by decide +kernel
  have lk11 : Cond.fieldLink RX12 114 "CowsOwedModel" "weddings" "I" ∈ wsX12_hills := by decide +kernel
  have lk12 : Cond.fieldLink RX12 117 "CowsOwedModel" "plans" "I" ∈ wsX12_hills := by decide +kernel
  have lk13 : Cond.fieldLink RX12 120 "CowsOwedModel" "toldMany" "I" ∈ wsX12_hills := by decide +kernel
  have lk14 : Cond.fieldLink RX12 123 "CowsOwedModel" "hillsRead" "I" ∈ wsX12_hills := by decide +kernel
  have hl : lv_has ls 2 [(0, .ref (a 0))] := hl
  refine lv_aload_n hx hb dX12_hills_0 rfl (lv_at hl 0 rfl) ?_
  refine g_callVi S hw (c_M_faultOf l D cI a σ h pm (hpm) (by omega)) gX12_hills_X12_faultOf rfl 0 rfl rfl 0 rfl (by decide +kernel) (by decide) (by decide) hl.1 rfl (Nat.le_of_ble_eq_true rfl) dX12_hills_1 (fun H locs hw => ?_)
  have hfl := M_faultOf_le σ pm
  refine lv_aload_n hx hb dX12_hills_4 rfl (lv_at hl 0 rfl) ?_
  refine g_get S hw hinX12 (fs := fM a (M_faultOf_s σ pm) h) 0 rfl rfl 1 (by decide) lk0 (v := .int (nI pm)) (congrArg (fun z => some (Value.int z)) ((M_faultOf_s_p0_1 σ pm).trans (hpm))) dX12_hills_5 ?_
  refine ln_lt (x := (M_faultOf_n σ pm)) (y := pm) hx hb (by omega) (by omega) (tgt := 19) dX12_hills_8 (by decide) (fun c_1 => ?_) (fun c_1 => ?_)
  · refine lv_bipush (v := (-103)) hx hb dX12_hills_19 (by decide) ?_
    exact g_iret S hr hlk hw (by simp only [M_hills_r, if_pos c_1]) (by simp only [M_hills_s, if_pos c_1]) dX12_hills_21
  · refine lv_aload_n hx hb dX12_hills_11 rfl (lv_at hl 0 rfl) ?_
    refine g_get S hw hinX12 (fs := fM a (M_faultOf_s σ pm) h) 0 rfl rfl 5 (by decide) lk1 (v := .int (((M_faultOf_s σ pm) 0) 5)) rfl dX12_hills_12 ?_
    refine lv_iconst (v := 4) hx hb dX12_hills_15 (by decide) ?_
    refine lv_icmp_eq hx hb (tgt := 22) dX12_hills_16 (by decide) (fun c_2 => ?_) (fun c_2 => ?_)
    · have hrm := M_faultOf_rm σ pm
      have hrm2 := hrm.2
      refine lv_aload_n hx hb dX12_hills_22 rfl (lv_at hl 0 rfl) ?_
      refine lv_aload_n hx hb dX12_hills_23 rfl (lv_at hl 0 rfl) ?_
      refine g_get S hw hinX12 (fs := fM a (M_faultOf_s σ pm) h) 0 rfl rfl 3 (by decide) lk2 (v := .int (nI (((M_faultOf_s σ pm) 0 3).toNatClampNeg))) (congrArg (fun z => some (Value.int z)) (hrm.1)) dX12_hills_24 ?_
      refine g_put S hw hinX12 tyX12 tyX12_ok nmX12 (fs := fM a (M_faultOf_s σ pm) h) 0 rfl rfl 6 (by decide) lk3 rfl rfl rfl (Nat.le_of_ble_eq_true rfl) (w2 := wM cI a (up2 (M_faultOf_s σ pm) 0 6 (nI (((M_faultOf_s σ pm) 0 3).toNatClampNeg))) h) (wM_f6 _ _ _ _ _) dX12_hills_27 (fun H locs hw => ?_)
      refine lv_iconst (v := 0) hx hb dX12_hills_30 (by decide) ?_
      refine lv_istore_n (lv' := [(1, .int 0), (0, .ref (a 0))]) hx hb dX12_hills_31 rfl hl (by decide) rfl (fun ls hl => ?_)
      have L32 : ∀ (n32 i32 : Nat) (σ32 : Nat → Nat → Int32) (H : Heap) (locs : List Loc) (ls : Array Slot), i32 + n32 = ((M_faultOf_s σ pm) 0 3).toNatClampNeg → σ32 0 6 = nI (((M_faultOf_s σ pm) 0 3).toNatClampNeg) → M_hills_L32 pm n32 i32 σ32 = M_hills_L32 pm (((M_faultOf_s σ pm) 0 3).toNatClampNeg) 0 (up2 (M_faultOf_s σ pm) 0 6 (nI (((M_faultOf_s σ pm) 0 3).toNatClampNeg))) → gw D [(cI, .int)] A s H locs (wM cI a σ32 h) → lv_has ls 2 [(1, .int (nI i32)), (0, .ref (a 0))] → W p l e (gR 4) s m ([.ref (a 0)] : List Value).toArray below meth C H locs 0 0 (MQ below (gQi D [(cI, .int)] (M_hills_r σ pm) (wM cI a (M_hills_s σ pm) h) A) ([.ref (a 0)] : List Value).toArray s 0 0 A) (F0 m 32 ls []) := by
        intro n32
        induction n32 with
        | zero =>
          intro i32 σ32 H locs ls hi32 f32_0_6 hF32 hw hl
          refine lv_iload_n hx hb dX12_hills_32 rfl (lv_at hl 0 rfl) ?_
          refine lv_aload_n hx hb dX12_hills_33 rfl (lv_at hl 1 rfl) ?_
          refine g_get S hw hinX12 (fs := fM a σ32 h) 0 rfl rfl 6 (by decide) lk3 (v := .int (nI (((M_faultOf_s σ pm) 0 3).toNatClampNeg))) (congrArg (fun z => some (Value.int z)) (f32_0_6)) dX12_hills_34 ?_
          refine ln_ge (x := i32) (y := (((M_faultOf_s σ pm) 0 3).toNatClampNeg)) hx hb (by omega) (by omega) (tgt := 76) dX12_hills_37 (by decide) (fun c_x => ?_) (fun c_x => absurd (by omega) c_x)
          have hz32 : ((M_faultOf_s σ pm) 0 3).toNatClampNeg = i32 := by omega
          subst hz32
          have e32_0 : (M_hills_L32 pm (((M_faultOf_s σ pm) 0 3).toNatClampNeg) 0 (up2 (M_faultOf_s σ pm) 0 6 (nI (((M_faultOf_s σ pm) 0 3).toNatClampNeg)))) = σ32 := hF32.symm
          subst e32_0
          refine lv_iconst (v := 0) hx hb dX12_hills_76 (by decide) ?_
          refine lv_istore_n (lv' := [(1, .int 0), (0, .ref (a 0))]) hx hb dX12_hills_77 rfl hl (by decide) rfl (fun ls hl => ?_)
          have L78 : ∀ (n78 i78 : Nat) (σ78 : Nat → Nat → Int32) (H : Heap) (locs : List Loc) (ls : Array Slot), i78 + n78 = 16 → σ78 0 6 = nI (((M_faultOf_s σ pm) 0 3).toNatClampNeg) → M_hills_L78 pm n78 i78 σ78 = M_hills_L78 pm 16 0 (M_hills_L32 pm (((M_faultOf_s σ pm) 0 3).toNatClampNeg) 0 (up2 (M_faultOf_s σ pm) 0 6 (nI (((M_faultOf_s σ pm) 0 3).toNatClampNeg)))) → gw D [(cI, .int)] A s H locs (wM cI a σ78 h) → lv_has ls 2 [(1, .int (nI i78)), (0, .ref (a 0))] → W p l e (gR 4) s m ([.ref (a 0)] : List Value).toArray below meth C H locs 0 0 (MQ below (gQi D [(cI, .int)] (M_hills_r σ pm) (wM cI a (M_hills_s σ pm) h) A) ([.ref (a 0)] : List Value).toArray s 0 0 A) (F0 m 78 ls []) := by
            intro n78
            induction n78 with
            | zero =>
              intro i78 σ78 H locs ls hi78 f78_0_6 hF78 hw hl
              refine lv_iload_n hx hb dX12_hills_78 rfl (lv_at hl 0 rfl) ?_
              refine lv_bipush (v := 16) hx hb dX12_hills_79 (by decide) ?_
              refine ln_ge (x := i78) (y := 16) hx hb (by omega) (by omega) (tgt := 97) dX12_hills_81 (by decide) (fun c_x => ?_) (fun c_x => absurd (by omega) c_x)
              have hz78 : 16 = i78 := by omega
              subst hz78
              have e78_0 : (M_hills_L78 pm 16 0 (M_hills_L32 pm (((M_faultOf_s σ pm) 0 3).toNatClampNeg) 0 (up2 (M_faultOf_s σ pm) 0 6 (nI (((M_faultOf_s σ pm) 0 3).toNatClampNeg))))) = σ78 := hF78.symm
              subst e78_0
              refine lv_aload_n hx hb dX12_hills_97 rfl (lv_at hl 1 rfl) ?_
              refine lv_aload_n hx hb dX12_hills_98 rfl (lv_at hl 1 rfl) ?_
              refine g_get S hw hinX12 (fs := fM a (M_hills_L78 pm 16 0 (M_hills_L32 pm (((M_faultOf_s σ pm) 0 3).toNatClampNeg) 0 (up2 (M_faultOf_s σ pm) 0 6 (nI (((M_faultOf_s σ pm) 0 3).toNatClampNeg))))) h) 0 rfl rfl 4 (by decide) lk8 (v := .int (((M_faultOf_s σ pm) 0) 4)) (congrArg (fun z => some (Value.int z)) ((congrFun (M_hills_L78_k0 pm 16 0 (M_hills_L32 pm (((M_faultOf_s σ pm) 0 3).toNatClampNeg) 0 (up2 (M_faultOf_s σ pm) 0 6 (nI (((M_faultOf_s σ pm) 0 3).toNatClampNeg))))) 4).trans ((congrFun (M_hills_L32_k0 pm (((M_faultOf_s σ pm) 0 3).toNatClampNeg) 0 (up2 (M_faultOf_s σ pm) 0 6 (nI (((M_faultOf_s σ pm) 0 3).toNatClampNeg)))) 4).trans (up2_rp (by decide))))) dX12_hills_99 ?_
              refine g_put S hw hinX12 tyX12 tyX12_ok nmX12 (fs := fM a (M_hills_L78 pm 16 0 (M_hills_L32 pm (((M_faultOf_s σ pm) 0 3).toNatClampNeg) 0 (up2 (M_faultOf_s σ pm) 0 6 (nI (((M_faultOf_s σ pm) 0 3).toNatClampNeg))))) h) 0 rfl rfl 7 (by decide) lk9 rfl rfl rfl (Nat.le_of_ble_eq_true rfl) (w2 := wM cI a (up2 (M_hills_L78 pm 16 0 (M_hills_L32 pm (((M_faultOf_s σ pm) 0 3).toNatClampNeg) 0 (up2 (M_faultOf_s σ pm) 0 6 (nI (((M_faultOf_s σ pm) 0 3).toNatClampNeg))))) 0 7 (((M_faultOf_s σ pm) 0) 4)) h) (wM_f7 _ _ _ _ _) dX12_hills_102 (fun H locs hw => ?_)
              refine lv_aload_n hx hb dX12_hills_105 rfl (lv_at hl 1 rfl) ?_
              refine lv_iconst (v := 0) hx hb dX12_hills_106 (by decide) ?_
              refine g_put S hw hinX12 tyX12 tyX12_ok nmX12 (fs := fM a (up2 (M_hills_L78 pm 16 0 (M_hills_L32 pm (((M_faultOf_s σ pm) 0 3).toNatClampNeg) 0 (up2 (M_faultOf_s σ pm) 0 6 (nI (((M_faultOf_s σ pm) 0 3).toNatClampNeg))))) 0 7 (((M_faultOf_s σ pm) 0) 4)) h) 0 rfl rfl 8 (by decide) lk10 rfl rfl rfl (Nat.le_of_ble_eq_true rfl) (w2 := wM cI a (up2 (up2 (M_hills_L78 pm 16 0 (M_hills_L32 pm (((M_faultOf_s σ pm) 0 3).toNatClampNeg) 0 (up2 (M_faultOf_s σ pm) 0 6 (nI (((M_faultOf_s σ pm) 0 3).toNatClampNeg))))) 0 7 (((M_faultOf_s σ pm) 0) 4)) 0 8 0) h) (wM_f8 _ _ _ _ _) dX12_hills_107 (fun H locs hw => ?_)
              refine lv_aload_n hx hb dX12_hills_110 rfl (lv_at hl 1 rfl) ?_
              refine lv_iconst (v := 0) hx hb dX12_hills_111 (by decide) ?_
              refine g_put S hw hinX12 tyX12 tyX12_ok nmX12 (fs := fM a (up2 (up2 (M_hills_L78 pm 16 0 (M_hills_L32 pm (((M_faultOf_s σ pm) 0 3).toNatClampNeg) 0 (up2 (M_faultOf_s σ pm) 0 6 (nI (((M_faultOf_s σ pm) 0 3).toNatClampNeg))))) 0 7 (((M_faultOf_s σ pm) 0) 4)) 0 8 0) h) 0 rfl rfl 13 (by decide) lk11 rfl rfl rfl (Nat.le_of_ble_eq_true rfl) (w2 := wM cI a (up2 (up2 (up2 (M_hills_L78 pm 16 0 (M_hills_L32 pm (((M_faultOf_s σ pm) 0 3).toNatClampNeg) 0 (up2 (M_faultOf_s σ pm) 0 6 (nI (((M_faultOf_s σ pm) 0 3).toNatClampNeg))))) 0 7 (((M_faultOf_s σ pm) 0) 4)) 0 8 0) 0 13 0) h) (wM_f13 _ _ _ _ _) dX12_hills_112 (fun H locs hw => ?_)
              refine lv_aload_n hx hb dX12_hills_115 rfl (lv_at hl 1 rfl) ?_
              refine lv_iconst (v := 0) hx hb dX12_hills_116 (by decide) ?_
              refine g_put S hw hinX12 tyX12 tyX12_ok nmX12 (fs := fM a (up2 (up2 (up2 (M_hills_L78 pm 16 0 (M_hills_L32 pm (((M_faultOf_s σ pm) 0 3).toNatClampNeg) 0 (up2 (M_faultOf_s σ pm) 0 6 (nI (((M_faultOf_s σ pm) 0 3).toNatClampNeg))))) 0 7 (((M_faultOf_s σ pm) 0) 4)) 0 8 0) 0 13 0) h) 0 rfl rfl 15 (by decide) lk12 rfl rfl rfl (Nat.le_of_ble_eq_true rfl) (w2 := wM cI a (up2 (up2 (up2 (up2 (M_hills_L78 pm 16 0 (M_hills_L32 pm (((M_faultOf_s σ pm) 0 3).toNatClampNeg) 0 (up2 (M_faultOf_s σ pm) 0 6 (nI (((M_faultOf_s σ pm) 0 3).toNatClampNeg))))) 0 7 (((M_faultOf_s σ pm) 0) 4)) 0 8 0) 0 13 0) 0 15 0) h) (wM_f15 _ _ _ _ _) dX12_hills_117 (fun H locs hw => ?_)
              refine lv_aload_n hx hb dX12_hills_120 rfl (lv_at hl 1 rfl) ?_
              refine lv_iconst (v := 0) hx hb dX12_hills_121 (by decide) ?_
              refine g_put S hw hinX12 tyX12 tyX12_ok nmX12 (fs := fM a (up2 (up2 (up2 (up2 (M_hills_L78 pm 16 0 (M_hills_L32 pm (((M_faultOf_s σ pm) 0 3).toNatClampNeg) 0 (up2 (M_faultOf_s σ pm) 0 6 (nI (((M_faultOf_s σ pm) 0 3).toNatClampNeg))))) 0 7 (((M_faultOf_s σ pm) 0) 4)) 0 8 0) 0 13 0) 0 15 0) h) 0 rfl rfl 22 (by decide) lk13 rfl rfl rfl (Nat.le_of_ble_eq_true rfl) (w2 := wM cI a (up2 (up2 (up2 (up2 (up2 (M_hills_L78 pm 16 0 (M_hills_L32 pm (((M_faultOf_s σ pm) 0 3).toNatClampNeg) 0 (up2 (M_faultOf_s σ pm) 0 6 (nI (((M_faultOf_s σ pm) 0 3).toNatClampNeg))))) 0 7 (((M_faultOf_s σ pm) 0) 4)) 0 8 0) 0 13 0) 0 15 0) 0 22 0) h) (wM_f22 _ _ _ _ _) dX12_hills_122 (fun H locs hw => ?_)
              refine lv_aload_n hx hb dX12_hills_125 rfl (lv_at hl 1 rfl) ?_
              refine lv_dup hx hb dX12_hills_126 rfl ?_
              refine g_get S hw hinX12 (fs := fM a (up2 (up2 (up2 (up2 (up2 (M_hills_L78 pm 16 0 (M_hills_L32 pm (((M_faultOf_s σ pm) 0 3).toNatClampNeg) 0 (up2 (M_faultOf_s σ pm) 0 6 (nI (((M_faultOf_s σ pm) 0 3).toNatClampNeg))))) 0 7 (((M_faultOf_s σ pm) 0) 4)) 0 8 0) 0 13 0) 0 15 0) 0 22 0) h) 0 rfl rfl 9 (by decide) lk14 (v := .int (σ 0 9)) (congrArg (fun z => some (Value.int z)) ((up2_rp (by decide)).trans ((up2_rp (by decide)).trans ((up2_rp (by decide)).trans ((up2_rp (by decide)).trans ((up2_rp (by decide)).trans ((congrFun (M_hills_L78_k0 pm 16 0 (M_hills_L32 pm (((M_faultOf_s σ pm) 0 3).toNatClampNeg) 0 (up2 (M_faultOf_s σ pm) 0 6 (nI (((M_faultOf_s σ pm) 0 3).toNatClampNeg))))) 9).trans ((congrFun (M_hills_L32_k0 pm (((M_faultOf_s σ pm) 0 3).toNatClampNeg) 0 (up2 (M_faultOf_s σ pm) 0 6 (nI (((M_faultOf_s σ pm) 0 3).toNatClampNeg)))) 9).trans ((up2_rp (by decide)).trans (M_faultOf_s_p0_9 σ pm)))))))))) dX12_hills_127 ?_
              refine lv_iconst (v := 1) hx hb dX12_hills_130 (by decide) ?_
              refine lv_iadd hx hb dX12_hills_131 ?_
              refine g_put S hw hinX12 tyX12 tyX12_ok nmX12 (fs := fM a (up2 (up2 (up2 (up2 (up2 (M_hills_L78 pm 16 0 (M_hills_L32 pm (((M_faultOf_s σ pm) 0 3).toNatClampNeg) 0 (up2 (M_faultOf_s σ pm) 0 6 (nI (((M_faultOf_s σ pm) 0 3).toNatClampNeg))))) 0 7 (((M_faultOf_s σ pm) 0) 4)) 0 8 0) 0 13 0) 0 15 0) 0 22 0) h) 0 rfl rfl 9 (by decide) lk14 rfl rfl rfl (Nat.le_of_ble_eq_true rfl) (w2 := wM cI a (up2 (up2 (up2 (up2 (up2 (up2 (M_hills_L78 pm 16 0 (M_hills_L32 pm (((M_faultOf_s σ pm) 0 3).toNatClampNeg) 0 (up2 (M_faultOf_s σ pm) 0 6 (nI (((M_faultOf_s σ pm) 0 3).toNatClampNeg))))) 0 7 (((M_faultOf_s σ pm) 0) 4)) 0 8 0) 0 13 0) 0 15 0) 0 22 0) 0 9 ((σ 0 9) + 1)) h) (wM_f9 _ _ _ _ _) dX12_hills_132 (fun H locs hw => ?_)
              refine lv_aload_n hx hb dX12_hills_135 rfl (lv_at hl 1 rfl) ?_
              refine lv_iconst (v := 0) hx hb dX12_hills_136 (by decide) ?_
              refine g_put S hw hinX12 tyX12 tyX12_ok nmX12 (fs := fM a (up2 (up2 (up2 (up2 (up2 (up2 (M_hills_L78 pm 16 0 (M_hills_L32 pm (((M_faultOf_s σ pm) 0 3).toNatClampNeg) 0 (up2 (M_faultOf_s σ pm) 0 6 (nI (((M_faultOf_s σ pm) 0 3).toNatClampNeg))))) 0 7 (((M_faultOf_s σ pm) 0) 4)) 0 8 0) 0 13 0) 0 15 0) 0 22 0) 0 9 ((σ 0 9) + 1)) h) 0 rfl rfl 1 (by decide) lk0 rfl rfl rfl (Nat.le_of_ble_eq_true rfl) (w2 := wM cI a (up2 (up2 (up2 (up2 (up2 (up2 (up2 (M_hills_L78 pm 16 0 (M_hills_L32 pm (((M_faultOf_s σ pm) 0 3).toNatClampNeg) 0 (up2 (M_faultOf_s σ pm) 0 6 (nI (((M_faultOf_s σ pm) 0 3).toNatClampNeg))))) 0 7 (((M_faultOf_s σ pm) 0) 4)) 0 8 0) 0 13 0) 0 15 0) 0 22 0) 0 9 ((σ 0 9) + 1)) 0 1 0) h) (wM_f1 _ _ _ _ _) dX12_hills_137 (fun H locs hw => ?_)
              refine lv_aload_n hx hb dX12_hills_140 rfl (lv_at hl 1 rfl) ?_
              refine g_get S hw hinX12 (fs := fM a (up2 (up2 (up2 (up2 (up2 (up2 (up2 (M_hills_L78 pm 16 0 (M_hills_L32 pm (((M_faultOf_s σ pm) 0 3).toNatClampNeg) 0 (up2 (M_faultOf_s σ pm) 0 6 (nI (((M_faultOf_s σ pm) 0 3).toNatClampNeg))))) 0 7 (((M_faultOf_s σ pm) 0) 4)) 0 8 0) 0 13 0) 0 15 0) 0 22 0) 0 9 ((σ 0 9) + 1)) 0 1 0) h) 0 rfl rfl 6 (by decide) lk3 (v := .int (nI (((M_faultOf_s σ pm) 0 3).toNatClampNeg))) (congrArg (fun z => some (Value.int z)) ((up2_rp (by decide)).trans ((up2_rp (by decide)).trans ((up2_rp (by decide)).trans ((up2_rp (by decide)).trans ((up2_rp (by decide)).trans ((up2_rp (by decide)).trans ((up2_rp (by decide)).trans ((congrFun (M_hills_L78_k0 pm 16 0 (M_hills_L32 pm (((M_faultOf_s σ pm) 0 3).toNatClampNeg) 0 (up2 (M_faultOf_s σ pm) 0 6 (nI (((M_faultOf_s σ pm) 0 3).toNatClampNeg))))) 6).trans ((congrFun (M_hills_L32_k0 pm (((M_faultOf_s σ pm) 0 3).toNatClampNeg) 0 (up2 (M_faultOf_s σ pm) 0 6 (nI (((M_faultOf_s σ pm) 0 3).toNatClampNeg)))) 6).trans (up2_rs))))))))))) dX12_hills_141 ?_
              exact g_iret S hr hlk hw (by simp only [M_hills_r, if_neg c_1, if_pos c_2]) (by simp only [M_hills_s, if_neg c_1, if_pos c_2]) dX12_hills_144
            | succ n78 ih78 =>
              intro i78 σ78 H locs ls hi78 f78_0_6 hF78 hw hl
              refine lv_iload_n hx hb dX12_hills_78 rfl (lv_at hl 0 rfl) ?_
              refine lv_bipush (v := 16) hx hb dX12_hills_79 (by decide) ?_
              refine ln_ge (x := i78) (y := 16) hx hb (by omega) (by omega) (tgt := 97) dX12_hills_81 (by decide) (fun c_x => absurd c_x (by omega)) (fun c_x => ?_)
              refine lv_aload_n hx hb dX12_hills_84 rfl (lv_at hl 1 rfl) ?_
              refine g_get S hw hinX12 (fs := fM a σ78 h) 0 rfl rfl 12 (by decide) lk7 (v := .ref (a 5)) rfl dX12_hills_85 ?_
              refine lv_iload_n hx hb dX12_hills_88 rfl (lv_at hl 0 rfl) ?_
              refine lv_iconst (v := 0) hx hb dX12_hills_89 (by decide) ?_
              refine g_iast S hw (f := σ78 5) (i := i78) 5 0 rfl rfl (by omega) (by decide) (w2 := wM cI a (up2 σ78 5 i78 0) h) (wM_a5 _ _ _ _ _ _) dX12_hills_90 (fun H locs hw => ?_)
              refine lv_iinc (v := nI (i78 + 1)) (lv' := [(1, .int (nI (i78 + 1))), (0, .ref (a 0))]) hx hb dX12_hills_91 hl (k := 0) rfl (nI_1 _) (by decide) rfl (fun ls hl => ?_)
              refine lv_goto (tgt := 78) hx hb dX12_hills_94 (by decide) ?_
              exact ih78 (i78 + 1) (up2 σ78 5 i78 0) _ _ _ (by omega) ((up2_rn (by decide)).trans (f78_0_6)) hF78 hw (lv_sub hl [0, 1] rfl)
          exact L78 16 0 (M_hills_L32 pm (((M_faultOf_s σ pm) 0 3).toNatClampNeg) 0 (up2 (M_faultOf_s σ pm) 0 6 (nI (((M_faultOf_s σ pm) 0 3).toNatClampNeg)))) _ _ _ (by omega) ((congrFun (M_hills_L32_k0 pm (((M_faultOf_s σ pm) 0 3).toNatClampNeg) 0 (up2 (M_faultOf_s σ pm) 0 6 (nI (((M_faultOf_s σ pm) 0 3).toNatClampNeg)))) 6).trans (up2_rs)) rfl hw (lv_sub hl [0, 1] rfl)
        | succ n32 ih32 =>
          intro i32 σ32 H locs ls hi32 f32_0_6 hF32 hw hl
          refine lv_iload_n hx hb dX12_hills_32 rfl (lv_at hl 0 rfl) ?_
          refine lv_aload_n hx hb dX12_hills_33 rfl (lv_at hl 1 rfl) ?_
          refine g_get S hw hinX12 (fs := fM a σ32 h) 0 rfl rfl 6 (by decide) lk3 (v := .int (nI (((M_faultOf_s σ pm) 0 3).toNatClampNeg))) (congrArg (fun z => some (Value.int z)) (f32_0_6)) dX12_hills_34 ?_
          refine ln_ge (x := i32) (y := (((M_faultOf_s σ pm) 0 3).toNatClampNeg)) hx hb (by omega) (by omega) (tgt := 76) dX12_hills_37 (by decide) (fun c_x => absurd c_x (by omega)) (fun c_x => ?_)
          refine lv_aload_n hx hb dX12_hills_40 rfl (lv_at hl 1 rfl) ?_
          refine g_get S hw hinX12 (fs := fM a σ32 h) 0 rfl rfl 10 (by decide) lk4 (v := .ref (a 3)) rfl dX12_hills_41 ?_
          refine lv_iload_n hx hb dX12_hills_44 rfl (lv_at hl 0 rfl) ?_
          refine lv_aload_n hx hb dX12_hills_45 rfl (lv_at hl 1 rfl) ?_
          refine g_get S hw hinX12 (fs := fM a σ32 h) 0 rfl rfl 2 (by decide) lk5 (v := .ref (a 2)) rfl dX12_hills_46 ?_
          refine lv_iconst (v := 2) hx hb dX12_hills_49 (by decide) ?_
          refine lv_iload_n hx hb dX12_hills_50 rfl (lv_at hl 0 rfl) ?_
          refine ln_imul (x := 2) (y := i32) hx hb dX12_hills_51 ?_
          refine g_iald S hw (f := σ32 2) (i := 2 * i32) (x := σ32 2 (2 * i32)) 2 0 rfl rfl (by omega) (by decide) rfl dX12_hills_52 ?_
          refine g_iast S hw (f := σ32 3) (i := i32) 3 0 rfl rfl (by omega) (by decide) (w2 := wM cI a (up2 σ32 3 i32 (σ32 2 (2 * i32))) h) (wM_a3 _ _ _ _ _ _) dX12_hills_53 (fun H locs hw => ?_)
          refine lv_aload_n hx hb dX12_hills_54 rfl (lv_at hl 1 rfl) ?_
          refine g_get S hw hinX12 (fs := fM a (up2 σ32 3 i32 (σ32 2 (2 * i32))) h) 0 rfl rfl 11 (by decide) lk6 (v := .ref (a 4)) rfl dX12_hills_55 ?_
          refine lv_iload_n hx hb dX12_hills_58 rfl (lv_at hl 0 rfl) ?_
          refine lv_aload_n hx hb dX12_hills_59 rfl (lv_at hl 1 rfl) ?_
          refine g_get S hw hinX12 (fs := fM a (up2 σ32 3 i32 (σ32 2 (2 * i32))) h) 0 rfl rfl 2 (by decide) lk5 (v := .ref (a 2)) rfl dX12_hills_60 ?_
          refine lv_iconst (v := 2) hx hb dX12_hills_63 (by decide) ?_
          refine lv_iload_n hx hb dX12_hills_64 rfl (lv_at hl 0 rfl) ?_
          refine ln_imul (x := 2) (y := i32) hx hb dX12_hills_65 ?_
          refine lv_iconst (v := 1) hx hb dX12_hills_66 (by decide) ?_
          refine ln_iadd (x := 2 * i32) (y := 1) hx hb dX12_hills_67 ?_
          refine g_iald S hw (f := (up2 σ32 3 i32 (σ32 2 (2 * i32))) 2) (i := (2 * i32) + 1) (x := σ32 2 ((2 * i32) + 1)) 2 0 rfl rfl (by omega) (by decide) (up2_rn (by decide)) dX12_hills_68 ?_
          refine g_iast S hw (f := (up2 σ32 3 i32 (σ32 2 (2 * i32))) 4) (i := i32) 4 0 rfl rfl (by omega) (by decide) (w2 := wM cI a (up2 (up2 σ32 3 i32 (σ32 2 (2 * i32))) 4 i32 (σ32 2 ((2 * i32) + 1))) h) (wM_a4 _ _ _ _ _ _) dX12_hills_69 (fun H locs hw => ?_)
          refine lv_iinc (v := nI (i32 + 1)) (lv' := [(1, .int (nI (i32 + 1))), (0, .ref (a 0))]) hx hb dX12_hills_70 hl (k := 0) rfl (nI_1 _) (by decide) rfl (fun ls hl => ?_)
          refine lv_goto (tgt := 32) hx hb dX12_hills_73 (by decide) ?_
          exact ih32 (i32 + 1) (up2 (up2 σ32 3 i32 (σ32 2 (2 * i32))) 4 i32 (σ32 2 ((2 * i32) + 1))) _ _ _ (by omega) (((up2_rn (by decide)).trans (up2_rn (by decide))).trans (f32_0_6)) hF32 hw (lv_sub hl [0, 1] rfl)
      exact L32 (((M_faultOf_s σ pm) 0 3).toNatClampNeg) 0 (up2 (M_faultOf_s σ pm) 0 6 (nI (((M_faultOf_s σ pm) 0 3).toNatClampNeg))) _ _ _ (by omega) (up2_rs) rfl hw (lv_sub hl [0, 1] rfl)
    · refine lv_bipush (v := (-103)) hx hb dX12_hills_19 (by decide) ?_
      exact g_iret S hr hlk hw (by simp only [M_hills_r, if_neg c_1, if_neg c_2]) (by simp only [M_hills_s, if_neg c_1, if_neg c_2]) dX12_hills_21

def M_digest_S9_0 (σ : Nat → Nat → Int32) (n : Nat) (wd : Nat) (pl : Nat) (tm : Nat) (pm : Nat) (i9 : Nat) (h9 : Int64) : Int64 := (M_sayClan_h σ h9 i9)
def M_digest_L9 (σ : Nat → Nat → Int32) (n : Nat) (wd : Nat) (pl : Nat) (tm : Nat) (pm : Nat) : Nat → Nat → (Int64) → (Int64)
  | 0, _, h9 => h9
  | n9 + 1, i9, h9 => M_digest_L9 σ n wd pl tm pm n9 (i9 + 1) (M_digest_S9_0 σ n wd pl tm pm i9 h9)
def M_digest_S30_0 (σ : Nat → Nat → Int32) (n : Nat) (wd : Nat) (pl : Nat) (tm : Nat) (pm : Nat) (i30 : Nat) (h30 : Int64) : Int64 := (M_say_h σ h30 ((σ 6 i30).toInt64))
def M_digest_L30 (σ : Nat → Nat → Int32) (n : Nat) (wd : Nat) (pl : Nat) (tm : Nat) (pm : Nat) : Nat → Nat → (Int64) → (Int64)
  | 0, _, h30 => h30
  | n30 + 1, i30, h30 => M_digest_L30 σ n wd pl tm pm n30 (i30 + 1) (M_digest_S30_0 σ n wd pl tm pm i30 h30)
def M_digest_S137_0 (σ : Nat → Nat → Int32) (n : Nat) (wd : Nat) (pl : Nat) (tm : Nat) (pm : Nat) (i137 : Nat) (h137 : Int64) : Int64 := (M_say_h σ h137 ((σ 1 i137).toInt64))
def M_digest_L137 (σ : Nat → Nat → Int32) (n : Nat) (wd : Nat) (pl : Nat) (tm : Nat) (pm : Nat) : Nat → Nat → (Int64) → (Int64)
  | 0, _, h137 => h137
  | n137 + 1, i137, h137 => M_digest_L137 σ n wd pl tm pm n137 (i137 + 1) (M_digest_S137_0 σ n wd pl tm pm i137 h137)
def M_digest_S164_0 (σ : Nat → Nat → Int32) (n : Nat) (wd : Nat) (pl : Nat) (tm : Nat) (pm : Nat) (i164 : Nat) (h164 : Int64) : Int64 := (M_say_h σ h164 ((M_countOf_r σ n (nI i164)).toInt64))
def M_digest_L164 (σ : Nat → Nat → Int32) (n : Nat) (wd : Nat) (pl : Nat) (tm : Nat) (pm : Nat) : Nat → Nat → (Int64) → (Int64)
  | 0, _, h164 => h164
  | n164 + 1, i164, h164 => M_digest_L164 σ n wd pl tm pm n164 (i164 + 1) (M_digest_S164_0 σ n wd pl tm pm i164 h164)
def M_digest_S86_0 (n : Nat) (wd : Nat) (pl : Nat) (tm : Nat) (pm : Nat) (i86 : Nat) (σ86 : Nat → Nat → Int32) (h86 : Int64) : Nat → Nat → Int32 := M_orderOf_s σ86 pl i86
def M_digest_S86_1 (n : Nat) (wd : Nat) (pl : Nat) (tm : Nat) (pm : Nat) (i86 : Nat) (σ86 : Nat → Nat → Int32) (h86 : Int64) : Int64 := (M_say_h (M_orderOf_s σ86 pl i86) h86 ((M_orderOf_r σ86 pl i86).toInt64))
def M_digest_L86 (n : Nat) (wd : Nat) (pl : Nat) (tm : Nat) (pm : Nat) : Nat → Nat → (Nat → Nat → Int32) → (Int64) → (Nat → Nat → Int32) × (Int64)
  | 0, _, σ86, h86 => (σ86, h86)
  | n86 + 1, i86, σ86, h86 => M_digest_L86 n wd pl tm pm n86 (i86 + 1) (M_digest_S86_0 n wd pl tm pm i86 σ86 h86) (M_digest_S86_1 n wd pl tm pm i86 σ86 h86)
theorem M_digest_S86_k0 (n : Nat) (wd : Nat) (pl : Nat) (tm : Nat) (pm : Nat) (i86 : Nat) (σ86 : Nat → Nat → Int32) (h86 : Int64) : M_digest_S86_0 n wd pl tm pm i86 σ86 h86 0 = σ86 0 := by
  unfold M_digest_S86_0
  exact M_orderOf_s_k0 σ86 pl i86
theorem M_digest_L86_k0 (n : Nat) (wd : Nat) (pl : Nat) (tm : Nat) (pm : Nat) : ∀ (n86 i86 : Nat) (σ86 : Nat → Nat → Int32) (h86 : Int64), (M_digest_L86 n wd pl tm pm n86 i86 σ86 h86).1 0 = σ86 0 := by
  intro n86
  induction n86 with
  | zero => intros; rfl
  | succ n86 ih => intro i86 σ86 h86; exact (ih (i86 + 1) (M_digest_S86_0 n wd pl tm pm i86 σ86 h86) (M_digest_S86_1 n wd pl tm pm i86 σ86 h86)).trans (M_digest_S86_k0 n wd pl tm pm i86 σ86 h86)
theorem M_digest_S86_k1 (n : Nat) (wd : Nat) (pl : Nat) (tm : Nat) (pm : Nat) (i86 : Nat) (σ86 : Nat → Nat → Int32) (h86 : Int64) : M_digest_S86_0 n wd pl tm pm i86 σ86 h86 1 = σ86 1 := by
  unfold M_digest_S86_0
  exact M_orderOf_s_k1 σ86 pl i86
theorem M_digest_L86_k1 (n : Nat) (wd : Nat) (pl : Nat) (tm : Nat) (pm : Nat) : ∀ (n86 i86 : Nat) (σ86 : Nat → Nat → Int32) (h86 : Int64), (M_digest_L86 n wd pl tm pm n86 i86 σ86 h86).1 1 = σ86 1 := by
  intro n86
  induction n86 with
  | zero => intros; rfl
  | succ n86 ih => intro i86 σ86 h86; exact (ih (i86 + 1) (M_digest_S86_0 n wd pl tm pm i86 σ86 h86) (M_digest_S86_1 n wd pl tm pm i86 σ86 h86)).trans (M_digest_S86_k1 n wd pl tm pm i86 σ86 h86)
theorem M_digest_S86_k2 (n : Nat) (wd : Nat) (pl : Nat) (tm : Nat) (pm : Nat) (i86 : Nat) (σ86 : Nat → Nat → Int32) (h86 : Int64) : M_digest_S86_0 n wd pl tm pm i86 σ86 h86 2 = σ86 2 := by
  unfold M_digest_S86_0
  exact M_orderOf_s_k2 σ86 pl i86
theorem M_digest_L86_k2 (n : Nat) (wd : Nat) (pl : Nat) (tm : Nat) (pm : Nat) : ∀ (n86 i86 : Nat) (σ86 : Nat → Nat → Int32) (h86 : Int64), (M_digest_L86 n wd pl tm pm n86 i86 σ86 h86).1 2 = σ86 2 := by
  intro n86
  induction n86 with
  | zero => intros; rfl
  | succ n86 ih => intro i86 σ86 h86; exact (ih (i86 + 1) (M_digest_S86_0 n wd pl tm pm i86 σ86 h86) (M_digest_S86_1 n wd pl tm pm i86 σ86 h86)).trans (M_digest_S86_k2 n wd pl tm pm i86 σ86 h86)
theorem M_digest_S86_k3 (n : Nat) (wd : Nat) (pl : Nat) (tm : Nat) (pm : Nat) (i86 : Nat) (σ86 : Nat → Nat → Int32) (h86 : Int64) : M_digest_S86_0 n wd pl tm pm i86 σ86 h86 3 = σ86 3 := by
  unfold M_digest_S86_0
  exact M_orderOf_s_k3 σ86 pl i86
theorem M_digest_L86_k3 (n : Nat) (wd : Nat) (pl : Nat) (tm : Nat) (pm : Nat) : ∀ (n86 i86 : Nat) (σ86 : Nat → Nat → Int32) (h86 : Int64), (M_digest_L86 n wd pl tm pm n86 i86 σ86 h86).1 3 = σ86 3 := by
  intro n86
  induction n86 with
  | zero => intros; rfl
  | succ n86 ih => intro i86 σ86 h86; exact (ih (i86 + 1) (M_digest_S86_0 n wd pl tm pm i86 σ86 h86) (M_digest_S86_1 n wd pl tm pm i86 σ86 h86)).trans (M_digest_S86_k3 n wd pl tm pm i86 σ86 h86)
theorem M_digest_S86_k6 (n : Nat) (wd : Nat) (pl : Nat) (tm : Nat) (pm : Nat) (i86 : Nat) (σ86 : Nat → Nat → Int32) (h86 : Int64) : M_digest_S86_0 n wd pl tm pm i86 σ86 h86 6 = σ86 6 := by
  unfold M_digest_S86_0
  exact M_orderOf_s_k6 σ86 pl i86
theorem M_digest_L86_k6 (n : Nat) (wd : Nat) (pl : Nat) (tm : Nat) (pm : Nat) : ∀ (n86 i86 : Nat) (σ86 : Nat → Nat → Int32) (h86 : Int64), (M_digest_L86 n wd pl tm pm n86 i86 σ86 h86).1 6 = σ86 6 := by
  intro n86
  induction n86 with
  | zero => intros; rfl
  | succ n86 ih => intro i86 σ86 h86; exact (ih (i86 + 1) (M_digest_S86_0 n wd pl tm pm i86 σ86 h86) (M_digest_S86_1 n wd pl tm pm i86 σ86 h86)).trans (M_digest_S86_k6 n wd pl tm pm i86 σ86 h86)
theorem M_digest_S86_k7 (n : Nat) (wd : Nat) (pl : Nat) (tm : Nat) (pm : Nat) (i86 : Nat) (σ86 : Nat → Nat → Int32) (h86 : Int64) : M_digest_S86_0 n wd pl tm pm i86 σ86 h86 7 = σ86 7 := by
  unfold M_digest_S86_0
  exact M_orderOf_s_k7 σ86 pl i86
theorem M_digest_L86_k7 (n : Nat) (wd : Nat) (pl : Nat) (tm : Nat) (pm : Nat) : ∀ (n86 i86 : Nat) (σ86 : Nat → Nat → Int32) (h86 : Int64), (M_digest_L86 n wd pl tm pm n86 i86 σ86 h86).1 7 = σ86 7 := by
  intro n86
  induction n86 with
  | zero => intros; rfl
  | succ n86 ih => intro i86 σ86 h86; exact (ih (i86 + 1) (M_digest_S86_0 n wd pl tm pm i86 σ86 h86) (M_digest_S86_1 n wd pl tm pm i86 σ86 h86)).trans (M_digest_S86_k7 n wd pl tm pm i86 σ86 h86)
theorem M_digest_S86_k12 (n : Nat) (wd : Nat) (pl : Nat) (tm : Nat) (pm : Nat) (i86 : Nat) (σ86 : Nat → Nat → Int32) (h86 : Int64) : M_digest_S86_0 n wd pl tm pm i86 σ86 h86 12 = σ86 12 := by
  unfold M_digest_S86_0
  exact M_orderOf_s_k12 σ86 pl i86
theorem M_digest_L86_k12 (n : Nat) (wd : Nat) (pl : Nat) (tm : Nat) (pm : Nat) : ∀ (n86 i86 : Nat) (σ86 : Nat → Nat → Int32) (h86 : Int64), (M_digest_L86 n wd pl tm pm n86 i86 σ86 h86).1 12 = σ86 12 := by
  intro n86
  induction n86 with
  | zero => intros; rfl
  | succ n86 ih => intro i86 σ86 h86; exact (ih (i86 + 1) (M_digest_S86_0 n wd pl tm pm i86 σ86 h86) (M_digest_S86_1 n wd pl tm pm i86 σ86 h86)).trans (M_digest_S86_k12 n wd pl tm pm i86 σ86 h86)
theorem M_digest_S86_k13 (n : Nat) (wd : Nat) (pl : Nat) (tm : Nat) (pm : Nat) (i86 : Nat) (σ86 : Nat → Nat → Int32) (h86 : Int64) : M_digest_S86_0 n wd pl tm pm i86 σ86 h86 13 = σ86 13 := by
  unfold M_digest_S86_0
  exact M_orderOf_s_k13 σ86 pl i86
theorem M_digest_L86_k13 (n : Nat) (wd : Nat) (pl : Nat) (tm : Nat) (pm : Nat) : ∀ (n86 i86 : Nat) (σ86 : Nat → Nat → Int32) (h86 : Int64), (M_digest_L86 n wd pl tm pm n86 i86 σ86 h86).1 13 = σ86 13 := by
  intro n86
  induction n86 with
  | zero => intros; rfl
  | succ n86 ih => intro i86 σ86 h86; exact (ih (i86 + 1) (M_digest_S86_0 n wd pl tm pm i86 σ86 h86) (M_digest_S86_1 n wd pl tm pm i86 σ86 h86)).trans (M_digest_S86_k13 n wd pl tm pm i86 σ86 h86)
theorem M_digest_S86_k14 (n : Nat) (wd : Nat) (pl : Nat) (tm : Nat) (pm : Nat) (i86 : Nat) (σ86 : Nat → Nat → Int32) (h86 : Int64) : M_digest_S86_0 n wd pl tm pm i86 σ86 h86 14 = σ86 14 := by
  unfold M_digest_S86_0
  exact M_orderOf_s_k14 σ86 pl i86
theorem M_digest_L86_k14 (n : Nat) (wd : Nat) (pl : Nat) (tm : Nat) (pm : Nat) : ∀ (n86 i86 : Nat) (σ86 : Nat → Nat → Int32) (h86 : Int64), (M_digest_L86 n wd pl tm pm n86 i86 σ86 h86).1 14 = σ86 14 := by
  intro n86
  induction n86 with
  | zero => intros; rfl
  | succ n86 ih => intro i86 σ86 h86; exact (ih (i86 + 1) (M_digest_S86_0 n wd pl tm pm i86 σ86 h86) (M_digest_S86_1 n wd pl tm pm i86 σ86 h86)).trans (M_digest_S86_k14 n wd pl tm pm i86 σ86 h86)
theorem M_digest_S86_k15 (n : Nat) (wd : Nat) (pl : Nat) (tm : Nat) (pm : Nat) (i86 : Nat) (σ86 : Nat → Nat → Int32) (h86 : Int64) : M_digest_S86_0 n wd pl tm pm i86 σ86 h86 15 = σ86 15 := by
  unfold M_digest_S86_0
  exact M_orderOf_s_k15 σ86 pl i86
theorem M_digest_L86_k15 (n : Nat) (wd : Nat) (pl : Nat) (tm : Nat) (pm : Nat) : ∀ (n86 i86 : Nat) (σ86 : Nat → Nat → Int32) (h86 : Int64), (M_digest_L86 n wd pl tm pm n86 i86 σ86 h86).1 15 = σ86 15 := by
  intro n86
  induction n86 with
  | zero => intros; rfl
  | succ n86 ih => intro i86 σ86 h86; exact (ih (i86 + 1) (M_digest_S86_0 n wd pl tm pm i86 σ86 h86) (M_digest_S86_1 n wd pl tm pm i86 σ86 h86)).trans (M_digest_S86_k15 n wd pl tm pm i86 σ86 h86)
theorem M_digest_S86_k16 (n : Nat) (wd : Nat) (pl : Nat) (tm : Nat) (pm : Nat) (i86 : Nat) (σ86 : Nat → Nat → Int32) (h86 : Int64) : M_digest_S86_0 n wd pl tm pm i86 σ86 h86 16 = σ86 16 := by
  unfold M_digest_S86_0
  exact M_orderOf_s_k16 σ86 pl i86
theorem M_digest_L86_k16 (n : Nat) (wd : Nat) (pl : Nat) (tm : Nat) (pm : Nat) : ∀ (n86 i86 : Nat) (σ86 : Nat → Nat → Int32) (h86 : Int64), (M_digest_L86 n wd pl tm pm n86 i86 σ86 h86).1 16 = σ86 16 := by
  intro n86
  induction n86 with
  | zero => intros; rfl
  | succ n86 ih => intro i86 σ86 h86; exact (ih (i86 + 1) (M_digest_S86_0 n wd pl tm pm i86 σ86 h86) (M_digest_S86_1 n wd pl tm pm i86 σ86 h86)).trans (M_digest_S86_k16 n wd pl tm pm i86 σ86 h86)
theorem M_digest_S86_k17 (n : Nat) (wd : Nat) (pl : Nat) (tm : Nat) (pm : Nat) (i86 : Nat) (σ86 : Nat → Nat → Int32) (h86 : Int64) : M_digest_S86_0 n wd pl tm pm i86 σ86 h86 17 = σ86 17 := by
  unfold M_digest_S86_0
  exact M_orderOf_s_k17 σ86 pl i86
theorem M_digest_L86_k17 (n : Nat) (wd : Nat) (pl : Nat) (tm : Nat) (pm : Nat) : ∀ (n86 i86 : Nat) (σ86 : Nat → Nat → Int32) (h86 : Int64), (M_digest_L86 n wd pl tm pm n86 i86 σ86 h86).1 17 = σ86 17 := by
  intro n86
  induction n86 with
  | zero => intros; rfl
  | succ n86 ih => intro i86 σ86 h86; exact (ih (i86 + 1) (M_digest_S86_0 n wd pl tm pm i86 σ86 h86) (M_digest_S86_1 n wd pl tm pm i86 σ86 h86)).trans (M_digest_S86_k17 n wd pl tm pm i86 σ86 h86)
theorem M_digest_S86_k18 (n : Nat) (wd : Nat) (pl : Nat) (tm : Nat) (pm : Nat) (i86 : Nat) (σ86 : Nat → Nat → Int32) (h86 : Int64) : M_digest_S86_0 n wd pl tm pm i86 σ86 h86 18 = σ86 18 := by
  unfold M_digest_S86_0
  exact M_orderOf_s_k18 σ86 pl i86
theorem M_digest_L86_k18 (n : Nat) (wd : Nat) (pl : Nat) (tm : Nat) (pm : Nat) : ∀ (n86 i86 : Nat) (σ86 : Nat → Nat → Int32) (h86 : Int64), (M_digest_L86 n wd pl tm pm n86 i86 σ86 h86).1 18 = σ86 18 := by
  intro n86
  induction n86 with
  | zero => intros; rfl
  | succ n86 ih => intro i86 σ86 h86; exact (ih (i86 + 1) (M_digest_S86_0 n wd pl tm pm i86 σ86 h86) (M_digest_S86_1 n wd pl tm pm i86 σ86 h86)).trans (M_digest_S86_k18 n wd pl tm pm i86 σ86 h86)
theorem M_digest_S86_k19 (n : Nat) (wd : Nat) (pl : Nat) (tm : Nat) (pm : Nat) (i86 : Nat) (σ86 : Nat → Nat → Int32) (h86 : Int64) : M_digest_S86_0 n wd pl tm pm i86 σ86 h86 19 = σ86 19 := by
  unfold M_digest_S86_0
  exact M_orderOf_s_k19 σ86 pl i86
theorem M_digest_L86_k19 (n : Nat) (wd : Nat) (pl : Nat) (tm : Nat) (pm : Nat) : ∀ (n86 i86 : Nat) (σ86 : Nat → Nat → Int32) (h86 : Int64), (M_digest_L86 n wd pl tm pm n86 i86 σ86 h86).1 19 = σ86 19 := by
  intro n86
  induction n86 with
  | zero => intros; rfl
  | succ n86 ih => intro i86 σ86 h86; exact (ih (i86 + 1) (M_digest_S86_0 n wd pl tm pm i86 σ86 h86) (M_digest_S86_1 n wd pl tm pm i86 σ86 h86)).trans (M_digest_S86_k19 n wd pl tm pm i86 σ86 h86)
def M_digest_r (σ : Nat → Nat → Int32) (h : Int64) (n : Nat) (wd : Nat) (pl : Nat) (tm : Nat) (pm : Nat) : Int64 := if (M_lacks_r σ) = 0 then (M_digest_L164 (M_askOf_s (M_highOf_s ((M_digest_L86 n wd pl tm pm (14 - 10) 10 (M_orderOf_s σ pl 0) (M_say_h (M_orderOf_s σ pl 0) (M_say_h σ (M_digest_L30 σ n wd pl tm pm (4 * wd) 0 (M_digest_L9 σ n wd pl tm pm n 0 967)) ((M_settledOf_r σ n).toInt64)) ((M_orderOf_r σ pl 0).toInt64))).1) n pl) tm) n wd pl tm pm 10 0 (M_digest_L137 (M_askOf_s (M_highOf_s ((M_digest_L86 n wd pl tm pm (14 - 10) 10 (M_orderOf_s σ pl 0) (M_say_h (M_orderOf_s σ pl 0) (M_say_h σ (M_digest_L30 σ n wd pl tm pm (4 * wd) 0 (M_digest_L9 σ n wd pl tm pm n 0 967)) ((M_settledOf_r σ n).toInt64)) ((M_orderOf_r σ pl 0).toInt64))).1) n pl) tm) n wd pl tm pm pm 0 (M_say_h (M_askOf_s (M_highOf_s ((M_digest_L86 n wd pl tm pm (14 - 10) 10 (M_orderOf_s σ pl 0) (M_say_h (M_orderOf_s σ pl 0) (M_say_h σ (M_digest_L30 σ n wd pl tm pm (4 * wd) 0 (M_digest_L9 σ n wd pl tm pm n 0 967)) ((M_settledOf_r σ n).toInt64)) ((M_orderOf_r σ pl 0).toInt64))).1) n pl) tm) (M_say_h (M_highOf_s ((M_digest_L86 n wd pl tm pm (14 - 10) 10 (M_orderOf_s σ pl 0) (M_say_h (M_orderOf_s σ pl 0) (M_say_h σ (M_digest_L30 σ n wd pl tm pm (4 * wd) 0 (M_digest_L9 σ n wd pl tm pm n 0 967)) ((M_settledOf_r σ n).toInt64)) ((M_orderOf_r σ pl 0).toInt64))).1) n pl) (M_say_h (M_highOf_s ((M_digest_L86 n wd pl tm pm (14 - 10) 10 (M_orderOf_s σ pl 0) (M_say_h (M_orderOf_s σ pl 0) (M_say_h σ (M_digest_L30 σ n wd pl tm pm (4 * wd) 0 (M_digest_L9 σ n wd pl tm pm n 0 967)) ((M_settledOf_r σ n).toInt64)) ((M_orderOf_r σ pl 0).toInt64))).1) n pl) ((M_digest_L86 n wd pl tm pm (14 - 10) 10 (M_orderOf_s σ pl 0) (M_say_h (M_orderOf_s σ pl 0) (M_say_h σ (M_digest_L30 σ n wd pl tm pm (4 * wd) 0 (M_digest_L9 σ n wd pl tm pm n 0 967)) ((M_settledOf_r σ n).toInt64)) ((M_orderOf_r σ pl 0).toInt64))).2) ((M_highOf_r ((M_digest_L86 n wd pl tm pm (14 - 10) 10 (M_orderOf_s σ pl 0) (M_say_h (M_orderOf_s σ pl 0) (M_say_h σ (M_digest_L30 σ n wd pl tm pm (4 * wd) 0 (M_digest_L9 σ n wd pl tm pm n 0 967)) ((M_settledOf_r σ n).toInt64)) ((M_orderOf_r σ pl 0).toInt64))).1) n pl).toInt64)) ((M_whichOf_r (M_highOf_s ((M_digest_L86 n wd pl tm pm (14 - 10) 10 (M_orderOf_s σ pl 0) (M_say_h (M_orderOf_s σ pl 0) (M_say_h σ (M_digest_L30 σ n wd pl tm pm (4 * wd) 0 (M_digest_L9 σ n wd pl tm pm n 0 967)) ((M_settledOf_r σ n).toInt64)) ((M_orderOf_r σ pl 0).toInt64))).1) n pl) tm).toInt64)) ((M_askOf_r (M_highOf_s ((M_digest_L86 n wd pl tm pm (14 - 10) 10 (M_orderOf_s σ pl 0) (M_say_h (M_orderOf_s σ pl 0) (M_say_h σ (M_digest_L30 σ n wd pl tm pm (4 * wd) 0 (M_digest_L9 σ n wd pl tm pm n 0 967)) ((M_settledOf_r σ n).toInt64)) ((M_orderOf_r σ pl 0).toInt64))).1) n pl) tm).toInt64)))) else (M_digest_L164 (M_askOf_s σ tm) n wd pl tm pm 10 0 (M_digest_L137 (M_askOf_s σ tm) n wd pl tm pm pm 0 (M_say_h (M_askOf_s σ tm) (M_say_h σ (M_digest_L30 σ n wd pl tm pm (4 * wd) 0 (M_digest_L9 σ n wd pl tm pm n 0 967)) ((M_whichOf_r σ tm).toInt64)) ((M_askOf_r σ tm).toInt64))))
def M_digest_s (σ : Nat → Nat → Int32) (h : Int64) (n : Nat) (wd : Nat) (pl : Nat) (tm : Nat) (pm : Nat) : Nat → Nat → Int32 := if (M_lacks_r σ) = 0 then (M_askOf_s (M_highOf_s ((M_digest_L86 n wd pl tm pm (14 - 10) 10 (M_orderOf_s σ pl 0) (M_say_h (M_orderOf_s σ pl 0) (M_say_h σ (M_digest_L30 σ n wd pl tm pm (4 * wd) 0 (M_digest_L9 σ n wd pl tm pm n 0 967)) ((M_settledOf_r σ n).toInt64)) ((M_orderOf_r σ pl 0).toInt64))).1) n pl) tm) else (M_askOf_s σ tm)
def M_digest_h (σ : Nat → Nat → Int32) (h : Int64) (n : Nat) (wd : Nat) (pl : Nat) (tm : Nat) (pm : Nat) : Int64 := if (M_lacks_r σ) = 0 then (M_digest_L164 (M_askOf_s (M_highOf_s ((M_digest_L86 n wd pl tm pm (14 - 10) 10 (M_orderOf_s σ pl 0) (M_say_h (M_orderOf_s σ pl 0) (M_say_h σ (M_digest_L30 σ n wd pl tm pm (4 * wd) 0 (M_digest_L9 σ n wd pl tm pm n 0 967)) ((M_settledOf_r σ n).toInt64)) ((M_orderOf_r σ pl 0).toInt64))).1) n pl) tm) n wd pl tm pm 10 0 (M_digest_L137 (M_askOf_s (M_highOf_s ((M_digest_L86 n wd pl tm pm (14 - 10) 10 (M_orderOf_s σ pl 0) (M_say_h (M_orderOf_s σ pl 0) (M_say_h σ (M_digest_L30 σ n wd pl tm pm (4 * wd) 0 (M_digest_L9 σ n wd pl tm pm n 0 967)) ((M_settledOf_r σ n).toInt64)) ((M_orderOf_r σ pl 0).toInt64))).1) n pl) tm) n wd pl tm pm pm 0 (M_say_h (M_askOf_s (M_highOf_s ((M_digest_L86 n wd pl tm pm (14 - 10) 10 (M_orderOf_s σ pl 0) (M_say_h (M_orderOf_s σ pl 0) (M_say_h σ (M_digest_L30 σ n wd pl tm pm (4 * wd) 0 (M_digest_L9 σ n wd pl tm pm n 0 967)) ((M_settledOf_r σ n).toInt64)) ((M_orderOf_r σ pl 0).toInt64))).1) n pl) tm) (M_say_h (M_highOf_s ((M_digest_L86 n wd pl tm pm (14 - 10) 10 (M_orderOf_s σ pl 0) (M_say_h (M_orderOf_s σ pl 0) (M_say_h σ (M_digest_L30 σ n wd pl tm pm (4 * wd) 0 (M_digest_L9 σ n wd pl tm pm n 0 967)) ((M_settledOf_r σ n).toInt64)) ((M_orderOf_r σ pl 0).toInt64))).1) n pl) (M_say_h (M_highOf_s ((M_digest_L86 n wd pl tm pm (14 - 10) 10 (M_orderOf_s σ pl 0) (M_say_h (M_orderOf_s σ pl 0) (M_say_h σ (M_digest_L30 σ n wd pl tm pm (4 * wd) 0 (M_digest_L9 σ n wd pl tm pm n 0 967)) ((M_settledOf_r σ n).toInt64)) ((M_orderOf_r σ pl 0).toInt64))).1) n pl) ((M_digest_L86 n wd pl tm pm (14 - 10) 10 (M_orderOf_s σ pl 0) (M_say_h (M_orderOf_s σ pl 0) (M_say_h σ (M_digest_L30 σ n wd pl tm pm (4 * wd) 0 (M_digest_L9 σ n wd pl tm pm n 0 967)) ((M_settledOf_r σ n).toInt64)) ((M_orderOf_r σ pl 0).toInt64))).2) ((M_highOf_r ((M_digest_L86 n wd pl tm pm (14 - 10) 10 (M_orderOf_s σ pl 0) (M_say_h (M_orderOf_s σ pl 0) (M_say_h σ (M_digest_L30 σ n wd pl tm pm (4 * wd) 0 (M_digest_L9 σ n wd pl tm pm n 0 967)) ((M_settledOf_r σ n).toInt64)) ((M_orderOf_r σ pl 0).toInt64))).1) n pl).toInt64)) ((M_whichOf_r (M_highOf_s ((M_digest_L86 n wd pl tm pm (14 - 10) 10 (M_orderOf_s σ pl 0) (M_say_h (M_orderOf_s σ pl 0) (M_say_h σ (M_digest_L30 σ n wd pl tm pm (4 * wd) 0 (M_digest_L9 σ n wd pl tm pm n 0 967)) ((M_settledOf_r σ n).toInt64)) ((M_orderOf_r σ pl 0).toInt64))).1) n pl) tm).toInt64)) ((M_askOf_r (M_highOf_s ((M_digest_L86 n wd pl tm pm (14 - 10) 10 (M_orderOf_s σ pl 0) (M_say_h (M_orderOf_s σ pl 0) (M_say_h σ (M_digest_L30 σ n wd pl tm pm (4 * wd) 0 (M_digest_L9 σ n wd pl tm pm n 0 967)) ((M_settledOf_r σ n).toInt64)) ((M_orderOf_r σ pl 0).toInt64))).1) n pl) tm).toInt64)))) else (M_digest_L164 (M_askOf_s σ tm) n wd pl tm pm 10 0 (M_digest_L137 (M_askOf_s σ tm) n wd pl tm pm pm 0 (M_say_h (M_askOf_s σ tm) (M_say_h σ (M_digest_L30 σ n wd pl tm pm (4 * wd) 0 (M_digest_L9 σ n wd pl tm pm n 0 967)) ((M_whichOf_r σ tm).toInt64)) ((M_askOf_r σ tm).toInt64))))
theorem M_digest_s_k0 (σ : Nat → Nat → Int32) (h : Int64) (n : Nat) (wd : Nat) (pl : Nat) (tm : Nat) (pm : Nat) : M_digest_s σ h n wd pl tm pm 0 = σ 0 := by
  unfold M_digest_s
  by_cases z1 : (M_lacks_r σ) = 0
  · refine Eq.trans (congrFun (if_pos z1) 0) ?_
    exact (M_askOf_s_k0 (M_highOf_s ((M_digest_L86 n wd pl tm pm (14 - 10) 10 (M_orderOf_s σ pl 0) (M_say_h (M_orderOf_s σ pl 0) (M_say_h σ (M_digest_L30 σ n wd pl tm pm (4 * wd) 0 (M_digest_L9 σ n wd pl tm pm n 0 967)) ((M_settledOf_r σ n).toInt64)) ((M_orderOf_r σ pl 0).toInt64))).1) n pl) tm).trans ((M_highOf_s_k0 ((M_digest_L86 n wd pl tm pm (14 - 10) 10 (M_orderOf_s σ pl 0) (M_say_h (M_orderOf_s σ pl 0) (M_say_h σ (M_digest_L30 σ n wd pl tm pm (4 * wd) 0 (M_digest_L9 σ n wd pl tm pm n 0 967)) ((M_settledOf_r σ n).toInt64)) ((M_orderOf_r σ pl 0).toInt64))).1) n pl).trans ((M_digest_L86_k0 n wd pl tm pm (14 - 10) 10 (M_orderOf_s σ pl 0) (M_say_h (M_orderOf_s σ pl 0) (M_say_h σ (M_digest_L30 σ n wd pl tm pm (4 * wd) 0 (M_digest_L9 σ n wd pl tm pm n 0 967)) ((M_settledOf_r σ n).toInt64)) ((M_orderOf_r σ pl 0).toInt64))).trans (M_orderOf_s_k0 σ pl 0)))
  · refine Eq.trans (congrFun (if_neg z1) 0) ?_
    exact M_askOf_s_k0 σ tm
theorem M_digest_s_k1 (σ : Nat → Nat → Int32) (h : Int64) (n : Nat) (wd : Nat) (pl : Nat) (tm : Nat) (pm : Nat) : M_digest_s σ h n wd pl tm pm 1 = σ 1 := by
  unfold M_digest_s
  by_cases z1 : (M_lacks_r σ) = 0
  · refine Eq.trans (congrFun (if_pos z1) 1) ?_
    exact (M_askOf_s_k1 (M_highOf_s ((M_digest_L86 n wd pl tm pm (14 - 10) 10 (M_orderOf_s σ pl 0) (M_say_h (M_orderOf_s σ pl 0) (M_say_h σ (M_digest_L30 σ n wd pl tm pm (4 * wd) 0 (M_digest_L9 σ n wd pl tm pm n 0 967)) ((M_settledOf_r σ n).toInt64)) ((M_orderOf_r σ pl 0).toInt64))).1) n pl) tm).trans ((M_highOf_s_k1 ((M_digest_L86 n wd pl tm pm (14 - 10) 10 (M_orderOf_s σ pl 0) (M_say_h (M_orderOf_s σ pl 0) (M_say_h σ (M_digest_L30 σ n wd pl tm pm (4 * wd) 0 (M_digest_L9 σ n wd pl tm pm n 0 967)) ((M_settledOf_r σ n).toInt64)) ((M_orderOf_r σ pl 0).toInt64))).1) n pl).trans ((M_digest_L86_k1 n wd pl tm pm (14 - 10) 10 (M_orderOf_s σ pl 0) (M_say_h (M_orderOf_s σ pl 0) (M_say_h σ (M_digest_L30 σ n wd pl tm pm (4 * wd) 0 (M_digest_L9 σ n wd pl tm pm n 0 967)) ((M_settledOf_r σ n).toInt64)) ((M_orderOf_r σ pl 0).toInt64))).trans (M_orderOf_s_k1 σ pl 0)))
  · refine Eq.trans (congrFun (if_neg z1) 1) ?_
    exact M_askOf_s_k1 σ tm
theorem M_digest_s_k2 (σ : Nat → Nat → Int32) (h : Int64) (n : Nat) (wd : Nat) (pl : Nat) (tm : Nat) (pm : Nat) : M_digest_s σ h n wd pl tm pm 2 = σ 2 := by
  unfold M_digest_s
  by_cases z1 : (M_lacks_r σ) = 0
  · refine Eq.trans (congrFun (if_pos z1) 2) ?_
    exact (M_askOf_s_k2 (M_highOf_s ((M_digest_L86 n wd pl tm pm (14 - 10) 10 (M_orderOf_s σ pl 0) (M_say_h (M_orderOf_s σ pl 0) (M_say_h σ (M_digest_L30 σ n wd pl tm pm (4 * wd) 0 (M_digest_L9 σ n wd pl tm pm n 0 967)) ((M_settledOf_r σ n).toInt64)) ((M_orderOf_r σ pl 0).toInt64))).1) n pl) tm).trans ((M_highOf_s_k2 ((M_digest_L86 n wd pl tm pm (14 - 10) 10 (M_orderOf_s σ pl 0) (M_say_h (M_orderOf_s σ pl 0) (M_say_h σ (M_digest_L30 σ n wd pl tm pm (4 * wd) 0 (M_digest_L9 σ n wd pl tm pm n 0 967)) ((M_settledOf_r σ n).toInt64)) ((M_orderOf_r σ pl 0).toInt64))).1) n pl).trans ((M_digest_L86_k2 n wd pl tm pm (14 - 10) 10 (M_orderOf_s σ pl 0) (M_say_h (M_orderOf_s σ pl 0) (M_say_h σ (M_digest_L30 σ n wd pl tm pm (4 * wd) 0 (M_digest_L9 σ n wd pl tm pm n 0 967)) ((M_settledOf_r σ n).toInt64)) ((M_orderOf_r σ pl 0).toInt64))).trans (M_orderOf_s_k2 σ pl 0)))
  · refine Eq.trans (congrFun (if_neg z1) 2) ?_
    exact M_askOf_s_k2 σ tm
theorem M_digest_s_k3 (σ : Nat → Nat → Int32) (h : Int64) (n : Nat) (wd : Nat) (pl : Nat) (tm : Nat) (pm : Nat) : M_digest_s σ h n wd pl tm pm 3 = σ 3 := by
  unfold M_digest_s
  by_cases z1 : (M_lacks_r σ) = 0
  · refine Eq.trans (congrFun (if_pos z1) 3) ?_
    exact (M_askOf_s_k3 (M_highOf_s ((M_digest_L86 n wd pl tm pm (14 - 10) 10 (M_orderOf_s σ pl 0) (M_say_h (M_orderOf_s σ pl 0) (M_say_h σ (M_digest_L30 σ n wd pl tm pm (4 * wd) 0 (M_digest_L9 σ n wd pl tm pm n 0 967)) ((M_settledOf_r σ n).toInt64)) ((M_orderOf_r σ pl 0).toInt64))).1) n pl) tm).trans ((M_highOf_s_k3 ((M_digest_L86 n wd pl tm pm (14 - 10) 10 (M_orderOf_s σ pl 0) (M_say_h (M_orderOf_s σ pl 0) (M_say_h σ (M_digest_L30 σ n wd pl tm pm (4 * wd) 0 (M_digest_L9 σ n wd pl tm pm n 0 967)) ((M_settledOf_r σ n).toInt64)) ((M_orderOf_r σ pl 0).toInt64))).1) n pl).trans ((M_digest_L86_k3 n wd pl tm pm (14 - 10) 10 (M_orderOf_s σ pl 0) (M_say_h (M_orderOf_s σ pl 0) (M_say_h σ (M_digest_L30 σ n wd pl tm pm (4 * wd) 0 (M_digest_L9 σ n wd pl tm pm n 0 967)) ((M_settledOf_r σ n).toInt64)) ((M_orderOf_r σ pl 0).toInt64))).trans (M_orderOf_s_k3 σ pl 0)))
  · refine Eq.trans (congrFun (if_neg z1) 3) ?_
    exact M_askOf_s_k3 σ tm
theorem M_digest_s_k6 (σ : Nat → Nat → Int32) (h : Int64) (n : Nat) (wd : Nat) (pl : Nat) (tm : Nat) (pm : Nat) : M_digest_s σ h n wd pl tm pm 6 = σ 6 := by
  unfold M_digest_s
  by_cases z1 : (M_lacks_r σ) = 0
  · refine Eq.trans (congrFun (if_pos z1) 6) ?_
    exact (M_askOf_s_k6 (M_highOf_s ((M_digest_L86 n wd pl tm pm (14 - 10) 10 (M_orderOf_s σ pl 0) (M_say_h (M_orderOf_s σ pl 0) (M_say_h σ (M_digest_L30 σ n wd pl tm pm (4 * wd) 0 (M_digest_L9 σ n wd pl tm pm n 0 967)) ((M_settledOf_r σ n).toInt64)) ((M_orderOf_r σ pl 0).toInt64))).1) n pl) tm).trans ((M_highOf_s_k6 ((M_digest_L86 n wd pl tm pm (14 - 10) 10 (M_orderOf_s σ pl 0) (M_say_h (M_orderOf_s σ pl 0) (M_say_h σ (M_digest_L30 σ n wd pl tm pm (4 * wd) 0 (M_digest_L9 σ n wd pl tm pm n 0 967)) ((M_settledOf_r σ n).toInt64)) ((M_orderOf_r σ pl 0).toInt64))).1) n pl).trans ((M_digest_L86_k6 n wd pl tm pm (14 - 10) 10 (M_orderOf_s σ pl 0) (M_say_h (M_orderOf_s σ pl 0) (M_say_h σ (M_digest_L30 σ n wd pl tm pm (4 * wd) 0 (M_digest_L9 σ n wd pl tm pm n 0 967)) ((M_settledOf_r σ n).toInt64)) ((M_orderOf_r σ pl 0).toInt64))).trans (M_orderOf_s_k6 σ pl 0)))
  · refine Eq.trans (congrFun (if_neg z1) 6) ?_
    exact M_askOf_s_k6 σ tm
theorem M_digest_s_k7 (σ : Nat → Nat → Int32) (h : Int64) (n : Nat) (wd : Nat) (pl : Nat) (tm : Nat) (pm : Nat) : M_digest_s σ h n wd pl tm pm 7 = σ 7 := by
  unfold M_digest_s
  by_cases z1 : (M_lacks_r σ) = 0
  · refine Eq.trans (congrFun (if_pos z1) 7) ?_
    exact (M_askOf_s_k7 (M_highOf_s ((M_digest_L86 n wd pl tm pm (14 - 10) 10 (M_orderOf_s σ pl 0) (M_say_h (M_orderOf_s σ pl 0) (M_say_h σ (M_digest_L30 σ n wd pl tm pm (4 * wd) 0 (M_digest_L9 σ n wd pl tm pm n 0 967)) ((M_settledOf_r σ n).toInt64)) ((M_orderOf_r σ pl 0).toInt64))).1) n pl) tm).trans ((M_highOf_s_k7 ((M_digest_L86 n wd pl tm pm (14 - 10) 10 (M_orderOf_s σ pl 0) (M_say_h (M_orderOf_s σ pl 0) (M_say_h σ (M_digest_L30 σ n wd pl tm pm (4 * wd) 0 (M_digest_L9 σ n wd pl tm pm n 0 967)) ((M_settledOf_r σ n).toInt64)) ((M_orderOf_r σ pl 0).toInt64))).1) n pl).trans ((M_digest_L86_k7 n wd pl tm pm (14 - 10) 10 (M_orderOf_s σ pl 0) (M_say_h (M_orderOf_s σ pl 0) (M_say_h σ (M_digest_L30 σ n wd pl tm pm (4 * wd) 0 (M_digest_L9 σ n wd pl tm pm n 0 967)) ((M_settledOf_r σ n).toInt64)) ((M_orderOf_r σ pl 0).toInt64))).trans (M_orderOf_s_k7 σ pl 0)))
  · refine Eq.trans (congrFun (if_neg z1) 7) ?_
    exact M_askOf_s_k7 σ tm
theorem M_digest_s_k13 (σ : Nat → Nat → Int32) (h : Int64) (n : Nat) (wd : Nat) (pl : Nat) (tm : Nat) (pm : Nat) : M_digest_s σ h n wd pl tm pm 13 = σ 13 := by
  unfold M_digest_s
  by_cases z1 : (M_lacks_r σ) = 0
  · refine Eq.trans (congrFun (if_pos z1) 13) ?_
    exact (M_askOf_s_k13 (M_highOf_s ((M_digest_L86 n wd pl tm pm (14 - 10) 10 (M_orderOf_s σ pl 0) (M_say_h (M_orderOf_s σ pl 0) (M_say_h σ (M_digest_L30 σ n wd pl tm pm (4 * wd) 0 (M_digest_L9 σ n wd pl tm pm n 0 967)) ((M_settledOf_r σ n).toInt64)) ((M_orderOf_r σ pl 0).toInt64))).1) n pl) tm).trans ((M_highOf_s_k13 ((M_digest_L86 n wd pl tm pm (14 - 10) 10 (M_orderOf_s σ pl 0) (M_say_h (M_orderOf_s σ pl 0) (M_say_h σ (M_digest_L30 σ n wd pl tm pm (4 * wd) 0 (M_digest_L9 σ n wd pl tm pm n 0 967)) ((M_settledOf_r σ n).toInt64)) ((M_orderOf_r σ pl 0).toInt64))).1) n pl).trans ((M_digest_L86_k13 n wd pl tm pm (14 - 10) 10 (M_orderOf_s σ pl 0) (M_say_h (M_orderOf_s σ pl 0) (M_say_h σ (M_digest_L30 σ n wd pl tm pm (4 * wd) 0 (M_digest_L9 σ n wd pl tm pm n 0 967)) ((M_settledOf_r σ n).toInt64)) ((M_orderOf_r σ pl 0).toInt64))).trans (M_orderOf_s_k13 σ pl 0)))
  · refine Eq.trans (congrFun (if_neg z1) 13) ?_
    exact M_askOf_s_k13 σ tm
theorem M_digest_s_k15 (σ : Nat → Nat → Int32) (h : Int64) (n : Nat) (wd : Nat) (pl : Nat) (tm : Nat) (pm : Nat) : M_digest_s σ h n wd pl tm pm 15 = σ 15 := by
  unfold M_digest_s
  by_cases z1 : (M_lacks_r σ) = 0
  · refine Eq.trans (congrFun (if_pos z1) 15) ?_
    exact (M_askOf_s_k15 (M_highOf_s ((M_digest_L86 n wd pl tm pm (14 - 10) 10 (M_orderOf_s σ pl 0) (M_say_h (M_orderOf_s σ pl 0) (M_say_h σ (M_digest_L30 σ n wd pl tm pm (4 * wd) 0 (M_digest_L9 σ n wd pl tm pm n 0 967)) ((M_settledOf_r σ n).toInt64)) ((M_orderOf_r σ pl 0).toInt64))).1) n pl) tm).trans ((M_highOf_s_k15 ((M_digest_L86 n wd pl tm pm (14 - 10) 10 (M_orderOf_s σ pl 0) (M_say_h (M_orderOf_s σ pl 0) (M_say_h σ (M_digest_L30 σ n wd pl tm pm (4 * wd) 0 (M_digest_L9 σ n wd pl tm pm n 0 967)) ((M_settledOf_r σ n).toInt64)) ((M_orderOf_r σ pl 0).toInt64))).1) n pl).trans ((M_digest_L86_k15 n wd pl tm pm (14 - 10) 10 (M_orderOf_s σ pl 0) (M_say_h (M_orderOf_s σ pl 0) (M_say_h σ (M_digest_L30 σ n wd pl tm pm (4 * wd) 0 (M_digest_L9 σ n wd pl tm pm n 0 967)) ((M_settledOf_r σ n).toInt64)) ((M_orderOf_r σ pl 0).toInt64))).trans (M_orderOf_s_k15 σ pl 0)))
  · refine Eq.trans (congrFun (if_neg z1) 15) ?_
    exact M_askOf_s_k15 σ tm
theorem M_digest_s_k16 (σ : Nat → Nat → Int32) (h : Int64) (n : Nat) (wd : Nat) (pl : Nat) (tm : Nat) (pm : Nat) : M_digest_s σ h n wd pl tm pm 16 = σ 16 := by
  unfold M_digest_s
  by_cases z1 : (M_lacks_r σ) = 0
  · refine Eq.trans (congrFun (if_pos z1) 16) ?_
    exact (M_askOf_s_k16 (M_highOf_s ((M_digest_L86 n wd pl tm pm (14 - 10) 10 (M_orderOf_s σ pl 0) (M_say_h (M_orderOf_s σ pl 0) (M_say_h σ (M_digest_L30 σ n wd pl tm pm (4 * wd) 0 (M_digest_L9 σ n wd pl tm pm n 0 967)) ((M_settledOf_r σ n).toInt64)) ((M_orderOf_r σ pl 0).toInt64))).1) n pl) tm).trans ((M_highOf_s_k16 ((M_digest_L86 n wd pl tm pm (14 - 10) 10 (M_orderOf_s σ pl 0) (M_say_h (M_orderOf_s σ pl 0) (M_say_h σ (M_digest_L30 σ n wd pl tm pm (4 * wd) 0 (M_digest_L9 σ n wd pl tm pm n 0 967)) ((M_settledOf_r σ n).toInt64)) ((M_orderOf_r σ pl 0).toInt64))).1) n pl).trans ((M_digest_L86_k16 n wd pl tm pm (14 - 10) 10 (M_orderOf_s σ pl 0) (M_say_h (M_orderOf_s σ pl 0) (M_say_h σ (M_digest_L30 σ n wd pl tm pm (4 * wd) 0 (M_digest_L9 σ n wd pl tm pm n 0 967)) ((M_settledOf_r σ n).toInt64)) ((M_orderOf_r σ pl 0).toInt64))).trans (M_orderOf_s_k16 σ pl 0)))
  · refine Eq.trans (congrFun (if_neg z1) 16) ?_
    exact M_askOf_s_k16 σ tm
theorem M_digest_s_k17 (σ : Nat → Nat → Int32) (h : Int64) (n : Nat) (wd : Nat) (pl : Nat) (tm : Nat) (pm : Nat) : M_digest_s σ h n wd pl tm pm 17 = σ 17 := by
  unfold M_digest_s
  by_cases z1 : (M_lacks_r σ) = 0
  · refine Eq.trans (congrFun (if_pos z1) 17) ?_
    exact (M_askOf_s_k17 (M_highOf_s ((M_digest_L86 n wd pl tm pm (14 - 10) 10 (M_orderOf_s σ pl 0) (M_say_h (M_orderOf_s σ pl 0) (M_say_h σ (M_digest_L30 σ n wd pl tm pm (4 * wd) 0 (M_digest_L9 σ n wd pl tm pm n 0 967)) ((M_settledOf_r σ n).toInt64)) ((M_orderOf_r σ pl 0).toInt64))).1) n pl) tm).trans ((M_highOf_s_k17 ((M_digest_L86 n wd pl tm pm (14 - 10) 10 (M_orderOf_s σ pl 0) (M_say_h (M_orderOf_s σ pl 0) (M_say_h σ (M_digest_L30 σ n wd pl tm pm (4 * wd) 0 (M_digest_L9 σ n wd pl tm pm n 0 967)) ((M_settledOf_r σ n).toInt64)) ((M_orderOf_r σ pl 0).toInt64))).1) n pl).trans ((M_digest_L86_k17 n wd pl tm pm (14 - 10) 10 (M_orderOf_s σ pl 0) (M_say_h (M_orderOf_s σ pl 0) (M_say_h σ (M_digest_L30 σ n wd pl tm pm (4 * wd) 0 (M_digest_L9 σ n wd pl tm pm n 0 967)) ((M_settledOf_r σ n).toInt64)) ((M_orderOf_r σ pl 0).toInt64))).trans (M_orderOf_s_k17 σ pl 0)))
  · refine Eq.trans (congrFun (if_neg z1) 17) ?_
    exact M_askOf_s_k17 σ tm
theorem M_digest_s_k18 (σ : Nat → Nat → Int32) (h : Int64) (n : Nat) (wd : Nat) (pl : Nat) (tm : Nat) (pm : Nat) : M_digest_s σ h n wd pl tm pm 18 = σ 18 := by
  unfold M_digest_s
  by_cases z1 : (M_lacks_r σ) = 0
  · refine Eq.trans (congrFun (if_pos z1) 18) ?_
    exact (M_askOf_s_k18 (M_highOf_s ((M_digest_L86 n wd pl tm pm (14 - 10) 10 (M_orderOf_s σ pl 0) (M_say_h (M_orderOf_s σ pl 0) (M_say_h σ (M_digest_L30 σ n wd pl tm pm (4 * wd) 0 (M_digest_L9 σ n wd pl tm pm n 0 967)) ((M_settledOf_r σ n).toInt64)) ((M_orderOf_r σ pl 0).toInt64))).1) n pl) tm).trans ((M_highOf_s_k18 ((M_digest_L86 n wd pl tm pm (14 - 10) 10 (M_orderOf_s σ pl 0) (M_say_h (M_orderOf_s σ pl 0) (M_say_h σ (M_digest_L30 σ n wd pl tm pm (4 * wd) 0 (M_digest_L9 σ n wd pl tm pm n 0 967)) ((M_settledOf_r σ n).toInt64)) ((M_orderOf_r σ pl 0).toInt64))).1) n pl).trans ((M_digest_L86_k18 n wd pl tm pm (14 - 10) 10 (M_orderOf_s σ pl 0) (M_say_h (M_orderOf_s σ pl 0) (M_say_h σ (M_digest_L30 σ n wd pl tm pm (4 * wd) 0 (M_digest_L9 σ n wd pl tm pm n 0 967)) ((M_settledOf_r σ n).toInt64)) ((M_orderOf_r σ pl 0).toInt64))).trans (M_orderOf_s_k18 σ pl 0)))
  · refine Eq.trans (congrFun (if_neg z1) 18) ?_
    exact M_askOf_s_k18 σ tm
theorem M_digest_s_k19 (σ : Nat → Nat → Int32) (h : Int64) (n : Nat) (wd : Nat) (pl : Nat) (tm : Nat) (pm : Nat) : M_digest_s σ h n wd pl tm pm 19 = σ 19 := by
  unfold M_digest_s
  by_cases z1 : (M_lacks_r σ) = 0
  · refine Eq.trans (congrFun (if_pos z1) 19) ?_
    exact (M_askOf_s_k19 (M_highOf_s ((M_digest_L86 n wd pl tm pm (14 - 10) 10 (M_orderOf_s σ pl 0) (M_say_h (M_orderOf_s σ pl 0) (M_say_h σ (M_digest_L30 σ n wd pl tm pm (4 * wd) 0 (M_digest_L9 σ n wd pl tm pm n 0 967)) ((M_settledOf_r σ n).toInt64)) ((M_orderOf_r σ pl 0).toInt64))).1) n pl) tm).trans ((M_highOf_s_k19 ((M_digest_L86 n wd pl tm pm (14 - 10) 10 (M_orderOf_s σ pl 0) (M_say_h (M_orderOf_s σ pl 0) (M_say_h σ (M_digest_L30 σ n wd pl tm pm (4 * wd) 0 (M_digest_L9 σ n wd pl tm pm n 0 967)) ((M_settledOf_r σ n).toInt64)) ((M_orderOf_r σ pl 0).toInt64))).1) n pl).trans ((M_digest_L86_k19 n wd pl tm pm (14 - 10) 10 (M_orderOf_s σ pl 0) (M_say_h (M_orderOf_s σ pl 0) (M_say_h σ (M_digest_L30 σ n wd pl tm pm (4 * wd) 0 (M_digest_L9 σ n wd pl tm pm n 0 967)) ((M_settledOf_r σ n).toInt64)) ((M_orderOf_r σ pl 0).toInt64))).trans (M_orderOf_s_k19 σ pl 0)))
  · refine Eq.trans (congrFun (if_neg z1) 19) ?_
    exact M_askOf_s_k19 σ tm
set_option maxHeartbeats 4000000 in
set_option maxRecDepth 100000 in
theorem c_M_digest (l : Launch) (D : va_G) (cI : ClassId) (a : Nat → Nat) (σ : Nat → Nat → Int32) (h : Int64) (n : Nat) (wd : Nat) (pl : Nat) (tm : Nat) (pm : Nat) (hn : σ 0 6 = nI n) (hnb : n ≤ 4) (hw0 : σ 0 13 = nI wd) (hw0b : wd ≤ 12) (hp0 : σ 0 15 = nI pl) (hp0b : pl ≤ 4) (ht0 : σ 0 22 = nI tm) (ht0b : tm ≤ 6) (hpm : σ 0 1 = nI pm) (hpmb : pm ≤ 16) (hpl : planOK (σ 7) pl) : gL l D [(cI, .int)] yX12_digest wsX12_digest 7 [.ref (a 0)] (wM cI a σ h) (M_digest_r σ h n wd pl tm pm) (wM cI a (M_digest_s σ h n wd pl tm pm) (M_digest_h σ h n wd pl tm pm)) := by
  refine g_start (cc := cX12_digest) (maxL := 2) (ret := some .long) (Qc := gQl D [(cI, .int)] (M_digest_r σ h n wd pl tm pm) (wM cI a (M_digest_s σ h n wd pl tm pm) (M_digest_h σ h n wd pl tm pm))) (by decide) rfl (Nat.le_of_ble_eq_true rfl) ?_
  intro p e s m below meth C A ls S hr hlk hw hl
  obtain ⟨hx, hb, hml, hown, hts⟩ := id S
  have hinX12 : ∀ x ∈ u_ws RX12 TX12 38, x ∈ wsX12_digest := fun x h => List.mem_cons_of_mem _ (List.mem_append_right _ h)
  have lk0 : Cond.constantLong RX12 258 (967) ∈ wsX12_digest := by decide +kernel
  have lk1 : Cond.fieldLink RX12 250 "CowsOwedModel" "hash" "J" ∈ wsX12_digest := by decide +kernel
  have lk2 : Cond.fieldLink RX12 105 "CowsOwedModel" "clans" "I" ∈ wsX12_digest := by decide +kernel
  have lk3 : Cond.fieldLink RX12 114 "CowsOwedModel" "weddings" "I" ∈ wsX12_digest := by decide +kernel
  have lk4 : Cond.fieldLink RX12 25 "CowsOwedModel" "rows" "[I" ∈ wsX12_digest := by decide +kernel
  have lk5 : Cond.fieldLink RX12 77 "CowsOwedModel" "pageMany" "I" ∈ wsX12_digest := by decide +kernel
  have lk6 : Cond.fieldLink RX12 7 "CowsOwedModel" "page" "[I" ∈ wsX12_digest := by decide +kernel
  have hl : lv_has ls 2 [(0, .ref (a 0))] := hl
  refine lv_aload_n hx hb dX12_digest_0 rfl (lv_at hl 0 rfl) ?_
  refine lv_ldc2 (v := 967) hx hb hown (hts _ lk0) dX12_digest_1 ?_
  refine g_put S hw hinX12 tyX12 tyX12_ok nmX12 (fs := fM a σ h) 0 rfl rfl 37 (by decide) lk1 rfl rfl rfl (Nat.le_of_ble_eq_true rfl) (w2 := wM cI a σ 967) (wM_f37 _ _ _ _ _) dX12_digest_4 (fun H locs hw => ?_)
  refine lv_iconst (v := 0) hx hb dX12_digest_7 (by decide) ?_
  refine lv_istore_n (lv' := [(1, .int 0), (0, .ref (a 0))]) hx hb dX12_digest_8 rfl hl (by decide) rfl (fun ls hl => ?_)
  have L9 : ∀ (n9 i9 : Nat) (h9 : Int64) (H : Heap) (locs : List Loc) (ls : Array Slot), i9 + n9 = n → M_digest_L9 σ n wd pl tm pm n9 i9 h9 = M_digest_L9 σ n wd pl tm pm n 0 967 → gw D [(cI, .int)] A s H locs (wM cI a σ h9) → lv_has ls 2 [(1, .int (nI i9)), (0, .ref (a 0))] → W p l e (gR 7) s m ([.ref (a 0)] : List Value).toArray below meth C H locs 0 0 (MQ below (gQl D [(cI, .int)] (M_digest_r σ h n wd pl tm pm) (wM cI a (M_digest_s σ h n wd pl tm pm) (M_digest_h σ h n wd pl tm pm)) A) ([.ref (a 0)] : List Value).toArray s 0 0 A) (F0 m 9 ls []) := by
    intro n9
    induction n9 with
    | zero =>
      intro i9 h9 H locs ls hi9 hF9 hw hl
      refine lv_iload_n hx hb dX12_digest_9 rfl (lv_at hl 0 rfl) ?_
      refine lv_aload_n hx hb dX12_digest_10 rfl (lv_at hl 1 rfl) ?_
      refine g_get S hw hinX12 (fs := fM a σ h9) 0 rfl rfl 6 (by decide) lk2 (v := .int (nI n)) (congrArg (fun z => some (Value.int z)) (hn)) dX12_digest_11 ?_
      refine ln_ge (x := i9) (y := n) hx hb (by omega) (by omega) (tgt := 28) dX12_digest_14 (by decide) (fun c_x => ?_) (fun c_x => absurd (by omega) c_x)
      have hz9 : n = i9 := by omega
      subst hz9
      have e9_0 : (M_digest_L9 σ n wd pl tm pm n 0 967) = h9 := hF9.symm
      subst e9_0
      refine lv_iconst (v := 0) hx hb dX12_digest_28 (by decide) ?_
      refine lv_istore_n (lv' := [(1, .int 0), (0, .ref (a 0))]) hx hb dX12_digest_29 rfl hl (by decide) rfl (fun ls hl => ?_)
      have L30 : ∀ (n30 i30 : Nat) (h30 : Int64) (H : Heap) (locs : List Loc) (ls : Array Slot), i30 + n30 = 4 * wd → M_digest_L30 σ n wd pl tm pm n30 i30 h30 = M_digest_L30 σ n wd pl tm pm (4 * wd) 0 (M_digest_L9 σ n wd pl tm pm n 0 967) → gw D [(cI, .int)] A s H locs (wM cI a σ h30) → lv_has ls 2 [(1, .int (nI i30)), (0, .ref (a 0))] → W p l e (gR 7) s m ([.ref (a 0)] : List Value).toArray below meth C H locs 0 0 (MQ below (gQl D [(cI, .int)] (M_digest_r σ h n wd pl tm pm) (wM cI a (M_digest_s σ h n wd pl tm pm) (M_digest_h σ h n wd pl tm pm)) A) ([.ref (a 0)] : List Value).toArray s 0 0 A) (F0 m 30 ls []) := by
        intro n30
        induction n30 with
        | zero =>
          intro i30 h30 H locs ls hi30 hF30 hw hl
          refine lv_iload_n hx hb dX12_digest_30 rfl (lv_at hl 0 rfl) ?_
          refine lv_iconst (v := 4) hx hb dX12_digest_31 (by decide) ?_
          refine lv_aload_n hx hb dX12_digest_32 rfl (lv_at hl 1 rfl) ?_
          refine g_get S hw hinX12 (fs := fM a σ h30) 0 rfl rfl 13 (by decide) lk3 (v := .int (nI wd)) (congrArg (fun z => some (Value.int z)) (hw0)) dX12_digest_33 ?_
          refine ln_imul (x := 4) (y := wd) hx hb dX12_digest_36 ?_
          refine ln_ge (x := i30) (y := (4 * wd)) hx hb (by omega) (by omega) (tgt := 57) dX12_digest_37 (by decide) (fun c_x => ?_) (fun c_x => absurd (by omega) c_x)
          have hz30 : 4 * wd = i30 := by omega
          subst hz30
          have e30_0 : (M_digest_L30 σ n wd pl tm pm (4 * wd) 0 (M_digest_L9 σ n wd pl tm pm n 0 967)) = h30 := hF30.symm
          subst e30_0
          refine lv_aload_n hx hb dX12_digest_57 rfl (lv_at hl 1 rfl) ?_
          refine g_callVi S hw (c_M_lacks l D cI a σ (M_digest_L30 σ n wd pl tm pm (4 * wd) 0 (M_digest_L9 σ n wd pl tm pm n 0 967))) gX12_digest_X12_lacks rfl 0 rfl rfl 0 rfl (by decide +kernel) (by decide) (by decide) hl.1 rfl (Nat.le_of_ble_eq_true rfl) dX12_digest_58 (fun H locs hw => ?_)
          refine lv_if_ne hx hb (tgt := 117) dX12_digest_61 (by decide) (fun c_5 => ?_) (fun c_5 => ?_)
          · refine lv_aload_n hx hb dX12_digest_117 rfl (lv_at hl 1 rfl) ?_
            refine lv_aload_n hx hb dX12_digest_118 rfl (lv_at hl 1 rfl) ?_
            refine g_callVi S hw (c_M_whichOf l D cI a σ (M_digest_L30 σ n wd pl tm pm (4 * wd) 0 (M_digest_L9 σ n wd pl tm pm n 0 967)) tm (ht0) (by omega)) gX12_digest_X12_whichOf rfl 0 rfl rfl 0 rfl (by decide +kernel) (by decide) (by decide) hl.1 rfl (Nat.le_of_ble_eq_true rfl) dX12_digest_119 (fun H locs hw => ?_)
            refine lv_i2l hx hb dX12_digest_122 rfl ?_
            refine g_callVv S hw (c_M_say l D cI a σ (M_digest_L30 σ n wd pl tm pm (4 * wd) 0 (M_digest_L9 σ n wd pl tm pm n 0 967)) ((M_whichOf_r σ tm).toInt64)) gX12_digest_X12_say rfl 0 rfl rfl 1 rfl (by decide +kernel) (by decide) (by decide) hl.1 rfl (Nat.le_of_ble_eq_true rfl) dX12_digest_123 (fun H locs hw => ?_)
            refine lv_aload_n hx hb dX12_digest_126 rfl (lv_at hl 1 rfl) ?_
            refine lv_aload_n hx hb dX12_digest_127 rfl (lv_at hl 1 rfl) ?_
            refine g_callVi S hw (c_M_askOf l D cI a σ (M_say_h σ (M_digest_L30 σ n wd pl tm pm (4 * wd) 0 (M_digest_L9 σ n wd pl tm pm n 0 967)) ((M_whichOf_r σ tm).toInt64)) tm (ht0) (by omega)) gX12_digest_X12_askOf rfl 0 rfl rfl 0 rfl (by decide +kernel) (by decide) (by decide) hl.1 rfl (Nat.le_of_ble_eq_true rfl) dX12_digest_128 (fun H locs hw => ?_)
            refine lv_i2l hx hb dX12_digest_131 rfl ?_
            refine g_callVv S hw (c_M_say l D cI a (M_askOf_s σ tm) (M_say_h σ (M_digest_L30 σ n wd pl tm pm (4 * wd) 0 (M_digest_L9 σ n wd pl tm pm n 0 967)) ((M_whichOf_r σ tm).toInt64)) ((M_askOf_r σ tm).toInt64)) gX12_digest_X12_say rfl 0 rfl rfl 1 rfl (by decide +kernel) (by decide) (by decide) hl.1 rfl (Nat.le_of_ble_eq_true rfl) dX12_digest_132 (fun H locs hw => ?_)
            refine lv_iconst (v := 0) hx hb dX12_digest_135 (by decide) ?_
            refine lv_istore_n (lv' := [(1, .int 0), (0, .ref (a 0))]) hx hb dX12_digest_136 rfl hl (by decide) rfl (fun ls hl => ?_)
            have L137 : ∀ (n137 i137 : Nat) (h137 : Int64) (H : Heap) (locs : List Loc) (ls : Array Slot), i137 + n137 = pm → M_digest_L137 (M_askOf_s σ tm) n wd pl tm pm n137 i137 h137 = M_digest_L137 (M_askOf_s σ tm) n wd pl tm pm pm 0 (M_say_h (M_askOf_s σ tm) (M_say_h σ (M_digest_L30 σ n wd pl tm pm (4 * wd) 0 (M_digest_L9 σ n wd pl tm pm n 0 967)) ((M_whichOf_r σ tm).toInt64)) ((M_askOf_r σ tm).toInt64)) → gw D [(cI, .int)] A s H locs (wM cI a (M_askOf_s σ tm) h137) → lv_has ls 2 [(1, .int (nI i137)), (0, .ref (a 0))] → W p l e (gR 7) s m ([.ref (a 0)] : List Value).toArray below meth C H locs 0 0 (MQ below (gQl D [(cI, .int)] (M_digest_r σ h n wd pl tm pm) (wM cI a (M_digest_s σ h n wd pl tm pm) (M_digest_h σ h n wd pl tm pm)) A) ([.ref (a 0)] : List Value).toArray s 0 0 A) (F0 m 137 ls []) := by
              intro n137
              induction n137 with
              | zero =>
                intro i137 h137 H locs ls hi137 hF137 hw hl
                refine lv_iload_n hx hb dX12_digest_137 rfl (lv_at hl 0 rfl) ?_
                refine lv_aload_n hx hb dX12_digest_138 rfl (lv_at hl 1 rfl) ?_
                refine g_get S hw hinX12 (fs := fM a (M_askOf_s σ tm) h137) 0 rfl rfl 1 (by decide) lk5 (v := .int (nI pm)) (congrArg (fun z => some (Value.int z)) ((congrFun (M_askOf_s_k0 σ tm) 1).trans (hpm))) dX12_digest_139 ?_
                refine ln_ge (x := i137) (y := pm) hx hb (by omega) (by omega) (tgt := 162) dX12_digest_142 (by decide) (fun c_x => ?_) (fun c_x => absurd (by omega) c_x)
                have hz137 : pm = i137 := by omega
                subst hz137
                have e137_0 : (M_digest_L137 (M_askOf_s σ tm) n wd pl tm pm pm 0 (M_say_h (M_askOf_s σ tm) (M_say_h σ (M_digest_L30 σ n wd pl tm pm (4 * wd) 0 (M_digest_L9 σ n wd pl tm pm n 0 967)) ((M_whichOf_r σ tm).toInt64)) ((M_askOf_r σ tm).toInt64))) = h137 := hF137.symm
                subst e137_0
                refine lv_iconst (v := 0) hx hb dX12_digest_162 (by decide) ?_
                refine lv_istore_n (lv' := [(1, .int 0), (0, .ref (a 0))]) hx hb dX12_digest_163 rfl hl (by decide) rfl (fun ls hl => ?_)
                have L164 : ∀ (n164 i164 : Nat) (h164 : Int64) (H : Heap) (locs : List Loc) (ls : Array Slot), i164 + n164 = 10 → M_digest_L164 (M_askOf_s σ tm) n wd pl tm pm n164 i164 h164 = M_digest_L164 (M_askOf_s σ tm) n wd pl tm pm 10 0 (M_digest_L137 (M_askOf_s σ tm) n wd pl tm pm pm 0 (M_say_h (M_askOf_s σ tm) (M_say_h σ (M_digest_L30 σ n wd pl tm pm (4 * wd) 0 (M_digest_L9 σ n wd pl tm pm n 0 967)) ((M_whichOf_r σ tm).toInt64)) ((M_askOf_r σ tm).toInt64))) → gw D [(cI, .int)] A s H locs (wM cI a (M_askOf_s σ tm) h164) → lv_has ls 2 [(1, .int (nI i164)), (0, .ref (a 0))] → W p l e (gR 7) s m ([.ref (a 0)] : List Value).toArray below meth C H locs 0 0 (MQ below (gQl D [(cI, .int)] (M_digest_r σ h n wd pl tm pm) (wM cI a (M_digest_s σ h n wd pl tm pm) (M_digest_h σ h n wd pl tm pm)) A) ([.ref (a 0)] : List Value).toArray s 0 0 A) (F0 m 164 ls []) := by
                  intro n164
                  induction n164 with
                  | zero =>
                    intro i164 h164 H locs ls hi164 hF164 hw hl
                    refine lv_iload_n hx hb dX12_digest_164 rfl (lv_at hl 0 rfl) ?_
                    refine lv_bipush (v := 10) hx hb dX12_digest_165 (by decide) ?_
                    refine ln_ge (x := i164) (y := 10) hx hb (by omega) (by omega) (tgt := 186) dX12_digest_167 (by decide) (fun c_x => ?_) (fun c_x => absurd (by omega) c_x)
                    have hz164 : 10 = i164 := by omega
                    subst hz164
                    have e164_0 : (M_digest_L164 (M_askOf_s σ tm) n wd pl tm pm 10 0 (M_digest_L137 (M_askOf_s σ tm) n wd pl tm pm pm 0 (M_say_h (M_askOf_s σ tm) (M_say_h σ (M_digest_L30 σ n wd pl tm pm (4 * wd) 0 (M_digest_L9 σ n wd pl tm pm n 0 967)) ((M_whichOf_r σ tm).toInt64)) ((M_askOf_r σ tm).toInt64)))) = h164 := hF164.symm
                    subst e164_0
                    refine lv_aload_n hx hb dX12_digest_186 rfl (lv_at hl 1 rfl) ?_
                    refine g_get S hw hinX12 (fs := fM a (M_askOf_s σ tm) (M_digest_L164 (M_askOf_s σ tm) n wd pl tm pm 10 0 (M_digest_L137 (M_askOf_s σ tm) n wd pl tm pm pm 0 (M_say_h (M_askOf_s σ tm) (M_say_h σ (M_digest_L30 σ n wd pl tm pm (4 * wd) 0 (M_digest_L9 σ n wd pl tm pm n 0 967)) ((M_whichOf_r σ tm).toInt64)) ((M_askOf_r σ tm).toInt64))))) 0 rfl rfl 37 (by decide) lk1 (v := .long (M_digest_L164 (M_askOf_s σ tm) n wd pl tm pm 10 0 (M_digest_L137 (M_askOf_s σ tm) n wd pl tm pm pm 0 (M_say_h (M_askOf_s σ tm) (M_say_h σ (M_digest_L30 σ n wd pl tm pm (4 * wd) 0 (M_digest_L9 σ n wd pl tm pm n 0 967)) ((M_whichOf_r σ tm).toInt64)) ((M_askOf_r σ tm).toInt64))))) rfl dX12_digest_187 ?_
                    exact g_lret S hr hlk hw (by simp only [M_digest_r, if_neg c_5]) (by simp only [M_digest_s, M_digest_h, if_neg c_5]) dX12_digest_190
                  | succ n164 ih164 =>
                    intro i164 h164 H locs ls hi164 hF164 hw hl
                    refine lv_iload_n hx hb dX12_digest_164 rfl (lv_at hl 0 rfl) ?_
                    refine lv_bipush (v := 10) hx hb dX12_digest_165 (by decide) ?_
                    refine ln_ge (x := i164) (y := 10) hx hb (by omega) (by omega) (tgt := 186) dX12_digest_167 (by decide) (fun c_x => absurd c_x (by omega)) (fun c_x => ?_)
                    refine lv_aload_n hx hb dX12_digest_170 rfl (lv_at hl 1 rfl) ?_
                    refine lv_aload_n hx hb dX12_digest_171 rfl (lv_at hl 1 rfl) ?_
                    refine lv_iload_n hx hb dX12_digest_172 rfl (lv_at hl 0 rfl) ?_
                    refine g_callVi S hw (c_M_countOf l D cI a (M_askOf_s σ tm) h164 n (nI i164) ((congrFun (M_askOf_s_k0 σ tm) 6).trans (hn)) (by omega)) gX12_digest_X12_countOf rfl 0 rfl rfl 1 rfl (by decide +kernel) (by decide) (by decide) hl.1 rfl (Nat.le_of_ble_eq_true rfl) dX12_digest_173 (fun H locs hw => ?_)
                    refine lv_i2l hx hb dX12_digest_176 rfl ?_
                    refine g_callVv S hw (c_M_say l D cI a (M_askOf_s σ tm) h164 ((M_countOf_r (M_askOf_s σ tm) n (nI i164)).toInt64)) gX12_digest_X12_say rfl 0 rfl rfl 1 rfl (by decide +kernel) (by decide) (by decide) hl.1 rfl (Nat.le_of_ble_eq_true rfl) dX12_digest_177 (fun H locs hw => ?_)
                    refine lv_iinc (v := nI (i164 + 1)) (lv' := [(1, .int (nI (i164 + 1))), (0, .ref (a 0))]) hx hb dX12_digest_180 hl (k := 0) rfl (nI_1 _) (by decide) rfl (fun ls hl => ?_)
                    refine lv_goto (tgt := 164) hx hb dX12_digest_183 (by decide) ?_
                    exact ih164 (i164 + 1) (M_say_h (M_askOf_s σ tm) h164 ((M_countOf_r (M_askOf_s σ tm) n (nI i164)).toInt64)) _ _ _ (by omega) hF164 hw (lv_sub hl [0, 1] rfl)
                exact L164 10 0 (M_digest_L137 (M_askOf_s σ tm) n wd pl tm pm pm 0 (M_say_h (M_askOf_s σ tm) (M_say_h σ (M_digest_L30 σ n wd pl tm pm (4 * wd) 0 (M_digest_L9 σ n wd pl tm pm n 0 967)) ((M_whichOf_r σ tm).toInt64)) ((M_askOf_r σ tm).toInt64))) _ _ _ (by omega) rfl hw (lv_sub hl [0, 1] rfl)
              | succ n137 ih137 =>
                intro i137 h137 H locs ls hi137 hF137 hw hl
                refine lv_iload_n hx hb dX12_digest_137 rfl (lv_at hl 0 rfl) ?_
                refine lv_aload_n hx hb dX12_digest_138 rfl (lv_at hl 1 rfl) ?_
                refine g_get S hw hinX12 (fs := fM a (M_askOf_s σ tm) h137) 0 rfl rfl 1 (by decide) lk5 (v := .int (nI pm)) (congrArg (fun z => some (Value.int z)) ((congrFun (M_askOf_s_k0 σ tm) 1).trans (hpm))) dX12_digest_139 ?_
                refine ln_ge (x := i137) (y := pm) hx hb (by omega) (by omega) (tgt := 162) dX12_digest_142 (by decide) (fun c_x => absurd c_x (by omega)) (fun c_x => ?_)
                refine lv_aload_n hx hb dX12_digest_145 rfl (lv_at hl 1 rfl) ?_
                refine lv_aload_n hx hb dX12_digest_146 rfl (lv_at hl 1 rfl) ?_
                refine g_get S hw hinX12 (fs := fM a (M_askOf_s σ tm) h137) 0 rfl rfl 0 (by decide) lk6 (v := .ref (a 1)) rfl dX12_digest_147 ?_
                refine lv_iload_n hx hb dX12_digest_150 rfl (lv_at hl 0 rfl) ?_
                refine g_iald S hw (f := (M_askOf_s σ tm) 1) (i := i137) (x := (M_askOf_s σ tm) 1 i137) 1 0 rfl rfl (by omega) (by decide) rfl dX12_digest_151 ?_
                refine lv_i2l hx hb dX12_digest_152 rfl ?_
                refine g_callVv S hw (c_M_say l D cI a (M_askOf_s σ tm) h137 (((M_askOf_s σ tm) 1 i137).toInt64)) gX12_digest_X12_say rfl 0 rfl rfl 1 rfl (by decide +kernel) (by decide) (by decide) hl.1 rfl (Nat.le_of_ble_eq_true rfl) dX12_digest_153 (fun H locs hw => ?_)
                refine lv_iinc (v := nI (i137 + 1)) (lv' := [(1, .int (nI (i137 + 1))), (0, .ref (a 0))]) hx hb dX12_digest_156 hl (k := 0) rfl (nI_1 _) (by decide) rfl (fun ls hl => ?_)
                refine lv_goto (tgt := 137) hx hb dX12_digest_159 (by decide) ?_
                exact ih137 (i137 + 1) (M_say_h (M_askOf_s σ tm) h137 (((M_askOf_s σ tm) 1 i137).toInt64)) _ _ _ (by omega) hF137 hw (lv_sub hl [0, 1] rfl)
            exact L137 pm 0 (M_say_h (M_askOf_s σ tm) (M_say_h σ (M_digest_L30 σ n wd pl tm pm (4 * wd) 0 (M_digest_L9 σ n wd pl tm pm n 0 967)) ((M_whichOf_r σ tm).toInt64)) ((M_askOf_r σ tm).toInt64)) _ _ _ (by omega) rfl hw (lv_sub hl [0, 1] rfl)
          · refine lv_aload_n hx hb dX12_digest_64 rfl (lv_at hl 1 rfl) ?_
            refine lv_aload_n hx hb dX12_digest_65 rfl (lv_at hl 1 rfl) ?_
            refine g_callVi S hw (c_M_settledOf l D cI a σ (M_digest_L30 σ n wd pl tm pm (4 * wd) 0 (M_digest_L9 σ n wd pl tm pm n 0 967)) n (hn) (by omega)) gX12_digest_X12_settledOf rfl 0 rfl rfl 0 rfl (by decide +kernel) (by decide) (by decide) hl.1 rfl (Nat.le_of_ble_eq_true rfl) dX12_digest_66 (fun H locs hw => ?_)
            refine lv_i2l hx hb dX12_digest_69 rfl ?_
            refine g_callVv S hw (c_M_say l D cI a σ (M_digest_L30 σ n wd pl tm pm (4 * wd) 0 (M_digest_L9 σ n wd pl tm pm n 0 967)) ((M_settledOf_r σ n).toInt64)) gX12_digest_X12_say rfl 0 rfl rfl 1 rfl (by decide +kernel) (by decide) (by decide) hl.1 rfl (Nat.le_of_ble_eq_true rfl) dX12_digest_70 (fun H locs hw => ?_)
            refine lv_aload_n hx hb dX12_digest_73 rfl (lv_at hl 1 rfl) ?_
            refine lv_aload_n hx hb dX12_digest_74 rfl (lv_at hl 1 rfl) ?_
            refine lv_iconst (v := 0) hx hb dX12_digest_75 (by decide) ?_
            refine g_callVi S hw (c_M_orderOf l D cI a σ (M_say_h σ (M_digest_L30 σ n wd pl tm pm (4 * wd) 0 (M_digest_L9 σ n wd pl tm pm n 0 967)) ((M_settledOf_r σ n).toInt64)) pl 0 (hp0) (by omega) (hpl) (by omega)) gX12_digest_X12_orderOf rfl 0 rfl rfl 1 rfl (by decide +kernel) (by decide) (by decide) hl.1 rfl (Nat.le_of_ble_eq_true rfl) dX12_digest_76 (fun H locs hw => ?_)
            refine lv_i2l hx hb dX12_digest_79 rfl ?_
            refine g_callVv S hw (c_M_say l D cI a (M_orderOf_s σ pl 0) (M_say_h σ (M_digest_L30 σ n wd pl tm pm (4 * wd) 0 (M_digest_L9 σ n wd pl tm pm n 0 967)) ((M_settledOf_r σ n).toInt64)) ((M_orderOf_r σ pl 0).toInt64)) gX12_digest_X12_say rfl 0 rfl rfl 1 rfl (by decide +kernel) (by decide) (by decide) hl.1 rfl (Nat.le_of_ble_eq_true rfl) dX12_digest_80 (fun H locs hw => ?_)
            refine lv_bipush (v := 10) hx hb dX12_digest_83 (by decide) ?_
            refine lv_istore_n (lv' := [(1, .int 10), (0, .ref (a 0))]) hx hb dX12_digest_85 rfl hl (by decide) rfl (fun ls hl => ?_)
            have L86 : ∀ (n86 i86 : Nat) (σ86 : Nat → Nat → Int32) (h86 : Int64) (H : Heap) (locs : List Loc) (ls : Array Slot), i86 + n86 = 14 → 10 ≤ i86 → σ86 0 = (M_orderOf_s σ pl 0) 0 → planOK (σ86 7) pl → M_digest_L86 n wd pl tm pm n86 i86 σ86 h86 = M_digest_L86 n wd pl tm pm (14 - 10) 10 (M_orderOf_s σ pl 0) (M_say_h (M_orderOf_s σ pl 0) (M_say_h σ (M_digest_L30 σ n wd pl tm pm (4 * wd) 0 (M_digest_L9 σ n wd pl tm pm n 0 967)) ((M_settledOf_r σ n).toInt64)) ((M_orderOf_r σ pl 0).toInt64)) → gw D [(cI, .int)] A s H locs (wM cI a σ86 h86) → lv_has ls 2 [(1, .int (nI i86)), (0, .ref (a 0))] → W p l e (gR 7) s m ([.ref (a 0)] : List Value).toArray below meth C H locs 0 0 (MQ below (gQl D [(cI, .int)] (M_digest_r σ h n wd pl tm pm) (wM cI a (M_digest_s σ h n wd pl tm pm) (M_digest_h σ h n wd pl tm pm)) A) ([.ref (a 0)] : List Value).toArray s 0 0 A) (F0 m 86 ls []) := by
              intro n86
              induction n86 with
              | zero =>
                intro i86 σ86 h86 H locs ls hi86 hj86 k86_0 r86_7 hF86 hw hl
                refine lv_iload_n hx hb dX12_digest_86 rfl (lv_at hl 0 rfl) ?_
                refine lv_bipush (v := 14) hx hb dX12_digest_87 (by decide) ?_
                refine ln_ge (x := i86) (y := 14) hx hb (by omega) (by omega) (tgt := 108) dX12_digest_89 (by decide) (fun c_x => ?_) (fun c_x => absurd (by omega) c_x)
                have hz86 : 14 = i86 := by omega
                subst hz86
                have e86_0 : (M_digest_L86 n wd pl tm pm (14 - 10) 10 (M_orderOf_s σ pl 0) (M_say_h (M_orderOf_s σ pl 0) (M_say_h σ (M_digest_L30 σ n wd pl tm pm (4 * wd) 0 (M_digest_L9 σ n wd pl tm pm n 0 967)) ((M_settledOf_r σ n).toInt64)) ((M_orderOf_r σ pl 0).toInt64))).1 = σ86 := (congrArg (fun z => z.1) hF86).symm
                have e86_1 : (M_digest_L86 n wd pl tm pm (14 - 10) 10 (M_orderOf_s σ pl 0) (M_say_h (M_orderOf_s σ pl 0) (M_say_h σ (M_digest_L30 σ n wd pl tm pm (4 * wd) 0 (M_digest_L9 σ n wd pl tm pm n 0 967)) ((M_settledOf_r σ n).toInt64)) ((M_orderOf_r σ pl 0).toInt64))).2 = h86 := (congrArg (fun z => z.2) hF86).symm
                subst e86_0
                subst e86_1
                refine lv_aload_n hx hb dX12_digest_108 rfl (lv_at hl 1 rfl) ?_
                refine lv_aload_n hx hb dX12_digest_109 rfl (lv_at hl 1 rfl) ?_
                refine g_callVi S hw (c_M_highOf l D cI a ((M_digest_L86 n wd pl tm pm (14 - 10) 10 (M_orderOf_s σ pl 0) (M_say_h (M_orderOf_s σ pl 0) (M_say_h σ (M_digest_L30 σ n wd pl tm pm (4 * wd) 0 (M_digest_L9 σ n wd pl tm pm n 0 967)) ((M_settledOf_r σ n).toInt64)) ((M_orderOf_r σ pl 0).toInt64))).1) ((M_digest_L86 n wd pl tm pm (14 - 10) 10 (M_orderOf_s σ pl 0) (M_say_h (M_orderOf_s σ pl 0) (M_say_h σ (M_digest_L30 σ n wd pl tm pm (4 * wd) 0 (M_digest_L9 σ n wd pl tm pm n 0 967)) ((M_settledOf_r σ n).toInt64)) ((M_orderOf_r σ pl 0).toInt64))).2) n pl (((congrFun (M_digest_L86_k0 n wd pl tm pm (14 - 10) 10 (M_orderOf_s σ pl 0) (M_say_h (M_orderOf_s σ pl 0) (M_say_h σ (M_digest_L30 σ n wd pl tm pm (4 * wd) 0 (M_digest_L9 σ n wd pl tm pm n 0 967)) ((M_settledOf_r σ n).toInt64)) ((M_orderOf_r σ pl 0).toInt64))) 6).trans (congrFun (M_orderOf_s_k0 σ pl 0) 6)).trans (hn)) (by omega) (((congrFun (M_digest_L86_k0 n wd pl tm pm (14 - 10) 10 (M_orderOf_s σ pl 0) (M_say_h (M_orderOf_s σ pl 0) (M_say_h σ (M_digest_L30 σ n wd pl tm pm (4 * wd) 0 (M_digest_L9 σ n wd pl tm pm n 0 967)) ((M_settledOf_r σ n).toInt64)) ((M_orderOf_r σ pl 0).toInt64))) 15).trans (congrFun (M_orderOf_s_k0 σ pl 0) 15)).trans (hp0)) (by omega) (Eq.mpr (congrArg (fun z => planOK z pl) ((M_digest_L86_k7 n wd pl tm pm (14 - 10) 10 (M_orderOf_s σ pl 0) (M_say_h (M_orderOf_s σ pl 0) (M_say_h σ (M_digest_L30 σ n wd pl tm pm (4 * wd) 0 (M_digest_L9 σ n wd pl tm pm n 0 967)) ((M_settledOf_r σ n).toInt64)) ((M_orderOf_r σ pl 0).toInt64))).trans (M_orderOf_s_k7 σ pl 0))) hpl)) gX12_digest_X12_highOf rfl 0 rfl rfl 0 rfl (by decide +kernel) (by decide) (by decide) hl.1 rfl (Nat.le_of_ble_eq_true rfl) dX12_digest_110 (fun H locs hw => ?_)
                refine lv_i2l hx hb dX12_digest_113 rfl ?_
                refine g_callVv S hw (c_M_say l D cI a (M_highOf_s ((M_digest_L86 n wd pl tm pm (14 - 10) 10 (M_orderOf_s σ pl 0) (M_say_h (M_orderOf_s σ pl 0) (M_say_h σ (M_digest_L30 σ n wd pl tm pm (4 * wd) 0 (M_digest_L9 σ n wd pl tm pm n 0 967)) ((M_settledOf_r σ n).toInt64)) ((M_orderOf_r σ pl 0).toInt64))).1) n pl) ((M_digest_L86 n wd pl tm pm (14 - 10) 10 (M_orderOf_s σ pl 0) (M_say_h (M_orderOf_s σ pl 0) (M_say_h σ (M_digest_L30 σ n wd pl tm pm (4 * wd) 0 (M_digest_L9 σ n wd pl tm pm n 0 967)) ((M_settledOf_r σ n).toInt64)) ((M_orderOf_r σ pl 0).toInt64))).2) ((M_highOf_r ((M_digest_L86 n wd pl tm pm (14 - 10) 10 (M_orderOf_s σ pl 0) (M_say_h (M_orderOf_s σ pl 0) (M_say_h σ (M_digest_L30 σ n wd pl tm pm (4 * wd) 0 (M_digest_L9 σ n wd pl tm pm n 0 967)) ((M_settledOf_r σ n).toInt64)) ((M_orderOf_r σ pl 0).toInt64))).1) n pl).toInt64)) gX12_digest_X12_say rfl 0 rfl rfl 1 rfl (by decide +kernel) (by decide) (by decide) hl.1 rfl (Nat.le_of_ble_eq_true rfl) dX12_digest_114 (fun H locs hw => ?_)
                refine lv_aload_n hx hb dX12_digest_117 rfl (lv_at hl 1 rfl) ?_
                refine lv_aload_n hx hb dX12_digest_118 rfl (lv_at hl 1 rfl) ?_
                refine g_callVi S hw (c_M_whichOf l D cI a (M_highOf_s ((M_digest_L86 n wd pl tm pm (14 - 10) 10 (M_orderOf_s σ pl 0) (M_say_h (M_orderOf_s σ pl 0) (M_say_h σ (M_digest_L30 σ n wd pl tm pm (4 * wd) 0 (M_digest_L9 σ n wd pl tm pm n 0 967)) ((M_settledOf_r σ n).toInt64)) ((M_orderOf_r σ pl 0).toInt64))).1) n pl) (M_say_h (M_highOf_s ((M_digest_L86 n wd pl tm pm (14 - 10) 10 (M_orderOf_s σ pl 0) (M_say_h (M_orderOf_s σ pl 0) (M_say_h σ (M_digest_L30 σ n wd pl tm pm (4 * wd) 0 (M_digest_L9 σ n wd pl tm pm n 0 967)) ((M_settledOf_r σ n).toInt64)) ((M_orderOf_r σ pl 0).toInt64))).1) n pl) ((M_digest_L86 n wd pl tm pm (14 - 10) 10 (M_orderOf_s σ pl 0) (M_say_h (M_orderOf_s σ pl 0) (M_say_h σ (M_digest_L30 σ n wd pl tm pm (4 * wd) 0 (M_digest_L9 σ n wd pl tm pm n 0 967)) ((M_settledOf_r σ n).toInt64)) ((M_orderOf_r σ pl 0).toInt64))).2) ((M_highOf_r ((M_digest_L86 n wd pl tm pm (14 - 10) 10 (M_orderOf_s σ pl 0) (M_say_h (M_orderOf_s σ pl 0) (M_say_h σ (M_digest_L30 σ n wd pl tm pm (4 * wd) 0 (M_digest_L9 σ n wd pl tm pm n 0 967)) ((M_settledOf_r σ n).toInt64)) ((M_orderOf_r σ pl 0).toInt64))).1) n pl).toInt64)) tm (((congrFun (M_highOf_s_k0 ((M_digest_L86 n wd pl tm pm (14 - 10) 10 (M_orderOf_s σ pl 0) (M_say_h (M_orderOf_s σ pl 0) (M_say_h σ (M_digest_L30 σ n wd pl tm pm (4 * wd) 0 (M_digest_L9 σ n wd pl tm pm n 0 967)) ((M_settledOf_r σ n).toInt64)) ((M_orderOf_r σ pl 0).toInt64))).1) n pl) 22).trans ((congrFun (M_digest_L86_k0 n wd pl tm pm (14 - 10) 10 (M_orderOf_s σ pl 0) (M_say_h (M_orderOf_s σ pl 0) (M_say_h σ (M_digest_L30 σ n wd pl tm pm (4 * wd) 0 (M_digest_L9 σ n wd pl tm pm n 0 967)) ((M_settledOf_r σ n).toInt64)) ((M_orderOf_r σ pl 0).toInt64))) 22).trans (congrFun (M_orderOf_s_k0 σ pl 0) 22))).trans (ht0)) (by omega)) gX12_digest_X12_whichOf rfl 0 rfl rfl 0 rfl (by decide +kernel) (by decide) (by decide) hl.1 rfl (Nat.le_of_ble_eq_true rfl) dX12_digest_119 (fun H locs hw => ?_)
                refine lv_i2l hx hb dX12_digest_122 rfl ?_
                refine g_callVv S hw (c_M_say l D cI a (M_highOf_s ((M_digest_L86 n wd pl tm pm (14 - 10) 10 (M_orderOf_s σ pl 0) (M_say_h (M_orderOf_s σ pl 0) (M_say_h σ (M_digest_L30 σ n wd pl tm pm (4 * wd) 0 (M_digest_L9 σ n wd pl tm pm n 0 967)) ((M_settledOf_r σ n).toInt64)) ((M_orderOf_r σ pl 0).toInt64))).1) n pl) (M_say_h (M_highOf_s ((M_digest_L86 n wd pl tm pm (14 - 10) 10 (M_orderOf_s σ pl 0) (M_say_h (M_orderOf_s σ pl 0) (M_say_h σ (M_digest_L30 σ n wd pl tm pm (4 * wd) 0 (M_digest_L9 σ n wd pl tm pm n 0 967)) ((M_settledOf_r σ n).toInt64)) ((M_orderOf_r σ pl 0).toInt64))).1) n pl) ((M_digest_L86 n wd pl tm pm (14 - 10) 10 (M_orderOf_s σ pl 0) (M_say_h (M_orderOf_s σ pl 0) (M_say_h σ (M_digest_L30 σ n wd pl tm pm (4 * wd) 0 (M_digest_L9 σ n wd pl tm pm n 0 967)) ((M_settledOf_r σ n).toInt64)) ((M_orderOf_r σ pl 0).toInt64))).2) ((M_highOf_r ((M_digest_L86 n wd pl tm pm (14 - 10) 10 (M_orderOf_s σ pl 0) (M_say_h (M_orderOf_s σ pl 0) (M_say_h σ (M_digest_L30 σ n wd pl tm pm (4 * wd) 0 (M_digest_L9 σ n wd pl tm pm n 0 967)) ((M_settledOf_r σ n).toInt64)) ((M_orderOf_r σ pl 0).toInt64))).1) n pl).toInt64)) ((M_whichOf_r (M_highOf_s ((M_digest_L86 n wd pl tm pm (14 - 10) 10 (M_orderOf_s σ pl 0) (M_say_h (M_orderOf_s σ pl 0) (M_say_h σ (M_digest_L30 σ n wd pl tm pm (4 * wd) 0 (M_digest_L9 σ n wd pl tm pm n 0 967)) ((M_settledOf_r σ n).toInt64)) ((M_orderOf_r σ pl 0).toInt64))).1) n pl) tm).toInt64)) gX12_digest_X12_say rfl 0 rfl rfl 1 rfl (by decide +kernel) (by decide) (by decide) hl.1 rfl (Nat.le_of_ble_eq_true rfl) dX12_digest_123 (fun H locs hw => ?_)
                refine lv_aload_n hx hb dX12_digest_126 rfl (lv_at hl 1 rfl) ?_
                refine lv_aload_n hx hb dX12_digest_127 rfl (lv_at hl 1 rfl) ?_
                refine g_callVi S hw (c_M_askOf l D cI a (M_highOf_s ((M_digest_L86 n wd pl tm pm (14 - 10) 10 (M_orderOf_s σ pl 0) (M_say_h (M_orderOf_s σ pl 0) (M_say_h σ (M_digest_L30 σ n wd pl tm pm (4 * wd) 0 (M_digest_L9 σ n wd pl tm pm n 0 967)) ((M_settledOf_r σ n).toInt64)) ((M_orderOf_r σ pl 0).toInt64))).1) n pl) (M_say_h (M_highOf_s ((M_digest_L86 n wd pl tm pm (14 - 10) 10 (M_orderOf_s σ pl 0) (M_say_h (M_orderOf_s σ pl 0) (M_say_h σ (M_digest_L30 σ n wd pl tm pm (4 * wd) 0 (M_digest_L9 σ n wd pl tm pm n 0 967)) ((M_settledOf_r σ n).toInt64)) ((M_orderOf_r σ pl 0).toInt64))).1) n pl) (M_say_h (M_highOf_s ((M_digest_L86 n wd pl tm pm (14 - 10) 10 (M_orderOf_s σ pl 0) (M_say_h (M_orderOf_s σ pl 0) (M_say_h σ (M_digest_L30 σ n wd pl tm pm (4 * wd) 0 (M_digest_L9 σ n wd pl tm pm n 0 967)) ((M_settledOf_r σ n).toInt64)) ((M_orderOf_r σ pl 0).toInt64))).1) n pl) ((M_digest_L86 n wd pl tm pm (14 - 10) 10 (M_orderOf_s σ pl 0) (M_say_h (M_orderOf_s σ pl 0) (M_say_h σ (M_digest_L30 σ n wd pl tm pm (4 * wd) 0 (M_digest_L9 σ n wd pl tm pm n 0 967)) ((M_settledOf_r σ n).toInt64)) ((M_orderOf_r σ pl 0).toInt64))).2) ((M_highOf_r ((M_digest_L86 n wd pl tm pm (14 - 10) 10 (M_orderOf_s σ pl 0) (M_say_h (M_orderOf_s σ pl 0) (M_say_h σ (M_digest_L30 σ n wd pl tm pm (4 * wd) 0 (M_digest_L9 σ n wd pl tm pm n 0 967)) ((M_settledOf_r σ n).toInt64)) ((M_orderOf_r σ pl 0).toInt64))).1) n pl).toInt64)) ((M_whichOf_r (M_highOf_s ((M_digest_L86 n wd pl tm pm (14 - 10) 10 (M_orderOf_s σ pl 0) (M_say_h (M_orderOf_s σ pl 0) (M_say_h σ (M_digest_L30 σ n wd pl tm pm (4 * wd) 0 (M_digest_L9 σ n wd pl tm pm n 0 967)) ((M_settledOf_r σ n).toInt64)) ((M_orderOf_r σ pl 0).toInt64))).1) n pl) tm).toInt64)) tm (((congrFun (M_highOf_s_k0 ((M_digest_L86 n wd pl tm pm (14 - 10) 10 (M_orderOf_s σ pl 0) (M_say_h (M_orderOf_s σ pl 0) (M_say_h σ (M_digest_L30 σ n wd pl tm pm (4 * wd) 0 (M_digest_L9 σ n wd pl tm pm n 0 967)) ((M_settledOf_r σ n).toInt64)) ((M_orderOf_r σ pl 0).toInt64))).1) n pl) 22).trans ((congrFun (M_digest_L86_k0 n wd pl tm pm (14 - 10) 10 (M_orderOf_s σ pl 0) (M_say_h (M_orderOf_s σ pl 0) (M_say_h σ (M_digest_L30 σ n wd pl tm pm (4 * wd) 0 (M_digest_L9 σ n wd pl tm pm n 0 967)) ((M_settledOf_r σ n).toInt64)) ((M_orderOf_r σ pl 0).toInt64))) 22).trans (congrFun (M_orderOf_s_k0 σ pl 0) 22))).trans (ht0)) (by omega)) gX12_digest_X12_askOf rfl 0 rfl rfl 0 rfl (by decide +kernel) (by decide) (by decide) hl.1 rfl (Nat.le_of_ble_eq_true rfl) dX12_digest_128 (fun H locs hw => ?_)
                refine lv_i2l hx hb dX12_digest_131 rfl ?_
                refine g_callVv S hw (c_M_say l D cI a (M_askOf_s (M_highOf_s ((M_digest_L86 n wd pl tm pm (14 - 10) 10 (M_orderOf_s σ pl 0) (M_say_h (M_orderOf_s σ pl 0) (M_say_h σ (M_digest_L30 σ n wd pl tm pm (4 * wd) 0 (M_digest_L9 σ n wd pl tm pm n 0 967)) ((M_settledOf_r σ n).toInt64)) ((M_orderOf_r σ pl 0).toInt64))).1) n pl) tm) (M_say_h (M_highOf_s ((M_digest_L86 n wd pl tm pm (14 - 10) 10 (M_orderOf_s σ pl 0) (M_say_h (M_orderOf_s σ pl 0) (M_say_h σ (M_digest_L30 σ n wd pl tm pm (4 * wd) 0 (M_digest_L9 σ n wd pl tm pm n 0 967)) ((M_settledOf_r σ n).toInt64)) ((M_orderOf_r σ pl 0).toInt64))).1) n pl) (M_say_h (M_highOf_s ((M_digest_L86 n wd pl tm pm (14 - 10) 10 (M_orderOf_s σ pl 0) (M_say_h (M_orderOf_s σ pl 0) (M_say_h σ (M_digest_L30 σ n wd pl tm pm (4 * wd) 0 (M_digest_L9 σ n wd pl tm pm n 0 967)) ((M_settledOf_r σ n).toInt64)) ((M_orderOf_r σ pl 0).toInt64))).1) n pl) ((M_digest_L86 n wd pl tm pm (14 - 10) 10 (M_orderOf_s σ pl 0) (M_say_h (M_orderOf_s σ pl 0) (M_say_h σ (M_digest_L30 σ n wd pl tm pm (4 * wd) 0 (M_digest_L9 σ n wd pl tm pm n 0 967)) ((M_settledOf_r σ n).toInt64)) ((M_orderOf_r σ pl 0).toInt64))).2) ((M_highOf_r ((M_digest_L86 n wd pl tm pm (14 - 10) 10 (M_orderOf_s σ pl 0) (M_say_h (M_orderOf_s σ pl 0) (M_say_h σ (M_digest_L30 σ n wd pl tm pm (4 * wd) 0 (M_digest_L9 σ n wd pl tm pm n 0 967)) ((M_settledOf_r σ n).toInt64)) ((M_orderOf_r σ pl 0).toInt64))).1) n pl).toInt64)) ((M_whichOf_r (M_highOf_s ((M_digest_L86 n wd pl tm pm (14 - 10) 10 (M_orderOf_s σ pl 0) (M_say_h (M_orderOf_s σ pl 0) (M_say_h σ (M_digest_L30 σ n wd pl tm pm (4 * wd) 0 (M_digest_L9 σ n wd pl tm pm n 0 967)) ((M_settledOf_r σ n).toInt64)) ((M_orderOf_r σ pl 0).toInt64))).1) n pl) tm).toInt64)) ((M_askOf_r (M_highOf_s ((M_digest_L86 n wd pl tm pm (14 - 10) 10 (M_orderOf_s σ pl 0) (M_say_h (M_orderOf_s σ pl 0) (M_say_h σ (M_digest_L30 σ n wd pl tm pm (4 * wd) 0 (M_digest_L9 σ n wd pl tm pm n 0 967)) ((M_settledOf_r σ n).toInt64)) ((M_orderOf_r σ pl 0).toInt64))).1) n pl) tm).toInt64)) gX12_digest_X12_say rfl 0 rfl rfl 1 rfl (by decide +kernel) (by decide) (by decide) hl.1 rfl (Nat.le_of_ble_eq_true rfl) dX12_digest_132 (fun H locs hw => ?_)
                refine lv_iconst (v := 0) hx hb dX12_digest_135 (by decide) ?_
                refine lv_istore_n (lv' := [(1, .int 0), (0, .ref (a 0))]) hx hb dX12_digest_136 rfl hl (by decide) rfl (fun ls hl => ?_)
                have L137 : ∀ (n137 i137 : Nat) (h137 : Int64) (H : Heap) (locs : List Loc) (ls : Array Slot), i137 + n137 = pm → M_digest_L137 (M_askOf_s (M_highOf_s ((M_digest_L86 n wd pl tm pm (14 - 10) 10 (M_orderOf_s σ pl 0) (M_say_h (M_orderOf_s σ pl 0) (M_say_h σ (M_digest_L30 σ n wd pl tm pm (4 * wd) 0 (M_digest_L9 σ n wd pl tm pm n 0 967)) ((M_settledOf_r σ n).toInt64)) ((M_orderOf_r σ pl 0).toInt64))).1) n pl) tm) n wd pl tm pm n137 i137 h137 = M_digest_L137 (M_askOf_s (M_highOf_s ((M_digest_L86 n wd pl tm pm (14 - 10) 10 (M_orderOf_s σ pl 0) (M_say_h (M_orderOf_s σ pl 0) (M_say_h σ (M_digest_L30 σ n wd pl tm pm (4 * wd) 0 (M_digest_L9 σ n wd pl tm pm n 0 967)) ((M_settledOf_r σ n).toInt64)) ((M_orderOf_r σ pl 0).toInt64))).1) n pl) tm) n wd pl tm pm pm 0 (M_say_h (M_askOf_s (M_highOf_s ((M_digest_L86 n wd pl tm pm (14 - 10) 10 (M_orderOf_s σ pl 0) (M_say_h (M_orderOf_s σ pl 0) (M_say_h σ (M_digest_L30 σ n wd pl tm pm (4 * wd) 0 (M_digest_L9 σ n wd pl tm pm n 0 967)) ((M_settledOf_r σ n).toInt64)) ((M_orderOf_r σ pl 0).toInt64))).1) n pl) tm) (M_say_h (M_highOf_s ((M_digest_L86 n wd pl tm pm (14 - 10) 10 (M_orderOf_s σ pl 0) (M_say_h (M_orderOf_s σ pl 0) (M_say_h σ (M_digest_L30 σ n wd pl tm pm (4 * wd) 0 (M_digest_L9 σ n wd pl tm pm n 0 967)) ((M_settledOf_r σ n).toInt64)) ((M_orderOf_r σ pl 0).toInt64))).1) n pl) (M_say_h (M_highOf_s ((M_digest_L86 n wd pl tm pm (14 - 10) 10 (M_orderOf_s σ pl 0) (M_say_h (M_orderOf_s σ pl 0) (M_say_h σ (M_digest_L30 σ n wd pl tm pm (4 * wd) 0 (M_digest_L9 σ n wd pl tm pm n 0 967)) ((M_settledOf_r σ n).toInt64)) ((M_orderOf_r σ pl 0).toInt64))).1) n pl) ((M_digest_L86 n wd pl tm pm (14 - 10) 10 (M_orderOf_s σ pl 0) (M_say_h (M_orderOf_s σ pl 0) (M_say_h σ (M_digest_L30 σ n wd pl tm pm (4 * wd) 0 (M_digest_L9 σ n wd pl tm pm n 0 967)) ((M_settledOf_r σ n).toInt64)) ((M_orderOf_r σ pl 0).toInt64))).2) ((M_highOf_r ((M_digest_L86 n wd pl tm pm (14 - 10) 10 (M_orderOf_s σ pl 0) (M_say_h (M_orderOf_s σ pl 0) (M_say_h σ (M_digest_L30 σ n wd pl tm pm (4 * wd) 0 (M_digest_L9 σ n wd pl tm pm n 0 967)) ((M_settledOf_r σ n).toInt64)) ((M_orderOf_r σ pl 0).toInt64))).1) n pl).toInt64)) ((M_whichOf_r (M_highOf_s ((M_digest_L86 n wd pl tm pm (14 - 10) 10 (M_orderOf_s σ pl 0) (M_say_h (M_orderOf_s σ pl 0) (M_say_h σ (M_digest_L30 σ n wd pl tm pm (4 * wd) 0 (M_digest_L9 σ n wd pl tm pm n 0 967)) ((M_settledOf_r σ n).toInt64)) ((M_orderOf_r σ pl 0).toInt64))).1) n pl) tm).toInt64)) ((M_askOf_r (M_highOf_s ((M_digest_L86 n wd pl tm pm (14 - 10) 10 (M_orderOf_s σ pl 0) (M_say_h (M_orderOf_s σ pl 0) (M_say_h σ (M_digest_L30 σ n wd pl tm pm (4 * wd) 0 (M_digest_L9 σ n wd pl tm pm n 0 967)) ((M_settledOf_r σ n).toInt64)) ((M_orderOf_r σ pl 0).toInt64))).1) n pl) tm).toInt64)) → gw D [(cI, .int)] A s H locs (wM cI a (M_askOf_s (M_highOf_s ((M_digest_L86 n wd pl tm pm (14 - 10) 10 (M_orderOf_s σ pl 0) (M_say_h (M_orderOf_s σ pl 0) (M_say_h σ (M_digest_L30 σ n wd pl tm pm (4 * wd) 0 (M_digest_L9 σ n wd pl tm pm n 0 967)) ((M_settledOf_r σ n).toInt64)) ((M_orderOf_r σ pl 0).toInt64))).1) n pl) tm) h137) → lv_has ls 2 [(1, .int (nI i137)), (0, .ref (a 0))] → W p l e (gR 7) s m ([.ref (a 0)] : List Value).toArray below meth C H locs 0 0 (MQ below (gQl D [(cI, .int)] (M_digest_r σ h n wd pl tm pm) (wM cI a (M_digest_s σ h n wd pl tm pm) (M_digest_h σ h n wd pl tm pm)) A) ([.ref (a 0)] : List Value).toArray s 0 0 A) (F0 m 137 ls []) := by
                  intro n137
                  induction n137 with
                  | zero =>
                    intro i137 h137 H locs ls hi137 hF137 hw hl
                    refine lv_iload_n hx hb dX12_digest_137 rfl (lv_at hl 0 rfl) ?_
                    refine lv_aload_n hx hb dX12_digest_138 rfl (lv_at hl 1 rfl) ?_
                    refine g_get S hw hinX12 (fs := fM a (M_askOf_s (M_highOf_s ((M_digest_L86 n wd pl tm pm (14 - 10) 10 (M_orderOf_s σ pl 0) (M_say_h (M_orderOf_s σ pl 0) (M_say_h σ (M_digest_L30 σ n wd pl tm pm (4 * wd) 0 (M_digest_L9 σ n wd pl tm pm n 0 967)) ((M_settledOf_r σ n).toInt64)) ((M_orderOf_r σ pl 0).toInt64))).1) n pl) tm) h137) 0 rfl rfl 1 (by decide) lk5 (v := .int (nI pm)) (congrArg (fun z => some (Value.int z)) (((congrFun (M_askOf_s_k0 (M_highOf_s ((M_digest_L86 n wd pl tm pm (14 - 10) 10 (M_orderOf_s σ pl 0) (M_say_h (M_orderOf_s σ pl 0) (M_say_h σ (M_digest_L30 σ n wd pl tm pm (4 * wd) 0 (M_digest_L9 σ n wd pl tm pm n 0 967)) ((M_settledOf_r σ n).toInt64)) ((M_orderOf_r σ pl 0).toInt64))).1) n pl) tm) 1).trans ((congrFun (M_highOf_s_k0 ((M_digest_L86 n wd pl tm pm (14 - 10) 10 (M_orderOf_s σ pl 0) (M_say_h (M_orderOf_s σ pl 0) (M_say_h σ (M_digest_L30 σ n wd pl tm pm (4 * wd) 0 (M_digest_L9 σ n wd pl tm pm n 0 967)) ((M_settledOf_r σ n).toInt64)) ((M_orderOf_r σ pl 0).toInt64))).1) n pl) 1).trans ((congrFun (M_digest_L86_k0 n wd pl tm pm (14 - 10) 10 (M_orderOf_s σ pl 0) (M_say_h (M_orderOf_s σ pl 0) (M_say_h σ (M_digest_L30 σ n wd pl tm pm (4 * wd) 0 (M_digest_L9 σ n wd pl tm pm n 0 967)) ((M_settledOf_r σ n).toInt64)) ((M_orderOf_r σ pl 0).toInt64))) 1).trans (congrFun (M_orderOf_s_k0 σ pl 0) 1)))).trans (hpm))) dX12_digest_139 ?_
                    refine ln_ge (x := i137) (y := pm) hx hb (by omega) (by omega) (tgt := 162) dX12_digest_142 (by decide) (fun c_x => ?_) (fun c_x => absurd (by omega) c_x)
                    have hz137 : pm = i137 := by omega
                    subst hz137
                    have e137_0 : (M_digest_L137 (M_askOf_s (M_highOf_s ((M_digest_L86 n wd pl tm pm (14 - 10) 10 (M_orderOf_s σ pl 0) (M_say_h (M_orderOf_s σ pl 0) (M_say_h σ (M_digest_L30 σ n wd pl tm pm (4 * wd) 0 (M_digest_L9 σ n wd pl tm pm n 0 967)) ((M_settledOf_r σ n).toInt64)) ((M_orderOf_r σ pl 0).toInt64))).1) n pl) tm) n wd pl tm pm pm 0 (M_say_h (M_askOf_s (M_highOf_s ((M_digest_L86 n wd pl tm pm (14 - 10) 10 (M_orderOf_s σ pl 0) (M_say_h (M_orderOf_s σ pl 0) (M_say_h σ (M_digest_L30 σ n wd pl tm pm (4 * wd) 0 (M_digest_L9 σ n wd pl tm pm n 0 967)) ((M_settledOf_r σ n).toInt64)) ((M_orderOf_r σ pl 0).toInt64))).1) n pl) tm) (M_say_h (M_highOf_s ((M_digest_L86 n wd pl tm pm (14 - 10) 10 (M_orderOf_s σ pl 0) (M_say_h (M_orderOf_s σ pl 0) (M_say_h σ (M_digest_L30 σ n wd pl tm pm (4 * wd) 0 (M_digest_L9 σ n wd pl tm pm n 0 967)) ((M_settledOf_r σ n).toInt64)) ((M_orderOf_r σ pl 0).toInt64))).1) n pl) (M_say_h (M_highOf_s ((M_digest_L86 n wd pl tm pm (14 - 10) 10 (M_orderOf_s σ pl 0) (M_say_h (M_orderOf_s σ pl 0) (M_say_h σ (M_digest_L30 σ n wd pl tm pm (4 * wd) 0 (M_digest_L9 σ n wd pl tm pm n 0 967)) ((M_settledOf_r σ n).toInt64)) ((M_orderOf_r σ pl 0).toInt64))).1) n pl) ((M_digest_L86 n wd pl tm pm (14 - 10) 10 (M_orderOf_s σ pl 0) (M_say_h (M_orderOf_s σ pl 0) (M_say_h σ (M_digest_L30 σ n wd pl tm pm (4 * wd) 0 (M_digest_L9 σ n wd pl tm pm n 0 967)) ((M_settledOf_r σ n).toInt64)) ((M_orderOf_r σ pl 0).toInt64))).2) ((M_highOf_r ((M_digest_L86 n wd pl tm pm (14 - 10) 10 (M_orderOf_s σ pl 0) (M_say_h (M_orderOf_s σ pl 0) (M_say_h σ (M_digest_L30 σ n wd pl tm pm (4 * wd) 0 (M_digest_L9 σ n wd pl tm pm n 0 967)) ((M_settledOf_r σ n).toInt64)) ((M_orderOf_r σ pl 0).toInt64))).1) n pl).toInt64)) ((M_whichOf_r (M_highOf_s ((M_digest_L86 n wd pl tm pm (14 - 10) 10 (M_orderOf_s σ pl 0) (M_say_h (M_orderOf_s σ pl 0) (M_say_h σ (M_digest_L30 σ n wd pl tm pm (4 * wd) 0 (M_digest_L9 σ n wd pl tm pm n 0 967)) ((M_settledOf_r σ n).toInt64)) ((M_orderOf_r σ pl 0).toInt64))).1) n pl) tm).toInt64)) ((M_askOf_r (M_highOf_s ((M_digest_L86 n wd pl tm pm (14 - 10) 10 (M_orderOf_s σ pl 0) (M_say_h (M_orderOf_s σ pl 0) (M_say_h σ (M_digest_L30 σ n wd pl tm pm (4 * wd) 0 (M_digest_L9 σ n wd pl tm pm n 0 967)) ((M_settledOf_r σ n).toInt64)) ((M_orderOf_r σ pl 0).toInt64))).1) n pl) tm).toInt64))) = h137 := hF137.symm
                    subst e137_0
                    refine lv_iconst (v := 0) hx hb dX12_digest_162 (by decide) ?_
                    refine lv_istore_n (lv' := [(1, .int 0), (0, .ref (a 0))]) hx hb dX12_digest_163 rfl hl (by decide) rfl (fun ls hl => ?_)
                    have L164 : ∀ (n164 i164 : Nat) (h164 : Int64) (H : Heap) (locs : List Loc) (ls : Array Slot), i164 + n164 = 10 → M_digest_L164 (M_askOf_s (M_highOf_s ((M_digest_L86 n wd pl tm pm (14 - 10) 10 (M_orderOf_s σ pl 0) (M_say_h (M_orderOf_s σ pl 0) (M_say_h σ (M_digest_L30 σ n wd pl tm pm (4 * wd) 0 (M_digest_L9 σ n wd pl tm pm n 0 967)) ((M_settledOf_r σ n).toInt64)) ((M_orderOf_r σ pl 0).toInt64))).1) n pl) tm) n wd pl tm pm n164 i164 h164 = M_digest_L164 (M_askOf_s (M_highOf_s ((M_digest_L86 n wd pl tm pm (14 - 10) 10 (M_orderOf_s σ pl 0) (M_say_h (M_orderOf_s σ pl 0) (M_say_h σ (M_digest_L30 σ n wd pl tm pm (4 * wd) 0 (M_digest_L9 σ n wd pl tm pm n 0 967)) ((M_settledOf_r σ n).toInt64)) ((M_orderOf_r σ pl 0).toInt64))).1) n pl) tm) n wd pl tm pm 10 0 (M_digest_L137 (M_askOf_s (M_highOf_s ((M_digest_L86 n wd pl tm pm (14 - 10) 10 (M_orderOf_s σ pl 0) (M_say_h (M_orderOf_s σ pl 0) (M_say_h σ (M_digest_L30 σ n wd pl tm pm (4 * wd) 0 (M_digest_L9 σ n wd pl tm pm n 0 967)) ((M_settledOf_r σ n).toInt64)) ((M_orderOf_r σ pl 0).toInt64))).1) n pl) tm) n wd pl tm pm pm 0 (M_say_h (M_askOf_s (M_highOf_s ((M_digest_L86 n wd pl tm pm (14 - 10) 10 (M_orderOf_s σ pl 0) (M_say_h (M_orderOf_s σ pl 0) (M_say_h σ (M_digest_L30 σ n wd pl tm pm (4 * wd) 0 (M_digest_L9 σ n wd pl tm pm n 0 967)) ((M_settledOf_r σ n).toInt64)) ((M_orderOf_r σ pl 0).toInt64))).1) n pl) tm) (M_say_h (M_highOf_s ((M_digest_L86 n wd pl tm pm (14 - 10) 10 (M_orderOf_s σ pl 0) (M_say_h (M_orderOf_s σ pl 0) (M_say_h σ (M_digest_L30 σ n wd pl tm pm (4 * wd) 0 (M_digest_L9 σ n wd pl tm pm n 0 967)) ((M_settledOf_r σ n).toInt64)) ((M_orderOf_r σ pl 0).toInt64))).1) n pl) (M_say_h (M_highOf_s ((M_digest_L86 n wd pl tm pm (14 - 10) 10 (M_orderOf_s σ pl 0) (M_say_h (M_orderOf_s σ pl 0) (M_say_h σ (M_digest_L30 σ n wd pl tm pm (4 * wd) 0 (M_digest_L9 σ n wd pl tm pm n 0 967)) ((M_settledOf_r σ n).toInt64)) ((M_orderOf_r σ pl 0).toInt64))).1) n pl) ((M_digest_L86 n wd pl tm pm (14 - 10) 10 (M_orderOf_s σ pl 0) (M_say_h (M_orderOf_s σ pl 0) (M_say_h σ (M_digest_L30 σ n wd pl tm pm (4 * wd) 0 (M_digest_L9 σ n wd pl tm pm n 0 967)) ((M_settledOf_r σ n).toInt64)) ((M_orderOf_r σ pl 0).toInt64))).2) ((M_highOf_r ((M_digest_L86 n wd pl tm pm (14 - 10) 10 (M_orderOf_s σ pl 0) (M_say_h (M_orderOf_s σ pl 0) (M_say_h σ (M_digest_L30 σ n wd pl tm pm (4 * wd) 0 (M_digest_L9 σ n wd pl tm pm n 0 967)) ((M_settledOf_r σ n).toInt64)) ((M_orderOf_r σ pl 0).toInt64))).1) n pl).toInt64)) ((M_whichOf_r (M_highOf_s ((M_digest_L86 n wd pl tm pm (14 - 10) 10 (M_orderOf_s σ pl 0) (M_say_h (M_orderOf_s σ pl 0) (M_say_h σ (M_digest_L30 σ n wd pl tm pm (4 * wd) 0 (M_digest_L9 σ n wd pl tm pm n 0 967)) ((M_settledOf_r σ n).toInt64)) ((M_orderOf_r σ pl 0).toInt64))).1) n pl) tm).toInt64)) ((M_askOf_r (M_highOf_s ((M_digest_L86 n wd pl tm pm (14 - 10) 10 (M_orderOf_s σ pl 0) (M_say_h (M_orderOf_s σ pl 0) (M_say_h σ (M_digest_L30 σ n wd pl tm pm (4 * wd) 0 (M_digest_L9 σ n wd pl tm pm n 0 967)) ((M_settledOf_r σ n).toInt64)) ((M_orderOf_r σ pl 0).toInt64))).1) n pl) tm).toInt64))) → gw D [(cI, .int)] A s H locs (wM cI a (M_askOf_s (M_highOf_s ((M_digest_L86 n wd pl tm pm (14 - 10) 10 (M_orderOf_s σ pl 0) (M_say_h (M_orderOf_s σ pl 0) (M_say_h σ (M_digest_L30 σ n wd pl tm pm (4 * wd) 0 (M_digest_L9 σ n wd pl tm pm n 0 967)) ((M_settledOf_r σ n).toInt64)) ((M_orderOf_r σ pl 0).toInt64))).1) n pl) tm) h164) → lv_has ls 2 [(1, .int (nI i164)), (0, .ref (a 0))] → W p l e (gR 7) s m ([.ref (a 0)] : List Value).toArray below meth C H locs 0 0 (MQ below (gQl D [(cI, .int)] (M_digest_r σ h n wd pl tm pm) (wM cI a (M_digest_s σ h n wd pl tm pm) (M_digest_h σ h n wd pl tm pm)) A) ([.ref (a 0)] : List Value).toArray s 0 0 A) (F0 m 164 ls []) := by
                      intro n164
                      induction n164 with
                      | zero =>
                        intro i164 h164 H locs ls hi164 hF164 hw hl
                        refine lv_iload_n hx hb dX12_digest_164 rfl (lv_at hl 0 rfl) ?_
                        refine lv_bipush (v := 10) hx hb dX12_digest_165 (by decide) ?_
                        refine ln_ge (x := i164) (y := 10) hx hb (by omega) (by omega) (tgt := 186) dX12_digest_167 (by decide) (fun c_x => ?_) (fun c_x => absurd (by omega) c_x)
                        have hz164 : 10 = i164 := by omega
                        subst hz164
                        have e164_0 : (M_digest_L164 (M_askOf_s (M_highOf_s ((M_digest_L86 n wd pl tm pm (14 - 10) 10 (M_orderOf_s σ pl 0) (M_say_h (M_orderOf_s σ pl 0) (M_say_h σ (M_digest_L30 σ n wd pl tm pm (4 * wd) 0 (M_digest_L9 σ n wd pl tm pm n 0 967)) ((M_settledOf_r σ n).toInt64)) ((M_orderOf_r σ pl 0).toInt64))).1) n pl) tm) n wd pl tm pm 10 0 (M_digest_L137 (M_askOf_s (M_highOf_s ((M_digest_L86 n wd pl tm pm (14 - 10) 10 (M_orderOf_s σ pl 0) (M_say_h (M_orderOf_s σ pl 0) (M_say_h σ (M_digest_L30 σ n wd pl tm pm (4 * wd) 0 (M_digest_L9 σ n wd pl tm pm n 0 967)) ((M_settledOf_r σ n).toInt64)) ((M_orderOf_r σ pl 0).toInt64))).1) n pl) tm) n wd pl tm pm pm 0 (M_say_h (M_askOf_s (M_highOf_s ((M_digest_L86 n wd pl tm pm (14 - 10) 10 (M_orderOf_s σ pl 0) (M_say_h (M_orderOf_s σ pl 0) (M_say_h σ (M_digest_L30 σ n wd pl tm pm (4 * wd) 0 (M_digest_L9 σ n wd pl tm pm n 0 967)) ((M_settledOf_r σ n).toInt64)) ((M_orderOf_r σ pl 0).toInt64))).1) n pl) tm) (M_say_h (M_highOf_s ((M_digest_L86 n wd pl tm pm (14 - 10) 10 (M_orderOf_s σ pl 0) (M_say_h (M_orderOf_s σ pl 0) (M_say_h σ (M_digest_L30 σ n wd pl tm pm (4 * wd) 0 (M_digest_L9 σ n wd pl tm pm n 0 967)) ((M_settledOf_r σ n).toInt64)) ((M_orderOf_r σ pl 0).toInt64))).1) n pl) (M_say_h (M_highOf_s ((M_digest_L86 n wd pl tm pm (14 - 10) 10 (M_orderOf_s σ pl 0) (M_say_h (M_orderOf_s σ pl 0) (M_say_h σ (M_digest_L30 σ n wd pl tm pm (4 * wd) 0 (M_digest_L9 σ n wd pl tm pm n 0 967)) ((M_settledOf_r σ n).toInt64)) ((M_orderOf_r σ pl 0).toInt64))).1) n pl) ((M_digest_L86 n wd pl tm pm (14 - 10) 10 (M_orderOf_s σ pl 0) (M_say_h (M_orderOf_s σ pl 0) (M_say_h σ (M_digest_L30 σ n wd pl tm pm (4 * wd) 0 (M_digest_L9 σ n wd pl tm pm n 0 967)) ((M_settledOf_r σ n).toInt64)) ((M_orderOf_r σ pl 0).toInt64))).2) ((M_highOf_r ((M_digest_L86 n wd pl tm pm (14 - 10) 10 (M_orderOf_s σ pl 0) (M_say_h (M_orderOf_s σ pl 0) (M_say_h σ (M_digest_L30 σ n wd pl tm pm (4 * wd) 0 (M_digest_L9 σ n wd pl tm pm n 0 967)) ((M_settledOf_r σ n).toInt64)) ((M_orderOf_r σ pl 0).toInt64))).1) n pl).toInt64)) ((M_whichOf_r (M_highOf_s ((M_digest_L86 n wd pl tm pm (14 - 10) 10 (M_orderOf_s σ pl 0) (M_say_h (M_orderOf_s σ pl 0) (M_say_h σ (M_digest_L30 σ n wd pl tm pm (4 * wd) 0 (M_digest_L9 σ n wd pl tm pm n 0 967)) ((M_settledOf_r σ n).toInt64)) ((M_orderOf_r σ pl 0).toInt64))).1) n pl) tm).toInt64)) ((M_askOf_r (M_highOf_s ((M_digest_L86 n wd pl tm pm (14 - 10) 10 (M_orderOf_s σ pl 0) (M_say_h (M_orderOf_s σ pl 0) (M_say_h σ (M_digest_L30 σ n wd pl tm pm (4 * wd) 0 (M_digest_L9 σ n wd pl tm pm n 0 967)) ((M_settledOf_r σ n).toInt64)) ((M_orderOf_r σ pl 0).toInt64))).1) n pl) tm).toInt64)))) = h164 := hF164.symm
                        subst e164_0
                        refine lv_aload_n hx hb dX12_digest_186 rfl (lv_at hl 1 rfl) ?_
                        refine g_get S hw hinX12 (fs := fM a (M_askOf_s (M_highOf_s ((M_digest_L86 n wd pl tm pm (14 - 10) 10 (M_orderOf_s σ pl 0) (M_say_h (M_orderOf_s σ pl 0) (M_say_h σ (M_digest_L30 σ n wd pl tm pm (4 * wd) 0 (M_digest_L9 σ n wd pl tm pm n 0 967)) ((M_settledOf_r σ n).toInt64)) ((M_orderOf_r σ pl 0).toInt64))).1) n pl) tm) (M_digest_L164 (M_askOf_s (M_highOf_s ((M_digest_L86 n wd pl tm pm (14 - 10) 10 (M_orderOf_s σ pl 0) (M_say_h (M_orderOf_s σ pl 0) (M_say_h σ (M_digest_L30 σ n wd pl tm pm (4 * wd) 0 (M_digest_L9 σ n wd pl tm pm n 0 967)) ((M_settledOf_r σ n).toInt64)) ((M_orderOf_r σ pl 0).toInt64))).1) n pl) tm) n wd pl tm pm 10 0 (M_digest_L137 (M_askOf_s (M_highOf_s ((M_digest_L86 n wd pl tm pm (14 - 10) 10 (M_orderOf_s σ pl 0) (M_say_h (M_orderOf_s σ pl 0) (M_say_h σ (M_digest_L30 σ n wd pl tm pm (4 * wd) 0 (M_digest_L9 σ n wd pl tm pm n 0 967)) ((M_settledOf_r σ n).toInt64)) ((M_orderOf_r σ pl 0).toInt64))).1) n pl) tm) n wd pl tm pm pm 0 (M_say_h (M_askOf_s (M_highOf_s ((M_digest_L86 n wd pl tm pm (14 - 10) 10 (M_orderOf_s σ pl 0) (M_say_h (M_orderOf_s σ pl 0) (M_say_h σ (M_digest_L30 σ n wd pl tm pm (4 * wd) 0 (M_digest_L9 σ n wd pl tm pm n 0 967)) ((M_settledOf_r σ n).toInt64)) ((M_orderOf_r σ pl 0).toInt64))).1) n pl) tm) (M_say_h (M_highOf_s ((M_digest_L86 n wd pl tm pm (14 - 10) 10 (M_orderOf_s σ pl 0) (M_say_h (M_orderOf_s σ pl 0) (M_say_h σ (M_digest_L30 σ n wd pl tm pm (4 * wd) 0 (M_digest_L9 σ n wd pl tm pm n 0 967)) ((M_settledOf_r σ n).toInt64)) ((M_orderOf_r σ pl 0).toInt64))).1) n pl) (M_say_h (M_highOf_s ((M_digest_L86 n wd pl tm pm (14 - 10) 10 (M_orderOf_s σ pl 0) (M_say_h (M_orderOf_s σ pl 0) (M_say_h σ (M_digest_L30 σ n wd pl tm pm (4 * wd) 0 (M_digest_L9 σ n wd pl tm pm n 0 967)) ((M_settledOf_r σ n).toInt64)) ((M_orderOf_r σ pl 0).toInt64))).1) n pl) ((M_digest_L86 n wd pl tm pm (14 - 10) 10 (M_orderOf_s σ pl 0) (M_say_h (M_orderOf_s σ pl 0) (M_say_h σ (M_digest_L30 σ n wd pl tm pm (4 * wd) 0 (M_digest_L9 σ n wd pl tm pm n 0 967)) ((M_settledOf_r σ n).toInt64)) ((M_orderOf_r σ pl 0).toInt64))).2) ((M_highOf_r ((M_digest_L86 n wd pl tm pm (14 - 10) 10 (M_orderOf_s σ pl 0) (M_say_h (M_orderOf_s σ pl 0) (M_say_h σ (M_digest_L30 σ n wd pl tm pm (4 * wd) 0 (M_digest_L9 σ n wd pl tm pm n 0 967)) ((M_settledOf_r σ n).toInt64)) ((M_orderOf_r σ pl 0).toInt64))).1) n pl).toInt64)) ((M_whichOf_r (M_highOf_s ((M_digest_L86 n wd pl tm pm (14 - 10) 10 (M_orderOf_s σ pl 0) (M_say_h (M_orderOf_s σ pl 0) (M_say_h σ (M_digest_L30 σ n wd pl tm pm (4 * wd) 0 (M_digest_L9 σ n wd pl tm pm n 0 967)) ((M_settledOf_r σ n).toInt64)) ((M_orderOf_r σ pl 0).toInt64))).1) n pl) tm).toInt64)) ((M_askOf_r (M_highOf_s ((M_digest_L86 n wd pl tm pm (14 - 10) 10 (M_orderOf_s σ pl 0) (M_say_h (M_orderOf_s σ pl 0) (M_say_h σ (M_digest_L30 σ n wd pl tm pm (4 * wd) 0 (M_digest_L9 σ n wd pl tm pm n 0 967)) ((M_settledOf_r σ n).toInt64)) ((M_orderOf_r σ pl 0).toInt64))).1) n pl) tm).toInt64))))) 0 rfl rfl 37 (by decide) lk1 (v := .long (M_digest_L164 (M_askOf_s (M_highOf_s ((M_digest_L86 n wd pl tm pm (14 - 10) 10 (M_orderOf_s σ pl 0) (M_say_h (M_orderOf_s σ pl 0) (M_say_h σ (M_digest_L30 σ n wd pl tm pm (4 * wd) 0 (M_digest_L9 σ n wd pl tm pm n 0 967)) ((M_settledOf_r σ n).toInt64)) ((M_orderOf_r σ pl 0).toInt64))).1) n pl) tm) n wd pl tm pm 10 0 (M_digest_L137 (M_askOf_s (M_highOf_s ((M_digest_L86 n wd pl tm pm (14 - 10) 10 (M_orderOf_s σ pl 0) (M_say_h (M_orderOf_s σ pl 0) (M_say_h σ (M_digest_L30 σ n wd pl tm pm (4 * wd) 0 (M_digest_L9 σ n wd pl tm pm n 0 967)) ((M_settledOf_r σ n).toInt64)) ((M_orderOf_r σ pl 0).toInt64))).1) n pl) tm) n wd pl tm pm pm 0 (M_say_h (M_askOf_s (M_highOf_s ((M_digest_L86 n wd pl tm pm (14 - 10) 10 (M_orderOf_s σ pl 0) (M_say_h (M_orderOf_s σ pl 0) (M_say_h σ (M_digest_L30 σ n wd pl tm pm (4 * wd) 0 (M_digest_L9 σ n wd pl tm pm n 0 967)) ((M_settledOf_r σ n).toInt64)) ((M_orderOf_r σ pl 0).toInt64))).1) n pl) tm) (M_say_h (M_highOf_s ((M_digest_L86 n wd pl tm pm (14 - 10) 10 (M_orderOf_s σ pl 0) (M_say_h (M_orderOf_s σ pl 0) (M_say_h σ (M_digest_L30 σ n wd pl tm pm (4 * wd) 0 (M_digest_L9 σ n wd pl tm pm n 0 967)) ((M_settledOf_r σ n).toInt64)) ((M_orderOf_r σ pl 0).toInt64))).1) n pl) (M_say_h (M_highOf_s ((M_digest_L86 n wd pl tm pm (14 - 10) 10 (M_orderOf_s σ pl 0) (M_say_h (M_orderOf_s σ pl 0) (M_say_h σ (M_digest_L30 σ n wd pl tm pm (4 * wd) 0 (M_digest_L9 σ n wd pl tm pm n 0 967)) ((M_settledOf_r σ n).toInt64)) ((M_orderOf_r σ pl 0).toInt64))).1) n pl) ((M_digest_L86 n wd pl tm pm (14 - 10) 10 (M_orderOf_s σ pl 0) (M_say_h (M_orderOf_s σ pl 0) (M_say_h σ (M_digest_L30 σ n wd pl tm pm (4 * wd) 0 (M_digest_L9 σ n wd pl tm pm n 0 967)) ((M_settledOf_r σ n).toInt64)) ((M_orderOf_r σ pl 0).toInt64))).2) ((M_highOf_r ((M_digest_L86 n wd pl tm pm (14 - 10) 10 (M_orderOf_s σ pl 0) (M_say_h (M_orderOf_s σ pl 0) (M_say_h σ (M_digest_L30 σ n wd pl tm pm (4 * wd) 0 (M_digest_L9 σ n wd pl tm pm n 0 967)) ((M_settledOf_r σ n).toInt64)) ((M_orderOf_r σ pl 0).toInt64))).1) n pl).toInt64)) ((M_whichOf_r (M_highOf_s ((M_digest_L86 n wd pl tm pm (14 - 10) 10 (M_orderOf_s σ pl 0) (M_say_h (M_orderOf_s σ pl 0) (M_say_h σ (M_digest_L30 σ n wd pl tm pm (4 * wd) 0 (M_digest_L9 σ n wd pl tm pm n 0 967)) ((M_settledOf_r σ n).toInt64)) ((M_orderOf_r σ pl 0).toInt64))).1) n pl) tm).toInt64)) ((M_askOf_r (M_highOf_s ((M_digest_L86 n wd pl tm pm (14 - 10) 10 (M_orderOf_s σ pl 0) (M_say_h (M_orderOf_s σ pl 0) (M_say_h σ (M_digest_L30 σ n wd pl tm pm (4 * wd) 0 (M_digest_L9 σ n wd pl tm pm n 0 967)) ((M_settledOf_r σ n).toInt64)) ((M_orderOf_r σ pl 0).toInt64))).1) n pl) tm).toInt64))))) rfl dX12_digest_187 ?_
                        exact g_lret S hr hlk hw (by simp only [M_digest_r, if_pos c_5]) (by simp only [M_digest_s, M_digest_h, if_pos c_5]) dX12_digest_190
                      | succ n164 ih164 =>
                        intro i164 h164 H locs ls hi164 hF164 hw hl
                        refine lv_iload_n hx hb dX12_digest_164 rfl (lv_at hl 0 rfl) ?_
                        refine lv_bipush (v := 10) hx hb dX12_digest_165 (by decide) ?_
                        refine ln_ge (x := i164) (y := 10) hx hb (by omega) (by omega) (tgt := 186) dX12_digest_167 (by decide) (fun c_x => absurd c_x (by omega)) (fun c_x => ?_)
                        refine lv_aload_n hx hb dX12_digest_170 rfl (lv_at hl 1 rfl) ?_
                        refine lv_aload_n hx hb dX12_digest_171 rfl (lv_at hl 1 rfl) ?_
                        refine lv_iload_n hx hb dX12_digest_172 rfl (lv_at hl 0 rfl) ?_
                        refine g_callVi S hw (c_M_countOf l D cI a (M_askOf_s (M_highOf_s ((M_digest_L86 n wd pl tm pm (14 - 10) 10 (M_orderOf_s σ pl 0) (M_say_h (M_orderOf_s σ pl 0) (M_say_h σ (M_digest_L30 σ n wd pl tm pm (4 * wd) 0 (M_digest_L9 σ n wd pl tm pm n 0 967)) ((M_settledOf_r σ n).toInt64)) ((M_orderOf_r σ pl 0).toInt64))).1) n pl) tm) h164 n (nI i164) (((congrFun (M_askOf_s_k0 (M_highOf_s ((M_digest_L86 n wd pl tm pm (14 - 10) 10 (M_orderOf_s σ pl 0) (M_say_h (M_orderOf_s σ pl 0) (M_say_h σ (M_digest_L30 σ n wd pl tm pm (4 * wd) 0 (M_digest_L9 σ n wd pl tm pm n 0 967)) ((M_settledOf_r σ n).toInt64)) ((M_orderOf_r σ pl 0).toInt64))).1) n pl) tm) 6).trans ((congrFun (M_highOf_s_k0 ((M_digest_L86 n wd pl tm pm (14 - 10) 10 (M_orderOf_s σ pl 0) (M_say_h (M_orderOf_s σ pl 0) (M_say_h σ (M_digest_L30 σ n wd pl tm pm (4 * wd) 0 (M_digest_L9 σ n wd pl tm pm n 0 967)) ((M_settledOf_r σ n).toInt64)) ((M_orderOf_r σ pl 0).toInt64))).1) n pl) 6).trans ((congrFun (M_digest_L86_k0 n wd pl tm pm (14 - 10) 10 (M_orderOf_s σ pl 0) (M_say_h (M_orderOf_s σ pl 0) (M_say_h σ (M_digest_L30 σ n wd pl tm pm (4 * wd) 0 (M_digest_L9 σ n wd pl tm pm n 0 967)) ((M_settledOf_r σ n).toInt64)) ((M_orderOf_r σ pl 0).toInt64))) 6).trans (congrFun (M_orderOf_s_k0 σ pl 0) 6)))).trans (hn)) (by omega)) gX12_digest_X12_countOf rfl 0 rfl rfl 1 rfl (by decide +kernel) (by decide) (by decide) hl.1 rfl (Nat.le_of_ble_eq_true rfl) dX12_digest_173 (fun H locs hw => ?_)
                        refine lv_i2l hx hb dX12_digest_176 rfl ?_
                        refine g_callVv S hw (c_M_say l D cI a (M_askOf_s (M_highOf_s ((M_digest_L86 n wd pl tm pm (14 - 10) 10 (M_orderOf_s σ pl 0) (M_say_h (M_orderOf_s σ pl 0) (M_say_h σ (M_digest_L30 σ n wd pl tm pm (4 * wd) 0 (M_digest_L9 σ n wd pl tm pm n 0 967)) ((M_settledOf_r σ n).toInt64)) ((M_orderOf_r σ pl 0).toInt64))).1) n pl) tm) h164 ((M_countOf_r (M_askOf_s (M_highOf_s ((M_digest_L86 n wd pl tm pm (14 - 10) 10 (M_orderOf_s σ pl 0) (M_say_h (M_orderOf_s σ pl 0) (M_say_h σ (M_digest_L30 σ n wd pl tm pm (4 * wd) 0 (M_digest_L9 σ n wd pl tm pm n 0 967)) ((M_settledOf_r σ n).toInt64)) ((M_orderOf_r σ pl 0).toInt64))).1) n pl) tm) n (nI i164)).toInt64)) gX12_digest_X12_say rfl 0 rfl rfl 1 rfl (by decide +kernel) (by decide) (by decide) hl.1 rfl (Nat.le_of_ble_eq_true rfl) dX12_digest_177 (fun H locs hw => ?_)
                        refine lv_iinc (v := nI (i164 + 1)) (lv' := [(1, .int (nI (i164 + 1))), (0, .ref (a 0))]) hx hb dX12_digest_180 hl (k := 0) rfl (nI_1 _) (by decide) rfl (fun ls hl => ?_)
                        refine lv_goto (tgt := 164) hx hb dX12_digest_183 (by decide) ?_
                        exact ih164 (i164 + 1) (M_say_h (M_askOf_s (M_highOf_s ((M_digest_L86 n wd pl tm pm (14 - 10) 10 (M_orderOf_s σ pl 0) (M_say_h (M_orderOf_s σ pl 0) (M_say_h σ (M_digest_L30 σ n wd pl tm pm (4 * wd) 0 (M_digest_L9 σ n wd pl tm pm n 0 967)) ((M_settledOf_r σ n).toInt64)) ((M_orderOf_r σ pl 0).toInt64))).1) n pl) tm) h164 ((M_countOf_r (M_askOf_s (M_highOf_s ((M_digest_L86 n wd pl tm pm (14 - 10) 10 (M_orderOf_s σ pl 0) (M_say_h (M_orderOf_s σ pl 0) (M_say_h σ (M_digest_L30 σ n wd pl tm pm (4 * wd) 0 (M_digest_L9 σ n wd pl tm pm n 0 967)) ((M_settledOf_r σ n).toInt64)) ((M_orderOf_r σ pl 0).toInt64))).1) n pl) tm) n (nI i164)).toInt64)) _ _ _ (by omega) hF164 hw (lv_sub hl [0, 1] rfl)
                    exact L164 10 0 (M_digest_L137 (M_askOf_s (M_highOf_s ((M_digest_L86 n wd pl tm pm (14 - 10) 10 (M_orderOf_s σ pl 0) (M_say_h (M_orderOf_s σ pl 0) (M_say_h σ (M_digest_L30 σ n wd pl tm pm (4 * wd) 0 (M_digest_L9 σ n wd pl tm pm n 0 967)) ((M_settledOf_r σ n).toInt64)) ((M_orderOf_r σ pl 0).toInt64))).1) n pl) tm) n wd pl tm pm pm 0 (M_say_h (M_askOf_s (M_highOf_s ((M_digest_L86 n wd pl tm pm (14 - 10) 10 (M_orderOf_s σ pl 0) (M_say_h (M_orderOf_s σ pl 0) (M_say_h σ (M_digest_L30 σ n wd pl tm pm (4 * wd) 0 (M_digest_L9 σ n wd pl tm pm n 0 967)) ((M_settledOf_r σ n).toInt64)) ((M_orderOf_r σ pl 0).toInt64))).1) n pl) tm) (M_say_h (M_highOf_s ((M_digest_L86 n wd pl tm pm (14 - 10) 10 (M_orderOf_s σ pl 0) (M_say_h (M_orderOf_s σ pl 0) (M_say_h σ (M_digest_L30 σ n wd pl tm pm (4 * wd) 0 (M_digest_L9 σ n wd pl tm pm n 0 967)) ((M_settledOf_r σ n).toInt64)) ((M_orderOf_r σ pl 0).toInt64))).1) n pl) (M_say_h (M_highOf_s ((M_digest_L86 n wd pl tm pm (14 - 10) 10 (M_orderOf_s σ pl 0) (M_say_h (M_orderOf_s σ pl 0) (M_say_h σ (M_digest_L30 σ n wd pl tm pm (4 * wd) 0 (M_digest_L9 σ n wd pl tm pm n 0 967)) ((M_settledOf_r σ n).toInt64)) ((M_orderOf_r σ pl 0).toInt64))).1) n pl) ((M_digest_L86 n wd pl tm pm (14 - 10) 10 (M_orderOf_s σ pl 0) (M_say_h (M_orderOf_s σ pl 0) (M_say_h σ (M_digest_L30 σ n wd pl tm pm (4 * wd) 0 (M_digest_L9 σ n wd pl tm pm n 0 967)) ((M_settledOf_r σ n).toInt64)) ((M_orderOf_r σ pl 0).toInt64))).2) ((M_highOf_r ((M_digest_L86 n wd pl tm pm (14 - 10) 10 (M_orderOf_s σ pl 0) (M_say_h (M_orderOf_s σ pl 0) (M_say_h σ (M_digest_L30 σ n wd pl tm pm (4 * wd) 0 (M_digest_L9 σ n wd pl tm pm n 0 967)) ((M_settledOf_r σ n).toInt64)) ((M_orderOf_r σ pl 0).toInt64))).1) n pl).toInt64)) ((M_whichOf_r (M_highOf_s ((M_digest_L86 n wd pl tm pm (14 - 10) 10 (M_orderOf_s σ pl 0) (M_say_h (M_orderOf_s σ pl 0) (M_say_h σ (M_digest_L30 σ n wd pl tm pm (4 * wd) 0 (M_digest_L9 σ n wd pl tm pm n 0 967)) ((M_settledOf_r σ n).toInt64)) ((M_orderOf_r σ pl 0).toInt64))).1) n pl) tm).toInt64)) ((M_askOf_r (M_highOf_s ((M_digest_L86 n wd pl tm pm (14 - 10) 10 (M_orderOf_s σ pl 0) (M_say_h (M_orderOf_s σ pl 0) (M_say_h σ (M_digest_L30 σ n wd pl tm pm (4 * wd) 0 (M_digest_L9 σ n wd pl tm pm n 0 967)) ((M_settledOf_r σ n).toInt64)) ((M_orderOf_r σ pl 0).toInt64))).1) n pl) tm).toInt64))) _ _ _ (by omega) rfl hw (lv_sub hl [0, 1] rfl)
                  | succ n137 ih137 =>
                    intro i137 h137 H locs ls hi137 hF137 hw hl
                    refine lv_iload_n hx hb dX12_digest_137 rfl (lv_at hl 0 rfl) ?_
                    refine lv_aload_n hx hb dX12_digest_138 rfl (lv_at hl 1 rfl) ?_
                    refine g_get S hw hinX12 (fs := fM a (M_askOf_s (M_highOf_s ((M_digest_L86 n wd pl tm pm (14 - 10) 10 (M_orderOf_s σ pl 0) (M_say_h (M_orderOf_s σ pl 0) (M_say_h σ (M_digest_L30 σ n wd pl tm pm (4 * wd) 0 (M_digest_L9 σ n wd pl tm pm n 0 967)) ((M_settledOf_r σ n).toInt64)) ((M_orderOf_r σ pl 0).toInt64))).1) n pl) tm) h137) 0 rfl rfl 1 (by decide) lk5 (v := .int (nI pm)) (congrArg (fun z => some (Value.int z)) (((congrFun (M_askOf_s_k0 (M_highOf_s ((M_digest_L86 n wd pl tm pm (14 - 10) 10 (M_orderOf_s σ pl 0) (M_say_h (M_orderOf_s σ pl 0) (M_say_h σ (M_digest_L30 σ n wd pl tm pm (4 * wd) 0 (M_digest_L9 σ n wd pl tm pm n 0 967)) ((M_settledOf_r σ n).toInt64)) ((M_orderOf_r σ pl 0).toInt64))).1) n pl) tm) 1).trans ((congrFun (M_highOf_s_k0 ((M_digest_L86 n wd pl tm pm (14 - 10) 10 (M_orderOf_s σ pl 0) (M_say_h (M_orderOf_s σ pl 0) (M_say_h σ (M_digest_L30 σ n wd pl tm pm (4 * wd) 0 (M_digest_L9 σ n wd pl tm pm n 0 967)) ((M_settledOf_r σ n).toInt64)) ((M_orderOf_r σ pl 0).toInt64))).1) n pl) 1).trans ((congrFun (M_digest_L86_k0 n wd pl tm pm (14 - 10) 10 (M_orderOf_s σ pl 0) (M_say_h (M_orderOf_s σ pl 0) (M_say_h σ (M_digest_L30 σ n wd pl tm pm (4 * wd) 0 (M_digest_L9 σ n wd pl tm pm n 0 967)) ((M_settledOf_r σ n).toInt64)) ((M_orderOf_r σ pl 0).toInt64))) 1).trans (congrFun (M_orderOf_s_k0 σ pl 0) 1)))).trans (hpm))) dX12_digest_139 ?_
                    refine ln_ge (x := i137) (y := pm) hx hb (by omega) (by omega) (tgt := 162) dX12_digest_142 (by decide) (fun c_x => absurd c_x (by omega)) (fun c_x => ?_)
                    refine lv_aload_n hx hb dX12_digest_145 rfl (lv_at hl 1 rfl) ?_
                    refine lv_aload_n hx hb dX12_digest_146 rfl (lv_at hl 1 rfl) ?_
                    refine g_get S hw hinX12 (fs := fM a (M_askOf_s (M_highOf_s ((M_digest_L86 n wd pl tm pm (14 - 10) 10 (M_orderOf_s σ pl 0) (M_say_h (M_orderOf_s σ pl 0) (M_say_h σ (M_digest_L30 σ n wd pl tm pm (4 * wd) 0 (M_digest_L9 σ n wd pl tm pm n 0 967)) ((M_settledOf_r σ n).toInt64)) ((M_orderOf_r σ pl 0).toInt64))).1) n pl) tm) h137) 0 rfl rfl 0 (by decide) lk6 (v := .ref (a 1)) rfl dX12_digest_147 ?_
                    refine lv_iload_n hx hb dX12_digest_150 rfl (lv_at hl 0 rfl) ?_
                    refine g_iald S hw (f := (M_askOf_s (M_highOf_s ((M_digest_L86 n wd pl tm pm (14 - 10) 10 (M_orderOf_s σ pl 0) (M_say_h (M_orderOf_s σ pl 0) (M_say_h σ (M_digest_L30 σ n wd pl tm pm (4 * wd) 0 (M_digest_L9 σ n wd pl tm pm n 0 967)) ((M_settledOf_r σ n).toInt64)) ((M_orderOf_r σ pl 0).toInt64))).1) n pl) tm) 1) (i := i137) (x := (M_askOf_s (M_highOf_s ((M_digest_L86 n wd pl tm pm (14 - 10) 10 (M_orderOf_s σ pl 0) (M_say_h (M_orderOf_s σ pl 0) (M_say_h σ (M_digest_L30 σ n wd pl tm pm (4 * wd) 0 (M_digest_L9 σ n wd pl tm pm n 0 967)) ((M_settledOf_r σ n).toInt64)) ((M_orderOf_r σ pl 0).toInt64))).1) n pl) tm) 1 i137) 1 0 rfl rfl (by omega) (by decide) rfl dX12_digest_151 ?_
                    refine lv_i2l hx hb dX12_digest_152 rfl ?_
                    refine g_callVv S hw (c_M_say l D cI a (M_askOf_s (M_highOf_s ((M_digest_L86 n wd pl tm pm (14 - 10) 10 (M_orderOf_s σ pl 0) (M_say_h (M_orderOf_s σ pl 0) (M_say_h σ (M_digest_L30 σ n wd pl tm pm (4 * wd) 0 (M_digest_L9 σ n wd pl tm pm n 0 967)) ((M_settledOf_r σ n).toInt64)) ((M_orderOf_r σ pl 0).toInt64))).1) n pl) tm) h137 (((M_askOf_s (M_highOf_s ((M_digest_L86 n wd pl tm pm (14 - 10) 10 (M_orderOf_s σ pl 0) (M_say_h (M_orderOf_s σ pl 0) (M_say_h σ (M_digest_L30 σ n wd pl tm pm (4 * wd) 0 (M_digest_L9 σ n wd pl tm pm n 0 967)) ((M_settledOf_r σ n).toInt64)) ((M_orderOf_r σ pl 0).toInt64))).1) n pl) tm) 1 i137).toInt64)) gX12_digest_X12_say rfl 0 rfl rfl 1 rfl (by decide +kernel) (by decide) (by decide) hl.1 rfl (Nat.le_of_ble_eq_true rfl) dX12_digest_153 (fun H locs hw => ?_)
                    refine lv_iinc (v := nI (i137 + 1)) (lv' := [(1, .int (nI (i137 + 1))), (0, .ref (a 0))]) hx hb dX12_digest_156 hl (k := 0) rfl (nI_1 _) (by decide) rfl (fun ls hl => ?_)
                    refine lv_goto (tgt := 137) hx hb dX12_digest_159 (by decide) ?_
                    exact ih137 (i137 + 1) (M_say_h (M_askOf_s (M_highOf_s ((M_digest_L86 n wd pl tm pm (14 - 10) 10 (M_orderOf_s σ pl 0) (M_say_h (M_orderOf_s σ pl 0) (M_say_h σ (M_digest_L30 σ n wd pl tm pm (4 * wd) 0 (M_digest_L9 σ n wd pl tm pm n 0 967)) ((M_settledOf_r σ n).toInt64)) ((M_orderOf_r σ pl 0).toInt64))).1) n pl) tm) h137 (((M_askOf_s (M_highOf_s ((M_digest_L86 n wd pl tm pm (14 - 10) 10 (M_orderOf_s σ pl 0) (M_say_h (M_orderOf_s σ pl 0) (M_say_h σ (M_digest_L30 σ n wd pl tm pm (4 * wd) 0 (M_digest_L9 σ n wd pl tm pm n 0 967)) ((M_settledOf_r σ n).toInt64)) ((M_orderOf_r σ pl 0).toInt64))).1) n pl) tm) 1 i137).toInt64)) _ _ _ (by omega) hF137 hw (lv_sub hl [0, 1] rfl)
                exact L137 pm 0 (M_say_h (M_askOf_s (M_highOf_s ((M_digest_L86 n wd pl tm pm (14 - 10) 10 (M_orderOf_s σ pl 0) (M_say_h (M_orderOf_s σ pl 0) (M_say_h σ (M_digest_L30 σ n wd pl tm pm (4 * wd) 0 (M_digest_L9 σ n wd pl tm pm n 0 967)) ((M_settledOf_r σ n).toInt64)) ((M_orderOf_r σ pl 0).toInt64))).1) n pl) tm) (M_say_h (M_highOf_s ((M_digest_L86 n wd pl tm pm (14 - 10) 10 (M_orderOf_s σ pl 0) (M_say_h (M_orderOf_s σ pl 0) (M_say_h σ (M_digest_L30 σ n wd pl tm pm (4 * wd) 0 (M_digest_L9 σ n wd pl tm pm n 0 967)) ((M_settledOf_r σ n).toInt64)) ((M_orderOf_r σ pl 0).toInt64))).1) n pl) (M_say_h (M_highOf_s ((M_digest_L86 n wd pl tm pm (14 - 10) 10 (M_orderOf_s σ pl 0) (M_say_h (M_orderOf_s σ pl 0) (M_say_h σ (M_digest_L30 σ n wd pl tm pm (4 * wd) 0 (M_digest_L9 σ n wd pl tm pm n 0 967)) ((M_settledOf_r σ n).toInt64)) ((M_orderOf_r σ pl 0).toInt64))).1) n pl) ((M_digest_L86 n wd pl tm pm (14 - 10) 10 (M_orderOf_s σ pl 0) (M_say_h (M_orderOf_s σ pl 0) (M_say_h σ (M_digest_L30 σ n wd pl tm pm (4 * wd) 0 (M_digest_L9 σ n wd pl tm pm n 0 967)) ((M_settledOf_r σ n).toInt64)) ((M_orderOf_r σ pl 0).toInt64))).2) ((M_highOf_r ((M_digest_L86 n wd pl tm pm (14 - 10) 10 (M_orderOf_s σ pl 0) (M_say_h (M_orderOf_s σ pl 0) (M_say_h σ (M_digest_L30 σ n wd pl tm pm (4 * wd) 0 (M_digest_L9 σ n wd pl tm pm n 0 967)) ((M_settledOf_r σ n).toInt64)) ((M_orderOf_r σ pl 0).toInt64))).1) n pl).toInt64)) ((M_whichOf_r (M_highOf_s ((M_digest_L86 n wd pl tm pm (14 - 10) 10 (M_orderOf_s σ pl 0) (M_say_h (M_orderOf_s σ pl 0) (M_say_h σ (M_digest_L30 σ n wd pl tm pm (4 * wd) 0 (M_digest_L9 σ n wd pl tm pm n 0 967)) ((M_settledOf_r σ n).toInt64)) ((M_orderOf_r σ pl 0).toInt64))).1) n pl) tm).toInt64)) ((M_askOf_r (M_highOf_s ((M_digest_L86 n wd pl tm pm (14 - 10) 10 (M_orderOf_s σ pl 0) (M_say_h (M_orderOf_s σ pl 0) (M_say_h σ (M_digest_L30 σ n wd pl tm pm (4 * wd) 0 (M_digest_L9 σ n wd pl tm pm n 0 967)) ((M_settledOf_r σ n).toInt64)) ((M_orderOf_r σ pl 0).toInt64))).1) n pl) tm).toInt64)) _ _ _ (by omega) rfl hw (lv_sub hl [0, 1] rfl)
              | succ n86 ih86 =>
                intro i86 σ86 h86 H locs ls hi86 hj86 k86_0 r86_7 hF86 hw hl
                refine lv_iload_n hx hb dX12_digest_86 rfl (lv_at hl 0 rfl) ?_
                refine lv_bipush (v := 14) hx hb dX12_digest_87 (by decide) ?_
                refine ln_ge (x := i86) (y := 14) hx hb (by omega) (by omega) (tgt := 108) dX12_digest_89 (by decide) (fun c_x => absurd c_x (by omega)) (fun c_x => ?_)
                refine lv_aload_n hx hb dX12_digest_92 rfl (lv_at hl 1 rfl) ?_
                refine lv_aload_n hx hb dX12_digest_93 rfl (lv_at hl 1 rfl) ?_
                refine lv_iload_n hx hb dX12_digest_94 rfl (lv_at hl 0 rfl) ?_
                refine g_callVi S hw (c_M_orderOf l D cI a σ86 h86 pl i86 ((congrFun k86_0 15).trans ((congrFun (M_orderOf_s_k0 σ pl 0) 15).trans (hp0))) (by omega) (r86_7) (by omega)) gX12_digest_X12_orderOf rfl 0 rfl rfl 1 rfl (by decide +kernel) (by decide) (by decide) hl.1 rfl (Nat.le_of_ble_eq_true rfl) dX12_digest_95 (fun H locs hw => ?_)
                refine lv_i2l hx hb dX12_digest_98 rfl ?_
                refine g_callVv S hw (c_M_say l D cI a (M_orderOf_s σ86 pl i86) h86 ((M_orderOf_r σ86 pl i86).toInt64)) gX12_digest_X12_say rfl 0 rfl rfl 1 rfl (by decide +kernel) (by decide) (by decide) hl.1 rfl (Nat.le_of_ble_eq_true rfl) dX12_digest_99 (fun H locs hw => ?_)
                refine lv_iinc (v := nI (i86 + 1)) (lv' := [(1, .int (nI (i86 + 1))), (0, .ref (a 0))]) hx hb dX12_digest_102 hl (k := 0) rfl (nI_1 _) (by decide) rfl (fun ls hl => ?_)
                refine lv_goto (tgt := 86) hx hb dX12_digest_105 (by decide) ?_
                exact ih86 (i86 + 1) (M_orderOf_s σ86 pl i86) (M_say_h (M_orderOf_s σ86 pl i86) h86 ((M_orderOf_r σ86 pl i86).toInt64)) _ _ _ (by omega) (by omega) ((M_orderOf_s_k0 σ86 pl i86).trans (k86_0)) (Eq.mpr (congrArg (fun z => planOK z pl) (M_orderOf_s_k7 σ86 pl i86)) r86_7) hF86 hw (lv_sub hl [0, 1] rfl)
            exact L86 (14 - 10) 10 (M_orderOf_s σ pl 0) (M_say_h (M_orderOf_s σ pl 0) (M_say_h σ (M_digest_L30 σ n wd pl tm pm (4 * wd) 0 (M_digest_L9 σ n wd pl tm pm n 0 967)) ((M_settledOf_r σ n).toInt64)) ((M_orderOf_r σ pl 0).toInt64)) _ _ _ (by omega) (Nat.le_refl _) rfl (Eq.mpr (congrArg (fun z => planOK z pl) (M_orderOf_s_k7 σ pl 0)) hpl) rfl hw (lv_sub hl [0, 1] rfl)
        | succ n30 ih30 =>
          intro i30 h30 H locs ls hi30 hF30 hw hl
          refine lv_iload_n hx hb dX12_digest_30 rfl (lv_at hl 0 rfl) ?_
          refine lv_iconst (v := 4) hx hb dX12_digest_31 (by decide) ?_
          refine lv_aload_n hx hb dX12_digest_32 rfl (lv_at hl 1 rfl) ?_
          refine g_get S hw hinX12 (fs := fM a σ h30) 0 rfl rfl 13 (by decide) lk3 (v := .int (nI wd)) (congrArg (fun z => some (Value.int z)) (hw0)) dX12_digest_33 ?_
          refine ln_imul (x := 4) (y := wd) hx hb dX12_digest_36 ?_
          refine ln_ge (x := i30) (y := (4 * wd)) hx hb (by omega) (by omega) (tgt := 57) dX12_digest_37 (by decide) (fun c_x => absurd c_x (by omega)) (fun c_x => ?_)
          refine lv_aload_n hx hb dX12_digest_40 rfl (lv_at hl 1 rfl) ?_
          refine lv_aload_n hx hb dX12_digest_41 rfl (lv_at hl 1 rfl) ?_
          refine g_get S hw hinX12 (fs := fM a σ h30) 0 rfl rfl 14 (by decide) lk4 (v := .ref (a 6)) rfl dX12_digest_42 ?_
          refine lv_iload_n hx hb dX12_digest_45 rfl (lv_at hl 0 rfl) ?_
          refine g_iald S hw (f := σ 6) (i := i30) (x := σ 6 i30) 6 0 rfl rfl (by omega) (by decide) rfl dX12_digest_46 ?_
          refine lv_i2l hx hb dX12_digest_47 rfl ?_
          refine g_callVv S hw (c_M_say l D cI a σ h30 ((σ 6 i30).toInt64)) gX12_digest_X12_say rfl 0 rfl rfl 1 rfl (by decide +kernel) (by decide) (by decide) hl.1 rfl (Nat.le_of_ble_eq_true rfl) dX12_digest_48 (fun H locs hw => ?_)
          refine lv_iinc (v := nI (i30 + 1)) (lv' := [(1, .int (nI (i30 + 1))), (0, .ref (a 0))]) hx hb dX12_digest_51 hl (k := 0) rfl (nI_1 _) (by decide) rfl (fun ls hl => ?_)
          refine lv_goto (tgt := 30) hx hb dX12_digest_54 (by decide) ?_
          exact ih30 (i30 + 1) (M_say_h σ h30 ((σ 6 i30).toInt64)) _ _ _ (by omega) hF30 hw (lv_sub hl [0, 1] rfl)
      exact L30 (4 * wd) 0 (M_digest_L9 σ n wd pl tm pm n 0 967) _ _ _ (by omega) rfl hw (lv_sub hl [0, 1] rfl)
    | succ n9 ih9 =>
      intro i9 h9 H locs ls hi9 hF9 hw hl
      refine lv_iload_n hx hb dX12_digest_9 rfl (lv_at hl 0 rfl) ?_
      refine lv_aload_n hx hb dX12_digest_10 rfl (lv_at hl 1 rfl) ?_
      refine g_get S hw hinX12 (fs := fM a σ h9) 0 rfl rfl 6 (by decide) lk2 (v := .int (nI n)) (congrArg (fun z => some (Value.int z)) (hn)) dX12_digest_11 ?_
      refine ln_ge (x := i9) (y := n) hx hb (by omega) (by omega) (tgt := 28) dX12_digest_14 (by decide) (fun c_x => absurd c_x (by omega)) (fun c_x => ?_)
      refine lv_aload_n hx hb dX12_digest_17 rfl (lv_at hl 1 rfl) ?_
      refine lv_iload_n hx hb dX12_digest_18 rfl (lv_at hl 0 rfl) ?_
      refine g_callVv S hw (c_M_sayClan l D cI a σ h9 i9 (by omega)) gX12_digest_X12_sayClan rfl 0 rfl rfl 1 rfl (by decide +kernel) (by decide) (by decide) hl.1 rfl (Nat.le_of_ble_eq_true rfl) dX12_digest_19 (fun H locs hw => ?_)
      refine lv_iinc (v := nI (i9 + 1)) (lv' := [(1, .int (nI (i9 + 1))), (0, .ref (a 0))]) hx hb dX12_digest_22 hl (k := 0) rfl (nI_1 _) (by decide) rfl (fun ls hl => ?_)
      refine lv_goto (tgt := 9) hx hb dX12_digest_25 (by decide) ?_
      exact ih9 (i9 + 1) (M_sayClan_h σ h9 i9) _ _ _ (by omega) hF9 hw (lv_sub hl [0, 1] rfl)
  exact L9 n 0 967 _ _ _ (by omega) rfl hw (lv_sub hl [0, 1] rfl)
