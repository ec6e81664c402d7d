def M_settled_r (σ : Nat → Nat → Int32) (n : Nat) : Int32 := if (M_lacks_r σ) = 0 then (M_settledOf_r σ n) else (-103)
set_option maxHeartbeats 4000000 in
set_option maxRecDepth 100000 in
theorem c_M_settled (l : Launch) (D : va_G) (cI : ClassId) (a : Nat → Nat) (σ : Nat → Nat → Int32) (h : Int64) (n : Nat) (hn : σ 0 6 = nI n) (hnb : n ≤ 4) : gI l D [(cI, .int)] yX12_settled wsX12_settled 3 [.ref (a 0)] (wM cI a σ h) (M_settled_r σ n) (wM cI a σ h) := by
  refine g_start (cc := cX12_settled) (maxL := 1) (ret := some .int) (Qc := gQi D [(cI, .int)] (M_settled_r σ n) (wM cI a σ h)) (by decide) rfl (Nat.le_of_ble_eq_true rfl) ?_
  intro p e s m below meth C A ls S hr hlk hw hl
  obtain ⟨hx, hb, hml, hown, hts⟩ := id S
  have hl : lv_has ls 1 [(0, .ref (a 0))] := hl
  refine lv_aload_n hx hb dX12_settled_0 rfl (lv_at hl 0 rfl) ?_
  refine g_callVi S hw (c_M_lacks l D cI a σ h) gX12_settled_X12_lacks rfl 0 rfl rfl 0 rfl (by decide +kernel) (by decide) (by decide) hl.1 rfl (Nat.le_of_ble_eq_true rfl) dX12_settled_1 (fun H locs hw => ?_)
  refine lv_if_eq hx hb (tgt := 12) dX12_settled_4 (by decide) (fun c_1 => ?_) (fun c_1 => ?_)
  · refine lv_aload_n hx hb dX12_settled_12 rfl (lv_at hl 0 rfl) ?_
    refine g_callVi S hw (c_M_settledOf l D cI a σ h n (hn) (by omega)) gX12_settled_X12_settledOf rfl 0 rfl rfl 0 rfl (by decide +kernel) (by decide) (by decide) hl.1 rfl (Nat.le_of_ble_eq_true rfl) dX12_settled_13 (fun H locs hw => ?_)
    exact g_iret S hr hlk hw (by simp only [M_settled_r, if_pos c_1]) rfl dX12_settled_16
  · refine lv_bipush (v := (-103)) hx hb dX12_settled_7 (by decide) ?_
    refine lv_goto (tgt := 16) hx hb dX12_settled_9 (by decide) ?_
    exact g_iret S hr hlk hw (by simp only [M_settled_r, if_neg c_1]) rfl dX12_settled_16

def M_year_r (σ : Nat → Nat → Int32) (n : Nat) : Int32 := if (M_lacks_r σ) = 0 then (M_owedAll_r (up2 (M_passYear_s σ n) 0 8 ((σ 0 8) + 1))) else (-103)
def M_year_s (σ : Nat → Nat → Int32) (n : Nat) : Nat → Nat → Int32 := if (M_lacks_r σ) = 0 then (up2 (M_passYear_s σ n) 0 8 ((σ 0 8) + 1)) else σ
theorem M_year_s_k1 (σ : Nat → Nat → Int32) (n : Nat) : M_year_s σ n 1 = σ 1 := by
  unfold M_year_s
  by_cases z1 : (M_lacks_r σ) = 0
  · refine Eq.trans (congrFun (if_pos z1) 1) ?_
    exact (up2_n _ _ _ (by decide)).trans (M_passYear_s_k1 σ n)
  · refine Eq.trans (congrFun (if_neg z1) 1) ?_
    exact rfl
theorem M_year_s_k2 (σ : Nat → Nat → Int32) (n : Nat) : M_year_s σ n 2 = σ 2 := by
  unfold M_year_s
  by_cases z1 : (M_lacks_r σ) = 0
  · refine Eq.trans (congrFun (if_pos z1) 2) ?_
    exact (up2_n _ _ _ (by decide)).trans (M_passYear_s_k2 σ n)
  · refine Eq.trans (congrFun (if_neg z1) 2) ?_
    exact rfl
theorem M_year_s_k3 (σ : Nat → Nat → Int32) (n : Nat) : M_year_s σ n 3 = σ 3 := by
  unfold M_year_s
  by_cases z1 : (M_lacks_r σ) = 0
  · refine Eq.trans (congrFun (if_pos z1) 3) ?_
    exact (up2_n _ _ _ (by decide)).trans (M_passYear_s_k3 σ n)
  · refine Eq.trans (congrFun (if_neg z1) 3) ?_
    exact rfl
theorem M_year_s_k6 (σ : Nat → Nat → Int32) (n : Nat) : M_year_s σ n 6 = σ 6 := by
  unfold M_year_s
  by_cases z1 : (M_lacks_r σ) = 0
  · refine Eq.trans (congrFun (if_pos z1) 6) ?_
    exact (up2_n _ _ _ (by decide)).trans (M_passYear_s_k6 σ n)
  · refine Eq.trans (congrFun (if_neg z1) 6) ?_
    exact rfl
theorem M_year_s_k7 (σ : Nat → Nat → Int32) (n : Nat) : M_year_s σ n 7 = σ 7 := by
  unfold M_year_s
  by_cases z1 : (M_lacks_r σ) = 0
  · refine Eq.trans (congrFun (if_pos z1) 7) ?_
    exact (up2_n _ _ _ (by decide)).trans (M_passYear_s_k7 σ n)
  · refine Eq.trans (congrFun (if_neg z1) 7) ?_
    exact rfl
theorem M_year_s_k8 (σ : Nat → Nat → Int32) (n : Nat) : M_year_s σ n 8 = σ 8 := by
  unfold M_year_s
  by_cases z1 : (M_lacks_r σ) = 0
  · refine Eq.trans (congrFun (if_pos z1) 8) ?_
    exact (up2_n _ _ _ (by decide)).trans (M_passYear_s_k8 σ n)
  · refine Eq.trans (congrFun (if_neg z1) 8) ?_
    exact rfl
theorem M_year_s_k9 (σ : Nat → Nat → Int32) (n : Nat) : M_year_s σ n 9 = σ 9 := by
  unfold M_year_s
  by_cases z1 : (M_lacks_r σ) = 0
  · refine Eq.trans (congrFun (if_pos z1) 9) ?_
    exact (up2_n _ _ _ (by decide)).trans (M_passYear_s_k9 σ n)
  · refine Eq.trans (congrFun (if_neg z1) 9) ?_
    exact rfl
theorem M_year_s_k10 (σ : Nat → Nat → Int32) (n : Nat) : M_year_s σ n 10 = σ 10 := by
  unfold M_year_s
  by_cases z1 : (M_lacks_r σ) = 0
  · refine Eq.trans (congrFun (if_pos z1) 10) ?_
    exact (up2_n _ _ _ (by decide)).trans (M_passYear_s_k10 σ n)
  · refine Eq.trans (congrFun (if_neg z1) 10) ?_
    exact rfl
theorem M_year_s_k11 (σ : Nat → Nat → Int32) (n : Nat) : M_year_s σ n 11 = σ 11 := by
  unfold M_year_s
  by_cases z1 : (M_lacks_r σ) = 0
  · refine Eq.trans (congrFun (if_pos z1) 11) ?_
    exact (up2_n _ _ _ (by decide)).trans (M_passYear_s_k11 σ n)
  · refine Eq.trans (congrFun (if_neg z1) 11) ?_
    exact rfl
theorem M_year_s_k12 (σ : Nat → Nat → Int32) (n : Nat) : M_year_s σ n 12 = σ 12 := by
  unfold M_year_s
  by_cases z1 : (M_lacks_r σ) = 0
  · refine Eq.trans (congrFun (if_pos z1) 12) ?_
    exact (up2_n _ _ _ (by decide)).trans (M_passYear_s_k12 σ n)
  · refine Eq.trans (congrFun (if_neg z1) 12) ?_
    exact rfl
theorem M_year_s_k13 (σ : Nat → Nat → Int32) (n : Nat) : M_year_s σ n 13 = σ 13 := by
  unfold M_year_s
  by_cases z1 : (M_lacks_r σ) = 0
  · refine Eq.trans (congrFun (if_pos z1) 13) ?_
    exact (up2_n _ _ _ (by decide)).trans (M_passYear_s_k13 σ n)
  · refine Eq.trans (congrFun (if_neg z1) 13) ?_
    exact rfl
theorem M_year_s_k14 (σ : Nat → Nat → Int32) (n : Nat) : M_year_s σ n 14 = σ 14 := by
  unfold M_year_s
  by_cases z1 : (M_lacks_r σ) = 0
  · refine Eq.trans (congrFun (if_pos z1) 14) ?_
    exact (up2_n _ _ _ (by decide)).trans (M_passYear_s_k14 σ n)
  · refine Eq.trans (congrFun (if_neg z1) 14) ?_
    exact rfl
theorem M_year_s_k15 (σ : Nat → Nat → Int32) (n : Nat) : M_year_s σ n 15 = σ 15 := by
  unfold M_year_s
  by_cases z1 : (M_lacks_r σ) = 0
  · refine Eq.trans (congrFun (if_pos z1) 15) ?_
    exact (up2_n _ _ _ (by decide)).trans (M_passYear_s_k15 σ n)
  · refine Eq.trans (congrFun (if_neg z1) 15) ?_
    exact rfl
theorem M_year_s_k16 (σ : Nat → Nat → Int32) (n : Nat) : M_year_s σ n 16 = σ 16 := by
  unfold M_year_s
  by_cases z1 : (M_lacks_r σ) = 0
  · refine Eq.trans (congrFun (if_pos z1) 16) ?_
    exact (up2_n _ _ _ (by decide)).trans (M_passYear_s_k16 σ n)
  · refine Eq.trans (congrFun (if_neg z1) 16) ?_
    exact rfl
theorem M_year_s_k17 (σ : Nat → Nat → Int32) (n : Nat) : M_year_s σ n 17 = σ 17 := by
  unfold M_year_s
  by_cases z1 : (M_lacks_r σ) = 0
  · refine Eq.trans (congrFun (if_pos z1) 17) ?_
    exact (up2_n _ _ _ (by decide)).trans (M_passYear_s_k17 σ n)
  · refine Eq.trans (congrFun (if_neg z1) 17) ?_
    exact rfl
theorem M_year_s_k18 (σ : Nat → Nat → Int32) (n : Nat) : M_year_s σ n 18 = σ 18 := by
  unfold M_year_s
  by_cases z1 : (M_lacks_r σ) = 0
  · refine Eq.trans (congrFun (if_pos z1) 18) ?_
    exact (up2_n _ _ _ (by decide)).trans (M_passYear_s_k18 σ n)
  · refine Eq.trans (congrFun (if_neg z1) 18) ?_
    exact rfl
theorem M_year_s_k19 (σ : Nat → Nat → Int32) (n : Nat) : M_year_s σ n 19 = σ 19 := by
  unfold M_year_s
  by_cases z1 : (M_lacks_r σ) = 0
  · refine Eq.trans (congrFun (if_pos z1) 19) ?_
    exact (up2_n _ _ _ (by decide)).trans (M_passYear_s_k19 σ n)
  · refine Eq.trans (congrFun (if_neg z1) 19) ?_
    exact rfl
set_option maxHeartbeats 4000000 in
set_option maxRecDepth 100000 in
theorem c_M_year (l : Launch) (D : va_G) (cI : ClassId) (a : Nat → Nat) (σ : Nat → Nat → Int32) (h : Int64) (n : Nat) (hn : σ 0 6 = nI n) (hnb : n ≤ 4) : gI l D [(cI, .int)] yX12_year wsX12_year 4 [.ref (a 0)] (wM cI a σ h) (M_year_r σ n) (wM cI a (M_year_s σ n) h) := by
  refine g_start (cc := cX12_year) (maxL := 1) (ret := some .int) (Qc := gQi D [(cI, .int)] (M_year_r σ n) (wM cI a (M_year_s σ n) h)) (by decide) rfl (Nat.le_of_ble_eq_true rfl) ?_
  intro p e s m below meth C A ls S hr hlk hw hl
  obtain ⟨hx, hb, hml, hown, hts⟩ := id S
  have hinX12 : ∀ x ∈ u_ws RX12 TX12 38, x ∈ wsX12_year := fun x h => List.mem_cons_of_mem _ (List.mem_append_right _ h)
  have lk0 : Cond.fieldLink RX12 111 "CowsOwedModel" "yearsNow" "I" ∈ wsX12_year := by decide +kernel
  have hl : lv_has ls 1 [(0, .ref (a 0))] := hl
  refine lv_aload_n hx hb dX12_year_0 rfl (lv_at hl 0 rfl) ?_
  refine g_callVi S hw (c_M_lacks l D cI a σ h) gX12_year_X12_lacks rfl 0 rfl rfl 0 rfl (by decide +kernel) (by decide) (by decide) hl.1 rfl (Nat.le_of_ble_eq_true rfl) dX12_year_1 (fun H locs hw => ?_)
  refine lv_if_eq hx hb (tgt := 10) dX12_year_4 (by decide) (fun c_1 => ?_) (fun c_1 => ?_)
  · refine lv_aload_n hx hb dX12_year_10 rfl (lv_at hl 0 rfl) ?_
    refine g_callVv S hw (c_M_passYear l D cI a σ h n (hn) (by omega)) gX12_year_X12_passYear rfl 0 rfl rfl 0 rfl (by decide +kernel) (by decide) (by decide) hl.1 rfl (Nat.le_of_ble_eq_true rfl) dX12_year_11 (fun H locs hw => ?_)
    refine lv_aload_n hx hb dX12_year_14 rfl (lv_at hl 0 rfl) ?_
    refine lv_dup hx hb dX12_year_15 rfl ?_
    refine g_get S hw hinX12 (fs := fM a (M_passYear_s σ n) h) 0 rfl rfl 8 (by decide) lk0 (v := .int (σ 0 8)) (congrArg (fun z => some (Value.int z)) (congrFun (M_passYear_s_k0 σ n) 8)) dX12_year_16 ?_
    refine lv_iconst (v := 1) hx hb dX12_year_19 (by decide) ?_
    refine lv_iadd hx hb dX12_year_20 ?_
    refine g_put S hw hinX12 tyX12 tyX12_ok nmX12 (fs := fM a (M_passYear_s σ n) h) 0 rfl rfl 8 (by decide) lk0 rfl rfl rfl (Nat.le_of_ble_eq_true rfl) (w2 := wM cI a (up2 (M_passYear_s σ n) 0 8 ((σ 0 8) + 1)) h) (wM_f8 _ _ _ _ _) dX12_year_21 (fun H locs hw => ?_)
    refine lv_aload_n hx hb dX12_year_24 rfl (lv_at hl 0 rfl) ?_
    refine g_callVi S hw (c_M_owedAll l D cI a (up2 (M_passYear_s σ n) 0 8 ((σ 0 8) + 1)) h) gX12_year_X12_owedAll rfl 0 rfl rfl 0 rfl (by decide +kernel) (by decide) (by decide) hl.1 rfl (Nat.le_of_ble_eq_true rfl) dX12_year_25 (fun H locs hw => ?_)
    exact g_iret S hr hlk hw (by simp only [M_year_r, if_pos c_1]) (by simp only [M_year_s, if_pos c_1]) dX12_year_28
  · refine lv_bipush (v := (-103)) hx hb dX12_year_7 (by decide) ?_
    exact g_iret S hr hlk hw (by simp only [M_year_r, if_neg c_1]) (by simp only [M_year_s, if_neg c_1]) dX12_year_9

def M_layAside_s (σ : Nat → Nat → Int32) : Nat → Nat → Int32 := row (row σ 8 (σ 4)) 9 ((row σ 8 (σ 4)) 5)
theorem M_layAside_s_k0 (σ : Nat → Nat → Int32) : M_layAside_s σ 0 = σ 0 := by
  unfold M_layAside_s
  exact (row_n _ _ (by decide)).trans (row_n _ _ (by decide))
theorem M_layAside_s_k1 (σ : Nat → Nat → Int32) : M_layAside_s σ 1 = σ 1 := by
  unfold M_layAside_s
  exact (row_n _ _ (by decide)).trans (row_n _ _ (by decide))
theorem M_layAside_s_k2 (σ : Nat → Nat → Int32) : M_layAside_s σ 2 = σ 2 := by
  unfold M_layAside_s
  exact (row_n _ _ (by decide)).trans (row_n _ _ (by decide))
theorem M_layAside_s_k3 (σ : Nat → Nat → Int32) : M_layAside_s σ 3 = σ 3 := by
  unfold M_layAside_s
  exact (row_n _ _ (by decide)).trans (row_n _ _ (by decide))
theorem M_layAside_s_k4 (σ : Nat → Nat → Int32) : M_layAside_s σ 4 = σ 4 := by
  unfold M_layAside_s
  exact (row_n _ _ (by decide)).trans (row_n _ _ (by decide))
theorem M_layAside_s_k5 (σ : Nat → Nat → Int32) : M_layAside_s σ 5 = σ 5 := by
  unfold M_layAside_s
  exact (row_n _ _ (by decide)).trans (row_n _ _ (by decide))
theorem M_layAside_s_k6 (σ : Nat → Nat → Int32) : M_layAside_s σ 6 = σ 6 := by
  unfold M_layAside_s
  exact (row_n _ _ (by decide)).trans (row_n _ _ (by decide))
theorem M_layAside_s_k7 (σ : Nat → Nat → Int32) : M_layAside_s σ 7 = σ 7 := by
  unfold M_layAside_s
  exact (row_n _ _ (by decide)).trans (row_n _ _ (by decide))
theorem M_layAside_s_k10 (σ : Nat → Nat → Int32) : M_layAside_s σ 10 = σ 10 := by
  unfold M_layAside_s
  exact (row_n _ _ (by decide)).trans (row_n _ _ (by decide))
theorem M_layAside_s_k11 (σ : Nat → Nat → Int32) : M_layAside_s σ 11 = σ 11 := by
  unfold M_layAside_s
  exact (row_n _ _ (by decide)).trans (row_n _ _ (by decide))
theorem M_layAside_s_k12 (σ : Nat → Nat → Int32) : M_layAside_s σ 12 = σ 12 := by
  unfold M_layAside_s
  exact (row_n _ _ (by decide)).trans (row_n _ _ (by decide))
theorem M_layAside_s_k13 (σ : Nat → Nat → Int32) : M_layAside_s σ 13 = σ 13 := by
  unfold M_layAside_s
  exact (row_n _ _ (by decide)).trans (row_n _ _ (by decide))
theorem M_layAside_s_k14 (σ : Nat → Nat → Int32) : M_layAside_s σ 14 = σ 14 := by
  unfold M_layAside_s
  exact (row_n _ _ (by decide)).trans (row_n _ _ (by decide))
theorem M_layAside_s_k15 (σ : Nat → Nat → Int32) : M_layAside_s σ 15 = σ 15 := by
  unfold M_layAside_s
  exact (row_n _ _ (by decide)).trans (row_n _ _ (by decide))
theorem M_layAside_s_k16 (σ : Nat → Nat → Int32) : M_layAside_s σ 16 = σ 16 := by
  unfold M_layAside_s
  exact (row_n _ _ (by decide)).trans (row_n _ _ (by decide))
theorem M_layAside_s_k17 (σ : Nat → Nat → Int32) : M_layAside_s σ 17 = σ 17 := by
  unfold M_layAside_s
  exact (row_n _ _ (by decide)).trans (row_n _ _ (by decide))
theorem M_layAside_s_k18 (σ : Nat → Nat → Int32) : M_layAside_s σ 18 = σ 18 := by
  unfold M_layAside_s
  exact (row_n _ _ (by decide)).trans (row_n _ _ (by decide))
theorem M_layAside_s_k19 (σ : Nat → Nat → Int32) : M_layAside_s σ 19 = σ 19 := by
  unfold M_layAside_s
  exact (row_n _ _ (by decide)).trans (row_n _ _ (by decide))
set_option maxHeartbeats 4000000 in
set_option maxRecDepth 100000 in
theorem c_M_layAside (l : Launch) (D : va_G) (cI : ClassId) (a : Nat → Nat) (σ : Nat → Nat → Int32) (h : Int64) : gV l D [(cI, .int)] yX12_layAside wsX12_layAside 2 [.ref (a 0)] (wM cI a σ h)  (wM cI a (M_layAside_s σ) h) := by
  refine g_start (cc := cX12_layAside) (maxL := 1) (ret := none) (Qc := gQv D [(cI, .int)] (wM cI a (M_layAside_s σ) h)) (by decide) rfl (Nat.le_of_ble_eq_true rfl) ?_
  intro p e s m below meth C A ls S hr hlk hw hl
  obtain ⟨hx, hb, hml, hown, hts⟩ := id S
  have hinX12 : ∀ x ∈ u_ws RX12 TX12 38, x ∈ wsX12_layAside := fun x h => List.mem_cons_of_mem _ (List.mem_append_right _ h)
  have lk0 : Cond.fieldLink RX12 19 "CowsOwedModel" "herds" "[I" ∈ wsX12_layAside := by decide +kernel
  have lk1 : Cond.fieldLink RX12 31 "CowsOwedModel" "savedHerds" "[I" ∈ wsX12_layAside := by decide +kernel
  have lk2 : Cond.fieldLink RX12 22 "CowsOwedModel" "debts" "[I" ∈ wsX12_layAside := by decide +kernel
  have lk3 : Cond.fieldLink RX12 34 "CowsOwedModel" "savedDebts" "[I" ∈ wsX12_layAside := by decide +kernel
  have hl : lv_has ls 1 [(0, .ref (a 0))] := hl
  refine lv_aload_n hx hb dX12_layAside_0 rfl (lv_at hl 0 rfl) ?_
  refine g_get S hw hinX12 (fs := fM a σ h) 0 rfl rfl 11 (by decide) lk0 (v := .ref (a 4)) rfl dX12_layAside_1 ?_
  refine lv_aload_n hx hb dX12_layAside_4 rfl (lv_at hl 0 rfl) ?_
  refine g_get S hw hinX12 (fs := fM a σ h) 0 rfl rfl 17 (by decide) lk1 (v := .ref (a 8)) rfl dX12_layAside_5 ?_
  refine g_callSv S hw (c_M_copy_4_8 l D cI a σ h) gX12_layAside_X12_copy rfl 2 rfl (by decide +kernel) (by decide) (by decide) hl.1 rfl (Nat.le_of_ble_eq_true rfl) dX12_layAside_8 (fun H locs hw => ?_)
  refine lv_aload_n hx hb dX12_layAside_11 rfl (lv_at hl 0 rfl) ?_
  refine g_get S hw hinX12 (fs := fM a (row σ 8 (σ 4)) h) 0 rfl rfl 12 (by decide) lk2 (v := .ref (a 5)) rfl dX12_layAside_12 ?_
  refine lv_aload_n hx hb dX12_layAside_15 rfl (lv_at hl 0 rfl) ?_
  refine g_get S hw hinX12 (fs := fM a (row σ 8 (σ 4)) h) 0 rfl rfl 18 (by decide) lk3 (v := .ref (a 9)) rfl dX12_layAside_16 ?_
  refine g_callSv S hw (c_M_copy_5_9 l D cI a (row σ 8 (σ 4)) h) gX12_layAside_X12_copy rfl 2 rfl (by decide +kernel) (by decide) (by decide) hl.1 rfl (Nat.le_of_ble_eq_true rfl) dX12_layAside_19 (fun H locs hw => ?_)
  exact g_vret S hr hlk hw (by simp only [M_layAside_s]) dX12_layAside_22

def M_layBack_s (σ : Nat → Nat → Int32) : Nat → Nat → Int32 := row (row σ 4 (σ 8)) 5 ((row σ 4 (σ 8)) 9)
theorem M_layBack_s_k0 (σ : Nat → Nat → Int32) : M_layBack_s σ 0 = σ 0 := by
  unfold M_layBack_s
  exact (row_n _ _ (by decide)).trans (row_n _ _ (by decide))
theorem M_layBack_s_k1 (σ : Nat → Nat → Int32) : M_layBack_s σ 1 = σ 1 := by
  unfold M_layBack_s
  exact (row_n _ _ (by decide)).trans (row_n _ _ (by decide))
theorem M_layBack_s_k2 (σ : Nat → Nat → Int32) : M_layBack_s σ 2 = σ 2 := by
  unfold M_layBack_s
  exact (row_n _ _ (by decide)).trans (row_n _ _ (by decide))
theorem M_layBack_s_k3 (σ : Nat → Nat → Int32) : M_layBack_s σ 3 = σ 3 := by
  unfold M_layBack_s
  exact (row_n _ _ (by decide)).trans (row_n _ _ (by decide))
theorem M_layBack_s_k6 (σ : Nat → Nat → Int32) : M_layBack_s σ 6 = σ 6 := by
  unfold M_layBack_s
  exact (row_n _ _ (by decide)).trans (row_n _ _ (by decide))
theorem M_layBack_s_k7 (σ : Nat → Nat → Int32) : M_layBack_s σ 7 = σ 7 := by
  unfold M_layBack_s
  exact (row_n _ _ (by decide)).trans (row_n _ _ (by decide))
theorem M_layBack_s_k8 (σ : Nat → Nat → Int32) : M_layBack_s σ 8 = σ 8 := by
  unfold M_layBack_s
  exact (row_n _ _ (by decide)).trans (row_n _ _ (by decide))
theorem M_layBack_s_k9 (σ : Nat → Nat → Int32) : M_layBack_s σ 9 = σ 9 := by
  unfold M_layBack_s
  exact (row_n _ _ (by decide)).trans (row_n _ _ (by decide))
theorem M_layBack_s_k10 (σ : Nat → Nat → Int32) : M_layBack_s σ 10 = σ 10 := by
  unfold M_layBack_s
  exact (row_n _ _ (by decide)).trans (row_n _ _ (by decide))
theorem M_layBack_s_k11 (σ : Nat → Nat → Int32) : M_layBack_s σ 11 = σ 11 := by
  unfold M_layBack_s
  exact (row_n _ _ (by decide)).trans (row_n _ _ (by decide))
theorem M_layBack_s_k12 (σ : Nat → Nat → Int32) : M_layBack_s σ 12 = σ 12 := by
  unfold M_layBack_s
  exact (row_n _ _ (by decide)).trans (row_n _ _ (by decide))
theorem M_layBack_s_k13 (σ : Nat → Nat → Int32) : M_layBack_s σ 13 = σ 13 := by
  unfold M_layBack_s
  exact (row_n _ _ (by decide)).trans (row_n _ _ (by decide))
theorem M_layBack_s_k14 (σ : Nat → Nat → Int32) : M_layBack_s σ 14 = σ 14 := by
  unfold M_layBack_s
  exact (row_n _ _ (by decide)).trans (row_n _ _ (by decide))
theorem M_layBack_s_k15 (σ : Nat → Nat → Int32) : M_layBack_s σ 15 = σ 15 := by
  unfold M_layBack_s
  exact (row_n _ _ (by decide)).trans (row_n _ _ (by decide))
theorem M_layBack_s_k16 (σ : Nat → Nat → Int32) : M_layBack_s σ 16 = σ 16 := by
  unfold M_layBack_s
  exact (row_n _ _ (by decide)).trans (row_n _ _ (by decide))
theorem M_layBack_s_k17 (σ : Nat → Nat → Int32) : M_layBack_s σ 17 = σ 17 := by
  unfold M_layBack_s
  exact (row_n _ _ (by decide)).trans (row_n _ _ (by decide))
theorem M_layBack_s_k18 (σ : Nat → Nat → Int32) : M_layBack_s σ 18 = σ 18 := by
  unfold M_layBack_s
  exact (row_n _ _ (by decide)).trans (row_n _ _ (by decide))
theorem M_layBack_s_k19 (σ : Nat → Nat → Int32) : M_layBack_s σ 19 = σ 19 := by
  unfold M_layBack_s
  exact (row_n _ _ (by decide)).trans (row_n _ _ (by decide))
set_option maxHeartbeats 4000000 in
set_option maxRecDepth 100000 in
theorem c_M_layBack (l : Launch) (D : va_G) (cI : ClassId) (a : Nat → Nat) (σ : Nat → Nat → Int32) (h : Int64) : gV l D [(cI, .int)] yX12_layBack wsX12_layBack 2 [.ref (a 0)] (wM cI a σ h)  (wM cI a (M_layBack_s σ) h) := by
  refine g_start (cc := cX12_layBack) (maxL := 1) (ret := none) (Qc := gQv D [(cI, .int)] (wM cI a (M_layBack_s σ) h)) (by decide) rfl (Nat.le_of_ble_eq_true rfl) ?_
  intro p e s m below meth C A ls S hr hlk hw hl
  obtain ⟨hx, hb, hml, hown, hts⟩ := id S
  have hinX12 : ∀ x ∈ u_ws RX12 TX12 38, x ∈ wsX12_layBack := fun x h => List.mem_cons_of_mem _ (List.mem_append_right _ h)
  have lk0 : Cond.fieldLink RX12 31 "CowsOwedModel" "savedHerds" "[I" ∈ wsX12_layBack := by decide +kernel
  have lk1 : Cond.fieldLink RX12 19 "CowsOwedModel" "herds" "[I" ∈ wsX12_layBack := by decide +kernel
  have lk2 : Cond.fieldLink RX12 34 "CowsOwedModel" "savedDebts" "[I" ∈ wsX12_layBack := by decide +kernel
  have lk3 : Cond.fieldLink RX12 22 "CowsOwedModel" "debts" "[I" ∈ wsX12_layBack := by decide +kernel
  have hl : lv_has ls 1 [(0, .ref (a 0))] := hl
  refine lv_aload_n hx hb dX12_layBack_0 rfl (lv_at hl 0 rfl) ?_
  refine g_get S hw hinX12 (fs := fM a σ h) 0 rfl rfl 17 (by decide) lk0 (v := .ref (a 8)) rfl dX12_layBack_1 ?_
  refine lv_aload_n hx hb dX12_layBack_4 rfl (lv_at hl 0 rfl) ?_
  refine g_get S hw hinX12 (fs := fM a σ h) 0 rfl rfl 11 (by decide) lk1 (v := .ref (a 4)) rfl dX12_layBack_5 ?_
  refine g_callSv S hw (c_M_copy_8_4 l D cI a σ h) gX12_layBack_X12_copy rfl 2 rfl (by decide +kernel) (by decide) (by decide) hl.1 rfl (Nat.le_of_ble_eq_true rfl) dX12_layBack_8 (fun H locs hw => ?_)
  refine lv_aload_n hx hb dX12_layBack_11 rfl (lv_at hl 0 rfl) ?_
  refine g_get S hw hinX12 (fs := fM a (row σ 4 (σ 8)) h) 0 rfl rfl 18 (by decide) lk2 (v := .ref (a 9)) rfl dX12_layBack_12 ?_
  refine lv_aload_n hx hb dX12_layBack_15 rfl (lv_at hl 0 rfl) ?_
  refine g_get S hw hinX12 (fs := fM a (row σ 4 (σ 8)) h) 0 rfl rfl 12 (by decide) lk3 (v := .ref (a 5)) rfl dX12_layBack_16 ?_
  refine g_callSv S hw (c_M_copy_9_5 l D cI a (row σ 4 (σ 8)) h) gX12_layBack_X12_copy rfl 2 rfl (by decide +kernel) (by decide) (by decide) hl.1 rfl (Nat.le_of_ble_eq_true rfl) dX12_layBack_19 (fun H locs hw => ?_)
  exact g_vret S hr hlk hw (by simp only [M_layBack_s]) dX12_layBack_22

def M_whichOf_S14_0 (σ : Nat → Nat → Int32) (tm : Nat) (i4 : Nat) (x4_1 : Int32) (i14 : Nat) (x14_3 : Int32) : Int32 := if x14_3 = 0 then 0 else (if (M_asksBy_r (nI i4) (σ 13 (2 * i14))) = (σ 13 ((2 * i14) + 1)) then 1 else 0)
def M_whichOf_L14 (σ : Nat → Nat → Int32) (tm : Nat) (i4 : Nat) (x4_1 : Int32) : Nat → Nat → (Int32) → (Int32)
  | 0, _, x14_3 => x14_3
  | n14 + 1, i14, x14_3 => M_whichOf_L14 σ tm i4 x4_1 n14 (i14 + 1) (M_whichOf_S14_0 σ tm i4 x4_1 i14 x14_3)
def M_whichOf_S4_0 (σ : Nat → Nat → Int32) (tm : Nat) (i4 : Nat) (x4_1 : Int32) : Int32 := if (M_whichOf_L14 σ tm i4 x4_1 tm 0 1) = 0 then (x4_1 ||| 0) else (x4_1 ||| (1 <<< ((nI i4) &&& 31)))
def M_whichOf_L4 (σ : Nat → Nat → Int32) (tm : Nat) : Nat → Nat → (Int32) → (Int32)
  | 0, _, x4_1 => x4_1
  | n4 + 1, i4, x4_1 => M_whichOf_L4 σ tm n4 (i4 + 1) (M_whichOf_S4_0 σ tm i4 x4_1)
def M_whichOf_r (σ : Nat → Nat → Int32) (tm : Nat) : Int32 := (M_whichOf_L4 σ tm 5 0 0)
set_option maxHeartbeats 4000000 in
set_option maxRecDepth 100000 in
theorem c_M_whichOf (l : Launch) (D : va_G) (cI : ClassId) (a : Nat → Nat) (σ : Nat → Nat → Int32) (h : Int64) (tm : Nat) (ht0 : σ 0 22 = nI tm) (ht0b : tm ≤ 6) : gI l D [(cI, .int)] yX12_whichOf wsX12_whichOf 2 [.ref (a 0)] (wM cI a σ h) (M_whichOf_r σ tm) (wM cI a σ h) := by
  refine g_start (cc := cX12_whichOf) (maxL := 5) (ret := some .int) (Qc := gQi D [(cI, .int)] (M_whichOf_r σ tm) (wM cI a σ h)) (by decide) rfl (Nat.le_of_ble_eq_true rfl) ?_
  intro p e s m below meth C A ls S hr hlk hw hl
  obtain ⟨hx, hb, hml, hown, hts⟩ := id S
  have hinX12 : ∀ x ∈ u_ws RX12 TX12 38, x ∈ wsX12_whichOf := fun x h => List.mem_cons_of_mem _ (List.mem_append_right _ h)
  have lk0 : Cond.fieldLink RX12 120 "CowsOwedModel" "toldMany" "I" ∈ wsX12_whichOf := by decide +kernel
  have lk1 : Cond.fieldLink RX12 46 "CowsOwedModel" "told" "[I" ∈ wsX12_whichOf := by decide +kernel
  have hl : lv_has ls 5 [(0, .ref (a 0))] := hl
  refine lv_iconst (v := 0) hx hb dX12_whichOf_0 (by decide) ?_
  refine lv_istore_n (lv' := [(1, .int 0), (0, .ref (a 0))]) hx hb dX12_whichOf_1 rfl hl (by decide) rfl (fun ls hl => ?_)
  refine lv_iconst (v := 0) hx hb dX12_whichOf_2 (by decide) ?_
  refine lv_istore_n (lv' := [(2, .int 0), (1, .int 0), (0, .ref (a 0))]) hx hb dX12_whichOf_3 rfl hl (by decide) rfl (fun ls hl => ?_)
  have L4 : ∀ (n4 i4 : Nat) (x4_1 : Int32) (H : Heap) (locs : List Loc) (ls : Array Slot), i4 + n4 = 5 → M_whichOf_L4 σ tm n4 i4 x4_1 = M_whichOf_L4 σ tm 5 0 0 → gw D [(cI, .int)] A s H locs (wM cI a σ h) → lv_has ls 5 [(2, .int (nI i4)), (1, .int x4_1), (0, .ref (a 0))] → W p l e (gR 2) s m ([.ref (a 0)] : List Value).toArray below meth C H locs 0 0 (MQ below (gQi D [(cI, .int)] (M_whichOf_r σ tm) (wM cI a σ h) A) ([.ref (a 0)] : List Value).toArray s 0 0 A) (F0 m 4 ls []) := by
    intro n4
    induction n4 with
    | zero =>
      intro i4 x4_1 H locs ls hi4 hF4 hw hl
      refine lv_iload_n hx hb dX12_whichOf_4 rfl (lv_at hl 0 rfl) ?_
      refine lv_iconst (v := 5) hx hb dX12_whichOf_5 (by decide) ?_
      refine ln_ge (x := i4) (y := 5) hx hb (by omega) (by omega) (tgt := 86) dX12_whichOf_6 (by decide) (fun c_x => ?_) (fun c_x => absurd (by omega) c_x)
      have hz4 : 5 = i4 := by omega
      subst hz4
      have e4_0 : (M_whichOf_L4 σ tm 5 0 0) = x4_1 := hF4.symm
      subst e4_0
      refine lv_iload_n hx hb dX12_whichOf_86 rfl (lv_at hl 1 rfl) ?_
      exact g_iret S hr hlk hw (by simp only [M_whichOf_r]) rfl dX12_whichOf_87
    | succ n4 ih4 =>
      intro i4 x4_1 H locs ls hi4 hF4 hw hl
      refine lv_iload_n hx hb dX12_whichOf_4 rfl (lv_at hl 0 rfl) ?_
      refine lv_iconst (v := 5) hx hb dX12_whichOf_5 (by decide) ?_
      refine ln_ge (x := i4) (y := 5) hx hb (by omega) (by omega) (tgt := 86) dX12_whichOf_6 (by decide) (fun c_x => absurd c_x (by omega)) (fun c_x => ?_)
      refine lv_iconst (v := 1) hx hb dX12_whichOf_9 (by decide) ?_
      refine lv_istore_n (lv' := [(3, .int 1), (2, .int (nI i4)), (1, .int x4_1), (0, .ref (a 0))]) hx hb dX12_whichOf_10 rfl hl (by decide) rfl (fun ls hl => ?_)
      refine lv_iconst (v := 0) hx hb dX12_whichOf_11 (by decide) ?_
      refine lv_istore (lv' := [(4, .int 0), (3, .int 1), (2, .int (nI i4)), (1, .int x4_1), (0, .ref (a 0))]) hx hb dX12_whichOf_12 hl (by decide) rfl (fun ls hl => ?_)
      have L14 : ∀ (n14 i14 : Nat) (x14_3 : Int32) (H : Heap) (locs : List Loc) (ls : Array Slot), i14 + n14 = tm → M_whichOf_L14 σ tm i4 x4_1 n14 i14 x14_3 = M_whichOf_L14 σ tm i4 x4_1 tm 0 1 → gw D [(cI, .int)] A s H locs (wM cI a σ h) → lv_has ls 5 [(4, .int (nI i14)), (3, .int x14_3), (2, .int (nI i4)), (1, .int x4_1), (0, .ref (a 0))] → W p l e (gR 2) s m ([.ref (a 0)] : List Value).toArray below meth C H locs 0 0 (MQ below (gQi D [(cI, .int)] (M_whichOf_r σ tm) (wM cI a σ h) A) ([.ref (a 0)] : List Value).toArray s 0 0 A) (F0 m 14 ls []) := by
        intro n14
        induction n14 with
        | zero =>
          intro i14 x14_3 H locs ls hi14 hF14 hw hl
          refine lv_iload hx hb dX12_whichOf_14 (lv_at hl 0 rfl) ?_
          refine lv_aload_n hx hb dX12_whichOf_16 rfl (lv_at hl 4 rfl) ?_
          refine g_get S hw hinX12 (fs := fM a σ h) 0 rfl rfl 22 (by decide) lk0 (v := .int (nI tm)) (congrArg (fun z => some (Value.int z)) (ht0)) dX12_whichOf_17 ?_
          refine ln_ge (x := i14) (y := tm) hx hb (by omega) (by omega) (tgt := 66) dX12_whichOf_20 (by decide) (fun c_x => ?_) (fun c_x => absurd (by omega) c_x)
          have hz14 : tm = i14 := by omega
          subst hz14
          have e14_0 : (M_whichOf_L14 σ tm i4 x4_1 tm 0 1) = x14_3 := hF14.symm
          subst e14_0
          refine lv_iload_n hx hb dX12_whichOf_66 rfl (lv_at hl 3 rfl) ?_
          refine lv_iload_n hx hb dX12_whichOf_67 rfl (lv_at hl 1 rfl) ?_
          refine lv_if_eq hx hb (tgt := 77) dX12_whichOf_68 (by decide) (fun c_6 => ?_) (fun c_6 => ?_)
          · refine lv_iconst (v := 0) hx hb dX12_whichOf_77 (by decide) ?_
            refine lv_ior hx hb dX12_whichOf_78 ?_
            refine lv_istore_n (lv' := [(1, .int (x4_1 ||| 0)), (4, .int (nI tm)), (3, .int (M_whichOf_L14 σ tm i4 x4_1 tm 0 1)), (2, .int (nI i4)), (0, .ref (a 0))]) hx hb dX12_whichOf_79 rfl hl (by decide) rfl (fun ls hl => ?_)
            refine lv_iinc (v := nI (i4 + 1)) (lv' := [(2, .int (nI (i4 + 1))), (1, .int (x4_1 ||| 0)), (4, .int (nI tm)), (3, .int (M_whichOf_L14 σ tm i4 x4_1 tm 0 1)), (0, .ref (a 0))]) hx hb dX12_whichOf_80 hl (k := 3) rfl (nI_1 _) (by decide) rfl (fun ls hl => ?_)
            refine lv_goto (tgt := 4) hx hb dX12_whichOf_83 (by decide) ?_
            exact ih4 (i4 + 1) (x4_1 ||| 0) _ _ _ (by omega) (by have q := hF4; simp only [M_whichOf_L4, M_whichOf_S4_0, if_pos c_6] at q; exact q) hw (lv_sub hl [0, 1, 4] rfl)
          · refine lv_iconst (v := 1) hx hb dX12_whichOf_71 (by decide) ?_
            refine lv_iload_n hx hb dX12_whichOf_72 rfl (lv_at hl 2 rfl) ?_
            refine lv_ishl hx hb dX12_whichOf_73 ?_
            refine lv_goto (tgt := 78) hx hb dX12_whichOf_74 (by decide) ?_
            refine lv_ior hx hb dX12_whichOf_78 ?_
            refine lv_istore_n (lv' := [(1, .int (x4_1 ||| (1 <<< ((nI i4) &&& 31)))), (4, .int (nI tm)), (3, .int (M_whichOf_L14 σ tm i4 x4_1 tm 0 1)), (2, .int (nI i4)), (0, .ref (a 0))]) hx hb dX12_whichOf_79 rfl hl (by decide) rfl (fun ls hl => ?_)
            refine lv_iinc (v := nI (i4 + 1)) (lv' := [(2, .int (nI (i4 + 1))), (1, .int (x4_1 ||| (1 <<< ((nI i4) &&& 31)))), (4, .int (nI tm)), (3, .int (M_whichOf_L14 σ tm i4 x4_1 tm 0 1)), (0, .ref (a 0))]) hx hb dX12_whichOf_80 hl (k := 3) rfl (nI_1 _) (by decide) rfl (fun ls hl => ?_)
            refine lv_goto (tgt := 4) hx hb dX12_whichOf_83 (by decide) ?_
            exact ih4 (i4 + 1) (x4_1 ||| (1 <<< ((nI i4) &&& 31))) _ _ _ (by omega) (by have q := hF4; simp only [M_whichOf_L4, M_whichOf_S4_0, if_neg c_6] at q; exact q) hw (lv_sub hl [0, 1, 4] rfl)
        | succ n14 ih14 =>
          intro i14 x14_3 H locs ls hi14 hF14 hw hl
          refine lv_iload hx hb dX12_whichOf_14 (lv_at hl 0 rfl) ?_
          refine lv_aload_n hx hb dX12_whichOf_16 rfl (lv_at hl 4 rfl) ?_
          refine g_get S hw hinX12 (fs := fM a σ h) 0 rfl rfl 22 (by decide) lk0 (v := .int (nI tm)) (congrArg (fun z => some (Value.int z)) (ht0)) dX12_whichOf_17 ?_
          refine ln_ge (x := i14) (y := tm) hx hb (by omega) (by omega) (tgt := 66) dX12_whichOf_20 (by decide) (fun c_x => absurd c_x (by omega)) (fun c_x => ?_)
          refine lv_iload_n hx hb dX12_whichOf_23 rfl (lv_at hl 1 rfl) ?_
          refine lv_if_eq hx hb (tgt := 58) dX12_whichOf_24 (by decide) (fun c_3 => ?_) (fun c_3 => ?_)
          · refine lv_iconst (v := 0) hx hb dX12_whichOf_58 (by decide) ?_
            refine lv_istore_n (lv' := [(3, .int 0), (4, .int (nI i14)), (2, .int (nI i4)), (1, .int x4_1), (0, .ref (a 0))]) hx hb dX12_whichOf_59 rfl hl (by decide) rfl (fun ls hl => ?_)
            refine lv_iinc (v := nI (i14 + 1)) (lv' := [(4, .int (nI (i14 + 1))), (3, .int 0), (2, .int (nI i4)), (1, .int x4_1), (0, .ref (a 0))]) hx hb dX12_whichOf_60 hl (k := 1) rfl (nI_1 _) (by decide) rfl (fun ls hl => ?_)
            refine lv_goto (tgt := 14) hx hb dX12_whichOf_63 (by decide) ?_
            exact ih14 (i14 + 1) 0 _ _ _ (by omega) (by have q := hF14; simp only [M_whichOf_L14, M_whichOf_S14_0, if_pos c_3] at q; exact q) hw (lv_sub hl [0, 1, 2, 3, 4] rfl)
          · refine lv_iload_n hx hb dX12_whichOf_27 rfl (lv_at hl 2 rfl) ?_
            refine lv_aload_n hx hb dX12_whichOf_28 rfl (lv_at hl 4 rfl) ?_
            refine g_get S hw hinX12 (fs := fM a σ h) 0 rfl rfl 23 (by decide) lk1 (v := .ref (a 13)) rfl dX12_whichOf_29 ?_
            refine lv_iconst (v := 2) hx hb dX12_whichOf_32 (by decide) ?_
            refine lv_iload hx hb dX12_whichOf_33 (lv_at hl 0 rfl) ?_
            refine ln_imul (x := 2) (y := i14) hx hb dX12_whichOf_35 ?_
            refine g_iald S hw (f := σ 13) (i := 2 * i14) (x := σ 13 (2 * i14)) 13 0 rfl rfl (by omega) (by decide) rfl dX12_whichOf_36 ?_
            refine g_callSi S hw (c_M_asksBy l D [(cI, .int)] (wM cI a σ h) (nI i4) (σ 13 (2 * i14))) gX12_whichOf_X12_asksBy rfl 2 rfl (by decide +kernel) (by decide) (by decide) hl.1 rfl (Nat.le_of_ble_eq_true rfl) dX12_whichOf_37 (fun H locs hw => ?_)
            refine lv_aload_n hx hb dX12_whichOf_40 rfl (lv_at hl 4 rfl) ?_
            refine g_get S hw hinX12 (fs := fM a σ h) 0 rfl rfl 23 (by decide) lk1 (v := .ref (a 13)) rfl dX12_whichOf_41 ?_
            refine lv_iconst (v := 2) hx hb dX12_whichOf_44 (by decide) ?_
            refine lv_iload hx hb dX12_whichOf_45 (lv_at hl 0 rfl) ?_
            refine ln_imul (x := 2) (y := i14) hx hb dX12_whichOf_47 ?_
            refine lv_iconst (v := 1) hx hb dX12_whichOf_48 (by decide) ?_
            refine ln_iadd (x := 2 * i14) (y := 1) hx hb dX12_whichOf_49 ?_
            refine g_iald S hw (f := σ 13) (i := (2 * i14) + 1) (x := σ 13 ((2 * i14) + 1)) 13 0 rfl rfl (by omega) (by decide) rfl dX12_whichOf_50 ?_
            refine lv_icmp_ne hx hb (tgt := 58) dX12_whichOf_51 (by decide) (fun c_4 => ?_) (fun c_4 => ?_)
            · refine lv_iconst (v := 0) hx hb dX12_whichOf_58 (by decide) ?_
              refine lv_istore_n (lv' := [(3, .int 0), (4, .int (nI i14)), (2, .int (nI i4)), (1, .int x4_1), (0, .ref (a 0))]) hx hb dX12_whichOf_59 rfl hl (by decide) rfl (fun ls hl => ?_)
              refine lv_iinc (v := nI (i14 + 1)) (lv' := [(4, .int (nI (i14 + 1))), (3, .int 0), (2, .int (nI i4)), (1, .int x4_1), (0, .ref (a 0))]) hx hb dX12_whichOf_60 hl (k := 1) rfl (nI_1 _) (by decide) rfl (fun ls hl => ?_)
              refine lv_goto (tgt := 14) hx hb dX12_whichOf_63 (by decide) ?_
              exact ih14 (i14 + 1) 0 _ _ _ (by omega) (by have q := hF14; simp only [M_whichOf_L14, M_whichOf_S14_0, if_neg c_3, if_neg c_4] at q; exact q) hw (lv_sub hl [0, 1, 2, 3, 4] rfl)
            · refine lv_iconst (v := 1) hx hb dX12_whichOf_54 (by decide) ?_
              refine lv_goto (tgt := 59) hx hb dX12_whichOf_55 (by decide) ?_
              refine lv_istore_n (lv' := [(3, .int 1), (4, .int (nI i14)), (2, .int (nI i4)), (1, .int x4_1), (0, .ref (a 0))]) hx hb dX12_whichOf_59 rfl hl (by decide) rfl (fun ls hl => ?_)
              refine lv_iinc (v := nI (i14 + 1)) (lv' := [(4, .int (nI (i14 + 1))), (3, .int 1), (2, .int (nI i4)), (1, .int x4_1), (0, .ref (a 0))]) hx hb dX12_whichOf_60 hl (k := 1) rfl (nI_1 _) (by decide) rfl (fun ls hl => ?_)
              refine lv_goto (tgt := 14) hx hb dX12_whichOf_63 (by decide) ?_
              exact ih14 (i14 + 1) 1 _ _ _ (by omega) (by have q := hF14; simp only [M_whichOf_L14, M_whichOf_S14_0, if_neg c_3, if_pos c_4] at q; exact q) hw (lv_sub hl [0, 1, 2, 3, 4] rfl)
      exact L14 tm 0 1 _ _ _ (by omega) rfl hw (lv_sub hl [0, 1, 2, 3, 4] rfl)
  exact L4 5 0 0 _ _ _ (by omega) rfl hw (lv_sub hl [0, 1, 2] rfl)

def M_which_r (σ : Nat → Nat → Int32) (tm : Nat) : Int32 := M_whichOf_r σ tm
set_option maxHeartbeats 4000000 in
set_option maxRecDepth 100000 in
theorem c_M_which (l : Launch) (D : va_G) (cI : ClassId) (a : Nat → Nat) (σ : Nat → Nat → Int32) (h : Int64) (tm : Nat) (ht0 : σ 0 22 = nI tm) (ht0b : tm ≤ 6) : gI l D [(cI, .int)] yX12_which wsX12_which 3 [.ref (a 0)] (wM cI a σ h) (M_which_r σ tm) (wM cI a σ h) := by
  refine g_start (cc := cX12_which) (maxL := 1) (ret := some .int) (Qc := gQi D [(cI, .int)] (M_which_r σ tm) (wM cI a σ h)) (by decide) rfl (Nat.le_of_ble_eq_true rfl) ?_
  intro p e s m below meth C A ls S hr hlk hw hl
  obtain ⟨hx, hb, hml, hown, hts⟩ := id S
  have hl : lv_has ls 1 [(0, .ref (a 0))] := hl
  refine lv_aload_n hx hb dX12_which_0 rfl (lv_at hl 0 rfl) ?_
  refine g_callVi S hw (c_M_whichOf l D cI a σ h tm (ht0) (by omega)) gX12_which_X12_whichOf rfl 0 rfl rfl 0 rfl (by decide +kernel) (by decide) (by decide) hl.1 rfl (Nat.le_of_ble_eq_true rfl) dX12_which_1 (fun H locs hw => ?_)
  exact g_iret S hr hlk hw (by simp only [M_which_r]) rfl dX12_which_4

def M_askOf_S27_0 (tm : Nat) (i13 : Nat) (x13_2 : Int32) (x13_3 : Int32) (y27_1 : Int32) (i27 : Nat) (σ27 : Nat → Nat → Int32) : Nat → Nat → Int32 := up2 σ27 14 i27 0
def M_askOf_L27 (tm : Nat) (i13 : Nat) (x13_2 : Int32) (x13_3 : Int32) (y27_1 : Int32) : Nat → Nat → (Nat → Nat → Int32) → (Nat → Nat → Int32)
  | 0, _, σ27 => σ27
  | n27 + 1, i27, σ27 => M_askOf_L27 tm i13 x13_2 x13_3 y27_1 n27 (i27 + 1) (M_askOf_S27_0 tm i13 x13_2 x13_3 y27_1 i27 σ27)
theorem M_askOf_S27_k0 (tm : Nat) (i13 : Nat) (x13_2 : Int32) (x13_3 : Int32) (y27_1 : Int32) (i27 : Nat) (σ27 : Nat → Nat → Int32) : M_askOf_S27_0 tm i13 x13_2 x13_3 y27_1 i27 σ27 0 = σ27 0 := by
  unfold M_askOf_S27_0
  exact up2_n _ _ _ (by decide)
theorem M_askOf_L27_k0 (tm : Nat) (i13 : Nat) (x13_2 : Int32) (x13_3 : Int32) (y27_1 : Int32) : ∀ (n27 i27 : Nat) (σ27 : Nat → Nat → Int32), (M_askOf_L27 tm i13 x13_2 x13_3 y27_1 n27 i27 σ27) 0 = σ27 0 := by
  intro n27
  induction n27 with
  | zero => intros; rfl
  | succ n27 ih => intro i27 σ27; exact (ih (i27 + 1) (M_askOf_S27_0 tm i13 x13_2 x13_3 y27_1 i27 σ27)).trans (M_askOf_S27_k0 tm i13 x13_2 x13_3 y27_1 i27 σ27)
theorem M_askOf_S27_k1 (tm : Nat) (i13 : Nat) (x13_2 : Int32) (x13_3 : Int32) (y27_1 : Int32) (i27 : Nat) (σ27 : Nat → Nat → Int32) : M_askOf_S27_0 tm i13 x13_2 x13_3 y27_1 i27 σ27 1 = σ27 1 := by
  unfold M_askOf_S27_0
  exact up2_n _ _ _ (by decide)
theorem M_askOf_L27_k1 (tm : Nat) (i13 : Nat) (x13_2 : Int32) (x13_3 : Int32) (y27_1 : Int32) : ∀ (n27 i27 : Nat) (σ27 : Nat → Nat → Int32), (M_askOf_L27 tm i13 x13_2 x13_3 y27_1 n27 i27 σ27) 1 = σ27 1 := by
  intro n27
  induction n27 with
  | zero => intros; rfl
  | succ n27 ih => intro i27 σ27; exact (ih (i27 + 1) (M_askOf_S27_0 tm i13 x13_2 x13_3 y27_1 i27 σ27)).trans (M_askOf_S27_k1 tm i13 x13_2 x13_3 y27_1 i27 σ27)
theorem M_askOf_S27_k2 (tm : Nat) (i13 : Nat) (x13_2 : Int32) (x13_3 : Int32) (y27_1 : Int32) (i27 : Nat) (σ27 : Nat → Nat → Int32) : M_askOf_S27_0 tm i13 x13_2 x13_3 y27_1 i27 σ27 2 = σ27 2 := by
  unfold M_askOf_S27_0
  exact up2_n _ _ _ (by decide)
theorem M_askOf_L27_k2 (tm : Nat) (i13 : Nat) (x13_2 : Int32) (x13_3 : Int32) (y27_1 : Int32) : ∀ (n27 i27 : Nat) (σ27 : Nat → Nat → Int32), (M_askOf_L27 tm i13 x13_2 x13_3 y27_1 n27 i27 σ27) 2 = σ27 2 := by
  intro n27
  induction n27 with
  | zero => intros; rfl
  | succ n27 ih => intro i27 σ27; exact (ih (i27 + 1) (M_askOf_S27_0 tm i13 x13_2 x13_3 y27_1 i27 σ27)).trans (M_askOf_S27_k2 tm i13 x13_2 x13_3 y27_1 i27 σ27)
theorem M_askOf_S27_k3 (tm : Nat) (i13 : Nat) (x13_2 : Int32) (x13_3 : Int32) (y27_1 : Int32) (i27 : Nat) (σ27 : Nat → Nat → Int32) : M_askOf_S27_0 tm i13 x13_2 x13_3 y27_1 i27 σ27 3 = σ27 3 := by
  unfold M_askOf_S27_0
  exact up2_n _ _ _ (by decide)
theorem M_askOf_L27_k3 (tm : Nat) (i13 : Nat) (x13_2 : Int32) (x13_3 : Int32) (y27_1 : Int32) : ∀ (n27 i27 : Nat) (σ27 : Nat → Nat → Int32), (M_askOf_L27 tm i13 x13_2 x13_3 y27_1 n27 i27 σ27) 3 = σ27 3 := by
  intro n27
  induction n27 with
  | zero => intros; rfl
  | succ n27 ih => intro i27 σ27; exact (ih (i27 + 1) (M_askOf_S27_0 tm i13 x13_2 x13_3 y27_1 i27 σ27)).trans (M_askOf_S27_k3 tm i13 x13_2 x13_3 y27_1 i27 σ27)
theorem M_askOf_S27_k4 (tm : Nat) (i13 : Nat) (x13_2 : Int32) (x13_3 : Int32) (y27_1 : Int32) (i27 : Nat) (σ27 : Nat → Nat → Int32) : M_askOf_S27_0 tm i13 x13_2 x13_3 y27_1 i27 σ27 4 = σ27 4 := by
  unfold M_askOf_S27_0
  exact up2_n _ _ _ (by decide)
theorem M_askOf_L27_k4 (tm : Nat) (i13 : Nat) (x13_2 : Int32) (x13_3 : Int32) (y27_1 : Int32) : ∀ (n27 i27 : Nat) (σ27 : Nat → Nat → Int32), (M_askOf_L27 tm i13 x13_2 x13_3 y27_1 n27 i27 σ27) 4 = σ27 4 := by
  intro n27
  induction n27 with
  | zero => intros; rfl
  | succ n27 ih => intro i27 σ27; exact (ih (i27 + 1) (M_askOf_S27_0 tm i13 x13_2 x13_3 y27_1 i27 σ27)).trans (M_askOf_S27_k4 tm i13 x13_2 x13_3 y27_1 i27 σ27)
theorem M_askOf_S27_k5 (tm : Nat) (i13 : Nat) (x13_2 : Int32) (x13_3 : Int32) (y27_1 : Int32) (i27 : Nat) (σ27 : Nat → Nat → Int32) : M_askOf_S27_0 tm i13 x13_2 x13_3 y27_1 i27 σ27 5 = σ27 5 := by
  unfold M_askOf_S27_0
  exact up2_n _ _ _ (by decide)
theorem M_askOf_L27_k5 (tm : Nat) (i13 : Nat) (x13_2 : Int32) (x13_3 : Int32) (y27_1 : Int32) : ∀ (n27 i27 : Nat) (σ27 : Nat → Nat → Int32), (M_askOf_L27 tm i13 x13_2 x13_3 y27_1 n27 i27 σ27) 5 = σ27 5 := by
  intro n27
  induction n27 with
  | zero => intros; rfl
  | succ n27 ih => intro i27 σ27; exact (ih (i27 + 1) (M_askOf_S27_0 tm i13 x13_2 x13_3 y27_1 i27 σ27)).trans (M_askOf_S27_k5 tm i13 x13_2 x13_3 y27_1 i27 σ27)
theorem M_askOf_S27_k6 (tm : Nat) (i13 : Nat) (x13_2 : Int32) (x13_3 : Int32) (y27_1 : Int32) (i27 : Nat) (σ27 : Nat → Nat → Int32) : M_askOf_S27_0 tm i13 x13_2 x13_3 y27_1 i27 σ27 6 = σ27 6 := by
  unfold M_askOf_S27_0
  exact up2_n _ _ _ (by decide)
theorem M_askOf_L27_k6 (tm : Nat) (i13 : Nat) (x13_2 : Int32) (x13_3 : Int32) (y27_1 : Int32) : ∀ (n27 i27 : Nat) (σ27 : Nat → Nat → Int32), (M_askOf_L27 tm i13 x13_2 x13_3 y27_1 n27 i27 σ27) 6 = σ27 6 := by
  intro n27
  induction n27 with
  | zero => intros; rfl
  | succ n27 ih => intro i27 σ27; exact (ih (i27 + 1) (M_askOf_S27_0 tm i13 x13_2 x13_3 y27_1 i27 σ27)).trans (M_askOf_S27_k6 tm i13 x13_2 x13_3 y27_1 i27 σ27)
theorem M_askOf_S27_k7 (tm : Nat) (i13 : Nat) (x13_2 : Int32) (x13_3 : Int32) (y27_1 : Int32) (i27 : Nat) (σ27 : Nat → Nat → Int32) : M_askOf_S27_0 tm i13 x13_2 x13_3 y27_1 i27 σ27 7 = σ27 7 := by
  unfold M_askOf_S27_0
  exact up2_n _ _ _ (by decide)
theorem M_askOf_L27_k7 (tm : Nat) (i13 : Nat) (x13_2 : Int32) (x13_3 : Int32) (y27_1 : Int32) : ∀ (n27 i27 : Nat) (σ27 : Nat → Nat → Int32), (M_askOf_L27 tm i13 x13_2 x13_3 y27_1 n27 i27 σ27) 7 = σ27 7 := by
  intro n27
  induction n27 with
  | zero => intros; rfl
  | succ n27 ih => intro i27 σ27; exact (ih (i27 + 1) (M_askOf_S27_0 tm i13 x13_2 x13_3 y27_1 i27 σ27)).trans (M_askOf_S27_k7 tm i13 x13_2 x13_3 y27_1 i27 σ27)
theorem M_askOf_S27_k8 (tm : Nat) (i13 : Nat) (x13_2 : Int32) (x13_3 : Int32) (y27_1 : Int32) (i27 : Nat) (σ27 : Nat → Nat → Int32) : M_askOf_S27_0 tm i13 x13_2 x13_3 y27_1 i27 σ27 8 = σ27 8 := by
  unfold M_askOf_S27_0
  exact up2_n _ _ _ (by decide)
theorem M_askOf_L27_k8 (tm : Nat) (i13 : Nat) (x13_2 : Int32) (x13_3 : Int32) (y27_1 : Int32) : ∀ (n27 i27 : Nat) (σ27 : Nat → Nat → Int32), (M_askOf_L27 tm i13 x13_2 x13_3 y27_1 n27 i27 σ27) 8 = σ27 8 := by
  intro n27
  induction n27 with
  | zero => intros; rfl
  | succ n27 ih => intro i27 σ27; exact (ih (i27 + 1) (M_askOf_S27_0 tm i13 x13_2 x13_3 y27_1 i27 σ27)).trans (M_askOf_S27_k8 tm i13 x13_2 x13_3 y27_1 i27 σ27)
theorem M_askOf_S27_k9 (tm : Nat) (i13 : Nat) (x13_2 : Int32) (x13_3 : Int32) (y27_1 : Int32) (i27 : Nat) (σ27 : Nat → Nat → Int32) : M_askOf_S27_0 tm i13 x13_2 x13_3 y27_1 i27 σ27 9 = σ27 9 := by
  unfold M_askOf_S27_0
  exact up2_n _ _ _ (by decide)
theorem M_askOf_L27_k9 (tm : Nat) (i13 : Nat) (x13_2 : Int32) (x13_3 : Int32) (y27_1 : Int32) : ∀ (n27 i27 : Nat) (σ27 : Nat → Nat → Int32), (M_askOf_L27 tm i13 x13_2 x13_3 y27_1 n27 i27 σ27) 9 = σ27 9 := by
  intro n27
  induction n27 with
  | zero => intros; rfl
  | succ n27 ih => intro i27 σ27; exact (ih (i27 + 1) (M_askOf_S27_0 tm i13 x13_2 x13_3 y27_1 i27 σ27)).trans (M_askOf_S27_k9 tm i13 x13_2 x13_3 y27_1 i27 σ27)
theorem M_askOf_S27_k10 (tm : Nat) (i13 : Nat) (x13_2 : Int32) (x13_3 : Int32) (y27_1 : Int32) (i27 : Nat) (σ27 : Nat → Nat → Int32) : M_askOf_S27_0 tm i13 x13_2 x13_3 y27_1 i27 σ27 10 = σ27 10 := by
  unfold M_askOf_S27_0
  exact up2_n _ _ _ (by decide)
theorem M_askOf_L27_k10 (tm : Nat) (i13 : Nat) (x13_2 : Int32) (x13_3 : Int32) (y27_1 : Int32) : ∀ (n27 i27 : Nat) (σ27 : Nat → Nat → Int32), (M_askOf_L27 tm i13 x13_2 x13_3 y27_1 n27 i27 σ27) 10 = σ27 10 := by
  intro n27
  induction n27 with
  | zero => intros; rfl
  | succ n27 ih => intro i27 σ27; exact (ih (i27 + 1) (M_askOf_S27_0 tm i13 x13_2 x13_3 y27_1 i27 σ27)).trans (M_askOf_S27_k10 tm i13 x13_2 x13_3 y27_1 i27 σ27)
theorem M_askOf_S27_k11 (tm : Nat) (i13 : Nat) (x13_2 : Int32) (x13_3 : Int32) (y27_1 : Int32) (i27 : Nat) (σ27 : Nat → Nat → Int32) : M_askOf_S27_0 tm i13 x13_2 x13_3 y27_1 i27 σ27 11 = σ27 11 := by
  unfold M_askOf_S27_0
  exact up2_n _ _ _ (by decide)
theorem M_askOf_L27_k11 (tm : Nat) (i13 : Nat) (x13_2 : Int32) (x13_3 : Int32) (y27_1 : Int32) : ∀ (n27 i27 : Nat) (σ27 : Nat → Nat → Int32), (M_askOf_L27 tm i13 x13_2 x13_3 y27_1 n27 i27 σ27) 11 = σ27 11 := by
  intro n27
  induction n27 with
  | zero => intros; rfl
  | succ n27 ih => intro i27 σ27; exact (ih (i27 + 1) (M_askOf_S27_0 tm i13 x13_2 x13_3 y27_1 i27 σ27)).trans (M_askOf_S27_k11 tm i13 x13_2 x13_3 y27_1 i27 σ27)
theorem M_askOf_S27_k12 (tm : Nat) (i13 : Nat) (x13_2 : Int32) (x13_3 : Int32) (y27_1 : Int32) (i27 : Nat) (σ27 : Nat → Nat → Int32) : M_askOf_S27_0 tm i13 x13_2 x13_3 y27_1 i27 σ27 12 = σ27 12 := by
  unfold M_askOf_S27_0
  exact up2_n _ _ _ (by decide)
theorem M_askOf_L27_k12 (tm : Nat) (i13 : Nat) (x13_2 : Int32) (x13_3 : Int32) (y27_1 : Int32) : ∀ (n27 i27 : Nat) (σ27 : Nat → Nat → Int32), (M_askOf_L27 tm i13 x13_2 x13_3 y27_1 n27 i27 σ27) 12 = σ27 12 := by
  intro n27
  induction n27 with
  | zero => intros; rfl
  | succ n27 ih => intro i27 σ27; exact (ih (i27 + 1) (M_askOf_S27_0 tm i13 x13_2 x13_3 y27_1 i27 σ27)).trans (M_askOf_S27_k12 tm i13 x13_2 x13_3 y27_1 i27 σ27)
theorem M_askOf_S27_k13 (tm : Nat) (i13 : Nat) (x13_2 : Int32) (x13_3 : Int32) (y27_1 : Int32) (i27 : Nat) (σ27 : Nat → Nat → Int32) : M_askOf_S27_0 tm i13 x13_2 x13_3 y27_1 i27 σ27 13 = σ27 13 := by
  unfold M_askOf_S27_0
  exact up2_n _ _ _ (by decide)
theorem M_askOf_L27_k13 (tm : Nat) (i13 : Nat) (x13_2 : Int32) (x13_3 : Int32) (y27_1 : Int32) : ∀ (n27 i27 : Nat) (σ27 : Nat → Nat → Int32), (M_askOf_L27 tm i13 x13_2 x13_3 y27_1 n27 i27 σ27) 13 = σ27 13 := by
  intro n27
  induction n27 with
  | zero => intros; rfl
  | succ n27 ih => intro i27 σ27; exact (ih (i27 + 1) (M_askOf_S27_0 tm i13 x13_2 x13_3 y27_1 i27 σ27)).trans (M_askOf_S27_k13 tm i13 x13_2 x13_3 y27_1 i27 σ27)
theorem M_askOf_S27_k15 (tm : Nat) (i13 : Nat) (x13_2 : Int32) (x13_3 : Int32) (y27_1 : Int32) (i27 : Nat) (σ27 : Nat → Nat → Int32) : M_askOf_S27_0 tm i13 x13_2 x13_3 y27_1 i27 σ27 15 = σ27 15 := by
  unfold M_askOf_S27_0
  exact up2_n _ _ _ (by decide)
theorem M_askOf_L27_k15 (tm : Nat) (i13 : Nat) (x13_2 : Int32) (x13_3 : Int32) (y27_1 : Int32) : ∀ (n27 i27 : Nat) (σ27 : Nat → Nat → Int32), (M_askOf_L27 tm i13 x13_2 x13_3 y27_1 n27 i27 σ27) 15 = σ27 15 := by
  intro n27
  induction n27 with
  | zero => intros; rfl
  | succ n27 ih => intro i27 σ27; exact (ih (i27 + 1) (M_askOf_S27_0 tm i13 x13_2 x13_3 y27_1 i27 σ27)).trans (M_askOf_S27_k15 tm i13 x13_2 x13_3 y27_1 i27 σ27)
theorem M_askOf_S27_k16 (tm : Nat) (i13 : Nat) (x13_2 : Int32) (x13_3 : Int32) (y27_1 : Int32) (i27 : Nat) (σ27 : Nat → Nat → Int32) : M_askOf_S27_0 tm i13 x13_2 x13_3 y27_1 i27 σ27 16 = σ27 16 := by
  unfold M_askOf_S27_0
  exact up2_n _ _ _ (by decide)
theorem M_askOf_L27_k16 (tm : Nat) (i13 : Nat) (x13_2 : Int32) (x13_3 : Int32) (y27_1 : Int32) : ∀ (n27 i27 : Nat) (σ27 : Nat → Nat → Int32), (M_askOf_L27 tm i13 x13_2 x13_3 y27_1 n27 i27 σ27) 16 = σ27 16 := by
  intro n27
  induction n27 with
  | zero => intros; rfl
  | succ n27 ih => intro i27 σ27; exact (ih (i27 + 1) (M_askOf_S27_0 tm i13 x13_2 x13_3 y27_1 i27 σ27)).trans (M_askOf_S27_k16 tm i13 x13_2 x13_3 y27_1 i27 σ27)
theorem M_askOf_S27_k17 (tm : Nat) (i13 : Nat) (x13_2 : Int32) (x13_3 : Int32) (y27_1 : Int32) (i27 : Nat) (σ27 : Nat → Nat → Int32) : M_askOf_S27_0 tm i13 x13_2 x13_3 y27_1 i27 σ27 17 = σ27 17 := by
  unfold M_askOf_S27_0
  exact up2_n _ _ _ (by decide)
theorem M_askOf_L27_k17 (tm : Nat) (i13 : Nat) (x13_2 : Int32) (x13_3 : Int32) (y27_1 : Int32) : ∀ (n27 i27 : Nat) (σ27 : Nat → Nat → Int32), (M_askOf_L27 tm i13 x13_2 x13_3 y27_1 n27 i27 σ27) 17 = σ27 17 := by
  intro n27
  induction n27 with
  | zero => intros; rfl
  | succ n27 ih => intro i27 σ27; exact (ih (i27 + 1) (M_askOf_S27_0 tm i13 x13_2 x13_3 y27_1 i27 σ27)).trans (M_askOf_S27_k17 tm i13 x13_2 x13_3 y27_1 i27 σ27)
theorem M_askOf_S27_k18 (tm : Nat) (i13 : Nat) (x13_2 : Int32) (x13_3 : Int32) (y27_1 : Int32) (i27 : Nat) (σ27 : Nat → Nat → Int32) : M_askOf_S27_0 tm i13 x13_2 x13_3 y27_1 i27 σ27 18 = σ27 18 := by
  unfold M_askOf_S27_0
  exact up2_n _ _ _ (by decide)
theorem M_askOf_L27_k18 (tm : Nat) (i13 : Nat) (x13_2 : Int32) (x13_3 : Int32) (y27_1 : Int32) : ∀ (n27 i27 : Nat) (σ27 : Nat → Nat → Int32), (M_askOf_L27 tm i13 x13_2 x13_3 y27_1 n27 i27 σ27) 18 = σ27 18 := by
  intro n27
  induction n27 with
  | zero => intros; rfl
  | succ n27 ih => intro i27 σ27; exact (ih (i27 + 1) (M_askOf_S27_0 tm i13 x13_2 x13_3 y27_1 i27 σ27)).trans (M_askOf_S27_k18 tm i13 x13_2 x13_3 y27_1 i27 σ27)
theorem M_askOf_S27_k19 (tm : Nat) (i13 : Nat) (x13_2 : Int32) (x13_3 : Int32) (y27_1 : Int32) (i27 : Nat) (σ27 : Nat → Nat → Int32) : M_askOf_S27_0 tm i13 x13_2 x13_3 y27_1 i27 σ27 19 = σ27 19 := by
  unfold M_askOf_S27_0
  exact up2_n _ _ _ (by decide)
theorem M_askOf_L27_k19 (tm : Nat) (i13 : Nat) (x13_2 : Int32) (x13_3 : Int32) (y27_1 : Int32) : ∀ (n27 i27 : Nat) (σ27 : Nat → Nat → Int32), (M_askOf_L27 tm i13 x13_2 x13_3 y27_1 n27 i27 σ27) 19 = σ27 19 := by
  intro n27
  induction n27 with
  | zero => intros; rfl
  | succ n27 ih => intro i27 σ27; exact (ih (i27 + 1) (M_askOf_S27_0 tm i13 x13_2 x13_3 y27_1 i27 σ27)).trans (M_askOf_S27_k19 tm i13 x13_2 x13_3 y27_1 i27 σ27)
def M_askOf_S54_0 (tm : Nat) (i13 : Nat) (x13_2 : Int32) (x13_3 : Int32) (y54_1 : Int32) (i54 : Nat) (x54_5 : Int32) (σ54 : Nat → Nat → Int32) : Int32 := if ((σ54 14 (asksN i54 i13)) + ((y54_1 >>> ((nI i54) &&& 31)) &&& 1)) ≤ x54_5 then x54_5 else ((σ54 14 (asksN i54 i13)) + ((y54_1 >>> ((nI i54) &&& 31)) &&& 1))
def M_askOf_S54_1 (tm : Nat) (i13 : Nat) (x13_2 : Int32) (x13_3 : Int32) (y54_1 : Int32) (i54 : Nat) (x54_5 : Int32) (σ54 : Nat → Nat → Int32) : Nat → Nat → Int32 := if ((σ54 14 (asksN i54 i13)) + ((y54_1 >>> ((nI i54) &&& 31)) &&& 1)) ≤ x54_5 then (up2 σ54 14 (asksN i54 i13) ((σ54 14 (asksN i54 i13)) + ((y54_1 >>> ((nI i54) &&& 31)) &&& 1))) else (up2 σ54 14 (asksN i54 i13) ((σ54 14 (asksN i54 i13)) + ((y54_1 >>> ((nI i54) &&& 31)) &&& 1)))
def M_askOf_L54 (tm : Nat) (i13 : Nat) (x13_2 : Int32) (x13_3 : Int32) (y54_1 : Int32) : Nat → Nat → (Int32) → (Nat → Nat → Int32) → (Int32) × (Nat → Nat → Int32)
  | 0, _, x54_5, σ54 => (x54_5, σ54)
  | n54 + 1, i54, x54_5, σ54 => M_askOf_L54 tm i13 x13_2 x13_3 y54_1 n54 (i54 + 1) (M_askOf_S54_0 tm i13 x13_2 x13_3 y54_1 i54 x54_5 σ54) (M_askOf_S54_1 tm i13 x13_2 x13_3 y54_1 i54 x54_5 σ54)
theorem M_askOf_S54_k0 (tm : Nat) (i13 : Nat) (x13_2 : Int32) (x13_3 : Int32) (y54_1 : Int32) (i54 : Nat) (x54_5 : Int32) (σ54 : Nat → Nat → Int32) : M_askOf_S54_1 tm i13 x13_2 x13_3 y54_1 i54 x54_5 σ54 0 = σ54 0 := by
  unfold M_askOf_S54_1
  by_cases z1 : ((σ54 14 (asksN i54 i13)) + ((y54_1 >>> ((nI i54) &&& 31)) &&& 1)) ≤ x54_5
  · refine Eq.trans (congrFun (if_pos z1) 0) ?_
    exact up2_n _ _ _ (by decide)
  · refine Eq.trans (congrFun (if_neg z1) 0) ?_
    exact up2_n _ _ _ (by decide)
theorem M_askOf_L54_k0 (tm : Nat) (i13 : Nat) (x13_2 : Int32) (x13_3 : Int32) (y54_1 : Int32) : ∀ (n54 i54 : Nat) (x54_5 : Int32) (σ54 : Nat → Nat → Int32), (M_askOf_L54 tm i13 x13_2 x13_3 y54_1 n54 i54 x54_5 σ54).2 0 = σ54 0 := by
  intro n54
  induction n54 with
  | zero => intros; rfl
  | succ n54 ih => intro i54 x54_5 σ54; exact (ih (i54 + 1) (M_askOf_S54_0 tm i13 x13_2 x13_3 y54_1 i54 x54_5 σ54) (M_askOf_S54_1 tm i13 x13_2 x13_3 y54_1 i54 x54_5 σ54)).trans (M_askOf_S54_k0 tm i13 x13_2 x13_3 y54_1 i54 x54_5 σ54)
theorem M_askOf_S54_k1 (tm : Nat) (i13 : Nat) (x13_2 : Int32) (x13_3 : Int32) (y54_1 : Int32) (i54 : Nat) (x54_5 : Int32) (σ54 : Nat → Nat → Int32) : M_askOf_S54_1 tm i13 x13_2 x13_3 y54_1 i54 x54_5 σ54 1 = σ54 1 := by
  unfold M_askOf_S54_1
  by_cases z1 : ((σ54 14 (asksN i54 i13)) + ((y54_1 >>> ((nI i54) &&& 31)) &&& 1)) ≤ x54_5
  · refine Eq.trans (congrFun (if_pos z1) 1) ?_
    exact up2_n _ _ _ (by decide)
  · refine Eq.trans (congrFun (if_neg z1) 1) ?_
    exact up2_n _ _ _ (by decide)
theorem M_askOf_L54_k1 (tm : Nat) (i13 : Nat) (x13_2 : Int32) (x13_3 : Int32) (y54_1 : Int32) : ∀ (n54 i54 : Nat) (x54_5 : Int32) (σ54 : Nat → Nat → Int32), (M_askOf_L54 tm i13 x13_2 x13_3 y54_1 n54 i54 x54_5 σ54).2 1 = σ54 1 := by
  intro n54
  induction n54 with
  | zero => intros; rfl
  | succ n54 ih => intro i54 x54_5 σ54; exact (ih (i54 + 1) (M_askOf_S54_0 tm i13 x13_2 x13_3 y54_1 i54 x54_5 σ54) (M_askOf_S54_1 tm i13 x13_2 x13_3 y54_1 i54 x54_5 σ54)).trans (M_askOf_S54_k1 tm i13 x13_2 x13_3 y54_1 i54 x54_5 σ54)
theorem M_askOf_S54_k2 (tm : Nat) (i13 : Nat) (x13_2 : Int32) (x13_3 : Int32) (y54_1 : Int32) (i54 : Nat) (x54_5 : Int32) (σ54 : Nat → Nat → Int32) : M_askOf_S54_1 tm i13 x13_2 x13_3 y54_1 i54 x54_5 σ54 2 = σ54 2 := by
  unfold M_askOf_S54_1
  by_cases z1 : ((σ54 14 (asksN i54 i13)) + ((y54_1 >>> ((nI i54) &&& 31)) &&& 1)) ≤ x54_5
  · refine Eq.trans (congrFun (if_pos z1) 2) ?_
    exact up2_n _ _ _ (by decide)
  · refine Eq.trans (congrFun (if_neg z1) 2) ?_
    exact up2_n _ _ _ (by decide)
theorem M_askOf_L54_k2 (tm : Nat) (i13 : Nat) (x13_2 : Int32) (x13_3 : Int32) (y54_1 : Int32) : ∀ (n54 i54 : Nat) (x54_5 : Int32) (σ54 : Nat → Nat → Int32), (M_askOf_L54 tm i13 x13_2 x13_3 y54_1 n54 i54 x54_5 σ54).2 2 = σ54 2 := by
  intro n54
  induction n54 with
  | zero => intros; rfl
  | succ n54 ih => intro i54 x54_5 σ54; exact (ih (i54 + 1) (M_askOf_S54_0 tm i13 x13_2 x13_3 y54_1 i54 x54_5 σ54) (M_askOf_S54_1 tm i13 x13_2 x13_3 y54_1 i54 x54_5 σ54)).trans (M_askOf_S54_k2 tm i13 x13_2 x13_3 y54_1 i54 x54_5 σ54)
theorem M_askOf_S54_k3 (tm : Nat) (i13 : Nat) (x13_2 : Int32) (x13_3 : Int32) (y54_1 : Int32) (i54 : Nat) (x54_5 : Int32) (σ54 : Nat → Nat → Int32) : M_askOf_S54_1 tm i13 x13_2 x13_3 y54_1 i54 x54_5 σ54 3 = σ54 3 := by
  unfold M_askOf_S54_1
  by_cases z1 : ((σ54 14 (asksN i54 i13)) + ((y54_1 >>> ((nI i54) &&& 31)) &&& 1)) ≤ x54_5
  · refine Eq.trans (congrFun (if_pos z1) 3) ?_
    exact up2_n _ _ _ (by decide)
  · refine Eq.trans (congrFun (if_neg z1) 3) ?_
    exact up2_n _ _ _ (by decide)
theorem M_askOf_L54_k3 (tm : Nat) (i13 : Nat) (x13_2 : Int32) (x13_3 : Int32) (y54_1 : Int32) : ∀ (n54 i54 : Nat) (x54_5 : Int32) (σ54 : Nat → Nat → Int32), (M_askOf_L54 tm i13 x13_2 x13_3 y54_1 n54 i54 x54_5 σ54).2 3 = σ54 3 := by
  intro n54
  induction n54 with
  | zero => intros; rfl
  | succ n54 ih => intro i54 x54_5 σ54; exact (ih (i54 + 1) (M_askOf_S54_0 tm i13 x13_2 x13_3 y54_1 i54 x54_5 σ54) (M_askOf_S54_1 tm i13 x13_2 x13_3 y54_1 i54 x54_5 σ54)).trans (M_askOf_S54_k3 tm i13 x13_2 x13_3 y54_1 i54 x54_5 σ54)
theorem M_askOf_S54_k4 (tm : Nat) (i13 : Nat) (x13_2 : Int32) (x13_3 : Int32) (y54_1 : Int32) (i54 : Nat) (x54_5 : Int32) (σ54 : Nat → Nat → Int32) : M_askOf_S54_1 tm i13 x13_2 x13_3 y54_1 i54 x54_5 σ54 4 = σ54 4 := by
  unfold M_askOf_S54_1
  by_cases z1 : ((σ54 14 (asksN i54 i13)) + ((y54_1 >>> ((nI i54) &&& 31)) &&& 1)) ≤ x54_5
  · refine Eq.trans (congrFun (if_pos z1) 4) ?_
    exact up2_n _ _ _ (by decide)
  · refine Eq.trans (congrFun (if_neg z1) 4) ?_
    exact up2_n _ _ _ (by decide)
theorem M_askOf_L54_k4 (tm : Nat) (i13 : Nat) (x13_2 : Int32) (x13_3 : Int32) (y54_1 : Int32) : ∀ (n54 i54 : Nat) (x54_5 : Int32) (σ54 : Nat → Nat → Int32), (M_askOf_L54 tm i13 x13_2 x13_3 y54_1 n54 i54 x54_5 σ54).2 4 = σ54 4 := by
  intro n54
  induction n54 with
  | zero => intros; rfl
  | succ n54 ih => intro i54 x54_5 σ54; exact (ih (i54 + 1) (M_askOf_S54_0 tm i13 x13_2 x13_3 y54_1 i54 x54_5 σ54) (M_askOf_S54_1 tm i13 x13_2 x13_3 y54_1 i54 x54_5 σ54)).trans (M_askOf_S54_k4 tm i13 x13_2 x13_3 y54_1 i54 x54_5 σ54)
theorem M_askOf_S54_k5 (tm : Nat) (i13 : Nat) (x13_2 : Int32) (x13_3 : Int32) (y54_1 : Int32) (i54 : Nat) (x54_5 : Int32) (σ54 : Nat → Nat → Int32) : M_askOf_S54_1 tm i13 x13_2 x13_3 y54_1 i54 x54_5 σ54 5 = σ54 5 := by
  unfold M_askOf_S54_1
  by_cases z1 : ((σ54 14 (asksN i54 i13)) + ((y54_1 >>> ((nI i54) &&& 31)) &&& 1)) ≤ x54_5
  · refine Eq.trans (congrFun (if_pos z1) 5) ?_
    exact up2_n _ _ _ (by decide)
  · refine Eq.trans (congrFun (if_neg z1) 5) ?_
    exact up2_n _ _ _ (by decide)
theorem M_askOf_L54_k5 (tm : Nat) (i13 : Nat) (x13_2 : Int32) (x13_3 : Int32) (y54_1 : Int32) : ∀ (n54 i54 : Nat) (x54_5 : Int32) (σ54 : Nat → Nat → Int32), (M_askOf_L54 tm i13 x13_2 x13_3 y54_1 n54 i54 x54_5 σ54).2 5 = σ54 5 := by
  intro n54
  induction n54 with
  | zero => intros; rfl
  | succ n54 ih => intro i54 x54_5 σ54; exact (ih (i54 + 1) (M_askOf_S54_0 tm i13 x13_2 x13_3 y54_1 i54 x54_5 σ54) (M_askOf_S54_1 tm i13 x13_2 x13_3 y54_1 i54 x54_5 σ54)).trans (M_askOf_S54_k5 tm i13 x13_2 x13_3 y54_1 i54 x54_5 σ54)
theorem M_askOf_S54_k6 (tm : Nat) (i13 : Nat) (x13_2 : Int32) (x13_3 : Int32) (y54_1 : Int32) (i54 : Nat) (x54_5 : Int32) (σ54 : Nat → Nat → Int32) : M_askOf_S54_1 tm i13 x13_2 x13_3 y54_1 i54 x54_5 σ54 6 = σ54 6 := by
  unfold M_askOf_S54_1
  by_cases z1 : ((σ54 14 (asksN i54 i13)) + ((y54_1 >>> ((nI i54) &&& 31)) &&& 1)) ≤ x54_5
  · refine Eq.trans (congrFun (if_pos z1) 6) ?_
    exact up2_n _ _ _ (by decide)
  · refine Eq.trans (congrFun (if_neg z1) 6) ?_
    exact up2_n _ _ _ (by decide)
theorem M_askOf_L54_k6 (tm : Nat) (i13 : Nat) (x13_2 : Int32) (x13_3 : Int32) (y54_1 : Int32) : ∀ (n54 i54 : Nat) (x54_5 : Int32) (σ54 : Nat → Nat → Int32), (M_askOf_L54 tm i13 x13_2 x13_3 y54_1 n54 i54 x54_5 σ54).2 6 = σ54 6 := by
  intro n54
  induction n54 with
  | zero => intros; rfl
  | succ n54 ih => intro i54 x54_5 σ54; exact (ih (i54 + 1) (M_askOf_S54_0 tm i13 x13_2 x13_3 y54_1 i54 x54_5 σ54) (M_askOf_S54_1 tm i13 x13_2 x13_3 y54_1 i54 x54_5 σ54)).trans (M_askOf_S54_k6 tm i13 x13_2 x13_3 y54_1 i54 x54_5 σ54)
theorem M_askOf_S54_k7 (tm : Nat) (i13 : Nat) (x13_2 : Int32) (x13_3 : Int32) (y54_1 : Int32) (i54 : Nat) (x54_5 : Int32) (σ54 : Nat → Nat → Int32) : M_askOf_S54_1 tm i13 x13_2 x13_3 y54_1 i54 x54_5 σ54 7 = σ54 7 := by
  unfold M_askOf_S54_1
  by_cases z1 : ((σ54 14 (asksN i54 i13)) + ((y54_1 >>> ((nI i54) &&& 31)) &&& 1)) ≤ x54_5
  · refine Eq.trans (congrFun (if_pos z1) 7) ?_
    exact up2_n _ _ _ (by decide)
  · refine Eq.trans (congrFun (if_neg z1) 7) ?_
    exact up2_n _ _ _ (by decide)
theorem M_askOf_L54_k7 (tm : Nat) (i13 : Nat) (x13_2 : Int32) (x13_3 : Int32) (y54_1 : Int32) : ∀ (n54 i54 : Nat) (x54_5 : Int32) (σ54 : Nat → Nat → Int32), (M_askOf_L54 tm i13 x13_2 x13_3 y54_1 n54 i54 x54_5 σ54).2 7 = σ54 7 := by
  intro n54
  induction n54 with
  | zero => intros; rfl
  | succ n54 ih => intro i54 x54_5 σ54; exact (ih (i54 + 1) (M_askOf_S54_0 tm i13 x13_2 x13_3 y54_1 i54 x54_5 σ54) (M_askOf_S54_1 tm i13 x13_2 x13_3 y54_1 i54 x54_5 σ54)).trans (M_askOf_S54_k7 tm i13 x13_2 x13_3 y54_1 i54 x54_5 σ54)
theorem M_askOf_S54_k8 (tm : Nat) (i13 : Nat) (x13_2 : Int32) (x13_3 : Int32) (y54_1 : Int32) (i54 : Nat) (x54_5 : Int32) (σ54 : Nat → Nat → Int32) : M_askOf_S54_1 tm i13 x13_2 x13_3 y54_1 i54 x54_5 σ54 8 = σ54 8 := by
  unfold M_askOf_S54_1
  by_cases z1 : ((σ54 14 (asksN i54 i13)) + ((y54_1 >>> ((nI i54) &&& 31)) &&& 1)) ≤ x54_5
  · refine Eq.trans (congrFun (if_pos z1) 8) ?_
    exact up2_n _ _ _ (by decide)
  · refine Eq.trans (congrFun (if_neg z1) 8) ?_
    exact up2_n _ _ _ (by decide)
theorem M_askOf_L54_k8 (tm : Nat) (i13 : Nat) (x13_2 : Int32) (x13_3 : Int32) (y54_1 : Int32) : ∀ (n54 i54 : Nat) (x54_5 : Int32) (σ54 : Nat → Nat → Int32), (M_askOf_L54 tm i13 x13_2 x13_3 y54_1 n54 i54 x54_5 σ54).2 8 = σ54 8 := by
  intro n54
  induction n54 with
  | zero => intros; rfl
  | succ n54 ih => intro i54 x54_5 σ54; exact (ih (i54 + 1) (M_askOf_S54_0 tm i13 x13_2 x13_3 y54_1 i54 x54_5 σ54) (M_askOf_S54_1 tm i13 x13_2 x13_3 y54_1 i54 x54_5 σ54)).trans (M_askOf_S54_k8 tm i13 x13_2 x13_3 y54_1 i54 x54_5 σ54)
theorem M_askOf_S54_k9 (tm : Nat) (i13 : Nat) (x13_2 : Int32) (x13_3 : Int32) (y54_1 : Int32) (i54 : Nat) (x54_5 : Int32) (σ54 : Nat → Nat → Int32) : M_askOf_S54_1 tm i13 x13_2 x13_3 y54_1 i54 x54_5 σ54 9 = σ54 9 := by
  unfold M_askOf_S54_1
  by_cases z1 : ((σ54 14 (asksN i54 i13)) + ((y54_1 >>> ((nI i54) &&& 31)) &&& 1)) ≤ x54_5
  · refine Eq.trans (congrFun (if_pos z1) 9) ?_
    exact up2_n _ _ _ (by decide)
  · refine Eq.trans (congrFun (if_neg z1) 9) ?_
    exact up2_n _ _ _ (by decide)
theorem M_askOf_L54_k9 (tm : Nat) (i13 : Nat) (x13_2 : Int32) (x13_3 : Int32) (y54_1 : Int32) : ∀ (n54 i54 : Nat) (x54_5 : Int32) (σ54 : Nat → Nat → Int32), (M_askOf_L54 tm i13 x13_2 x13_3 y54_1 n54 i54 x54_5 σ54).2 9 = σ54 9 := by
  intro n54
  induction n54 with
  | zero => intros; rfl
  | succ n54 ih => intro i54 x54_5 σ54; exact (ih (i54 + 1) (M_askOf_S54_0 tm i13 x13_2 x13_3 y54_1 i54 x54_5 σ54) (M_askOf_S54_1 tm i13 x13_2 x13_3 y54_1 i54 x54_5 σ54)).trans (M_askOf_S54_k9 tm i13 x13_2 x13_3 y54_1 i54 x54_5 σ54)
theorem M_askOf_S54_k10 (tm : Nat) (i13 : Nat) (x13_2 : Int32) (x13_3 : Int32) (y54_1 : Int32) (i54 : Nat) (x54_5 : Int32) (σ54 : Nat → Nat → Int32) : M_askOf_S54_1 tm i13 x13_2 x13_3 y54_1 i54 x54_5 σ54 10 = σ54 10 := by
  unfold M_askOf_S54_1
  by_cases z1 : ((σ54 14 (asksN i54 i13)) + ((y54_1 >>> ((nI i54) &&& 31)) &&& 1)) ≤ x54_5
  · refine Eq.trans (congrFun (if_pos z1) 10) ?_
    exact up2_n _ _ _ (by decide)
  · refine Eq.trans (congrFun (if_neg z1) 10) ?_
    exact up2_n _ _ _ (by decide)
theorem M_askOf_L54_k10 (tm : Nat) (i13 : Nat) (x13_2 : Int32) (x13_3 : Int32) (y54_1 : Int32) : ∀ (n54 i54 : Nat) (x54_5 : Int32) (σ54 : Nat → Nat → Int32), (M_askOf_L54 tm i13 x13_2 x13_3 y54_1 n54 i54 x54_5 σ54).2 10 = σ54 10 := by
  intro n54
  induction n54 with
  | zero => intros; rfl
  | succ n54 ih => intro i54 x54_5 σ54; exact (ih (i54 + 1) (M_askOf_S54_0 tm i13 x13_2 x13_3 y54_1 i54 x54_5 σ54) (M_askOf_S54_1 tm i13 x13_2 x13_3 y54_1 i54 x54_5 σ54)).trans (M_askOf_S54_k10 tm i13 x13_2 x13_3 y54_1 i54 x54_5 σ54)
theorem M_askOf_S54_k11 (tm : Nat) (i13 : Nat) (x13_2 : Int32) (x13_3 : Int32) (y54_1 : Int32) (i54 : Nat) (x54_5 : Int32) (σ54 : Nat → Nat → Int32) : M_askOf_S54_1 tm i13 x13_2 x13_3 y54_1 i54 x54_5 σ54 11 = σ54 11 := by
  unfold M_askOf_S54_1
  by_cases z1 : ((σ54 14 (asksN i54 i13)) + ((y54_1 >>> ((nI i54) &&& 31)) &&& 1)) ≤ x54_5
  · refine Eq.trans (congrFun (if_pos z1) 11) ?_
    exact up2_n _ _ _ (by decide)
  · refine Eq.trans (congrFun (if_neg z1) 11) ?_
    exact up2_n _ _ _ (by decide)
theorem M_askOf_L54_k11 (tm : Nat) (i13 : Nat) (x13_2 : Int32) (x13_3 : Int32) (y54_1 : Int32) : ∀ (n54 i54 : Nat) (x54_5 : Int32) (σ54 : Nat → Nat → Int32), (M_askOf_L54 tm i13 x13_2 x13_3 y54_1 n54 i54 x54_5 σ54).2 11 = σ54 11 := by
  intro n54
  induction n54 with
  | zero => intros; rfl
  | succ n54 ih => intro i54 x54_5 σ54; exact (ih (i54 + 1) (M_askOf_S54_0 tm i13 x13_2 x13_3 y54_1 i54 x54_5 σ54) (M_askOf_S54_1 tm i13 x13_2 x13_3 y54_1 i54 x54_5 σ54)).trans (M_askOf_S54_k11 tm i13 x13_2 x13_3 y54_1 i54 x54_5 σ54)
theorem M_askOf_S54_k12 (tm : Nat) (i13 : Nat) (x13_2 : Int32) (x13_3 : Int32) (y54_1 : Int32) (i54 : Nat) (x54_5 : Int32) (σ54 : Nat → Nat → Int32) : M_askOf_S54_1 tm i13 x13_2 x13_3 y54_1 i54 x54_5 σ54 12 = σ54 12 := by
  unfold M_askOf_S54_1
  by_cases z1 : ((σ54 14 (asksN i54 i13)) + ((y54_1 >>> ((nI i54) &&& 31)) &&& 1)) ≤ x54_5
  · refine Eq.trans (congrFun (if_pos z1) 12) ?_
    exact up2_n _ _ _ (by decide)
  · refine Eq.trans (congrFun (if_neg z1) 12) ?_
    exact up2_n _ _ _ (by decide)
theorem M_askOf_L54_k12 (tm : Nat) (i13 : Nat) (x13_2 : Int32) (x13_3 : Int32) (y54_1 : Int32) : ∀ (n54 i54 : Nat) (x54_5 : Int32) (σ54 : Nat → Nat → Int32), (M_askOf_L54 tm i13 x13_2 x13_3 y54_1 n54 i54 x54_5 σ54).2 12 = σ54 12 := by
  intro n54
  induction n54 with
  | zero => intros; rfl
  | succ n54 ih => intro i54 x54_5 σ54; exact (ih (i54 + 1) (M_askOf_S54_0 tm i13 x13_2 x13_3 y54_1 i54 x54_5 σ54) (M_askOf_S54_1 tm i13 x13_2 x13_3 y54_1 i54 x54_5 σ54)).trans (M_askOf_S54_k12 tm i13 x13_2 x13_3 y54_1 i54 x54_5 σ54)
theorem M_askOf_S54_k13 (tm : Nat) (i13 : Nat) (x13_2 : Int32) (x13_3 : Int32) (y54_1 : Int32) (i54 : Nat) (x54_5 : Int32) (σ54 : Nat → Nat → Int32) : M_askOf_S54_1 tm i13 x13_2 x13_3 y54_1 i54 x54_5 σ54 13 = σ54 13 := by
  unfold M_askOf_S54_1
  by_cases z1 : ((σ54 14 (asksN i54 i13)) + ((y54_1 >>> ((nI i54) &&& 31)) &&& 1)) ≤ x54_5
  · refine Eq.trans (congrFun (if_pos z1) 13) ?_
    exact up2_n _ _ _ (by decide)
  · refine Eq.trans (congrFun (if_neg z1) 13) ?_
    exact up2_n _ _ _ (by decide)
theorem M_askOf_L54_k13 (tm : Nat) (i13 : Nat) (x13_2 : Int32) (x13_3 : Int32) (y54_1 : Int32) : ∀ (n54 i54 : Nat) (x54_5 : Int32) (σ54 : Nat → Nat → Int32), (M_askOf_L54 tm i13 x13_2 x13_3 y54_1 n54 i54 x54_5 σ54).2 13 = σ54 13 := by
  intro n54
  induction n54 with
  | zero => intros; rfl
  | succ n54 ih => intro i54 x54_5 σ54; exact (ih (i54 + 1) (M_askOf_S54_0 tm i13 x13_2 x13_3 y54_1 i54 x54_5 σ54) (M_askOf_S54_1 tm i13 x13_2 x13_3 y54_1 i54 x54_5 σ54)).trans (M_askOf_S54_k13 tm i13 x13_2 x13_3 y54_1 i54 x54_5 σ54)
theorem M_askOf_S54_k15 (tm : Nat) (i13 : Nat) (x13_2 : Int32) (x13_3 : Int32) (y54_1 : Int32) (i54 : Nat) (x54_5 : Int32) (σ54 : Nat → Nat → Int32) : M_askOf_S54_1 tm i13 x13_2 x13_3 y54_1 i54 x54_5 σ54 15 = σ54 15 := by
  unfold M_askOf_S54_1
  by_cases z1 : ((σ54 14 (asksN i54 i13)) + ((y54_1 >>> ((nI i54) &&& 31)) &&& 1)) ≤ x54_5
  · refine Eq.trans (congrFun (if_pos z1) 15) ?_
    exact up2_n _ _ _ (by decide)
  · refine Eq.trans (congrFun (if_neg z1) 15) ?_
    exact up2_n _ _ _ (by decide)
theorem M_askOf_L54_k15 (tm : Nat) (i13 : Nat) (x13_2 : Int32) (x13_3 : Int32) (y54_1 : Int32) : ∀ (n54 i54 : Nat) (x54_5 : Int32) (σ54 : Nat → Nat → Int32), (M_askOf_L54 tm i13 x13_2 x13_3 y54_1 n54 i54 x54_5 σ54).2 15 = σ54 15 := by
  intro n54
  induction n54 with
  | zero => intros; rfl
  | succ n54 ih => intro i54 x54_5 σ54; exact (ih (i54 + 1) (M_askOf_S54_0 tm i13 x13_2 x13_3 y54_1 i54 x54_5 σ54) (M_askOf_S54_1 tm i13 x13_2 x13_3 y54_1 i54 x54_5 σ54)).trans (M_askOf_S54_k15 tm i13 x13_2 x13_3 y54_1 i54 x54_5 σ54)
theorem M_askOf_S54_k16 (tm : Nat) (i13 : Nat) (x13_2 : Int32) (x13_3 : Int32) (y54_1 : Int32) (i54 : Nat) (x54_5 : Int32) (σ54 : Nat → Nat → Int32) : M_askOf_S54_1 tm i13 x13_2 x13_3 y54_1 i54 x54_5 σ54 16 = σ54 16 := by
  unfold M_askOf_S54_1
  by_cases z1 : ((σ54 14 (asksN i54 i13)) + ((y54_1 >>> ((nI i54) &&& 31)) &&& 1)) ≤ x54_5
  · refine Eq.trans (congrFun (if_pos z1) 16) ?_
    exact up2_n _ _ _ (by decide)
  · refine Eq.trans (congrFun (if_neg z1) 16) ?_
    exact up2_n _ _ _ (by decide)
theorem M_askOf_L54_k16 (tm : Nat) (i13 : Nat) (x13_2 : Int32) (x13_3 : Int32) (y54_1 : Int32) : ∀ (n54 i54 : Nat) (x54_5 : Int32) (σ54 : Nat → Nat → Int32), (M_askOf_L54 tm i13 x13_2 x13_3 y54_1 n54 i54 x54_5 σ54).2 16 = σ54 16 := by
  intro n54
  induction n54 with
  | zero => intros; rfl
  | succ n54 ih => intro i54 x54_5 σ54; exact (ih (i54 + 1) (M_askOf_S54_0 tm i13 x13_2 x13_3 y54_1 i54 x54_5 σ54) (M_askOf_S54_1 tm i13 x13_2 x13_3 y54_1 i54 x54_5 σ54)).trans (M_askOf_S54_k16 tm i13 x13_2 x13_3 y54_1 i54 x54_5 σ54)
theorem M_askOf_S54_k17 (tm : Nat) (i13 : Nat) (x13_2 : Int32) (x13_3 : Int32) (y54_1 : Int32) (i54 : Nat) (x54_5 : Int32) (σ54 : Nat → Nat → Int32) : M_askOf_S54_1 tm i13 x13_2 x13_3 y54_1 i54 x54_5 σ54 17 = σ54 17 := by
  unfold M_askOf_S54_1
  by_cases z1 : ((σ54 14 (asksN i54 i13)) + ((y54_1 >>> ((nI i54) &&& 31)) &&& 1)) ≤ x54_5
  · refine Eq.trans (congrFun (if_pos z1) 17) ?_
    exact up2_n _ _ _ (by decide)
  · refine Eq.trans (congrFun (if_neg z1) 17) ?_
    exact up2_n _ _ _ (by decide)
theorem M_askOf_L54_k17 (tm : Nat) (i13 : Nat) (x13_2 : Int32) (x13_3 : Int32) (y54_1 : Int32) : ∀ (n54 i54 : Nat) (x54_5 : Int32) (σ54 : Nat → Nat → Int32), (M_askOf_L54 tm i13 x13_2 x13_3 y54_1 n54 i54 x54_5 σ54).2 17 = σ54 17 := by
  intro n54
  induction n54 with
  | zero => intros; rfl
  | succ n54 ih => intro i54 x54_5 σ54; exact (ih (i54 + 1) (M_askOf_S54_0 tm i13 x13_2 x13_3 y54_1 i54 x54_5 σ54) (M_askOf_S54_1 tm i13 x13_2 x13_3 y54_1 i54 x54_5 σ54)).trans (M_askOf_S54_k17 tm i13 x13_2 x13_3 y54_1 i54 x54_5 σ54)
theorem M_askOf_S54_k18 (tm : Nat) (i13 : Nat) (x13_2 : Int32) (x13_3 : Int32) (y54_1 : Int32) (i54 : Nat) (x54_5 : Int32) (σ54 : Nat → Nat → Int32) : M_askOf_S54_1 tm i13 x13_2 x13_3 y54_1 i54 x54_5 σ54 18 = σ54 18 := by
  unfold M_askOf_S54_1
  by_cases z1 : ((σ54 14 (asksN i54 i13)) + ((y54_1 >>> ((nI i54) &&& 31)) &&& 1)) ≤ x54_5
  · refine Eq.trans (congrFun (if_pos z1) 18) ?_
    exact up2_n _ _ _ (by decide)
  · refine Eq.trans (congrFun (if_neg z1) 18) ?_
    exact up2_n _ _ _ (by decide)
theorem M_askOf_L54_k18 (tm : Nat) (i13 : Nat) (x13_2 : Int32) (x13_3 : Int32) (y54_1 : Int32) : ∀ (n54 i54 : Nat) (x54_5 : Int32) (σ54 : Nat → Nat → Int32), (M_askOf_L54 tm i13 x13_2 x13_3 y54_1 n54 i54 x54_5 σ54).2 18 = σ54 18 := by
  intro n54
  induction n54 with
  | zero => intros; rfl
  | succ n54 ih => intro i54 x54_5 σ54; exact (ih (i54 + 1) (M_askOf_S54_0 tm i13 x13_2 x13_3 y54_1 i54 x54_5 σ54) (M_askOf_S54_1 tm i13 x13_2 x13_3 y54_1 i54 x54_5 σ54)).trans (M_askOf_S54_k18 tm i13 x13_2 x13_3 y54_1 i54 x54_5 σ54)
theorem M_askOf_S54_k19 (tm : Nat) (i13 : Nat) (x13_2 : Int32) (x13_3 : Int32) (y54_1 : Int32) (i54 : Nat) (x54_5 : Int32) (σ54 : Nat → Nat → Int32) : M_askOf_S54_1 tm i13 x13_2 x13_3 y54_1 i54 x54_5 σ54 19 = σ54 19 := by
  unfold M_askOf_S54_1
  by_cases z1 : ((σ54 14 (asksN i54 i13)) + ((y54_1 >>> ((nI i54) &&& 31)) &&& 1)) ≤ x54_5
  · refine Eq.trans (congrFun (if_pos z1) 19) ?_
    exact up2_n _ _ _ (by decide)
  · refine Eq.trans (congrFun (if_neg z1) 19) ?_
    exact up2_n _ _ _ (by decide)
theorem M_askOf_L54_k19 (tm : Nat) (i13 : Nat) (x13_2 : Int32) (x13_3 : Int32) (y54_1 : Int32) : ∀ (n54 i54 : Nat) (x54_5 : Int32) (σ54 : Nat → Nat → Int32), (M_askOf_L54 tm i13 x13_2 x13_3 y54_1 n54 i54 x54_5 σ54).2 19 = σ54 19 := by
  intro n54
  induction n54 with
  | zero => intros; rfl
  | succ n54 ih => intro i54 x54_5 σ54; exact (ih (i54 + 1) (M_askOf_S54_0 tm i13 x13_2 x13_3 y54_1 i54 x54_5 σ54) (M_askOf_S54_1 tm i13 x13_2 x13_3 y54_1 i54 x54_5 σ54)).trans (M_askOf_S54_k19 tm i13 x13_2 x13_3 y54_1 i54 x54_5 σ54)
def M_askOf_S13_0 (tm : Nat) (y13_1 : Int32) (i13 : Nat) (x13_2 : Int32) (x13_3 : Int32) (σ13 : Nat → Nat → Int32) : Int32 := if x13_3 ≤ ((M_askOf_L54 tm i13 x13_2 x13_3 y13_1 5 0 0 (M_askOf_L27 tm i13 x13_2 x13_3 y13_1 21 0 σ13)).1) then x13_2 else (nI i13)
def M_askOf_S13_1 (tm : Nat) (y13_1 : Int32) (i13 : Nat) (x13_2 : Int32) (x13_3 : Int32) (σ13 : Nat → Nat → Int32) : Int32 := if x13_3 ≤ ((M_askOf_L54 tm i13 x13_2 x13_3 y13_1 5 0 0 (M_askOf_L27 tm i13 x13_2 x13_3 y13_1 21 0 σ13)).1) then x13_3 else ((M_askOf_L54 tm i13 x13_2 x13_3 y13_1 5 0 0 (M_askOf_L27 tm i13 x13_2 x13_3 y13_1 21 0 σ13)).1)
def M_askOf_S13_2 (tm : Nat) (y13_1 : Int32) (i13 : Nat) (x13_2 : Int32) (x13_3 : Int32) (σ13 : Nat → Nat → Int32) : Nat → Nat → Int32 := if x13_3 ≤ ((M_askOf_L54 tm i13 x13_2 x13_3 y13_1 5 0 0 (M_askOf_L27 tm i13 x13_2 x13_3 y13_1 21 0 σ13)).1) then ((M_askOf_L54 tm i13 x13_2 x13_3 y13_1 5 0 0 (M_askOf_L27 tm i13 x13_2 x13_3 y13_1 21 0 σ13)).2) else ((M_askOf_L54 tm i13 x13_2 x13_3 y13_1 5 0 0 (M_askOf_L27 tm i13 x13_2 x13_3 y13_1 21 0 σ13)).2)
def M_askOf_L13 (tm : Nat) (y13_1 : Int32) : Nat → Nat → (Int32) → (Int32) → (Nat → Nat → Int32) → (Int32) × (Int32) × (Nat → Nat → Int32)
  | 0, _, x13_2, x13_3, σ13 => (x13_2, x13_3, σ13)
  | n13 + 1, i13, x13_2, x13_3, σ13 => M_askOf_L13 tm y13_1 n13 (i13 + 1) (M_askOf_S13_0 tm y13_1 i13 x13_2 x13_3 σ13) (M_askOf_S13_1 tm y13_1 i13 x13_2 x13_3 σ13) (M_askOf_S13_2 tm y13_1 i13 x13_2 x13_3 σ13)
theorem M_askOf_S13_k0 (tm : Nat) (y13_1 : Int32) (i13 : Nat) (x13_2 : Int32) (x13_3 : Int32) (σ13 : Nat → Nat → Int32) : M_askOf_S13_2 tm y13_1 i13 x13_2 x13_3 σ13 0 = σ13 0 := by
  unfold M_askOf_S13_2
  by_cases z1 : x13_3 ≤ ((M_askOf_L54 tm i13 x13_2 x13_3 y13_1 5 0 0 (M_askOf_L27 tm i13 x13_2 x13_3 y13_1 21 0 σ13)).1)
  · refine Eq.trans (congrFun (if_pos z1) 0) ?_
    exact (M_askOf_L54_k0 tm i13 x13_2 x13_3 y13_1 5 0 0 (M_askOf_L27 tm i13 x13_2 x13_3 y13_1 21 0 σ13)).trans (M_askOf_L27_k0 tm i13 x13_2 x13_3 y13_1 21 0 σ13)
  · refine Eq.trans (congrFun (if_neg z1) 0) ?_
    exact (M_askOf_L54_k0 tm i13 x13_2 x13_3 y13_1 5 0 0 (M_askOf_L27 tm i13 x13_2 x13_3 y13_1 21 0 σ13)).trans (M_askOf_L27_k0 tm i13 x13_2 x13_3 y13_1 21 0 σ13)
theorem M_askOf_L13_k0 (tm : Nat) (y13_1 : Int32) : ∀ (n13 i13 : Nat) (x13_2 : Int32) (x13_3 : Int32) (σ13 : Nat → Nat → Int32), (M_askOf_L13 tm y13_1 n13 i13 x13_2 x13_3 σ13).2.2 0 = σ13 0 := by
  intro n13
  induction n13 with
  | zero => intros; rfl
  | succ n13 ih => intro i13 x13_2 x13_3 σ13; exact (ih (i13 + 1) (M_askOf_S13_0 tm y13_1 i13 x13_2 x13_3 σ13) (M_askOf_S13_1 tm y13_1 i13 x13_2 x13_3 σ13) (M_askOf_S13_2 tm y13_1 i13 x13_2 x13_3 σ13)).trans (M_askOf_S13_k0 tm y13_1 i13 x13_2 x13_3 σ13)
theorem M_askOf_S13_k1 (tm : Nat) (y13_1 : Int32) (i13 : Nat) (x13_2 : Int32) (x13_3 : Int32) (σ13 : Nat → Nat → Int32) : M_askOf_S13_2 tm y13_1 i13 x13_2 x13_3 σ13 1 = σ13 1 := by
  unfold M_askOf_S13_2
  by_cases z1 : x13_3 ≤ ((M_askOf_L54 tm i13 x13_2 x13_3 y13_1 5 0 0 (M_askOf_L27 tm i13 x13_2 x13_3 y13_1 21 0 σ13)).1)
  · refine Eq.trans (congrFun (if_pos z1) 1) ?_
    exact (M_askOf_L54_k1 tm i13 x13_2 x13_3 y13_1 5 0 0 (M_askOf_L27 tm i13 x13_2 x13_3 y13_1 21 0 σ13)).trans (M_askOf_L27_k1 tm i13 x13_2 x13_3 y13_1 21 0 σ13)
  · refine Eq.trans (congrFun (if_neg z1) 1) ?_
    exact (M_askOf_L54_k1 tm i13 x13_2 x13_3 y13_1 5 0 0 (M_askOf_L27 tm i13 x13_2 x13_3 y13_1 21 0 σ13)).trans (M_askOf_L27_k1 tm i13 x13_2 x13_3 y13_1 21 0 σ13)
theorem M_askOf_L13_k1 (tm : Nat) (y13_1 : Int32) : ∀ (n13 i13 : Nat) (x13_2 : Int32) (x13_3 : Int32) (σ13 : Nat → Nat → Int32), (M_askOf_L13 tm y13_1 n13 i13 x13_2 x13_3 σ13).2.2 1 = σ13 1 := by
  intro n13
  induction n13 with
  | zero => intros; rfl
  | succ n13 ih => intro i13 x13_2 x13_3 σ13; exact (ih (i13 + 1) (M_askOf_S13_0 tm y13_1 i13 x13_2 x13_3 σ13) (M_askOf_S13_1 tm y13_1 i13 x13_2 x13_3 σ13) (M_askOf_S13_2 tm y13_1 i13 x13_2 x13_3 σ13)).trans (M_askOf_S13_k1 tm y13_1 i13 x13_2 x13_3 σ13)
theorem M_askOf_S13_k2 (tm : Nat) (y13_1 : Int32) (i13 : Nat) (x13_2 : Int32) (x13_3 : Int32) (σ13 : Nat → Nat → Int32) : M_askOf_S13_2 tm y13_1 i13 x13_2 x13_3 σ13 2 = σ13 2 := by
  unfold M_askOf_S13_2
  by_cases z1 : x13_3 ≤ ((M_askOf_L54 tm i13 x13_2 x13_3 y13_1 5 0 0 (M_askOf_L27 tm i13 x13_2 x13_3 y13_1 21 0 σ13)).1)
  · refine Eq.trans (congrFun (if_pos z1) 2) ?_
    exact (M_askOf_L54_k2 tm i13 x13_2 x13_3 y13_1 5 0 0 (M_askOf_L27 tm i13 x13_2 x13_3 y13_1 21 0 σ13)).trans (M_askOf_L27_k2 tm i13 x13_2 x13_3 y13_1 21 0 σ13)
  · refine Eq.trans (congrFun (if_neg z1) 2) ?_
    exact (M_askOf_L54_k2 tm i13 x13_2 x13_3 y13_1 5 0 0 (M_askOf_L27 tm i13 x13_2 x13_3 y13_1 21 0 σ13)).trans (M_askOf_L27_k2 tm i13 x13_2 x13_3 y13_1 21 0 σ13)
theorem M_askOf_L13_k2 (tm : Nat) (y13_1 : Int32) : ∀ (n13 i13 : Nat) (x13_2 : Int32) (x13_3 : Int32) (σ13 : Nat → Nat → Int32), (M_askOf_L13 tm y13_1 n13 i13 x13_2 x13_3 σ13).2.2 2 = σ13 2 := by
  intro n13
  induction n13 with
  | zero => intros; rfl
  | succ n13 ih => intro i13 x13_2 x13_3 σ13; exact (ih (i13 + 1) (M_askOf_S13_0 tm y13_1 i13 x13_2 x13_3 σ13) (M_askOf_S13_1 tm y13_1 i13 x13_2 x13_3 σ13) (M_askOf_S13_2 tm y13_1 i13 x13_2 x13_3 σ13)).trans (M_askOf_S13_k2 tm y13_1 i13 x13_2 x13_3 σ13)
theorem M_askOf_S13_k3 (tm : Nat) (y13_1 : Int32) (i13 : Nat) (x13_2 : Int32) (x13_3 : Int32) (σ13 : Nat → Nat → Int32) : M_askOf_S13_2 tm y13_1 i13 x13_2 x13_3 σ13 3 = σ13 3 := by
  unfold M_askOf_S13_2
  by_cases z1 : x13_3 ≤ ((M_askOf_L54 tm i13 x13_2 x13_3 y13_1 5 0 0 (M_askOf_L27 tm i13 x13_2 x13_3 y13_1 21 0 σ13)).1)
  · refine Eq.trans (congrFun (if_pos z1) 3) ?_
    exact (M_askOf_L54_k3 tm i13 x13_2 x13_3 y13_1 5 0 0 (M_askOf_L27 tm i13 x13_2 x13_3 y13_1 21 0 σ13)).trans (M_askOf_L27_k3 tm i13 x13_2 x13_3 y13_1 21 0 σ13)
  · refine Eq.trans (congrFun (if_neg z1) 3) ?_
    exact (M_askOf_L54_k3 tm i13 x13_2 x13_3 y13_1 5 0 0 (M_askOf_L27 tm i13 x13_2 x13_3 y13_1 21 0 σ13)).trans (M_askOf_L27_k3 tm i13 x13_2 x13_3 y13_1 21 0 σ13)
theorem M_askOf_L13_k3 (tm : Nat) (y13_1 : Int32) : ∀ (n13 i13 : Nat) (x13_2 : Int32) (x13_3 : Int32) (σ13 : Nat → Nat → Int32), (M_askOf_L13 tm y13_1 n13 i13 x13_2 x13_3 σ13).2.2 3 = σ13 3 := by
  intro n13
  induction n13 with
  | zero => intros; rfl
  | succ n13 ih => intro i13 x13_2 x13_3 σ13; exact (ih (i13 + 1) (M_askOf_S13_0 tm y13_1 i13 x13_2 x13_3 σ13) (M_askOf_S13_1 tm y13_1 i13 x13_2 x13_3 σ13) (M_askOf_S13_2 tm y13_1 i13 x13_2 x13_3 σ13)).trans (M_askOf_S13_k3 tm y13_1 i13 x13_2 x13_3 σ13)
theorem M_askOf_S13_k4 (tm : Nat) (y13_1 : Int32) (i13 : Nat) (x13_2 : Int32) (x13_3 : Int32) (σ13 : Nat → Nat → Int32) : M_askOf_S13_2 tm y13_1 i13 x13_2 x13_3 σ13 4 = σ13 4 := by
  unfold M_askOf_S13_2
  by_cases z1 : x13_3 ≤ ((M_askOf_L54 tm i13 x13_2 x13_3 y13_1 5 0 0 (M_askOf_L27 tm i13 x13_2 x13_3 y13_1 21 0 σ13)).1)
  · refine Eq.trans (congrFun (if_pos z1) 4) ?_
    exact (M_askOf_L54_k4 tm i13 x13_2 x13_3 y13_1 5 0 0 (M_askOf_L27 tm i13 x13_2 x13_3 y13_1 21 0 σ13)).trans (M_askOf_L27_k4 tm i13 x13_2 x13_3 y13_1 21 0 σ13)
  · refine Eq.trans (congrFun (if_neg z1) 4) ?_
    exact (M_askOf_L54_k4 tm i13 x13_2 x13_3 y13_1 5 0 0 (M_askOf_L27 tm i13 x13_2 x13_3 y13_1 21 0 σ13)).trans (M_askOf_L27_k4 tm i13 x13_2 x13_3 y13_1 21 0 σ13)
theorem M_askOf_L13_k4 (tm : Nat) (y13_1 : Int32) : ∀ (n13 i13 : Nat) (x13_2 : Int32) (x13_3 : Int32) (σ13 : Nat → Nat → Int32), (M_askOf_L13 tm y13_1 n13 i13 x13_2 x13_3 σ13).2.2 4 = σ13 4 := by
  intro n13
  induction n13 with
  | zero => intros; rfl
  | succ n13 ih => intro i13 x13_2 x13_3 σ13; exact (ih (i13 + 1) (M_askOf_S13_0 tm y13_1 i13 x13_2 x13_3 σ13) (M_askOf_S13_1 tm y13_1 i13 x13_2 x13_3 σ13) (M_askOf_S13_2 tm y13_1 i13 x13_2 x13_3 σ13)).trans (M_askOf_S13_k4 tm y13_1 i13 x13_2 x13_3 σ13)
theorem M_askOf_S13_k5 (tm : Nat) (y13_1 : Int32) (i13 : Nat) (x13_2 : Int32) (x13_3 : Int32) (σ13 : Nat → Nat → Int32) : M_askOf_S13_2 tm y13_1 i13 x13_2 x13_3 σ13 5 = σ13 5 := by
  unfold M_askOf_S13_2
  by_cases z1 : x13_3 ≤ ((M_askOf_L54 tm i13 x13_2 x13_3 y13_1 5 0 0 (M_askOf_L27 tm i13 x13_2 x13_3 y13_1 21 0 σ13)).1)
  · refine Eq.trans (congrFun (if_pos z1) 5) ?_
    exact (M_askOf_L54_k5 tm i13 x13_2 x13_3 y13_1 5 0 0 (M_askOf_L27 tm i13 x13_2 x13_3 y13_1 21 0 σ13)).trans (M_askOf_L27_k5 tm i13 x13_2 x13_3 y13_1 21 0 σ13)
  · refine Eq.trans (congrFun (if_neg z1) 5) ?_
    exact (M_askOf_L54_k5 tm i13 x13_2 x13_3 y13_1 5 0 0 (M_askOf_L27 tm i13 x13_2 x13_3 y13_1 21 0 σ13)).trans (M_askOf_L27_k5 tm i13 x13_2 x13_3 y13_1 21 0 σ13)
theorem M_askOf_L13_k5 (tm : Nat) (y13_1 : Int32) : ∀ (n13 i13 : Nat) (x13_2 : Int32) (x13_3 : Int32) (σ13 : Nat → Nat → Int32), (M_askOf_L13 tm y13_1 n13 i13 x13_2 x13_3 σ13).2.2 5 = σ13 5 := by
  intro n13
  induction n13 with
  | zero => intros; rfl
  | succ n13 ih => intro i13 x13_2 x13_3 σ13; exact (ih (i13 + 1) (M_askOf_S13_0 tm y13_1 i13 x13_2 x13_3 σ13) (M_askOf_S13_1 tm y13_1 i13 x13_2 x13_3 σ13) (M_askOf_S13_2 tm y13_1 i13 x13_2 x13_3 σ13)).trans (M_askOf_S13_k5 tm y13_1 i13 x13_2 x13_3 σ13)
theorem M_askOf_S13_k6 (tm : Nat) (y13_1 : Int32) (i13 : Nat) (x13_2 : Int32) (x13_3 : Int32) (σ13 : Nat → Nat → Int32) : M_askOf_S13_2 tm y13_1 i13 x13_2 x13_3 σ13 6 = σ13 6 := by
  unfold M_askOf_S13_2
  by_cases z1 : x13_3 ≤ ((M_askOf_L54 tm i13 x13_2 x13_3 y13_1 5 0 0 (M_askOf_L27 tm i13 x13_2 x13_3 y13_1 21 0 σ13)).1)
  · refine Eq.trans (congrFun (if_pos z1) 6) ?_
    exact (M_askOf_L54_k6 tm i13 x13_2 x13_3 y13_1 5 0 0 (M_askOf_L27 tm i13 x13_2 x13_3 y13_1 21 0 σ13)).trans (M_askOf_L27_k6 tm i13 x13_2 x13_3 y13_1 21 0 σ13)
  · refine Eq.trans (congrFun (if_neg z1) 6) ?_
    exact (M_askOf_L54_k6 tm i13 x13_2 x13_3 y13_1 5 0 0 (M_askOf_L27 tm i13 x13_2 x13_3 y13_1 21 0 σ13)).trans (M_askOf_L27_k6 tm i13 x13_2 x13_3 y13_1 21 0 σ13)
theorem M_askOf_L13_k6 (tm : Nat) (y13_1 : Int32) : ∀ (n13 i13 : Nat) (x13_2 : Int32) (x13_3 : Int32) (σ13 : Nat → Nat → Int32), (M_askOf_L13 tm y13_1 n13 i13 x13_2 x13_3 σ13).2.2 6 = σ13 6 := by
  intro n13
  induction n13 with
  | zero => intros; rfl
  | succ n13 ih => intro i13 x13_2 x13_3 σ13; exact (ih (i13 + 1) (M_askOf_S13_0 tm y13_1 i13 x13_2 x13_3 σ13) (M_askOf_S13_1 tm y13_1 i13 x13_2 x13_3 σ13) (M_askOf_S13_2 tm y13_1 i13 x13_2 x13_3 σ13)).trans (M_askOf_S13_k6 tm y13_1 i13 x13_2 x13_3 σ13)
theorem M_askOf_S13_k7 (tm : Nat) (y13_1 : Int32) (i13 : Nat) (x13_2 : Int32) (x13_3 : Int32) (σ13 : Nat → Nat → Int32) : M_askOf_S13_2 tm y13_1 i13 x13_2 x13_3 σ13 7 = σ13 7 := by
  unfold M_askOf_S13_2
  by_cases z1 : x13_3 ≤ ((M_askOf_L54 tm i13 x13_2 x13_3 y13_1 5 0 0 (M_askOf_L27 tm i13 x13_2 x13_3 y13_1 21 0 σ13)).1)
  · refine Eq.trans (congrFun (if_pos z1) 7) ?_
    exact (M_askOf_L54_k7 tm i13 x13_2 x13_3 y13_1 5 0 0 (M_askOf_L27 tm i13 x13_2 x13_3 y13_1 21 0 σ13)).trans (M_askOf_L27_k7 tm i13 x13_2 x13_3 y13_1 21 0 σ13)
  · refine Eq.trans (congrFun (if_neg z1) 7) ?_
    exact (M_askOf_L54_k7 tm i13 x13_2 x13_3 y13_1 5 0 0 (M_askOf_L27 tm i13 x13_2 x13_3 y13_1 21 0 σ13)).trans (M_askOf_L27_k7 tm i13 x13_2 x13_3 y13_1 21 0 σ13)
theorem M_askOf_L13_k7 (tm : Nat) (y13_1 : Int32) : ∀ (n13 i13 : Nat) (x13_2 : Int32) (x13_3 : Int32) (σ13 : Nat → Nat → Int32), (M_askOf_L13 tm y13_1 n13 i13 x13_2 x13_3 σ13).2.2 7 = σ13 7 := by
  intro n13
  induction n13 with
  | zero => intros; rfl
  | succ n13 ih => intro i13 x13_2 x13_3 σ13; exact (ih (i13 + 1) (M_askOf_S13_0 tm y13_1 i13 x13_2 x13_3 σ13) (M_askOf_S13_1 tm y13_1 i13 x13_2 x13_3 σ13) (M_askOf_S13_2 tm y13_1 i13 x13_2 x13_3 σ13)).trans (M_askOf_S13_k7 tm y13_1 i13 x13_2 x13_3 σ13)
theorem M_askOf_S13_k8 (tm : Nat) (y13_1 : Int32) (i13 : Nat) (x13_2 : Int32) (x13_3 : Int32) (σ13 : Nat → Nat → Int32) : M_askOf_S13_2 tm y13_1 i13 x13_2 x13_3 σ13 8 = σ13 8 := by
  unfold M_askOf_S13_2
  by_cases z1 : x13_3 ≤ ((M_askOf_L54 tm i13 x13_2 x13_3 y13_1 5 0 0 (M_askOf_L27 tm i13 x13_2 x13_3 y13_1 21 0 σ13)).1)
  · refine Eq.trans (congrFun (if_pos z1) 8) ?_
    exact (M_askOf_L54_k8 tm i13 x13_2 x13_3 y13_1 5 0 0 (M_askOf_L27 tm i13 x13_2 x13_3 y13_1 21 0 σ13)).trans (M_askOf_L27_k8 tm i13 x13_2 x13_3 y13_1 21 0 σ13)
  · refine Eq.trans (congrFun (if_neg z1) 8) ?_
    exact (M_askOf_L54_k8 tm i13 x13_2 x13_3 y13_1 5 0 0 (M_askOf_L27 tm i13 x13_2 x13_3 y13_1 21 0 σ13)).trans (M_askOf_L27_k8 tm i13 x13_2 x13_3 y13_1 21 0 σ13)
theorem M_askOf_L13_k8 (tm : Nat) (y13_1 : Int32) : ∀ (n13 i13 : Nat) (x13_2 : Int32) (x13_3 : Int32) (σ13 : Nat → Nat → Int32), (M_askOf_L13 tm y13_1 n13 i13 x13_2 x13_3 σ13).2.2 8 = σ13 8 := by
  intro n13
  induction n13 with
  | zero => intros; rfl
  | succ n13 ih => intro i13 x13_2 x13_3 σ13; exact (ih (i13 + 1) (M_askOf_S13_0 tm y13_1 i13 x13_2 x13_3 σ13) (M_askOf_S13_1 tm y13_1 i13 x13_2 x13_3 σ13) (M_askOf_S13_2 tm y13_1 i13 x13_2 x13_3 σ13)).trans (M_askOf_S13_k8 tm y13_1 i13 x13_2 x13_3 σ13)
theorem M_askOf_S13_k9 (tm : Nat) (y13_1 : Int32) (i13 : Nat) (x13_2 : Int32) (x13_3 : Int32) (σ13 : Nat → Nat → Int32) : M_askOf_S13_2 tm y13_1 i13 x13_2 x13_3 σ13 9 = σ13 9 := by
  unfold M_askOf_S13_2
  by_cases z1 : x13_3 ≤ ((M_askOf_L54 tm i13 x13_2 x13_3 y13_1 5 0 0 (M_askOf_L27 tm i13 x13_2 x13_3 y13_1 21 0 σ13)).1)
  · refine Eq.trans (congrFun (if_pos z1) 9) ?_
    exact (M_askOf_L54_k9 tm i13 x13_2 x13_3 y13_1 5 0 0 (M_askOf_L27 tm i13 x13_2 x13_3 y13_1 21 0 σ13)).trans (M_askOf_L27_k9 tm i13 x13_2 x13_3 y13_1 21 0 σ13)
  · refine Eq.trans (congrFun (if_neg z1) 9) ?_
    exact (M_askOf_L54_k9 tm i13 x13_2 x13_3 y13_1 5 0 0 (M_askOf_L27 tm i13 x13_2 x13_3 y13_1 21 0 σ13)).trans (M_askOf_L27_k9 tm i13 x13_2 x13_3 y13_1 21 0 σ13)
theorem M_askOf_L13_k9 (tm : Nat) (y13_1 : Int32) : ∀ (n13 i13 : Nat) (x13_2 : Int32) (x13_3 : Int32) (σ13 : Nat → Nat → Int32), (M_askOf_L13 tm y13_1 n13 i13 x13_2 x13_3 σ13).2.2 9 = σ13 9 := by
  intro n13
  induction n13 with
  | zero => intros; rfl
  | succ n13 ih => intro i13 x13_2 x13_3 σ13; exact (ih (i13 + 1) (M_askOf_S13_0 tm y13_1 i13 x13_2 x13_3 σ13) (M_askOf_S13_1 tm y13_1 i13 x13_2 x13_3 σ13) (M_askOf_S13_2 tm y13_1 i13 x13_2 x13_3 σ13)).trans (M_askOf_S13_k9 tm y13_1 i13 x13_2 x13_3 σ13)
theorem M_askOf_S13_k10 (tm : Nat) (y13_1 : Int32) (i13 : Nat) (x13_2 : Int32) (x13_3 : Int32) (σ13 : Nat → Nat → Int32) : M_askOf_S13_2 tm y13_1 i13 x13_2 x13_3 σ13 10 = σ13 10 := by
  unfold M_askOf_S13_2
  by_cases z1 : x13_3 ≤ ((M_askOf_L54 tm i13 x13_2 x13_3 y13_1 5 0 0 (M_askOf_L27 tm i13 x13_2 x13_3 y13_1 21 0 σ13)).1)
  · refine Eq.trans (congrFun (if_pos z1) 10) ?_
    exact (M_askOf_L54_k10 tm i13 x13_2 x13_3 y13_1 5 0 0 (M_askOf_L27 tm i13 x13_2 x13_3 y13_1 21 0 σ13)).trans (M_askOf_L27_k10 tm i13 x13_2 x13_3 y13_1 21 0 σ13)
  · refine Eq.trans (congrFun (if_neg z1) 10) ?_
    exact (M_askOf_L54_k10 tm i13 x13_2 x13_3 y13_1 5 0 0 (M_askOf_L27 tm i13 x13_2 x13_3 y13_1 21 0 σ13)).trans (M_askOf_L27_k10 tm i13 x13_2 x13_3 y13_1 21 0 σ13)
theorem M_askOf_L13_k10 (tm : Nat) (y13_1 : Int32) : ∀ (n13 i13 : Nat) (x13_2 : Int32) (x13_3 : Int32) (σ13 : Nat → Nat → Int32), (M_askOf_L13 tm y13_1 n13 i13 x13_2 x13_3 σ13).2.2 10 = σ13 10 := by
  intro n13
  induction n13 with
  | zero => intros; rfl
  | succ n13 ih => intro i13 x13_2 x13_3 σ13; exact (ih (i13 + 1) (M_askOf_S13_0 tm y13_1 i13 x13_2 x13_3 σ13) (M_askOf_S13_1 tm y13_1 i13 x13_2 x13_3 σ13) (M_askOf_S13_2 tm y13_1 i13 x13_2 x13_3 σ13)).trans (M_askOf_S13_k10 tm y13_1 i13 x13_2 x13_3 σ13)
theorem M_askOf_S13_k11 (tm : Nat) (y13_1 : Int32) (i13 : Nat) (x13_2 : Int32) (x13_3 : Int32) (σ13 : Nat → Nat → Int32) : M_askOf_S13_2 tm y13_1 i13 x13_2 x13_3 σ13 11 = σ13 11 := by
  unfold M_askOf_S13_2
  by_cases z1 : x13_3 ≤ ((M_askOf_L54 tm i13 x13_2 x13_3 y13_1 5 0 0 (M_askOf_L27 tm i13 x13_2 x13_3 y13_1 21 0 σ13)).1)
  · refine Eq.trans (congrFun (if_pos z1) 11) ?_
    exact (M_askOf_L54_k11 tm i13 x13_2 x13_3 y13_1 5 0 0 (M_askOf_L27 tm i13 x13_2 x13_3 y13_1 21 0 σ13)).trans (M_askOf_L27_k11 tm i13 x13_2 x13_3 y13_1 21 0 σ13)
  · refine Eq.trans (congrFun (if_neg z1) 11) ?_
    exact (M_askOf_L54_k11 tm i13 x13_2 x13_3 y13_1 5 0 0 (M_askOf_L27 tm i13 x13_2 x13_3 y13_1 21 0 σ13)).trans (M_askOf_L27_k11 tm i13 x13_2 x13_3 y13_1 21 0 σ13)
theorem M_askOf_L13_k11 (tm : Nat) (y13_1 : Int32) : ∀ (n13 i13 : Nat) (x13_2 : Int32) (x13_3 : Int32) (σ13 : Nat → Nat → Int32), (M_askOf_L13 tm y13_1 n13 i13 x13_2 x13_3 σ13).2.2 11 = σ13 11 := by
  intro n13
  induction n13 with
  | zero => intros; rfl
  | succ n13 ih => intro i13 x13_2 x13_3 σ13; exact (ih (i13 + 1) (M_askOf_S13_0 tm y13_1 i13 x13_2 x13_3 σ13) (M_askOf_S13_1 tm y13_1 i13 x13_2 x13_3 σ13) (M_askOf_S13_2 tm y13_1 i13 x13_2 x13_3 σ13)).trans (M_askOf_S13_k11 tm y13_1 i13 x13_2 x13_3 σ13)
theorem M_askOf_S13_k12 (tm : Nat) (y13_1 : Int32) (i13 : Nat) (x13_2 : Int32) (x13_3 : Int32) (σ13 : Nat → Nat → Int32) : M_askOf_S13_2 tm y13_1 i13 x13_2 x13_3 σ13 12 = σ13 12 := by
  unfold M_askOf_S13_2
  by_cases z1 : x13_3 ≤ ((M_askOf_L54 tm i13 x13_2 x13_3 y13_1 5 0 0 (M_askOf_L27 tm i13 x13_2 x13_3 y13_1 21 0 σ13)).1)
  · refine Eq.trans (congrFun (if_pos z1) 12) ?_
    exact (M_askOf_L54_k12 tm i13 x13_2 x13_3 y13_1 5 0 0 (M_askOf_L27 tm i13 x13_2 x13_3 y13_1 21 0 σ13)).trans (M_askOf_L27_k12 tm i13 x13_2 x13_3 y13_1 21 0 σ13)
  · refine Eq.trans (congrFun (if_neg z1) 12) ?_
    exact (M_askOf_L54_k12 tm i13 x13_2 x13_3 y13_1 5 0 0 (M_askOf_L27 tm i13 x13_2 x13_3 y13_1 21 0 σ13)).trans (M_askOf_L27_k12 tm i13 x13_2 x13_3 y13_1 21 0 σ13)
theorem M_askOf_L13_k12 (tm : Nat) (y13_1 : Int32) : ∀ (n13 i13 : Nat) (x13_2 : Int32) (x13_3 : Int32) (σ13 : Nat → Nat → Int32), (M_askOf_L13 tm y13_1 n13 i13 x13_2 x13_3 σ13).2.2 12 = σ13 12 := by
  intro n13
  induction n13 with
  | zero => intros; rfl
  | succ n13 ih => intro i13 x13_2 x13_3 σ13; exact (ih (i13 + 1) (M_askOf_S13_0 tm y13_1 i13 x13_2 x13_3 σ13) (M_askOf_S13_1 tm y13_1 i13 x13_2 x13_3 σ13) (M_askOf_S13_2 tm y13_1 i13 x13_2 x13_3 σ13)).trans (M_askOf_S13_k12 tm y13_1 i13 x13_2 x13_3 σ13)
theorem M_askOf_S13_k13 (tm : Nat) (y13_1 : Int32) (i13 : Nat) (x13_2 : Int32) (x13_3 : Int32) (σ13 : Nat → Nat → Int32) : M_askOf_S13_2 tm y13_1 i13 x13_2 x13_3 σ13 13 = σ13 13 := by
  unfold M_askOf_S13_2
  by_cases z1 : x13_3 ≤ ((M_askOf_L54 tm i13 x13_2 x13_3 y13_1 5 0 0 (M_askOf_L27 tm i13 x13_2 x13_3 y13_1 21 0 σ13)).1)
  · refine Eq.trans (congrFun (if_pos z1) 13) ?_
    exact (M_askOf_L54_k13 tm i13 x13_2 x13_3 y13_1 5 0 0 (M_askOf_L27 tm i13 x13_2 x13_3 y13_1 21 0 σ13)).trans (M_askOf_L27_k13 tm i13 x13_2 x13_3 y13_1 21 0 σ13)
  · refine Eq.trans (congrFun (if_neg z1) 13) ?_
    exact (M_askOf_L54_k13 tm i13 x13_2 x13_3 y13_1 5 0 0 (M_askOf_L27 tm i13 x13_2 x13_3 y13_1 21 0 σ13)).trans (M_askOf_L27_k13 tm i13 x13_2 x13_3 y13_1 21 0 σ13)
theorem M_askOf_L13_k13 (tm : Nat) (y13_1 : Int32) : ∀ (n13 i13 : Nat) (x13_2 : Int32) (x13_3 : Int32) (σ13 : Nat → Nat → Int32), (M_askOf_L13 tm y13_1 n13 i13 x13_2 x13_3 σ13).2.2 13 = σ13 13 := by
  intro n13
  induction n13 with
  | zero => intros; rfl
  | succ n13 ih => intro i13 x13_2 x13_3 σ13; exact (ih (i13 + 1) (M_askOf_S13_0 tm y13_1 i13 x13_2 x13_3 σ13) (M_askOf_S13_1 tm y13_1 i13 x13_2 x13_3 σ13) (M_askOf_S13_2 tm y13_1 i13 x13_2 x13_3 σ13)).trans (M_askOf_S13_k13 tm y13_1 i13 x13_2 x13_3 σ13)
theorem M_askOf_S13_k15 (tm : Nat) (y13_1 : Int32) (i13 : Nat) (x13_2 : Int32) (x13_3 : Int32) (σ13 : Nat → Nat → Int32) : M_askOf_S13_2 tm y13_1 i13 x13_2 x13_3 σ13 15 = σ13 15 := by
  unfold M_askOf_S13_2
  by_cases z1 : x13_3 ≤ ((M_askOf_L54 tm i13 x13_2 x13_3 y13_1 5 0 0 (M_askOf_L27 tm i13 x13_2 x13_3 y13_1 21 0 σ13)).1)
  · refine Eq.trans (congrFun (if_pos z1) 15) ?_
    exact (M_askOf_L54_k15 tm i13 x13_2 x13_3 y13_1 5 0 0 (M_askOf_L27 tm i13 x13_2 x13_3 y13_1 21 0 σ13)).trans (M_askOf_L27_k15 tm i13 x13_2 x13_3 y13_1 21 0 σ13)
  · refine Eq.trans (congrFun (if_neg z1) 15) ?_
    exact (M_askOf_L54_k15 tm i13 x13_2 x13_3 y13_1 5 0 0 (M_askOf_L27 tm i13 x13_2 x13_3 y13_1 21 0 σ13)).trans (M_askOf_L27_k15 tm i13 x13_2 x13_3 y13_1 21 0 σ13)
theorem M_askOf_L13_k15 (tm : Nat) (y13_1 : Int32) : ∀ (n13 i13 : Nat) (x13_2 : Int32) (x13_3 : Int32) (σ13 : Nat → Nat → Int32), (M_askOf_L13 tm y13_1 n13 i13 x13_2 x13_3 σ13).2.2 15 = σ13 15 := by
  intro n13
  induction n13 with
  | zero => intros; rfl
  | succ n13 ih => intro i13 x13_2 x13_3 σ13; exact (ih (i13 + 1) (M_askOf_S13_0 tm y13_1 i13 x13_2 x13_3 σ13) (M_askOf_S13_1 tm y13_1 i13 x13_2 x13_3 σ13) (M_askOf_S13_2 tm y13_1 i13 x13_2 x13_3 σ13)).trans (M_askOf_S13_k15 tm y13_1 i13 x13_2 x13_3 σ13)
theorem M_askOf_S13_k16 (tm : Nat) (y13_1 : Int32) (i13 : Nat) (x13_2 : Int32) (x13_3 : Int32) (σ13 : Nat → Nat → Int32) : M_askOf_S13_2 tm y13_1 i13 x13_2 x13_3 σ13 16 = σ13 16 := by
  unfold M_askOf_S13_2
  by_cases z1 : x13_3 ≤ ((M_askOf_L54 tm i13 x13_2 x13_3 y13_1 5 0 0 (M_askOf_L27 tm i13 x13_2 x13_3 y13_1 21 0 σ13)).1)
  · refine Eq.trans (congrFun (if_pos z1) 16) ?_
    exact (M_askOf_L54_k16 tm i13 x13_2 x13_3 y13_1 5 0 0 (M_askOf_L27 tm i13 x13_2 x13_3 y13_1 21 0 σ13)).trans (M_askOf_L27_k16 tm i13 x13_2 x13_3 y13_1 21 0 σ13)
  · refine Eq.trans (congrFun (if_neg z1) 16) ?_
    exact (M_askOf_L54_k16 tm i13 x13_2 x13_3 y13_1 5 0 0 (M_askOf_L27 tm i13 x13_2 x13_3 y13_1 21 0 σ13)).trans (M_askOf_L27_k16 tm i13 x13_2 x13_3 y13_1 21 0 σ13)
theorem M_askOf_L13_k16 (tm : Nat) (y13_1 : Int32) : ∀ (n13 i13 : Nat) (x13_2 : Int32) (x13_3 : Int32) (σ13 : Nat → Nat → Int32), (M_askOf_L13 tm y13_1 n13 i13 x13_2 x13_3 σ13).2.2 16 = σ13 16 := by
  intro n13
  induction n13 with
  | zero => intros; rfl
  | succ n13 ih => intro i13 x13_2 x13_3 σ13; exact (ih (i13 + 1) (M_askOf_S13_0 tm y13_1 i13 x13_2 x13_3 σ13) (M_askOf_S13_1 tm y13_1 i13 x13_2 x13_3 σ13) (M_askOf_S13_2 tm y13_1 i13 x13_2 x13_3 σ13)).trans (M_askOf_S13_k16 tm y13_1 i13 x13_2 x13_3 σ13)
theorem M_askOf_S13_k17 (tm : Nat) (y13_1 : Int32) (i13 : Nat) (x13_2 : Int32) (x13_3 : Int32) (σ13 : Nat → Nat → Int32) : M_askOf_S13_2 tm y13_1 i13 x13_2 x13_3 σ13 17 = σ13 17 := by
  unfold M_askOf_S13_2
  by_cases z1 : x13_3 ≤ ((M_askOf_L54 tm i13 x13_2 x13_3 y13_1 5 0 0 (M_askOf_L27 tm i13 x13_2 x13_3 y13_1 21 0 σ13)).1)
  · refine Eq.trans (congrFun (if_pos z1) 17) ?_
    exact (M_askOf_L54_k17 tm i13 x13_2 x13_3 y13_1 5 0 0 (M_askOf_L27 tm i13 x13_2 x13_3 y13_1 21 0 σ13)).trans (M_askOf_L27_k17 tm i13 x13_2 x13_3 y13_1 21 0 σ13)
  · refine Eq.trans (congrFun (if_neg z1) 17) ?_
    exact (M_askOf_L54_k17 tm i13 x13_2 x13_3 y13_1 5 0 0 (M_askOf_L27 tm i13 x13_2 x13_3 y13_1 21 0 σ13)).trans (M_askOf_L27_k17 tm i13 x13_2 x13_3 y13_1 21 0 σ13)
theorem M_askOf_L13_k17 (tm : Nat) (y13_1 : Int32) : ∀ (n13 i13 : Nat) (x13_2 : Int32) (x13_3 : Int32) (σ13 : Nat → Nat → Int32), (M_askOf_L13 tm y13_1 n13 i13 x13_2 x13_3 σ13).2.2 17 = σ13 17 := by
  intro n13
  induction n13 with
  | zero => intros; rfl
  | succ n13 ih => intro i13 x13_2 x13_3 σ13; exact (ih (i13 + 1) (M_askOf_S13_0 tm y13_1 i13 x13_2 x13_3 σ13) (M_askOf_S13_1 tm y13_1 i13 x13_2 x13_3 σ13) (M_askOf_S13_2 tm y13_1 i13 x13_2 x13_3 σ13)).trans (M_askOf_S13_k17 tm y13_1 i13 x13_2 x13_3 σ13)
theorem M_askOf_S13_k18 (tm : Nat) (y13_1 : Int32) (i13 : Nat) (x13_2 : Int32) (x13_3 : Int32) (σ13 : Nat → Nat → Int32) : M_askOf_S13_2 tm y13_1 i13 x13_2 x13_3 σ13 18 = σ13 18 := by
  unfold M_askOf_S13_2
  by_cases z1 : x13_3 ≤ ((M_askOf_L54 tm i13 x13_2 x13_3 y13_1 5 0 0 (M_askOf_L27 tm i13 x13_2 x13_3 y13_1 21 0 σ13)).1)
  · refine Eq.trans (congrFun (if_pos z1) 18) ?_
    exact (M_askOf_L54_k18 tm i13 x13_2 x13_3 y13_1 5 0 0 (M_askOf_L27 tm i13 x13_2 x13_3 y13_1 21 0 σ13)).trans (M_askOf_L27_k18 tm i13 x13_2 x13_3 y13_1 21 0 σ13)
  · refine Eq.trans (congrFun (if_neg z1) 18) ?_
    exact (M_askOf_L54_k18 tm i13 x13_2 x13_3 y13_1 5 0 0 (M_askOf_L27 tm i13 x13_2 x13_3 y13_1 21 0 σ13)).trans (M_askOf_L27_k18 tm i13 x13_2 x13_3 y13_1 21 0 σ13)
theorem M_askOf_L13_k18 (tm : Nat) (y13_1 : Int32) : ∀ (n13 i13 : Nat) (x13_2 : Int32) (x13_3 : Int32) (σ13 : Nat → Nat → Int32), (M_askOf_L13 tm y13_1 n13 i13 x13_2 x13_3 σ13).2.2 18 = σ13 18 := by
  intro n13
  induction n13 with
  | zero => intros; rfl
  | succ n13 ih => intro i13 x13_2 x13_3 σ13; exact (ih (i13 + 1) (M_askOf_S13_0 tm y13_1 i13 x13_2 x13_3 σ13) (M_askOf_S13_1 tm y13_1 i13 x13_2 x13_3 σ13) (M_askOf_S13_2 tm y13_1 i13 x13_2 x13_3 σ13)).trans (M_askOf_S13_k18 tm y13_1 i13 x13_2 x13_3 σ13)
theorem M_askOf_S13_k19 (tm : Nat) (y13_1 : Int32) (i13 : Nat) (x13_2 : Int32) (x13_3 : Int32) (σ13 : Nat → Nat → Int32) : M_askOf_S13_2 tm y13_1 i13 x13_2 x13_3 σ13 19 = σ13 19 := by
  unfold M_askOf_S13_2
  by_cases z1 : x13_3 ≤ ((M_askOf_L54 tm i13 x13_2 x13_3 y13_1 5 0 0 (M_askOf_L27 tm i13 x13_2 x13_3 y13_1 21 0 σ13)).1)
  · refine Eq.trans (congrFun (if_pos z1) 19) ?_
    exact (M_askOf_L54_k19 tm i13 x13_2 x13_3 y13_1 5 0 0 (M_askOf_L27 tm i13 x13_2 x13_3 y13_1 21 0 σ13)).trans (M_askOf_L27_k19 tm i13 x13_2 x13_3 y13_1 21 0 σ13)
  · refine Eq.trans (congrFun (if_neg z1) 19) ?_
    exact (M_askOf_L54_k19 tm i13 x13_2 x13_3 y13_1 5 0 0 (M_askOf_L27 tm i13 x13_2 x13_3 y13_1 21 0 σ13)).trans (M_askOf_L27_k19 tm i13 x13_2 x13_3 y13_1 21 0 σ13)
theorem M_askOf_L13_k19 (tm : Nat) (y13_1 : Int32) : ∀ (n13 i13 : Nat) (x13_2 : Int32) (x13_3 : Int32) (σ13 : Nat → Nat → Int32), (M_askOf_L13 tm y13_1 n13 i13 x13_2 x13_3 σ13).2.2 19 = σ13 19 := by
  intro n13
  induction n13 with
  | zero => intros; rfl
  | succ n13 ih => intro i13 x13_2 x13_3 σ13; exact (ih (i13 + 1) (M_askOf_S13_0 tm y13_1 i13 x13_2 x13_3 σ13) (M_askOf_S13_1 tm y13_1 i13 x13_2 x13_3 σ13) (M_askOf_S13_2 tm y13_1 i13 x13_2 x13_3 σ13)).trans (M_askOf_S13_k19 tm y13_1 i13 x13_2 x13_3 σ13)
def M_askOf_r (σ : Nat → Nat → Int32) (tm : Nat) : Int32 := if (M_whichOf_r σ tm) = 0 then (-1) else ((M_askOf_L13 tm (M_whichOf_r σ tm) (10 - 1) 1 (-1) 6 σ).1)
def M_askOf_s (σ : Nat → Nat → Int32) (tm : Nat) : Nat → Nat → Int32 := if (M_whichOf_r σ tm) = 0 then σ else ((M_askOf_L13 tm (M_whichOf_r σ tm) (10 - 1) 1 (-1) 6 σ).2.2)
theorem M_askOf_s_k0 (σ : Nat → Nat → Int32) (tm : Nat) : M_askOf_s σ tm 0 = σ 0 := by
  unfold M_askOf_s
  by_cases z1 : (M_whichOf_r σ tm) = 0
  · refine Eq.trans (congrFun (if_pos z1) 0) ?_
    exact rfl
  · refine Eq.trans (congrFun (if_neg z1) 0) ?_
    exact M_askOf_L13_k0 tm (M_whichOf_r σ tm) (10 - 1) 1 (-1) 6 σ
theorem M_askOf_s_k1 (σ : Nat → Nat → Int32) (tm : Nat) : M_askOf_s σ tm 1 = σ 1 := by
  unfold M_askOf_s
  by_cases z1 : (M_whichOf_r σ tm) = 0
  · refine Eq.trans (congrFun (if_pos z1) 1) ?_
    exact rfl
  · refine Eq.trans (congrFun (if_neg z1) 1) ?_
    exact M_askOf_L13_k1 tm (M_whichOf_r σ tm) (10 - 1) 1 (-1) 6 σ
theorem M_askOf_s_k2 (σ : Nat → Nat → Int32) (tm : Nat) : M_askOf_s σ tm 2 = σ 2 := by
  unfold M_askOf_s
  by_cases z1 : (M_whichOf_r σ tm) = 0
  · refine Eq.trans (congrFun (if_pos z1) 2) ?_
    exact rfl
  · refine Eq.trans (congrFun (if_neg z1) 2) ?_
    exact M_askOf_L13_k2 tm (M_whichOf_r σ tm) (10 - 1) 1 (-1) 6 σ
theorem M_askOf_s_k3 (σ : Nat → Nat → Int32) (tm : Nat) : M_askOf_s σ tm 3 = σ 3 := by
  unfold M_askOf_s
  by_cases z1 : (M_whichOf_r σ tm) = 0
  · refine Eq.trans (congrFun (if_pos z1) 3) ?_
    exact rfl
  · refine Eq.trans (congrFun (if_neg z1) 3) ?_
    exact M_askOf_L13_k3 tm (M_whichOf_r σ tm) (10 - 1) 1 (-1) 6 σ
theorem M_askOf_s_k4 (σ : Nat → Nat → Int32) (tm : Nat) : M_askOf_s σ tm 4 = σ 4 := by
  unfold M_askOf_s
  by_cases z1 : (M_whichOf_r σ tm) = 0
  · refine Eq.trans (congrFun (if_pos z1) 4) ?_
    exact rfl
  · refine Eq.trans (congrFun (if_neg z1) 4) ?_
    exact M_askOf_L13_k4 tm (M_whichOf_r σ tm) (10 - 1) 1 (-1) 6 σ
theorem M_askOf_s_k5 (σ : Nat → Nat → Int32) (tm : Nat) : M_askOf_s σ tm 5 = σ 5 := by
  unfold M_askOf_s
  by_cases z1 : (M_whichOf_r σ tm) = 0
  · refine Eq.trans (congrFun (if_pos z1) 5) ?_
    exact rfl
  · refine Eq.trans (congrFun (if_neg z1) 5) ?_
    exact M_askOf_L13_k5 tm (M_whichOf_r σ tm) (10 - 1) 1 (-1) 6 σ
theorem M_askOf_s_k6 (σ : Nat → Nat → Int32) (tm : Nat) : M_askOf_s σ tm 6 = σ 6 := by
  unfold M_askOf_s
  by_cases z1 : (M_whichOf_r σ tm) = 0
  · refine Eq.trans (congrFun (if_pos z1) 6) ?_
    exact rfl
  · refine Eq.trans (congrFun (if_neg z1) 6) ?_
    exact M_askOf_L13_k6 tm (M_whichOf_r σ tm) (10 - 1) 1 (-1) 6 σ
theorem M_askOf_s_k7 (σ : Nat → Nat → Int32) (tm : Nat) : M_askOf_s σ tm 7 = σ 7 := by
  unfold M_askOf_s
  by_cases z1 : (M_whichOf_r σ tm) = 0
  · refine Eq.trans (congrFun (if_pos z1) 7) ?_
    exact rfl
  · refine Eq.trans (congrFun (if_neg z1) 7) ?_
    exact M_askOf_L13_k7 tm (M_whichOf_r σ tm) (10 - 1) 1 (-1) 6 σ
theorem M_askOf_s_k8 (σ : Nat → Nat → Int32) (tm : Nat) : M_askOf_s σ tm 8 = σ 8 := by
  unfold M_askOf_s
  by_cases z1 : (M_whichOf_r σ tm) = 0
  · refine Eq.trans (congrFun (if_pos z1) 8) ?_
    exact rfl
  · refine Eq.trans (congrFun (if_neg z1) 8) ?_
    exact M_askOf_L13_k8 tm (M_whichOf_r σ tm) (10 - 1) 1 (-1) 6 σ
theorem M_askOf_s_k9 (σ : Nat → Nat → Int32) (tm : Nat) : M_askOf_s σ tm 9 = σ 9 := by
  unfold M_askOf_s
  by_cases z1 : (M_whichOf_r σ tm) = 0
  · refine Eq.trans (congrFun (if_pos z1) 9) ?_
    exact rfl
  · refine Eq.trans (congrFun (if_neg z1) 9) ?_
    exact M_askOf_L13_k9 tm (M_whichOf_r σ tm) (10 - 1) 1 (-1) 6 σ
theorem M_askOf_s_k10 (σ : Nat → Nat → Int32) (tm : Nat) : M_askOf_s σ tm 10 = σ 10 := by
  unfold M_askOf_s
  by_cases z1 : (M_whichOf_r σ tm) = 0
  · refine Eq.trans (congrFun (if_pos z1) 10) ?_
    exact rfl
  · refine Eq.trans (congrFun (if_neg z1) 10) ?_
    exact M_askOf_L13_k10 tm (M_whichOf_r σ tm) (10 - 1) 1 (-1) 6 σ
theorem M_askOf_s_k11 (σ : Nat → Nat → Int32) (tm : Nat) : M_askOf_s σ tm 11 = σ 11 := by
  unfold M_askOf_s
  by_cases z1 : (M_whichOf_r σ tm) = 0
  · refine Eq.trans (congrFun (if_pos z1) 11) ?_
    exact rfl
  · refine Eq.trans (congrFun (if_neg z1) 11) ?_
    exact M_askOf_L13_k11 tm (M_whichOf_r σ tm) (10 - 1) 1 (-1) 6 σ
theorem M_askOf_s_k12 (σ : Nat → Nat → Int32) (tm : Nat) : M_askOf_s σ tm 12 = σ 12 := by
  unfold M_askOf_s
  by_cases z1 : (M_whichOf_r σ tm) = 0
  · refine Eq.trans (congrFun (if_pos z1) 12) ?_
    exact rfl
  · refine Eq.trans (congrFun (if_neg z1) 12) ?_
    exact M_askOf_L13_k12 tm (M_whichOf_r σ tm) (10 - 1) 1 (-1) 6 σ
theorem M_askOf_s_k13 (σ : Nat → Nat → Int32) (tm : Nat) : M_askOf_s σ tm 13 = σ 13 := by
  unfold M_askOf_s
  by_cases z1 : (M_whichOf_r σ tm) = 0
  · refine Eq.trans (congrFun (if_pos z1) 13) ?_
    exact rfl
  · refine Eq.trans (congrFun (if_neg z1) 13) ?_
    exact M_askOf_L13_k13 tm (M_whichOf_r σ tm) (10 - 1) 1 (-1) 6 σ
theorem M_askOf_s_k15 (σ : Nat → Nat → Int32) (tm : Nat) : M_askOf_s σ tm 15 = σ 15 := by
  unfold M_askOf_s
  by_cases z1 : (M_whichOf_r σ tm) = 0
  · refine Eq.trans (congrFun (if_pos z1) 15) ?_
    exact rfl
  · refine Eq.trans (congrFun (if_neg z1) 15) ?_
    exact M_askOf_L13_k15 tm (M_whichOf_r σ tm) (10 - 1) 1 (-1) 6 σ
theorem M_askOf_s_k16 (σ : Nat → Nat → Int32) (tm : Nat) : M_askOf_s σ tm 16 = σ 16 := by
  unfold M_askOf_s
  by_cases z1 : (M_whichOf_r σ tm) = 0
  · refine Eq.trans (congrFun (if_pos z1) 16) ?_
    exact rfl
  · refine Eq.trans (congrFun (if_neg z1) 16) ?_
    exact M_askOf_L13_k16 tm (M_whichOf_r σ tm) (10 - 1) 1 (-1) 6 σ
theorem M_askOf_s_k17 (σ : Nat → Nat → Int32) (tm : Nat) : M_askOf_s σ tm 17 = σ 17 := by
  unfold M_askOf_s
  by_cases z1 : (M_whichOf_r σ tm) = 0
  · refine Eq.trans (congrFun (if_pos z1) 17) ?_
    exact rfl
  · refine Eq.trans (congrFun (if_neg z1) 17) ?_
    exact M_askOf_L13_k17 tm (M_whichOf_r σ tm) (10 - 1) 1 (-1) 6 σ
theorem M_askOf_s_k18 (σ : Nat → Nat → Int32) (tm : Nat) : M_askOf_s σ tm 18 = σ 18 := by
  unfold M_askOf_s
  by_cases z1 : (M_whichOf_r σ tm) = 0
  · refine Eq.trans (congrFun (if_pos z1) 18) ?_
    exact rfl
  · refine Eq.trans (congrFun (if_neg z1) 18) ?_
    exact M_askOf_L13_k18 tm (M_whichOf_r σ tm) (10 - 1) 1 (-1) 6 σ
theorem M_askOf_s_k19 (σ : Nat → Nat → Int32) (tm : Nat) : M_askOf_s σ tm 19 = σ 19 := by
  unfold M_askOf_s
  by_cases z1 : (M_whichOf_r σ tm) = 0
  · refine Eq.trans (congrFun (if_pos z1) 19) ?_
    exact rfl
  · refine Eq.trans (congrFun (if_neg z1) 19) ?_
    exact M_askOf_L13_k19 tm (M_whichOf_r σ tm) (10 - 1) 1 (-1) 6 σ
set_option maxHeartbeats 4000000 in
set_option maxRecDepth 100000 in
theorem c_M_askOf (l : Launch) (D : va_G) (cI : ClassId) (a : Nat → Nat) (σ : Nat → Nat → Int32) (h : Int64) (tm : Nat) (ht0 : σ 0 22 = nI tm) (ht0b : tm ≤ 6) : gI l D [(cI, .int)] yX12_askOf wsX12_askOf 3 [.ref (a 0)] (wM cI a σ h) (M_askOf_r σ tm) (wM cI a (M_askOf_s σ tm) h) := by
  refine g_start (cc := cX12_askOf) (maxL := 8) (ret := some .int) (Qc := gQi D [(cI, .int)] (M_askOf_r σ tm) (wM cI a (M_askOf_s σ tm) h)) (by decide) rfl (Nat.le_of_ble_eq_true rfl) ?_
  intro p e s m below meth C A ls S hr hlk hw hl
  obtain ⟨hx, hb, hml, hown, hts⟩ := id S
  have hinX12 : ∀ x ∈ u_ws RX12 TX12 38, x ∈ wsX12_askOf := fun x h => List.mem_cons_of_mem _ (List.mem_append_right _ h)
  have lk0 : Cond.fieldLink RX12 49 "CowsOwedModel" "parts" "[I" ∈ wsX12_askOf := by decide +kernel
  have hl : lv_has ls 8 [(0, .ref (a 0))] := hl
  refine lv_aload_n hx hb dX12_askOf_0 rfl (lv_at hl 0 rfl) ?_
  refine g_callVi S hw (c_M_whichOf l D cI a σ h tm (ht0) (by omega)) gX12_askOf_X12_whichOf rfl 0 rfl rfl 0 rfl (by decide +kernel) (by decide) (by decide) hl.1 rfl (Nat.le_of_ble_eq_true rfl) dX12_askOf_1 (fun H locs hw => ?_)
  refine lv_istore_n (lv' := [(1, .int (M_whichOf_r σ tm)), (0, .ref (a 0))]) hx hb dX12_askOf_4 rfl hl (by decide) rfl (fun ls hl => ?_)
  refine lv_iconst (v := (-1)) hx hb dX12_askOf_5 (by decide) ?_
  refine lv_istore_n (lv' := [(2, .int (-1)), (1, .int (M_whichOf_r σ tm)), (0, .ref (a 0))]) hx hb dX12_askOf_6 rfl hl (by decide) rfl (fun ls hl => ?_)
  refine lv_bipush (v := 6) hx hb dX12_askOf_7 (by decide) ?_
  refine lv_istore_n (lv' := [(3, .int 6), (2, .int (-1)), (1, .int (M_whichOf_r σ tm)), (0, .ref (a 0))]) hx hb dX12_askOf_9 rfl hl (by decide) rfl (fun ls hl => ?_)
  refine lv_iconst (v := 1) hx hb dX12_askOf_10 (by decide) ?_
  refine lv_istore (lv' := [(4, .int 1), (3, .int 6), (2, .int (-1)), (1, .int (M_whichOf_r σ tm)), (0, .ref (a 0))]) hx hb dX12_askOf_11 hl (by decide) rfl (fun ls hl => ?_)
  by_cases c_1 : (M_whichOf_r σ tm) = 0
  · refine lv_iload hx hb dX12_askOf_13 (lv_at hl 0 rfl) ?_
    refine lv_bipush (v := 10) hx hb dX12_askOf_15 (by decide) ?_
    refine lv_icmp_ge hx hb (tgt := 149) dX12_askOf_17 (by decide) (fun c_x => absurd c_x (by decide)) (fun c_x => ?_)
    refine lv_iload_n hx hb dX12_askOf_20 rfl (lv_at hl 3 rfl) ?_
    refine lv_if_eq hx hb (tgt := 149) dX12_askOf_21 (by decide) (fun c_x => ?_) (fun c_x => absurd c_1 c_x)
    refine lv_iload_n hx hb dX12_askOf_149 rfl (lv_at hl 2 rfl) ?_
    exact g_iret S hr hlk hw (by simp only [M_askOf_r, if_pos c_1]) (by simp only [M_askOf_s, if_pos c_1]) dX12_askOf_150
  · have L13 : ∀ (n13 i13 : Nat) (x13_2 : Int32) (x13_3 : Int32) (σ13 : Nat → Nat → Int32) (H : Heap) (locs : List Loc) (ls : Array Slot), i13 + n13 = 10 → 1 ≤ i13 → σ13 0 = σ 0 → M_askOf_L13 tm (M_whichOf_r σ tm) n13 i13 x13_2 x13_3 σ13 = M_askOf_L13 tm (M_whichOf_r σ tm) (10 - 1) 1 (-1) 6 σ → gw D [(cI, .int)] A s H locs (wM cI a σ13 h) → lv_has ls 8 [(4, .int (nI i13)), (3, .int x13_3), (2, .int x13_2), (1, .int (M_whichOf_r σ tm)), (0, .ref (a 0))] → W p l e (gR 3) s m ([.ref (a 0)] : List Value).toArray below meth C H locs 0 0 (MQ below (gQi D [(cI, .int)] (M_askOf_r σ tm) (wM cI a (M_askOf_s σ tm) h) A) ([.ref (a 0)] : List Value).toArray s 0 0 A) (F0 m 13 ls []) := by
      intro n13
      induction n13 with
      | zero =>
        intro i13 x13_2 x13_3 σ13 H locs ls hi13 hj13 k13_0 hF13 hw hl
        refine lv_iload hx hb dX12_askOf_13 (lv_at hl 0 rfl) ?_
        refine lv_bipush (v := 10) hx hb dX12_askOf_15 (by decide) ?_
        refine ln_ge (x := i13) (y := 10) hx hb (by omega) (by omega) (tgt := 149) dX12_askOf_17 (by decide) (fun c_x => ?_) (fun c_x => absurd (by omega) c_x)
        have hz13 : 10 = i13 := by omega
        subst hz13
        have e13_0 : (M_askOf_L13 tm (M_whichOf_r σ tm) (10 - 1) 1 (-1) 6 σ).1 = x13_2 := (congrArg (fun z => z.1) hF13).symm
        have e13_1 : (M_askOf_L13 tm (M_whichOf_r σ tm) (10 - 1) 1 (-1) 6 σ).2.1 = x13_3 := (congrArg (fun z => z.2.1) hF13).symm
        have e13_2 : (M_askOf_L13 tm (M_whichOf_r σ tm) (10 - 1) 1 (-1) 6 σ).2.2 = σ13 := (congrArg (fun z => z.2.2) hF13).symm
        subst e13_0
        subst e13_1
        subst e13_2
        refine lv_iload_n hx hb dX12_askOf_149 rfl (lv_at hl 2 rfl) ?_
        exact g_iret S hr hlk hw (by simp only [M_askOf_r, if_neg c_1]) (by simp only [M_askOf_s, if_neg c_1]) dX12_askOf_150
      | succ n13 ih13 =>
        intro i13 x13_2 x13_3 σ13 H locs ls hi13 hj13 k13_0 hF13 hw hl
        refine lv_iload hx hb dX12_askOf_13 (lv_at hl 0 rfl) ?_
        refine lv_bipush (v := 10) hx hb dX12_askOf_15 (by decide) ?_
        refine ln_ge (x := i13) (y := 10) hx hb (by omega) (by omega) (tgt := 149) dX12_askOf_17 (by decide) (fun c_x => absurd c_x (by omega)) (fun c_x => ?_)
        refine lv_iload_n hx hb dX12_askOf_20 rfl (lv_at hl 3 rfl) ?_
        refine lv_if_eq hx hb (tgt := 149) dX12_askOf_21 (by decide) (fun c_x => absurd c_x c_1) (fun c_x => ?_)
        refine lv_iconst (v := 0) hx hb dX12_askOf_24 (by decide) ?_
        refine lv_istore (lv' := [(5, .int 0), (4, .int (nI i13)), (3, .int x13_3), (2, .int x13_2), (1, .int (M_whichOf_r σ tm)), (0, .ref (a 0))]) hx hb dX12_askOf_25 hl (by decide) rfl (fun ls hl => ?_)
        have L27 : ∀ (n27 i27 : Nat) (σ27 : Nat → Nat → Int32) (H : Heap) (locs : List Loc) (ls : Array Slot), i27 + n27 = 21 → σ27 0 = σ13 0 → M_askOf_L27 tm i13 x13_2 x13_3 (M_whichOf_r σ tm) n27 i27 σ27 = M_askOf_L27 tm i13 x13_2 x13_3 (M_whichOf_r σ tm) 21 0 σ13 → gw D [(cI, .int)] A s H locs (wM cI a σ27 h) → lv_has ls 8 [(5, .int (nI i27)), (4, .int (nI i13)), (3, .int x13_3), (2, .int x13_2), (1, .int (M_whichOf_r σ tm)), (0, .ref (a 0))] → W p l e (gR 3) s m ([.ref (a 0)] : List Value).toArray below meth C H locs 0 0 (MQ below (gQi D [(cI, .int)] (M_askOf_r σ tm) (wM cI a (M_askOf_s σ tm) h) A) ([.ref (a 0)] : List Value).toArray s 0 0 A) (F0 m 27 ls []) := by
          intro n27
          induction n27 with
          | zero =>
            intro i27 σ27 H locs ls hi27 k27_0 hF27 hw hl
            refine lv_iload hx hb dX12_askOf_27 (lv_at hl 0 rfl) ?_
            refine lv_bipush (v := 21) hx hb dX12_askOf_29 (by decide) ?_
            refine ln_ge (x := i27) (y := 21) hx hb (by omega) (by omega) (tgt := 48) dX12_askOf_31 (by decide) (fun c_x => ?_) (fun c_x => absurd (by omega) c_x)
            have hz27 : 21 = i27 := by omega
            subst hz27
            have e27_0 : (M_askOf_L27 tm i13 x13_2 x13_3 (M_whichOf_r σ tm) 21 0 σ13) = σ27 := hF27.symm
            subst e27_0
            refine lv_iconst (v := 0) hx hb dX12_askOf_48 (by decide) ?_
            refine lv_istore (lv' := [(5, .int 0), (4, .int (nI i13)), (3, .int x13_3), (2, .int x13_2), (1, .int (M_whichOf_r σ tm)), (0, .ref (a 0))]) hx hb dX12_askOf_49 hl (by decide) rfl (fun ls hl => ?_)
            refine lv_iconst (v := 0) hx hb dX12_askOf_51 (by decide) ?_
            refine lv_istore (lv' := [(6, .int 0), (5, .int 0), (4, .int (nI i13)), (3, .int x13_3), (2, .int x13_2), (1, .int (M_whichOf_r σ tm)), (0, .ref (a 0))]) hx hb dX12_askOf_52 hl (by decide) rfl (fun ls hl => ?_)
            have L54 : ∀ (n54 i54 : Nat) (x54_5 : Int32) (σ54 : Nat → Nat → Int32) (H : Heap) (locs : List Loc) (ls : Array Slot), i54 + n54 = 5 → σ54 0 = (M_askOf_L27 tm i13 x13_2 x13_3 (M_whichOf_r σ tm) 21 0 σ13) 0 → M_askOf_L54 tm i13 x13_2 x13_3 (M_whichOf_r σ tm) n54 i54 x54_5 σ54 = M_askOf_L54 tm i13 x13_2 x13_3 (M_whichOf_r σ tm) 5 0 0 (M_askOf_L27 tm i13 x13_2 x13_3 (M_whichOf_r σ tm) 21 0 σ13) → gw D [(cI, .int)] A s H locs (wM cI a σ54 h) → lv_has ls 8 [(6, .int (nI i54)), (5, .int x54_5), (4, .int (nI i13)), (3, .int x13_3), (2, .int x13_2), (1, .int (M_whichOf_r σ tm)), (0, .ref (a 0))] → W p l e (gR 3) s m ([.ref (a 0)] : List Value).toArray below meth C H locs 0 0 (MQ below (gQi D [(cI, .int)] (M_askOf_r σ tm) (wM cI a (M_askOf_s σ tm) h) A) ([.ref (a 0)] : List Value).toArray s 0 0 A) (F0 m 54 ls []) := by
              intro n54
              induction n54 with
              | zero =>
                intro i54 x54_5 σ54 H locs ls hi54 k54_0 hF54 hw hl
                refine lv_iload hx hb dX12_askOf_54 (lv_at hl 0 rfl) ?_
                refine lv_iconst (v := 5) hx hb dX12_askOf_56 (by decide) ?_
                refine ln_ge (x := i54) (y := 5) hx hb (by omega) (by omega) (tgt := 117) dX12_askOf_57 (by decide) (fun c_x => ?_) (fun c_x => absurd (by omega) c_x)
                have hz54 : 5 = i54 := by omega
                subst hz54
                have e54_0 : (M_askOf_L54 tm i13 x13_2 x13_3 (M_whichOf_r σ tm) 5 0 0 (M_askOf_L27 tm i13 x13_2 x13_3 (M_whichOf_r σ tm) 21 0 σ13)).1 = x54_5 := (congrArg (fun z => z.1) hF54).symm
                have e54_1 : (M_askOf_L54 tm i13 x13_2 x13_3 (M_whichOf_r σ tm) 5 0 0 (M_askOf_L27 tm i13 x13_2 x13_3 (M_whichOf_r σ tm) 21 0 σ13)).2 = σ54 := (congrArg (fun z => z.2) hF54).symm
                subst e54_0
                subst e54_1
                refine lv_iload hx hb dX12_askOf_117 (lv_at hl 1 rfl) ?_
                refine lv_iload_n hx hb dX12_askOf_119 rfl (lv_at hl 3 rfl) ?_
                refine lv_icmp_ge hx hb (tgt := 128) dX12_askOf_120 (by decide) (fun c_11 => ?_) (fun c_11 => ?_)
                · refine lv_iload_n hx hb dX12_askOf_128 rfl (lv_at hl 4 rfl) ?_
                  refine lv_istore_n (lv' := [(2, .int x13_2), (6, .int 5), (5, .int ((M_askOf_L54 tm i13 x13_2 x13_3 (M_whichOf_r σ tm) 5 0 0 (M_askOf_L27 tm i13 x13_2 x13_3 (M_whichOf_r σ tm) 21 0 σ13)).1)), (4, .int (nI i13)), (3, .int x13_3), (1, .int (M_whichOf_r σ tm)), (0, .ref (a 0))]) hx hb dX12_askOf_129 rfl hl (by decide) rfl (fun ls hl => ?_)
                  refine lv_iload hx hb dX12_askOf_130 (lv_at hl 2 rfl) ?_
                  refine lv_iload_n hx hb dX12_askOf_132 rfl (lv_at hl 4 rfl) ?_
                  refine lv_icmp_ge hx hb (tgt := 141) dX12_askOf_133 (by decide) (fun c_x => ?_) (fun c_x => absurd c_11 c_x)
                  refine lv_iload_n hx hb dX12_askOf_141 rfl (lv_at hl 4 rfl) ?_
                  refine lv_istore_n (lv' := [(3, .int x13_3), (2, .int x13_2), (6, .int 5), (5, .int ((M_askOf_L54 tm i13 x13_2 x13_3 (M_whichOf_r σ tm) 5 0 0 (M_askOf_L27 tm i13 x13_2 x13_3 (M_whichOf_r σ tm) 21 0 σ13)).1)), (4, .int (nI i13)), (1, .int (M_whichOf_r σ tm)), (0, .ref (a 0))]) hx hb dX12_askOf_142 rfl hl (by decide) rfl (fun ls hl => ?_)
                  refine lv_iinc (v := nI (i13 + 1)) (lv' := [(4, .int (nI (i13 + 1))), (3, .int x13_3), (2, .int x13_2), (6, .int 5), (5, .int ((M_askOf_L54 tm i13 x13_2 x13_3 (M_whichOf_r σ tm) 5 0 0 (M_askOf_L27 tm i13 x13_2 x13_3 (M_whichOf_r σ tm) 21 0 σ13)).1)), (1, .int (M_whichOf_r σ tm)), (0, .ref (a 0))]) hx hb dX12_askOf_143 hl (k := 4) rfl (nI_1 _) (by decide) rfl (fun ls hl => ?_)
                  refine lv_goto (tgt := 13) hx hb dX12_askOf_146 (by decide) ?_
                  exact ih13 (i13 + 1) x13_2 x13_3 ((M_askOf_L54 tm i13 x13_2 x13_3 (M_whichOf_r σ tm) 5 0 0 (M_askOf_L27 tm i13 x13_2 x13_3 (M_whichOf_r σ tm) 21 0 σ13)).2) _ _ _ (by omega) (by omega) ((M_askOf_L54_k0 tm i13 x13_2 x13_3 (M_whichOf_r σ tm) 5 0 0 (M_askOf_L27 tm i13 x13_2 x13_3 (M_whichOf_r σ tm) 21 0 σ13)).trans ((M_askOf_L27_k0 tm i13 x13_2 x13_3 (M_whichOf_r σ tm) 21 0 σ13).trans (k13_0))) (by have q := hF13; simp only [M_askOf_L13, M_askOf_S13_0, M_askOf_S13_1, M_askOf_S13_2, if_pos c_11] at q; exact q) hw (lv_sub hl [0, 1, 2, 5, 6] rfl)
                · refine lv_iload hx hb dX12_askOf_123 (lv_at hl 2 rfl) ?_
                  refine lv_goto (tgt := 129) hx hb dX12_askOf_125 (by decide) ?_
                  refine lv_istore_n (lv' := [(2, .int (nI i13)), (6, .int 5), (5, .int ((M_askOf_L54 tm i13 x13_2 x13_3 (M_whichOf_r σ tm) 5 0 0 (M_askOf_L27 tm i13 x13_2 x13_3 (M_whichOf_r σ tm) 21 0 σ13)).1)), (4, .int (nI i13)), (3, .int x13_3), (1, .int (M_whichOf_r σ tm)), (0, .ref (a 0))]) hx hb dX12_askOf_129 rfl hl (by decide) rfl (fun ls hl => ?_)
                  refine lv_iload hx hb dX12_askOf_130 (lv_at hl 2 rfl) ?_
                  refine lv_iload_n hx hb dX12_askOf_132 rfl (lv_at hl 4 rfl) ?_
                  refine lv_icmp_ge hx hb (tgt := 141) dX12_askOf_133 (by decide) (fun c_x => absurd c_x c_11) (fun c_x => ?_)
                  refine lv_iload hx hb dX12_askOf_136 (lv_at hl 2 rfl) ?_
                  refine lv_goto (tgt := 142) hx hb dX12_askOf_138 (by decide) ?_
                  refine lv_istore_n (lv' := [(3, .int ((M_askOf_L54 tm i13 x13_2 x13_3 (M_whichOf_r σ tm) 5 0 0 (M_askOf_L27 tm i13 x13_2 x13_3 (M_whichOf_r σ tm) 21 0 σ13)).1)), (2, .int (nI i13)), (6, .int 5), (5, .int ((M_askOf_L54 tm i13 x13_2 x13_3 (M_whichOf_r σ tm) 5 0 0 (M_askOf_L27 tm i13 x13_2 x13_3 (M_whichOf_r σ tm) 21 0 σ13)).1)), (4, .int (nI i13)), (1, .int (M_whichOf_r σ tm)), (0, .ref (a 0))]) hx hb dX12_askOf_142 rfl hl (by decide) rfl (fun ls hl => ?_)
                  refine lv_iinc (v := nI (i13 + 1)) (lv' := [(4, .int (nI (i13 + 1))), (3, .int ((M_askOf_L54 tm i13 x13_2 x13_3 (M_whichOf_r σ tm) 5 0 0 (M_askOf_L27 tm i13 x13_2 x13_3 (M_whichOf_r σ tm) 21 0 σ13)).1)), (2, .int (nI i13)), (6, .int 5), (5, .int ((M_askOf_L54 tm i13 x13_2 x13_3 (M_whichOf_r σ tm) 5 0 0 (M_askOf_L27 tm i13 x13_2 x13_3 (M_whichOf_r σ tm) 21 0 σ13)).1)), (1, .int (M_whichOf_r σ tm)), (0, .ref (a 0))]) hx hb dX12_askOf_143 hl (k := 4) rfl (nI_1 _) (by decide) rfl (fun ls hl => ?_)
                  refine lv_goto (tgt := 13) hx hb dX12_askOf_146 (by decide) ?_
                  exact ih13 (i13 + 1) (nI i13) ((M_askOf_L54 tm i13 x13_2 x13_3 (M_whichOf_r σ tm) 5 0 0 (M_askOf_L27 tm i13 x13_2 x13_3 (M_whichOf_r σ tm) 21 0 σ13)).1) ((M_askOf_L54 tm i13 x13_2 x13_3 (M_whichOf_r σ tm) 5 0 0 (M_askOf_L27 tm i13 x13_2 x13_3 (M_whichOf_r σ tm) 21 0 σ13)).2) _ _ _ (by omega) (by omega) ((M_askOf_L54_k0 tm i13 x13_2 x13_3 (M_whichOf_r σ tm) 5 0 0 (M_askOf_L27 tm i13 x13_2 x13_3 (M_whichOf_r σ tm) 21 0 σ13)).trans ((M_askOf_L27_k0 tm i13 x13_2 x13_3 (M_whichOf_r σ tm) 21 0 σ13).trans (k13_0))) (by have q := hF13; simp only [M_askOf_L13, M_askOf_S13_0, M_askOf_S13_1, M_askOf_S13_2, if_neg c_11] at q; exact q) hw (lv_sub hl [0, 1, 2, 5, 6] rfl)
              | succ n54 ih54 =>
                intro i54 x54_5 σ54 H locs ls hi54 k54_0 hF54 hw hl
                refine lv_iload hx hb dX12_askOf_54 (lv_at hl 0 rfl) ?_
                refine lv_iconst (v := 5) hx hb dX12_askOf_56 (by decide) ?_
                refine ln_ge (x := i54) (y := 5) hx hb (by omega) (by omega) (tgt := 117) dX12_askOf_57 (by decide) (fun c_x => absurd c_x (by omega)) (fun c_x => ?_)
                refine lv_iload hx hb dX12_askOf_60 (lv_at hl 0 rfl) ?_
                refine lv_iload hx hb dX12_askOf_62 (lv_at hl 2 rfl) ?_
                refine g_callSi S hw (c_M_asksBy l D [(cI, .int)] (wM cI a σ54 h) (nI i54) (nI i13)) gX12_askOf_X12_asksBy rfl 2 rfl (by decide +kernel) (by decide) (by decide) hl.1 rfl (Nat.le_of_ble_eq_true rfl) dX12_askOf_64 (fun H locs hw => ?_)
                refine lv_istore (lv' := [(7, .int (M_asksBy_r (nI i54) (nI i13))), (6, .int (nI i54)), (5, .int x54_5), (4, .int (nI i13)), (3, .int x13_3), (2, .int x13_2), (1, .int (M_whichOf_r σ tm)), (0, .ref (a 0))]) hx hb dX12_askOf_67 hl (by decide) rfl (fun ls hl => ?_)
                obtain ⟨e1, b1⟩ := M_asksBy_nat (k := i54) (r := i13) (by omega) (by omega) (by omega)
                have hl : lv_has ls 8 [(7, .int (nI (asksN i54 i13))), (6, .int (nI i54)), (5, .int x54_5), (4, .int (nI i13)), (3, .int x13_3), (2, .int x13_2), (1, .int (M_whichOf_r σ tm)), (0, .ref (a 0))] := by rw [← e1]; exact hl
                refine lv_aload_n hx hb dX12_askOf_69 rfl (lv_at hl 7 rfl) ?_
                refine g_get S hw hinX12 (fs := fM a σ54 h) 0 rfl rfl 24 (by decide) lk0 (v := .ref (a 14)) rfl dX12_askOf_70 ?_
                refine lv_iload hx hb dX12_askOf_73 (lv_at hl 0 rfl) ?_
                refine lv_dup2_11 hx hb dX12_askOf_75 rfl rfl ?_
                refine g_iald S hw (f := σ54 14) (i := asksN i54 i13) (x := σ54 14 (asksN i54 i13)) 14 0 rfl rfl (by omega) (by decide) rfl dX12_askOf_76 ?_
                refine lv_iload_n hx hb dX12_askOf_77 rfl (lv_at hl 6 rfl) ?_
                refine lv_iload hx hb dX12_askOf_78 (lv_at hl 1 rfl) ?_
                refine lv_ishr hx hb dX12_askOf_80 ?_
                refine lv_iconst (v := 1) hx hb dX12_askOf_81 (by decide) ?_
                refine lv_iand hx hb dX12_askOf_82 ?_
                refine lv_iadd hx hb dX12_askOf_83 ?_
                refine g_iast S hw (f := σ54 14) (i := asksN i54 i13) 14 0 rfl rfl (by omega) (by decide) (w2 := wM cI a (up2 σ54 14 (asksN i54 i13) ((σ54 14 (asksN i54 i13)) + (((M_whichOf_r σ tm) >>> ((nI i54) &&& 31)) &&& 1))) h) (wM_a14 _ _ _ _ _ _) dX12_askOf_84 (fun H locs hw => ?_)
                refine lv_aload_n hx hb dX12_askOf_85 rfl (lv_at hl 7 rfl) ?_
                refine g_get S hw hinX12 (fs := fM a (up2 σ54 14 (asksN i54 i13) ((σ54 14 (asksN i54 i13)) + (((M_whichOf_r σ tm) >>> ((nI i54) &&& 31)) &&& 1))) h) 0 rfl rfl 24 (by decide) lk0 (v := .ref (a 14)) rfl dX12_askOf_86 ?_
                refine lv_iload hx hb dX12_askOf_89 (lv_at hl 0 rfl) ?_
                refine g_iald S hw (f := (up2 σ54 14 (asksN i54 i13) ((σ54 14 (asksN i54 i13)) + (((M_whichOf_r σ tm) >>> ((nI i54) &&& 31)) &&& 1))) 14) (i := asksN i54 i13) (x := (σ54 14 (asksN i54 i13)) + (((M_whichOf_r σ tm) >>> ((nI i54) &&& 31)) &&& 1)) 14 0 rfl rfl (by omega) (by decide) up2_rs dX12_askOf_91 ?_
                refine lv_iload hx hb dX12_askOf_92 (lv_at hl 2 rfl) ?_
                refine lv_icmp_le hx hb (tgt := 107) dX12_askOf_94 (by decide) (fun c_9 => ?_) (fun c_9 => ?_)
                · refine lv_iload hx hb dX12_askOf_107 (lv_at hl 2 rfl) ?_
                  refine lv_istore (lv' := [(5, .int x54_5), (7, .int (nI (asksN i54 i13))), (6, .int (nI i54)), (4, .int (nI i13)), (3, .int x13_3), (2, .int x13_2), (1, .int (M_whichOf_r σ tm)), (0, .ref (a 0))]) hx hb dX12_askOf_109 hl (by decide) rfl (fun ls hl => ?_)
                  refine lv_iinc (v := nI (i54 + 1)) (lv' := [(6, .int (nI (i54 + 1))), (5, .int x54_5), (7, .int (nI (asksN i54 i13))), (4, .int (nI i13)), (3, .int x13_3), (2, .int x13_2), (1, .int (M_whichOf_r σ tm)), (0, .ref (a 0))]) hx hb dX12_askOf_111 hl (k := 2) rfl (nI_1 _) (by decide) rfl (fun ls hl => ?_)
                  refine lv_goto (tgt := 54) hx hb dX12_askOf_114 (by decide) ?_
                  exact ih54 (i54 + 1) x54_5 (up2 σ54 14 (asksN i54 i13) ((σ54 14 (asksN i54 i13)) + (((M_whichOf_r σ tm) >>> ((nI i54) &&& 31)) &&& 1))) _ _ _ (by omega) ((up2_n _ _ _ (by decide)).trans (k54_0)) (by have q := hF54; simp only [M_askOf_L54, M_askOf_S54_0, M_askOf_S54_1, if_pos c_9] at q; exact q) hw (lv_sub hl [0, 1, 3, 4, 5, 6, 7] rfl)
                · refine lv_aload_n hx hb dX12_askOf_97 rfl (lv_at hl 7 rfl) ?_
                  refine g_get S hw hinX12 (fs := fM a (up2 σ54 14 (asksN i54 i13) ((σ54 14 (asksN i54 i13)) + (((M_whichOf_r σ tm) >>> ((nI i54) &&& 31)) &&& 1))) h) 0 rfl rfl 24 (by decide) lk0 (v := .ref (a 14)) rfl dX12_askOf_98 ?_
                  refine lv_iload hx hb dX12_askOf_101 (lv_at hl 0 rfl) ?_
                  refine g_iald S hw (f := (up2 σ54 14 (asksN i54 i13) ((σ54 14 (asksN i54 i13)) + (((M_whichOf_r σ tm) >>> ((nI i54) &&& 31)) &&& 1))) 14) (i := asksN i54 i13) (x := (σ54 14 (asksN i54 i13)) + (((M_whichOf_r σ tm) >>> ((nI i54) &&& 31)) &&& 1)) 14 0 rfl rfl (by omega) (by decide) up2_rs dX12_askOf_103 ?_
                  refine lv_goto (tgt := 109) hx hb dX12_askOf_104 (by decide) ?_
                  refine lv_istore (lv' := [(5, .int ((σ54 14 (asksN i54 i13)) + (((M_whichOf_r σ tm) >>> ((nI i54) &&& 31)) &&& 1))), (7, .int (nI (asksN i54 i13))), (6, .int (nI i54)), (4, .int (nI i13)), (3, .int x13_3), (2, .int x13_2), (1, .int (M_whichOf_r σ tm)), (0, .ref (a 0))]) hx hb dX12_askOf_109 hl (by decide) rfl (fun ls hl => ?_)
                  refine lv_iinc (v := nI (i54 + 1)) (lv' := [(6, .int (nI (i54 + 1))), (5, .int ((σ54 14 (asksN i54 i13)) + (((M_whichOf_r σ tm) >>> ((nI i54) &&& 31)) &&& 1))), (7, .int (nI (asksN i54 i13))), (4, .int (nI i13)), (3, .int x13_3), (2, .int x13_2), (1, .int (M_whichOf_r σ tm)), (0, .ref (a 0))]) hx hb dX12_askOf_111 hl (k := 2) rfl (nI_1 _) (by decide) rfl (fun ls hl => ?_)
                  refine lv_goto (tgt := 54) hx hb dX12_askOf_114 (by decide) ?_
                  exact ih54 (i54 + 1) ((σ54 14 (asksN i54 i13)) + (((M_whichOf_r σ tm) >>> ((nI i54) &&& 31)) &&& 1)) (up2 σ54 14 (asksN i54 i13) ((σ54 14 (asksN i54 i13)) + (((M_whichOf_r σ tm) >>> ((nI i54) &&& 31)) &&& 1))) _ _ _ (by omega) ((up2_n _ _ _ (by decide)).trans (k54_0)) (by have q := hF54; simp only [M_askOf_L54, M_askOf_S54_0, M_askOf_S54_1, if_neg c_9] at q; exact q) hw (lv_sub hl [0, 1, 3, 4, 5, 6, 7] rfl)
            exact L54 5 0 0 (M_askOf_L27 tm i13 x13_2 x13_3 (M_whichOf_r σ tm) 21 0 σ13) _ _ _ (by omega) rfl rfl hw (lv_sub hl [0, 1, 2, 3, 4, 5, 6] rfl)
          | succ n27 ih27 =>
            intro i27 σ27 H locs ls hi27 k27_0 hF27 hw hl
            refine lv_iload hx hb dX12_askOf_27 (lv_at hl 0 rfl) ?_
            refine lv_bipush (v := 21) hx hb dX12_askOf_29 (by decide) ?_
            refine ln_ge (x := i27) (y := 21) hx hb (by omega) (by omega) (tgt := 48) dX12_askOf_31 (by decide) (fun c_x => absurd c_x (by omega)) (fun c_x => ?_)
            refine lv_aload_n hx hb dX12_askOf_34 rfl (lv_at hl 5 rfl) ?_
            refine g_get S hw hinX12 (fs := fM a σ27 h) 0 rfl rfl 24 (by decide) lk0 (v := .ref (a 14)) rfl dX12_askOf_35 ?_
            refine lv_iload hx hb dX12_askOf_38 (lv_at hl 0 rfl) ?_
            refine lv_iconst (v := 0) hx hb dX12_askOf_40 (by decide) ?_
            refine g_iast S hw (f := σ27 14) (i := i27) 14 0 rfl rfl (by omega) (by decide) (w2 := wM cI a (up2 σ27 14 i27 0) h) (wM_a14 _ _ _ _ _ _) dX12_askOf_41 (fun H locs hw => ?_)
            refine lv_iinc (v := nI (i27 + 1)) (lv' := [(5, .int (nI (i27 + 1))), (4, .int (nI i13)), (3, .int x13_3), (2, .int x13_2), (1, .int (M_whichOf_r σ tm)), (0, .ref (a 0))]) hx hb dX12_askOf_42 hl (k := 0) rfl (nI_1 _) (by decide) rfl (fun ls hl => ?_)
            refine lv_goto (tgt := 27) hx hb dX12_askOf_45 (by decide) ?_
            exact ih27 (i27 + 1) (up2 σ27 14 i27 0) _ _ _ (by omega) ((up2_n _ _ _ (by decide)).trans (k27_0)) hF27 hw (lv_sub hl [0, 1, 2, 3, 4, 5] rfl)
        exact L27 21 0 σ13 _ _ _ (by omega) rfl rfl hw (lv_sub hl [0, 1, 2, 3, 4, 5] rfl)
    exact L13 (10 - 1) 1 (-1) 6 σ _ _ _ (by omega) (Nat.le_refl _) rfl rfl hw (lv_sub hl [0, 1, 2, 3, 4] rfl)

def M_ask_r (σ : Nat → Nat → Int32) (tm : Nat) : Int32 := M_askOf_r σ tm
def M_ask_s (σ : Nat → Nat → Int32) (tm : Nat) : Nat → Nat → Int32 := M_askOf_s σ tm
theorem M_ask_s_k0 (σ : Nat → Nat → Int32) (tm : Nat) : M_ask_s σ tm 0 = σ 0 := by
  unfold M_ask_s
  exact M_askOf_s_k0 σ tm
theorem M_ask_s_k1 (σ : Nat → Nat → Int32) (tm : Nat) : M_ask_s σ tm 1 = σ 1 := by
  unfold M_ask_s
  exact M_askOf_s_k1 σ tm
theorem M_ask_s_k2 (σ : Nat → Nat → Int32) (tm : Nat) : M_ask_s σ tm 2 = σ 2 := by
  unfold M_ask_s
  exact M_askOf_s_k2 σ tm
theorem M_ask_s_k3 (σ : Nat → Nat → Int32) (tm : Nat) : M_ask_s σ tm 3 = σ 3 := by
  unfold M_ask_s
  exact M_askOf_s_k3 σ tm
theorem M_ask_s_k4 (σ : Nat → Nat → Int32) (tm : Nat) : M_ask_s σ tm 4 = σ 4 := by
  unfold M_ask_s
  exact M_askOf_s_k4 σ tm
theorem M_ask_s_k5 (σ : Nat → Nat → Int32) (tm : Nat) : M_ask_s σ tm 5 = σ 5 := by
  unfold M_ask_s
  exact M_askOf_s_k5 σ tm
theorem M_ask_s_k6 (σ : Nat → Nat → Int32) (tm : Nat) : M_ask_s σ tm 6 = σ 6 := by
  unfold M_ask_s
  exact M_askOf_s_k6 σ tm
theorem M_ask_s_k7 (σ : Nat → Nat → Int32) (tm : Nat) : M_ask_s σ tm 7 = σ 7 := by
  unfold M_ask_s
  exact M_askOf_s_k7 σ tm
theorem M_ask_s_k8 (σ : Nat → Nat → Int32) (tm : Nat) : M_ask_s σ tm 8 = σ 8 := by
  unfold M_ask_s
  exact M_askOf_s_k8 σ tm
theorem M_ask_s_k9 (σ : Nat → Nat → Int32) (tm : Nat) : M_ask_s σ tm 9 = σ 9 := by
  unfold M_ask_s
  exact M_askOf_s_k9 σ tm
theorem M_ask_s_k10 (σ : Nat → Nat → Int32) (tm : Nat) : M_ask_s σ tm 10 = σ 10 := by
  unfold M_ask_s
  exact M_askOf_s_k10 σ tm
theorem M_ask_s_k11 (σ : Nat → Nat → Int32) (tm : Nat) : M_ask_s σ tm 11 = σ 11 := by
  unfold M_ask_s
  exact M_askOf_s_k11 σ tm
theorem M_ask_s_k12 (σ : Nat → Nat → Int32) (tm : Nat) : M_ask_s σ tm 12 = σ 12 := by
  unfold M_ask_s
  exact M_askOf_s_k12 σ tm
theorem M_ask_s_k13 (σ : Nat → Nat → Int32) (tm : Nat) : M_ask_s σ tm 13 = σ 13 := by
  unfold M_ask_s
  exact M_askOf_s_k13 σ tm
theorem M_ask_s_k15 (σ : Nat → Nat → Int32) (tm : Nat) : M_ask_s σ tm 15 = σ 15 := by
  unfold M_ask_s
  exact M_askOf_s_k15 σ tm
theorem M_ask_s_k16 (σ : Nat → Nat → Int32) (tm : Nat) : M_ask_s σ tm 16 = σ 16 := by
  unfold M_ask_s
  exact M_askOf_s_k16 σ tm
theorem M_ask_s_k17 (σ : Nat → Nat → Int32) (tm : Nat) : M_ask_s σ tm 17 = σ 17 := by
  unfold M_ask_s
  exact M_askOf_s_k17 σ tm
theorem M_ask_s_k18 (σ : Nat → Nat → Int32) (tm : Nat) : M_ask_s σ tm 18 = σ 18 := by
  unfold M_ask_s
  exact M_askOf_s_k18 σ tm
theorem M_ask_s_k19 (σ : Nat → Nat → Int32) (tm : Nat) : M_ask_s σ tm 19 = σ 19 := by
  unfold M_ask_s
  exact M_askOf_s_k19 σ tm
set_option maxHeartbeats 4000000 in
set_option maxRecDepth 100000 in
theorem c_M_ask (l : Launch) (D : va_G) (cI : ClassId) (a : Nat → Nat) (σ : Nat → Nat → Int32) (h : Int64) (tm : Nat) (ht0 : σ 0 22 = nI tm) (ht0b : tm ≤ 6) : gI l D [(cI, .int)] yX12_ask wsX12_ask 4 [.ref (a 0)] (wM cI a σ h) (M_ask_r σ tm) (wM cI a (M_ask_s σ tm) h) := by
  refine g_start (cc := cX12_ask) (maxL := 1) (ret := some .int) (Qc := gQi D [(cI, .int)] (M_ask_r σ tm) (wM cI a (M_ask_s σ tm) h)) (by decide) rfl (Nat.le_of_ble_eq_true rfl) ?_
  intro p e s m below meth C A ls S hr hlk hw hl
  obtain ⟨hx, hb, hml, hown, hts⟩ := id S
  have hl : lv_has ls 1 [(0, .ref (a 0))] := hl
  refine lv_aload_n hx hb dX12_ask_0 rfl (lv_at hl 0 rfl) ?_
  refine g_callVi S hw (c_M_askOf l D cI a σ h tm (ht0) (by omega)) gX12_ask_X12_askOf rfl 0 rfl rfl 0 rfl (by decide +kernel) (by decide) (by decide) hl.1 rfl (Nat.le_of_ble_eq_true rfl) dX12_ask_1 (fun H locs hw => ?_)
  exact g_iret S hr hlk hw (by simp only [M_ask_r]) (by simp only [M_ask_s]) dX12_ask_4

def M_draw_n (σ : Nat → Nat → Int32) (of : Nat) : Nat := ((((((1103515245 * ((σ 0 25).toInt64)) + 12345) &&& 2147483647).toInt32).toNatClampNeg) / 65536) % of
def M_draw_s (σ : Nat → Nat → Int32) (of : Nat) : Nat → Nat → Int32 := up2 σ 0 25 ((((1103515245 * ((σ 0 25).toInt64)) + 12345) &&& 2147483647).toInt32)
theorem M_draw_s_p0_6 (σ : Nat → Nat → Int32) (of : Nat) : M_draw_s σ of 0 6 = σ 0 6 := by
  unfold M_draw_s
  exact up2_rp (by decide)
theorem M_draw_s_p0_7 (σ : Nat → Nat → Int32) (of : Nat) : M_draw_s σ of 0 7 = σ 0 7 := by
  unfold M_draw_s
  exact up2_rp (by decide)
theorem M_draw_s_k1 (σ : Nat → Nat → Int32) (of : Nat) : M_draw_s σ of 1 = σ 1 := by
  unfold M_draw_s
  exact up2_n _ _ _ (by decide)
theorem M_draw_s_k2 (σ : Nat → Nat → Int32) (of : Nat) : M_draw_s σ of 2 = σ 2 := by
  unfold M_draw_s
  exact up2_n _ _ _ (by decide)
theorem M_draw_s_k3 (σ : Nat → Nat → Int32) (of : Nat) : M_draw_s σ of 3 = σ 3 := by
  unfold M_draw_s
  exact up2_n _ _ _ (by decide)
theorem M_draw_s_k4 (σ : Nat → Nat → Int32) (of : Nat) : M_draw_s σ of 4 = σ 4 := by
  unfold M_draw_s
  exact up2_n _ _ _ (by decide)
theorem M_draw_s_k5 (σ : Nat → Nat → Int32) (of : Nat) : M_draw_s σ of 5 = σ 5 := by
  unfold M_draw_s
  exact up2_n _ _ _ (by decide)
theorem M_draw_s_k6 (σ : Nat → Nat → Int32) (of : Nat) : M_draw_s σ of 6 = σ 6 := by
  unfold M_draw_s
  exact up2_n _ _ _ (by decide)
theorem M_draw_s_k7 (σ : Nat → Nat → Int32) (of : Nat) : M_draw_s σ of 7 = σ 7 := by
  unfold M_draw_s
  exact up2_n _ _ _ (by decide)
theorem M_draw_s_k8 (σ : Nat → Nat → Int32) (of : Nat) : M_draw_s σ of 8 = σ 8 := by
  unfold M_draw_s
  exact up2_n _ _ _ (by decide)
theorem M_draw_s_k9 (σ : Nat → Nat → Int32) (of : Nat) : M_draw_s σ of 9 = σ 9 := by
  unfold M_draw_s
  exact up2_n _ _ _ (by decide)
theorem M_draw_s_k10 (σ : Nat → Nat → Int32) (of : Nat) : M_draw_s σ of 10 = σ 10 := by
  unfold M_draw_s
  exact up2_n _ _ _ (by decide)
theorem M_draw_s_k11 (σ : Nat → Nat → Int32) (of : Nat) : M_draw_s σ of 11 = σ 11 := by
  unfold M_draw_s
  exact up2_n _ _ _ (by decide)
theorem M_draw_s_k12 (σ : Nat → Nat → Int32) (of : Nat) : M_draw_s σ of 12 = σ 12 := by
  unfold M_draw_s
  exact up2_n _ _ _ (by decide)
theorem M_draw_s_k13 (σ : Nat → Nat → Int32) (of : Nat) : M_draw_s σ of 13 = σ 13 := by
  unfold M_draw_s
  exact up2_n _ _ _ (by decide)
theorem M_draw_s_k14 (σ : Nat → Nat → Int32) (of : Nat) : M_draw_s σ of 14 = σ 14 := by
  unfold M_draw_s
  exact up2_n _ _ _ (by decide)
theorem M_draw_s_k15 (σ : Nat → Nat → Int32) (of : Nat) : M_draw_s σ of 15 = σ 15 := by
  unfold M_draw_s
  exact up2_n _ _ _ (by decide)
theorem M_draw_s_k16 (σ : Nat → Nat → Int32) (of : Nat) : M_draw_s σ of 16 = σ 16 := by
  unfold M_draw_s
  exact up2_n _ _ _ (by decide)
theorem M_draw_s_k17 (σ : Nat → Nat → Int32) (of : Nat) : M_draw_s σ of 17 = σ 17 := by
  unfold M_draw_s
  exact up2_n _ _ _ (by decide)
theorem M_draw_s_k18 (σ : Nat → Nat → Int32) (of : Nat) : M_draw_s σ of 18 = σ 18 := by
  unfold M_draw_s
  exact up2_n _ _ _ (by decide)
theorem M_draw_s_k19 (σ : Nat → Nat → Int32) (of : Nat) : M_draw_s σ of 19 = σ 19 := by
  unfold M_draw_s
  exact up2_n _ _ _ (by decide)
set_option maxHeartbeats 4000000 in
set_option maxRecDepth 100000 in
theorem c_M_draw (l : Launch) (D : va_G) (cI : ClassId) (a : Nat → Nat) (σ : Nat → Nat → Int32) (h : Int64) (of : Nat) (hof : 0 < of) (hof4 : of ≤ 4) : gI l D [(cI, .int)] yX12_draw wsX12_draw 1 [.ref (a 0), .int (nI of)] (wM cI a σ h) (nI (M_draw_n σ of)) (wM cI a (M_draw_s σ of) h) := by
  refine g_start (cc := cX12_draw) (maxL := 2) (ret := some .int) (Qc := gQi D [(cI, .int)] (nI (M_draw_n σ of)) (wM cI a (M_draw_s σ of) h)) (by decide) rfl (Nat.le_of_ble_eq_true rfl) ?_
  intro p e s m below meth C A ls S hr hlk hw hl
  obtain ⟨hx, hb, hml, hown, hts⟩ := id S
  have hinX12 : ∀ x ∈ u_ws RX12 TX12 38, x ∈ wsX12_draw := fun x h => List.mem_cons_of_mem _ (List.mem_append_right _ h)
  have lk0 : Cond.constantLong RX12 210 (1103515245) ∈ wsX12_draw := by decide +kernel
  have lk1 : Cond.fieldLink RX12 212 "CowsOwedModel" "seedNow" "I" ∈ wsX12_draw := by decide +kernel
  have lk2 : Cond.constantLong RX12 215 (12345) ∈ wsX12_draw := by decide +kernel
  have lk3 : Cond.constantLong RX12 217 (2147483647) ∈ wsX12_draw := by decide +kernel
  have lk4 : Cond.constant RX12 219 (65536) ∈ wsX12_draw := by decide +kernel
  have hl : lv_has ls 2 [(0, .ref (a 0)), (1, .int (nI of))] := hl
  refine lv_aload_n hx hb dX12_draw_0 rfl (lv_at hl 0 rfl) ?_
  refine lv_ldc2 (v := 1103515245) hx hb hown (hts _ lk0) dX12_draw_1 ?_
  refine lv_aload_n hx hb dX12_draw_4 rfl (lv_at hl 0 rfl) ?_
  refine g_get S hw hinX12 (fs := fM a σ h) 0 rfl rfl 25 (by decide) lk1 (v := .int (σ 0 25)) rfl dX12_draw_5 ?_
  refine lv_i2l hx hb dX12_draw_8 rfl ?_
  refine lv_lmul hx hb dX12_draw_9 ?_
  refine lv_ldc2 (v := 12345) hx hb hown (hts _ lk2) dX12_draw_10 ?_
  refine lv_ladd hx hb dX12_draw_13 ?_
  refine lv_ldc2 (v := 2147483647) hx hb hown (hts _ lk3) dX12_draw_14 ?_
  refine lv_land hx hb dX12_draw_17 ?_
  refine lv_l2i hx hb dX12_draw_18 rfl ?_
  refine g_put S hw hinX12 tyX12 tyX12_ok nmX12 (fs := fM a σ h) 0 rfl rfl 25 (by decide) lk1 rfl rfl rfl (Nat.le_of_ble_eq_true rfl) (w2 := wM cI a (up2 σ 0 25 ((((1103515245 * ((σ 0 25).toInt64)) + 12345) &&& 2147483647).toInt32)) h) (wM_f25 _ _ _ _ _) dX12_draw_19 (fun H locs hw => ?_)
  have b9 := (seed_nat ((1103515245 * ((σ 0 25).toInt64)) + 12345)).2
  refine lv_aload_n hx hb dX12_draw_22 rfl (lv_at hl 0 rfl) ?_
  refine g_get S hw hinX12 (fs := fM a (up2 σ 0 25 ((((1103515245 * ((σ 0 25).toInt64)) + 12345) &&& 2147483647).toInt32)) h) 0 rfl rfl 25 (by decide) lk1 (v := .int (nI (((((1103515245 * ((σ 0 25).toInt64)) + 12345) &&& 2147483647).toInt32).toNatClampNeg))) (congrArg (fun z => some (Value.int z)) (up2_rs.trans (seed_nat _).1)) dX12_draw_23 ?_
  refine lv_ldc (v := 65536) hx hb hown (hts _ lk4) dX12_draw_26 ?_
  refine ln_idiv (x := ((((1103515245 * ((σ 0 25).toInt64)) + 12345) &&& 2147483647).toInt32).toNatClampNeg) (y := 65536) hx hb (by omega) (by omega) (by omega) dX12_draw_28 ?_
  refine lv_iload_n hx hb dX12_draw_29 rfl (lv_at hl 1 rfl) ?_
  refine ln_irem (x := (((((1103515245 * ((σ 0 25).toInt64)) + 12345) &&& 2147483647).toInt32).toNatClampNeg) / 65536) (y := of) hx hb (by omega) (by omega) (by omega) dX12_draw_30 ?_
  exact g_iret S hr hlk hw (by simp only [M_draw_n]) (by simp only [M_draw_s]) dX12_draw_31

def M_image_r (σ : Nat → Nat → Int32) : Int32 := if (M_lacks_r σ) = 0 then (σ 0 8) else (-103)
def M_image_s (σ : Nat → Nat → Int32) : Nat → Nat → Int32 := if (M_lacks_r σ) = 0 then (up2 (up2 (up2 (up2 (up2 (up2 (row (row (row (row (row σ 15 (σ 4)) 16 ((row σ 15 (σ 4)) 5)) 17 ((row (row σ 15 (σ 4)) 16 ((row σ 15 (σ 4)) 5)) 6)) 18 ((row (row (row σ 15 (σ 4)) 16 ((row σ 15 (σ 4)) 5)) 17 ((row (row σ 15 (σ 4)) 16 ((row σ 15 (σ 4)) 5)) 6)) 7)) 19 ((row (row (row (row σ 15 (σ 4)) 16 ((row σ 15 (σ 4)) 5)) 17 ((row (row σ 15 (σ 4)) 16 ((row σ 15 (σ 4)) 5)) 6)) 18 ((row (row (row σ 15 (σ 4)) 16 ((row σ 15 (σ 4)) 5)) 17 ((row (row σ 15 (σ 4)) 16 ((row σ 15 (σ 4)) 5)) 6)) 7)) 13)) 0 27 (σ 0 7)) 0 28 (σ 0 8)) 0 29 (σ 0 13)) 0 30 (σ 0 15)) 0 31 (σ 0 22)) 0 26 (σ 0 9)) else σ
theorem M_image_s_k1 (σ : Nat → Nat → Int32) : M_image_s σ 1 = σ 1 := by
  unfold M_image_s
  by_cases z1 : (M_lacks_r σ) = 0
  · refine Eq.trans (congrFun (if_pos z1) 1) ?_
    exact (up2_n _ _ _ (by decide)).trans ((up2_n _ _ _ (by decide)).trans ((up2_n _ _ _ (by decide)).trans ((up2_n _ _ _ (by decide)).trans ((up2_n _ _ _ (by decide)).trans ((up2_n _ _ _ (by decide)).trans ((row_n _ _ (by decide)).trans ((row_n _ _ (by decide)).trans ((row_n _ _ (by decide)).trans ((row_n _ _ (by decide)).trans (row_n _ _ (by decide)))))))))))
  · refine Eq.trans (congrFun (if_neg z1) 1) ?_
    exact rfl
theorem M_image_s_k2 (σ : Nat → Nat → Int32) : M_image_s σ 2 = σ 2 := by
  unfold M_image_s
  by_cases z1 : (M_lacks_r σ) = 0
  · refine Eq.trans (congrFun (if_pos z1) 2) ?_
    exact (up2_n _ _ _ (by decide)).trans ((up2_n _ _ _ (by decide)).trans ((up2_n _ _ _ (by decide)).trans ((up2_n _ _ _ (by decide)).trans ((up2_n _ _ _ (by decide)).trans ((up2_n _ _ _ (by decide)).trans ((row_n _ _ (by decide)).trans ((row_n _ _ (by decide)).trans ((row_n _ _ (by decide)).trans ((row_n _ _ (by decide)).trans (row_n _ _ (by decide)))))))))))
  · refine Eq.trans (congrFun (if_neg z1) 2) ?_
    exact rfl
theorem M_image_s_k3 (σ : Nat → Nat → Int32) : M_image_s σ 3 = σ 3 := by
  unfold M_image_s
  by_cases z1 : (M_lacks_r σ) = 0
  · refine Eq.trans (congrFun (if_pos z1) 3) ?_
    exact (up2_n _ _ _ (by decide)).trans ((up2_n _ _ _ (by decide)).trans ((up2_n _ _ _ (by decide)).trans ((up2_n _ _ _ (by decide)).trans ((up2_n _ _ _ (by decide)).trans ((up2_n _ _ _ (by decide)).trans ((row_n _ _ (by decide)).trans ((row_n _ _ (by decide)).trans ((row_n _ _ (by decide)).trans ((row_n _ _ (by decide)).trans (row_n _ _ (by decide)))))))))))
  · refine Eq.trans (congrFun (if_neg z1) 3) ?_
    exact rfl
theorem M_image_s_k4 (σ : Nat → Nat → Int32) : M_image_s σ 4 = σ 4 := by
  unfold M_image_s
  by_cases z1 : (M_lacks_r σ) = 0
  · refine Eq.trans (congrFun (if_pos z1) 4) ?_
    exact (up2_n _ _ _ (by decide)).trans ((up2_n _ _ _ (by decide)).trans ((up2_n _ _ _ (by decide)).trans ((up2_n _ _ _ (by decide)).trans ((up2_n _ _ _ (by decide)).trans ((up2_n _ _ _ (by decide)).trans ((row_n _ _ (by decide)).trans ((row_n _ _ (by decide)).trans ((row_n _ _ (by decide)).trans ((row_n _ _ (by decide)).trans (row_n _ _ (by decide)))))))))))
  · refine Eq.trans (congrFun (if_neg z1) 4) ?_
    exact rfl
theorem M_image_s_k5 (σ : Nat → Nat → Int32) : M_image_s σ 5 = σ 5 := by
  unfold M_image_s
  by_cases z1 : (M_lacks_r σ) = 0
  · refine Eq.trans (congrFun (if_pos z1) 5) ?_
    exact (up2_n _ _ _ (by decide)).trans ((up2_n _ _ _ (by decide)).trans ((up2_n _ _ _ (by decide)).trans ((up2_n _ _ _ (by decide)).trans ((up2_n _ _ _ (by decide)).trans ((up2_n _ _ _ (by decide)).trans ((row_n _ _ (by decide)).trans ((row_n _ _ (by decide)).trans ((row_n _ _ (by decide)).trans ((row_n _ _ (by decide)).trans (row_n _ _ (by decide)))))))))))
  · refine Eq.trans (congrFun (if_neg z1) 5) ?_
    exact rfl
theorem M_image_s_k6 (σ : Nat → Nat → Int32) : M_image_s σ 6 = σ 6 := by
  unfold M_image_s
  by_cases z1 : (M_lacks_r σ) = 0
  · refine Eq.trans (congrFun (if_pos z1) 6) ?_
    exact (up2_n _ _ _ (by decide)).trans ((up2_n _ _ _ (by decide)).trans ((up2_n _ _ _ (by decide)).trans ((up2_n _ _ _ (by decide)).trans ((up2_n _ _ _ (by decide)).trans ((up2_n _ _ _ (by decide)).trans ((row_n _ _ (by decide)).trans ((row_n _ _ (by decide)).trans ((row_n _ _ (by decide)).trans ((row_n _ _ (by decide)).trans (row_n _ _ (by decide)))))))))))
  · refine Eq.trans (congrFun (if_neg z1) 6) ?_
    exact rfl
theorem M_image_s_k7 (σ : Nat → Nat → Int32) : M_image_s σ 7 = σ 7 := by
  unfold M_image_s
  by_cases z1 : (M_lacks_r σ) = 0
  · refine Eq.trans (congrFun (if_pos z1) 7) ?_
    exact (up2_n _ _ _ (by decide)).trans ((up2_n _ _ _ (by decide)).trans ((up2_n _ _ _ (by decide)).trans ((up2_n _ _ _ (by decide)).trans ((up2_n _ _ _ (by decide)).trans ((up2_n _ _ _ (by decide)).trans ((row_n _ _ (by decide)).trans ((row_n _ _ (by decide)).trans ((row_n _ _ (by decide)).trans ((row_n _ _ (by decide)).trans (row_n _ _ (by decide)))))))))))
  · refine Eq.trans (congrFun (if_neg z1) 7) ?_
    exact rfl
theorem M_image_s_k8 (σ : Nat → Nat → Int32) : M_image_s σ 8 = σ 8 := by
  unfold M_image_s
  by_cases z1 : (M_lacks_r σ) = 0
  · refine Eq.trans (congrFun (if_pos z1) 8) ?_
    exact (up2_n _ _ _ (by decide)).trans ((up2_n _ _ _ (by decide)).trans ((up2_n _ _ _ (by decide)).trans ((up2_n _ _ _ (by decide)).trans ((up2_n _ _ _ (by decide)).trans ((up2_n _ _ _ (by decide)).trans ((row_n _ _ (by decide)).trans ((row_n _ _ (by decide)).trans ((row_n _ _ (by decide)).trans ((row_n _ _ (by decide)).trans (row_n _ _ (by decide)))))))))))
  · refine Eq.trans (congrFun (if_neg z1) 8) ?_
    exact rfl
theorem M_image_s_k9 (σ : Nat → Nat → Int32) : M_image_s σ 9 = σ 9 := by
  unfold M_image_s
  by_cases z1 : (M_lacks_r σ) = 0
  · refine Eq.trans (congrFun (if_pos z1) 9) ?_
    exact (up2_n _ _ _ (by decide)).trans ((up2_n _ _ _ (by decide)).trans ((up2_n _ _ _ (by decide)).trans ((up2_n _ _ _ (by decide)).trans ((up2_n _ _ _ (by decide)).trans ((up2_n _ _ _ (by decide)).trans ((row_n _ _ (by decide)).trans ((row_n _ _ (by decide)).trans ((row_n _ _ (by decide)).trans ((row_n _ _ (by decide)).trans (row_n _ _ (by decide)))))))))))
  · refine Eq.trans (congrFun (if_neg z1) 9) ?_
    exact rfl
theorem M_image_s_k10 (σ : Nat → Nat → Int32) : M_image_s σ 10 = σ 10 := by
  unfold M_image_s
  by_cases z1 : (M_lacks_r σ) = 0
  · refine Eq.trans (congrFun (if_pos z1) 10) ?_
    exact (up2_n _ _ _ (by decide)).trans ((up2_n _ _ _ (by decide)).trans ((up2_n _ _ _ (by decide)).trans ((up2_n _ _ _ (by decide)).trans ((up2_n _ _ _ (by decide)).trans ((up2_n _ _ _ (by decide)).trans ((row_n _ _ (by decide)).trans ((row_n _ _ (by decide)).trans ((row_n _ _ (by decide)).trans ((row_n _ _ (by decide)).trans (row_n _ _ (by decide)))))))))))
  · refine Eq.trans (congrFun (if_neg z1) 10) ?_
    exact rfl
theorem M_image_s_k11 (σ : Nat → Nat → Int32) : M_image_s σ 11 = σ 11 := by
  unfold M_image_s
  by_cases z1 : (M_lacks_r σ) = 0
  · refine Eq.trans (congrFun (if_pos z1) 11) ?_
    exact (up2_n _ _ _ (by decide)).trans ((up2_n _ _ _ (by decide)).trans ((up2_n _ _ _ (by decide)).trans ((up2_n _ _ _ (by decide)).trans ((up2_n _ _ _ (by decide)).trans ((up2_n _ _ _ (by decide)).trans ((row_n _ _ (by decide)).trans ((row_n _ _ (by decide)).trans ((row_n _ _ (by decide)).trans ((row_n _ _ (by decide)).trans (row_n _ _ (by decide)))))))))))
  · refine Eq.trans (congrFun (if_neg z1) 11) ?_
    exact rfl
theorem M_image_s_k12 (σ : Nat → Nat → Int32) : M_image_s σ 12 = σ 12 := by
  unfold M_image_s
  by_cases z1 : (M_lacks_r σ) = 0
  · refine Eq.trans (congrFun (if_pos z1) 12) ?_
    exact (up2_n _ _ _ (by decide)).trans ((up2_n _ _ _ (by decide)).trans ((up2_n _ _ _ (by decide)).trans ((up2_n _ _ _ (by decide)).trans ((up2_n _ _ _ (by decide)).trans ((up2_n _ _ _ (by decide)).trans ((row_n _ _ (by decide)).trans ((row_n _ _ (by decide)).trans ((row_n _ _ (by decide)).trans ((row_n _ _ (by decide)).trans (row_n _ _ (by decide)))))))))))
  · refine Eq.trans (congrFun (if_neg z1) 12) ?_
    exact rfl
theorem M_image_s_k13 (σ : Nat → Nat → Int32) : M_image_s σ 13 = σ 13 := by
  unfold M_image_s
  by_cases z1 : (M_lacks_r σ) = 0
  · refine Eq.trans (congrFun (if_pos z1) 13) ?_
    exact (up2_n _ _ _ (by decide)).trans ((up2_n _ _ _ (by decide)).trans ((up2_n _ _ _ (by decide)).trans ((up2_n _ _ _ (by decide)).trans ((up2_n _ _ _ (by decide)).trans ((up2_n _ _ _ (by decide)).trans ((row_n _ _ (by decide)).trans ((row_n _ _ (by decide)).trans ((row_n _ _ (by decide)).trans ((row_n _ _ (by decide)).trans (row_n _ _ (by decide)))))))))))
  · refine Eq.trans (congrFun (if_neg z1) 13) ?_
    exact rfl
theorem M_image_s_k14 (σ : Nat → Nat → Int32) : M_image_s σ 14 = σ 14 := by
  unfold M_image_s
  by_cases z1 : (M_lacks_r σ) = 0
  · refine Eq.trans (congrFun (if_pos z1) 14) ?_
    exact (up2_n _ _ _ (by decide)).trans ((up2_n _ _ _ (by decide)).trans ((up2_n _ _ _ (by decide)).trans ((up2_n _ _ _ (by decide)).trans ((up2_n _ _ _ (by decide)).trans ((up2_n _ _ _ (by decide)).trans ((row_n _ _ (by decide)).trans ((row_n _ _ (by decide)).trans ((row_n _ _ (by decide)).trans ((row_n _ _ (by decide)).trans (row_n _ _ (by decide)))))))))))
  · refine Eq.trans (congrFun (if_neg z1) 14) ?_
    exact rfl
set_option maxHeartbeats 4000000 in
set_option maxRecDepth 100000 in
theorem c_M_image (l : Launch) (D : va_G) (cI : ClassId) (a : Nat → Nat) (σ : Nat → Nat → Int32) (h : Int64) : gI l D [(cI, .int)] yX12_image wsX12_image 2 [.ref (a 0)] (wM cI a σ h) (M_image_r σ) (wM cI a (M_image_s σ) h) := by
  refine g_start (cc := cX12_image) (maxL := 1) (ret := some .int) (Qc := gQi D [(cI, .int)] (M_image_r σ) (wM cI a (M_image_s σ) h)) (by decide) rfl (Nat.le_of_ble_eq_true rfl) ?_
  intro p e s m below meth C A ls S hr hlk hw hl
  obtain ⟨hx, hb, hml, hown, hts⟩ := id S
  have hinX12 : ∀ x ∈ u_ws RX12 TX12 38, x ∈ wsX12_image := fun x h => List.mem_cons_of_mem _ (List.mem_append_right _ h)
  have lk0 : Cond.fieldLink RX12 19 "CowsOwedModel" "herds" "[I" ∈ wsX12_image := by decide +kernel
  have lk1 : Cond.fieldLink RX12 52 "CowsOwedModel" "keptHerds" "[I" ∈ wsX12_image := by decide +kernel
  have lk2 : Cond.fieldLink RX12 22 "CowsOwedModel" "debts" "[I" ∈ wsX12_image := by decide +kernel
  have lk3 : Cond.fieldLink RX12 55 "CowsOwedModel" "keptDebts" "[I" ∈ wsX12_image := by decide +kernel
  have lk4 : Cond.fieldLink RX12 25 "CowsOwedModel" "rows" "[I" ∈ wsX12_image := by decide +kernel
  have lk5 : Cond.fieldLink RX12 58 "CowsOwedModel" "keptRows" "[I" ∈ wsX12_image := by decide +kernel
  have lk6 : Cond.fieldLink RX12 28 "CowsOwedModel" "planned" "[I" ∈ wsX12_image := by decide +kernel
  have lk7 : Cond.fieldLink RX12 61 "CowsOwedModel" "keptPlanned" "[I" ∈ wsX12_image := by decide +kernel
  have lk8 : Cond.fieldLink RX12 46 "CowsOwedModel" "told" "[I" ∈ wsX12_image := by decide +kernel
  have lk9 : Cond.fieldLink RX12 64 "CowsOwedModel" "keptTold" "[I" ∈ wsX12_image := by decide +kernel
  have lk10 : Cond.fieldLink RX12 108 "CowsOwedModel" "rateNow" "I" ∈ wsX12_image := by decide +kernel
  have lk11 : Cond.fieldLink RX12 230 "CowsOwedModel" "keptRate" "I" ∈ wsX12_image := by decide +kernel
  have lk12 : Cond.fieldLink RX12 111 "CowsOwedModel" "yearsNow" "I" ∈ wsX12_image := by decide +kernel
  have lk13 : Cond.fieldLink RX12 233 "CowsOwedModel" "keptYears" "I" ∈ wsX12_image := by decide +kernel
  have lk14 : Cond.fieldLink RX12 114 "CowsOwedModel" "weddings" "I" ∈ wsX12_image := by decide +kernel
  have lk15 : Cond.fieldLink RX12 236 "CowsOwedModel" "keptWeddings" "I" ∈ wsX12_image := by decide +kernel
  have lk16 : Cond.fieldLink RX12 117 "CowsOwedModel" "plans" "I" ∈ wsX12_image := by decide +kernel
  have lk17 : Cond.fieldLink RX12 239 "CowsOwedModel" "keptPlans" "I" ∈ wsX12_image := by decide +kernel
  have lk18 : Cond.fieldLink RX12 120 "CowsOwedModel" "toldMany" "I" ∈ wsX12_image := by decide +kernel
  have lk19 : Cond.fieldLink RX12 242 "CowsOwedModel" "keptToldMany" "I" ∈ wsX12_image := by decide +kernel
  have lk20 : Cond.fieldLink RX12 123 "CowsOwedModel" "hillsRead" "I" ∈ wsX12_image := by decide +kernel
  have lk21 : Cond.fieldLink RX12 67 "CowsOwedModel" "keptHills" "I" ∈ wsX12_image := by decide +kernel
  have hl : lv_has ls 1 [(0, .ref (a 0))] := hl
  refine lv_aload_n hx hb dX12_image_0 rfl (lv_at hl 0 rfl) ?_
  refine g_callVi S hw (c_M_lacks l D cI a σ h) gX12_image_X12_lacks rfl 0 rfl rfl 0 rfl (by decide +kernel) (by decide) (by decide) hl.1 rfl (Nat.le_of_ble_eq_true rfl) dX12_image_1 (fun H locs hw => ?_)
  refine lv_if_eq hx hb (tgt := 10) dX12_image_4 (by decide) (fun c_1 => ?_) (fun c_1 => ?_)
  · refine lv_aload_n hx hb dX12_image_10 rfl (lv_at hl 0 rfl) ?_
    refine g_get S hw hinX12 (fs := fM a σ h) 0 rfl rfl 11 (by decide) lk0 (v := .ref (a 4)) rfl dX12_image_11 ?_
    refine lv_aload_n hx hb dX12_image_14 rfl (lv_at hl 0 rfl) ?_
    refine g_get S hw hinX12 (fs := fM a σ h) 0 rfl rfl 32 (by decide) lk1 (v := .ref (a 15)) rfl dX12_image_15 ?_
    refine g_callSv S hw (c_M_copy_4_15 l D cI a σ h) gX12_image_X12_copy rfl 2 rfl (by decide +kernel) (by decide) (by decide) hl.1 rfl (Nat.le_of_ble_eq_true rfl) dX12_image_18 (fun H locs hw => ?_)
    refine lv_aload_n hx hb dX12_image_21 rfl (lv_at hl 0 rfl) ?_
    refine g_get S hw hinX12 (fs := fM a (row σ 15 (σ 4)) h) 0 rfl rfl 12 (by decide) lk2 (v := .ref (a 5)) rfl dX12_image_22 ?_
    refine lv_aload_n hx hb dX12_image_25 rfl (lv_at hl 0 rfl) ?_
    refine g_get S hw hinX12 (fs := fM a (row σ 15 (σ 4)) h) 0 rfl rfl 33 (by decide) lk3 (v := .ref (a 16)) rfl dX12_image_26 ?_
    refine g_callSv S hw (c_M_copy_5_16 l D cI a (row σ 15 (σ 4)) h) gX12_image_X12_copy rfl 2 rfl (by decide +kernel) (by decide) (by decide) hl.1 rfl (Nat.le_of_ble_eq_true rfl) dX12_image_29 (fun H locs hw => ?_)
    refine lv_aload_n hx hb dX12_image_32 rfl (lv_at hl 0 rfl) ?_
    refine g_get S hw hinX12 (fs := fM a (row (row σ 15 (σ 4)) 16 ((row σ 15 (σ 4)) 5)) h) 0 rfl rfl 14 (by decide) lk4 (v := .ref (a 6)) rfl dX12_image_33 ?_
    refine lv_aload_n hx hb dX12_image_36 rfl (lv_at hl 0 rfl) ?_
    refine g_get S hw hinX12 (fs := fM a (row (row σ 15 (σ 4)) 16 ((row σ 15 (σ 4)) 5)) h) 0 rfl rfl 34 (by decide) lk5 (v := .ref (a 17)) rfl dX12_image_37 ?_
    refine g_callSv S hw (c_M_copy_6_17 l D cI a (row (row σ 15 (σ 4)) 16 ((row σ 15 (σ 4)) 5)) h) gX12_image_X12_copy rfl 2 rfl (by decide +kernel) (by decide) (by decide) hl.1 rfl (Nat.le_of_ble_eq_true rfl) dX12_image_40 (fun H locs hw => ?_)
    refine lv_aload_n hx hb dX12_image_43 rfl (lv_at hl 0 rfl) ?_
    refine g_get S hw hinX12 (fs := fM a (row (row (row σ 15 (σ 4)) 16 ((row σ 15 (σ 4)) 5)) 17 ((row (row σ 15 (σ 4)) 16 ((row σ 15 (σ 4)) 5)) 6)) h) 0 rfl rfl 16 (by decide) lk6 (v := .ref (a 7)) rfl dX12_image_44 ?_
    refine lv_aload_n hx hb dX12_image_47 rfl (lv_at hl 0 rfl) ?_
    refine g_get S hw hinX12 (fs := fM a (row (row (row σ 15 (σ 4)) 16 ((row σ 15 (σ 4)) 5)) 17 ((row (row σ 15 (σ 4)) 16 ((row σ 15 (σ 4)) 5)) 6)) h) 0 rfl rfl 35 (by decide) lk7 (v := .ref (a 18)) rfl dX12_image_48 ?_
    refine g_callSv S hw (c_M_copy_7_18 l D cI a (row (row (row σ 15 (σ 4)) 16 ((row σ 15 (σ 4)) 5)) 17 ((row (row σ 15 (σ 4)) 16 ((row σ 15 (σ 4)) 5)) 6)) h) gX12_image_X12_copy rfl 2 rfl (by decide +kernel) (by decide) (by decide) hl.1 rfl (Nat.le_of_ble_eq_true rfl) dX12_image_51 (fun H locs hw => ?_)
    refine lv_aload_n hx hb dX12_image_54 rfl (lv_at hl 0 rfl) ?_
    refine g_get S hw hinX12 (fs := fM a (row (row (row (row σ 15 (σ 4)) 16 ((row σ 15 (σ 4)) 5)) 17 ((row (row σ 15 (σ 4)) 16 ((row σ 15 (σ 4)) 5)) 6)) 18 ((row (row (row σ 15 (σ 4)) 16 ((row σ 15 (σ 4)) 5)) 17 ((row (row σ 15 (σ 4)) 16 ((row σ 15 (σ 4)) 5)) 6)) 7)) h) 0 rfl rfl 23 (by decide) lk8 (v := .ref (a 13)) rfl dX12_image_55 ?_
    refine lv_aload_n hx hb dX12_image_58 rfl (lv_at hl 0 rfl) ?_
    refine g_get S hw hinX12 (fs := fM a (row (row (row (row σ 15 (σ 4)) 16 ((row σ 15 (σ 4)) 5)) 17 ((row (row σ 15 (σ 4)) 16 ((row σ 15 (σ 4)) 5)) 6)) 18 ((row (row (row σ 15 (σ 4)) 16 ((row σ 15 (σ 4)) 5)) 17 ((row (row σ 15 (σ 4)) 16 ((row σ 15 (σ 4)) 5)) 6)) 7)) h) 0 rfl rfl 36 (by decide) lk9 (v := .ref (a 19)) rfl dX12_image_59 ?_
    refine g_callSv S hw (c_M_copy_13_19 l D cI a (row (row (row (row σ 15 (σ 4)) 16 ((row σ 15 (σ 4)) 5)) 17 ((row (row σ 15 (σ 4)) 16 ((row σ 15 (σ 4)) 5)) 6)) 18 ((row (row (row σ 15 (σ 4)) 16 ((row σ 15 (σ 4)) 5)) 17 ((row (row σ 15 (σ 4)) 16 ((row σ 15 (σ 4)) 5)) 6)) 7)) h) gX12_image_X12_copy rfl 2 rfl (by decide +kernel) (by decide) (by decide) hl.1 rfl (Nat.le_of_ble_eq_true rfl) dX12_image_62 (fun H locs hw => ?_)
    refine lv_aload_n hx hb dX12_image_65 rfl (lv_at hl 0 rfl) ?_
    refine lv_aload_n hx hb dX12_image_66 rfl (lv_at hl 0 rfl) ?_
    refine g_get S hw hinX12 (fs := fM a (row (row (row (row (row σ 15 (σ 4)) 16 ((row σ 15 (σ 4)) 5)) 17 ((row (row σ 15 (σ 4)) 16 ((row σ 15 (σ 4)) 5)) 6)) 18 ((row (row (row σ 15 (σ 4)) 16 ((row σ 15 (σ 4)) 5)) 17 ((row (row σ 15 (σ 4)) 16 ((row σ 15 (σ 4)) 5)) 6)) 7)) 19 ((row (row (row (row σ 15 (σ 4)) 16 ((row σ 15 (σ 4)) 5)) 17 ((row (row σ 15 (σ 4)) 16 ((row σ 15 (σ 4)) 5)) 6)) 18 ((row (row (row σ 15 (σ 4)) 16 ((row σ 15 (σ 4)) 5)) 17 ((row (row σ 15 (σ 4)) 16 ((row σ 15 (σ 4)) 5)) 6)) 7)) 13)) h) 0 rfl rfl 7 (by decide) lk10 (v := .int (σ 0 7)) (congrArg (fun z => some (Value.int z)) ((row_rn (by decide)).trans ((row_rn (by decide)).trans ((row_rn (by decide)).trans ((row_rn (by decide)).trans (row_rn (by decide))))))) dX12_image_67 ?_
    refine g_put S hw hinX12 tyX12 tyX12_ok nmX12 (fs := fM a (row (row (row (row (row σ 15 (σ 4)) 16 ((row σ 15 (σ 4)) 5)) 17 ((row (row σ 15 (σ 4)) 16 ((row σ 15 (σ 4)) 5)) 6)) 18 ((row (row (row σ 15 (σ 4)) 16 ((row σ 15 (σ 4)) 5)) 17 ((row (row σ 15 (σ 4)) 16 ((row σ 15 (σ 4)) 5)) 6)) 7)) 19 ((row (row (row (row σ 15 (σ 4)) 16 ((row σ 15 (σ 4)) 5)) 17 ((row (row σ 15 (σ 4)) 16 ((row σ 15 (σ 4)) 5)) 6)) 18 ((row (row (row σ 15 (σ 4)) 16 ((row σ 15 (σ 4)) 5)) 17 ((row (row σ 15 (σ 4)) 16 ((row σ 15 (σ 4)) 5)) 6)) 7)) 13)) h) 0 rfl rfl 27 (by decide) lk11 rfl rfl rfl (Nat.le_of_ble_eq_true rfl) (w2 := wM cI a (up2 (row (row (row (row (row σ 15 (σ 4)) 16 ((row σ 15 (σ 4)) 5)) 17 ((row (row σ 15 (σ 4)) 16 ((row σ 15 (σ 4)) 5)) 6)) 18 ((row (row (row σ 15 (σ 4)) 16 ((row σ 15 (σ 4)) 5)) 17 ((row (row σ 15 (σ 4)) 16 ((row σ 15 (σ 4)) 5)) 6)) 7)) 19 ((row (row (row (row σ 15 (σ 4)) 16 ((row σ 15 (σ 4)) 5)) 17 ((row (row σ 15 (σ 4)) 16 ((row σ 15 (σ 4)) 5)) 6)) 18 ((row (row (row σ 15 (σ 4)) 16 ((row σ 15 (σ 4)) 5)) 17 ((row (row σ 15 (σ 4)) 16 ((row σ 15 (σ 4)) 5)) 6)) 7)) 13)) 0 27 (σ 0 7)) h) (wM_f27 _ _ _ _ _) dX12_image_70 (fun H locs hw => ?_)
    refine lv_aload_n hx hb dX12_image_73 rfl (lv_at hl 0 rfl) ?_
    refine lv_aload_n hx hb dX12_image_74 rfl (lv_at hl 0 rfl) ?_
    refine g_get S hw hinX12 (fs := fM a (up2 (row (row (row (row (row σ 15 (σ 4)) 16 ((row σ 15 (σ 4)) 5)) 17 ((row (row σ 15 (σ 4)) 16 ((row σ 15 (σ 4)) 5)) 6)) 18 ((row (row (row σ 15 (σ 4)) 16 ((row σ 15 (σ 4)) 5)) 17 ((row (row σ 15 (σ 4)) 16 ((row σ 15 (σ 4)) 5)) 6)) 7)) 19 ((row (row (row (row σ 15 (σ 4)) 16 ((row σ 15 (σ 4)) 5)) 17 ((row (row σ 15 (σ 4)) 16 ((row σ 15 (σ 4)) 5)) 6)) 18 ((row (row (row σ 15 (σ 4)) 16 ((row σ 15 (σ 4)) 5)) 17 ((row (row σ 15 (σ 4)) 16 ((row σ 15 (σ 4)) 5)) 6)) 7)) 13)) 0 27 (σ 0 7)) h) 0 rfl rfl 8 (by decide) lk12 (v := .int (σ 0 8)) (congrArg (fun z => some (Value.int z)) ((up2_rp (by decide)).trans ((row_rn (by decide)).trans ((row_rn (by decide)).trans ((row_rn (by decide)).trans ((row_rn (by decide)).trans (row_rn (by decide)))))))) dX12_image_75 ?_
    refine g_put S hw hinX12 tyX12 tyX12_ok nmX12 (fs := fM a (up2 (row (row (row (row (row σ 15 (σ 4)) 16 ((row σ 15 (σ 4)) 5)) 17 ((row (row σ 15 (σ 4)) 16 ((row σ 15 (σ 4)) 5)) 6)) 18 ((row (row (row σ 15 (σ 4)) 16 ((row σ 15 (σ 4)) 5)) 17 ((row (row σ 15 (σ 4)) 16 ((row σ 15 (σ 4)) 5)) 6)) 7)) 19 ((row (row (row (row σ 15 (σ 4)) 16 ((row σ 15 (σ 4)) 5)) 17 ((row (row σ 15 (σ 4)) 16 ((row σ 15 (σ 4)) 5)) 6)) 18 ((row (row (row σ 15 (σ 4)) 16 ((row σ 15 (σ 4)) 5)) 17 ((row (row σ 15 (σ 4)) 16 ((row σ 15 (σ 4)) 5)) 6)) 7)) 13)) 0 27 (σ 0 7)) h) 0 rfl rfl 28 (by decide) lk13 rfl rfl rfl (Nat.le_of_ble_eq_true rfl) (w2 := wM cI a (up2 (up2 (row (row (row (row (row σ 15 (σ 4)) 16 ((row σ 15 (σ 4)) 5)) 17 ((row (row σ 15 (σ 4)) 16 ((row σ 15 (σ 4)) 5)) 6)) 18 ((row (row (row σ 15 (σ 4)) 16 ((row σ 15 (σ 4)) 5)) 17 ((row (row σ 15 (σ 4)) 16 ((row σ 15 (σ 4)) 5)) 6)) 7)) 19 ((row (row (row (row σ 15 (σ 4)) 16 ((row σ 15 (σ 4)) 5)) 17 ((row (row σ 15 (σ 4)) 16 ((row σ 15 (σ 4)) 5)) 6)) 18 ((row (row (row σ 15 (σ 4)) 16 ((row σ 15 (σ 4)) 5)) 17 ((row (row σ 15 (σ 4)) 16 ((row σ 15 (σ 4)) 5)) 6)) 7)) 13)) 0 27 (σ 0 7)) 0 28 (σ 0 8)) h) (wM_f28 _ _ _ _ _) dX12_image_78 (fun H locs hw => ?_)
    refine lv_aload_n hx hb dX12_image_81 rfl (lv_at hl 0 rfl) ?_
    refine lv_aload_n hx hb dX12_image_82 rfl (lv_at hl 0 rfl) ?_
    refine g_get S hw hinX12 (fs := fM a (up2 (up2 (row (row (row (row (row σ 15 (σ 4)) 16 ((row σ 15 (σ 4)) 5)) 17 ((row (row σ 15 (σ 4)) 16 ((row σ 15 (σ 4)) 5)) 6)) 18 ((row (row (row σ 15 (σ 4)) 16 ((row σ 15 (σ 4)) 5)) 17 ((row (row σ 15 (σ 4)) 16 ((row σ 15 (σ 4)) 5)) 6)) 7)) 19 ((row (row (row (row σ 15 (σ 4)) 16 ((row σ 15 (σ 4)) 5)) 17 ((row (row σ 15 (σ 4)) 16 ((row σ 15 (σ 4)) 5)) 6)) 18 ((row (row (row σ 15 (σ 4)) 16 ((row σ 15 (σ 4)) 5)) 17 ((row (row σ 15 (σ 4)) 16 ((row σ 15 (σ 4)) 5)) 6)) 7)) 13)) 0 27 (σ 0 7)) 0 28 (σ 0 8)) h) 0 rfl rfl 13 (by decide) lk14 (v := .int (σ 0 13)) (congrArg (fun z => some (Value.int z)) ((up2_rp (by decide)).trans ((up2_rp (by decide)).trans ((row_rn (by decide)).trans ((row_rn (by decide)).trans ((row_rn (by decide)).trans ((row_rn (by decide)).trans (row_rn (by decide))))))))) dX12_image_83 ?_
    refine g_put S hw hinX12 tyX12 tyX12_ok nmX12 (fs := fM a (up2 (up2 (row (row (row (row (row σ 15 (σ 4)) 16 ((row σ 15 (σ 4)) 5)) 17 ((row (row σ 15 (σ 4)) 16 ((row σ 15 (σ 4)) 5)) 6)) 18 ((row (row (row σ 15 (σ 4)) 16 ((row σ 15 (σ 4)) 5)) 17 ((row (row σ 15 (σ 4)) 16 ((row σ 15 (σ 4)) 5)) 6)) 7)) 19 ((row (row (row (row σ 15 (σ 4)) 16 ((row σ 15 (σ 4)) 5)) 17 ((row (row σ 15 (σ 4)) 16 ((row σ 15 (σ 4)) 5)) 6)) 18 ((row (row (row σ 15 (σ 4)) 16 ((row σ 15 (σ 4)) 5)) 17 ((row (row σ 15 (σ 4)) 16 ((row σ 15 (σ 4)) 5)) 6)) 7)) 13)) 0 27 (σ 0 7)) 0 28 (σ 0 8)) h) 0 rfl rfl 29 (by decide) lk15 rfl rfl rfl (Nat.le_of_ble_eq_true rfl) (w2 := wM cI a (up2 (up2 (up2 (row (row (row (row (row σ 15 (σ 4)) 16 ((row σ 15 (σ 4)) 5)) 17 ((row (row σ 15 (σ 4)) 16 ((row σ 15 (σ 4)) 5)) 6)) 18 ((row (row (row σ 15 (σ 4)) 16 ((row σ 15 (σ 4)) 5)) 17 ((row (row σ 15 (σ 4)) 16 ((row σ 15 (σ 4)) 5)) 6)) 7)) 19 ((row (row (row (row σ 15 (σ 4)) 16 ((row σ 15 (σ 4)) 5)) 17 ((row (row σ 15 (σ 4)) 16 ((row σ 15 (σ 4)) 5)) 6)) 18 ((row (row (row σ 15 (σ 4)) 16 ((row σ 15 (σ 4)) 5)) 17 ((row (row σ 15 (σ 4)) 16 ((row σ 15 (σ 4)) 5)) 6)) 7)) 13)) 0 27 (σ 0 7)) 0 28 (σ 0 8)) 0 29 (σ 0 13)) h) (wM_f29 _ _ _ _ _) dX12_image_86 (fun H locs hw => ?_)
    refine lv_aload_n hx hb dX12_image_89 rfl (lv_at hl 0 rfl) ?_
    refine lv_aload_n hx hb dX12_image_90 rfl (lv_at hl 0 rfl) ?_
    refine g_get S hw hinX12 (fs := fM a (up2 (up2 (up2 (row (row (row (row (row σ 15 (σ 4)) 16 ((row σ 15 (σ 4)) 5)) 17 ((row (row σ 15 (σ 4)) 16 ((row σ 15 (σ 4)) 5)) 6)) 18 ((row (row (row σ 15 (σ 4)) 16 ((row σ 15 (σ 4)) 5)) 17 ((row (row σ 15 (σ 4)) 16 ((row σ 15 (σ 4)) 5)) 6)) 7)) 19 ((row (row (row (row σ 15 (σ 4)) 16 ((row σ 15 (σ 4)) 5)) 17 ((row (row σ 15 (σ 4)) 16 ((row σ 15 (σ 4)) 5)) 6)) 18 ((row (row (row σ 15 (σ 4)) 16 ((row σ 15 (σ 4)) 5)) 17 ((row (row σ 15 (σ 4)) 16 ((row σ 15 (σ 4)) 5)) 6)) 7)) 13)) 0 27 (σ 0 7)) 0 28 (σ 0 8)) 0 29 (σ 0 13)) h) 0 rfl rfl 15 (by decide) lk16 (v := .int (σ 0 15)) (congrArg (fun z => some (Value.int z)) ((up2_rp (by decide)).trans ((up2_rp (by decide)).trans ((up2_rp (by decide)).trans ((row_rn (by decide)).trans ((row_rn (by decide)).trans ((row_rn (by decide)).trans ((row_rn (by decide)).trans (row_rn (by decide)))))))))) dX12_image_91 ?_
    refine g_put S hw hinX12 tyX12 tyX12_ok nmX12 (fs := fM a (up2 (up2 (up2 (row (row (row (row (row σ 15 (σ 4)) 16 ((row σ 15 (σ 4)) 5)) 17 ((row (row σ 15 (σ 4)) 16 ((row σ 15 (σ 4)) 5)) 6)) 18 ((row (row (row σ 15 (σ 4)) 16 ((row σ 15 (σ 4)) 5)) 17 ((row (row σ 15 (σ 4)) 16 ((row σ 15 (σ 4)) 5)) 6)) 7)) 19 ((row (row (row (row σ 15 (σ 4)) 16 ((row σ 15 (σ 4)) 5)) 17 ((row (row σ 15 (σ 4)) 16 ((row σ 15 (σ 4)) 5)) 6)) 18 ((row (row (row σ 15 (σ 4)) 16 ((row σ 15 (σ 4)) 5)) 17 ((row (row σ 15 (σ 4)) 16 ((row σ 15 (σ 4)) 5)) 6)) 7)) 13)) 0 27 (σ 0 7)) 0 28 (σ 0 8)) 0 29 (σ 0 13)) h) 0 rfl rfl 30 (by decide) lk17 rfl rfl rfl (Nat.le_of_ble_eq_true rfl) (w2 := wM cI a (up2 (up2 (up2 (up2 (row (row (row (row (row σ 15 (σ 4)) 16 ((row σ 15 (σ 4)) 5)) 17 ((row (row σ 15 (σ 4)) 16 ((row σ 15 (σ 4)) 5)) 6)) 18 ((row (row (row σ 15 (σ 4)) 16 ((row σ 15 (σ 4)) 5)) 17 ((row (row σ 15 (σ 4)) 16 ((row σ 15 (σ 4)) 5)) 6)) 7)) 19 ((row (row (row (row σ 15 (σ 4)) 16 ((row σ 15 (σ 4)) 5)) 17 ((row (row σ 15 (σ 4)) 16 ((row σ 15 (σ 4)) 5)) 6)) 18 ((row (row (row σ 15 (σ 4)) 16 ((row σ 15 (σ 4)) 5)) 17 ((row (row σ 15 (σ 4)) 16 ((row σ 15 (σ 4)) 5)) 6)) 7)) 13)) 0 27 (σ 0 7)) 0 28 (σ 0 8)) 0 29 (σ 0 13)) 0 30 (σ 0 15)) h) (wM_f30 _ _ _ _ _) dX12_image_94 (fun H locs hw => ?_)
    refine lv_aload_n hx hb dX12_image_97 rfl (lv_at hl 0 rfl) ?_
    refine lv_aload_n hx hb dX12_image_98 rfl (lv_at hl 0 rfl) ?_
    refine g_get S hw hinX12 (fs := fM a (up2 (up2 (up2 (up2 (row (row (row (row (row σ 15 (σ 4)) 16 ((row σ 15 (σ 4)) 5)) 17 ((row (row σ 15 (σ 4)) 16 ((row σ 15 (σ 4)) 5)) 6)) 18 ((row (row (row σ 15 (σ 4)) 16 ((row σ 15 (σ 4)) 5)) 17 ((row (row σ 15 (σ 4)) 16 ((row σ 15 (σ 4)) 5)) 6)) 7)) 19 ((row (row (row (row σ 15 (σ 4)) 16 ((row σ 15 (σ 4)) 5)) 17 ((row (row σ 15 (σ 4)) 16 ((row σ 15 (σ 4)) 5)) 6)) 18 ((row (row (row σ 15 (σ 4)) 16 ((row σ 15 (σ 4)) 5)) 17 ((row (row σ 15 (σ 4)) 16 ((row σ 15 (σ 4)) 5)) 6)) 7)) 13)) 0 27 (σ 0 7)) 0 28 (σ 0 8)) 0 29 (σ 0 13)) 0 30 (σ 0 15)) h) 0 rfl rfl 22 (by decide) lk18 (v := .int (σ 0 22)) (congrArg (fun z => some (Value.int z)) ((up2_rp (by decide)).trans ((up2_rp (by decide)).trans ((up2_rp (by decide)).trans ((up2_rp (by decide)).trans ((row_rn (by decide)).trans ((row_rn (by decide)).trans ((row_rn (by decide)).trans ((row_rn (by decide)).trans (row_rn (by decide))))))))))) dX12_image_99 ?_
    refine g_put S hw hinX12 tyX12 tyX12_ok nmX12 (fs := fM a (up2 (up2 (up2 (up2 (row (row (row (row (row σ 15 (σ 4)) 16 ((row σ 15 (σ 4)) 5)) 17 ((row (row σ 15 (σ 4)) 16 ((row σ 15 (σ 4)) 5)) 6)) 18 ((row (row (row σ 15 (σ 4)) 16 ((row σ 15 (σ 4)) 5)) 17 ((row (row σ 15 (σ 4)) 16 ((row σ 15 (σ 4)) 5)) 6)) 7)) 19 ((row (row (row (row σ 15 (σ 4)) 16 ((row σ 15 (σ 4)) 5)) 17 ((row (row σ 15 (σ 4)) 16 ((row σ 15 (σ 4)) 5)) 6)) 18 ((row (row (row σ 15 (σ 4)) 16 ((row σ 15 (σ 4)) 5)) 17 ((row (row σ 15 (σ 4)) 16 ((row σ 15 (σ 4)) 5)) 6)) 7)) 13)) 0 27 (σ 0 7)) 0 28 (σ 0 8)) 0 29 (σ 0 13)) 0 30 (σ 0 15)) h) 0 rfl rfl 31 (by decide) lk19 rfl rfl rfl (Nat.le_of_ble_eq_true rfl) (w2 := wM cI a (up2 (up2 (up2 (up2 (up2 (row (row (row (row (row σ 15 (σ 4)) 16 ((row σ 15 (σ 4)) 5)) 17 ((row (row σ 15 (σ 4)) 16 ((row σ 15 (σ 4)) 5)) 6)) 18 ((row (row (row σ 15 (σ 4)) 16 ((row σ 15 (σ 4)) 5)) 17 ((row (row σ 15 (σ 4)) 16 ((row σ 15 (σ 4)) 5)) 6)) 7)) 19 ((row (row (row (row σ 15 (σ 4)) 16 ((row σ 15 (σ 4)) 5)) 17 ((row (row σ 15 (σ 4)) 16 ((row σ 15 (σ 4)) 5)) 6)) 18 ((row (row (row σ 15 (σ 4)) 16 ((row σ 15 (σ 4)) 5)) 17 ((row (row σ 15 (σ 4)) 16 ((row σ 15 (σ 4)) 5)) 6)) 7)) 13)) 0 27 (σ 0 7)) 0 28 (σ 0 8)) 0 29 (σ 0 13)) 0 30 (σ 0 15)) 0 31 (σ 0 22)) h) (wM_f31 _ _ _ _ _) dX12_image_102 (fun H locs hw => ?_)
    refine lv_aload_n hx hb dX12_image_105 rfl (lv_at hl 0 rfl) ?_
    refine lv_aload_n hx hb dX12_image_106 rfl (lv_at hl 0 rfl) ?_
    refine g_get S hw hinX12 (fs := fM a (up2 (up2 (up2 (up2 (up2 (row (row (row (row (row σ 15 (σ 4)) 16 ((row σ 15 (σ 4)) 5)) 17 ((row (row σ 15 (σ 4)) 16 ((row σ 15 (σ 4)) 5)) 6)) 18 ((row (row (row σ 15 (σ 4)) 16 ((row σ 15 (σ 4)) 5)) 17 ((row (row σ 15 (σ 4)) 16 ((row σ 15 (σ 4)) 5)) 6)) 7)) 19 ((row (row (row (row σ 15 (σ 4)) 16 ((row σ 15 (σ 4)) 5)) 17 ((row (row σ 15 (σ 4)) 16 ((row σ 15 (σ 4)) 5)) 6)) 18 ((row (row (row σ 15 (σ 4)) 16 ((row σ 15 (σ 4)) 5)) 17 ((row (row σ 15 (σ 4)) 16 ((row σ 15 (σ 4)) 5)) 6)) 7)) 13)) 0 27 (σ 0 7)) 0 28 (σ 0 8)) 0 29 (σ 0 13)) 0 30 (σ 0 15)) 0 31 (σ 0 22)) h) 0 rfl rfl 9 (by decide) lk20 (v := .int (σ 0 9)) (congrArg (fun z => some (Value.int z)) ((up2_rp (by decide)).trans ((up2_rp (by decide)).trans ((up2_rp (by decide)).trans ((up2_rp (by decide)).trans ((up2_rp (by decide)).trans ((row_rn (by decide)).trans ((row_rn (by decide)).trans ((row_rn (by decide)).trans ((row_rn (by decide)).trans (row_rn (by decide)))))))))))) dX12_image_107 ?_
    refine g_put S hw hinX12 tyX12 tyX12_ok nmX12 (fs := fM a (up2 (up2 (up2 (up2 (up2 (row (row (row (row (row σ 15 (σ 4)) 16 ((row σ 15 (σ 4)) 5)) 17 ((row (row σ 15 (σ 4)) 16 ((row σ 15 (σ 4)) 5)) 6)) 18 ((row (row (row σ 15 (σ 4)) 16 ((row σ 15 (σ 4)) 5)) 17 ((row (row σ 15 (σ 4)) 16 ((row σ 15 (σ 4)) 5)) 6)) 7)) 19 ((row (row (row (row σ 15 (σ 4)) 16 ((row σ 15 (σ 4)) 5)) 17 ((row (row σ 15 (σ 4)) 16 ((row σ 15 (σ 4)) 5)) 6)) 18 ((row (row (row σ 15 (σ 4)) 16 ((row σ 15 (σ 4)) 5)) 17 ((row (row σ 15 (σ 4)) 16 ((row σ 15 (σ 4)) 5)) 6)) 7)) 13)) 0 27 (σ 0 7)) 0 28 (σ 0 8)) 0 29 (σ 0 13)) 0 30 (σ 0 15)) 0 31 (σ 0 22)) h) 0 rfl rfl 26 (by decide) lk21 rfl rfl rfl (Nat.le_of_ble_eq_true rfl) (w2 := wM cI a (up2 (up2 (up2 (up2 (up2 (up2 (row (row (row (row (row σ 15 (σ 4)) 16 ((row σ 15 (σ 4)) 5)) 17 ((row (row σ 15 (σ 4)) 16 ((row σ 15 (σ 4)) 5)) 6)) 18 ((row (row (row σ 15 (σ 4)) 16 ((row σ 15 (σ 4)) 5)) 17 ((row (row σ 15 (σ 4)) 16 ((row σ 15 (σ 4)) 5)) 6)) 7)) 19 ((row (row (row (row σ 15 (σ 4)) 16 ((row σ 15 (σ 4)) 5)) 17 ((row (row σ 15 (σ 4)) 16 ((row σ 15 (σ 4)) 5)) 6)) 18 ((row (row (row σ 15 (σ 4)) 16 ((row σ 15 (σ 4)) 5)) 17 ((row (row σ 15 (σ 4)) 16 ((row σ 15 (σ 4)) 5)) 6)) 7)) 13)) 0 27 (σ 0 7)) 0 28 (σ 0 8)) 0 29 (σ 0 13)) 0 30 (σ 0 15)) 0 31 (σ 0 22)) 0 26 (σ 0 9)) h) (wM_f26 _ _ _ _ _) dX12_image_110 (fun H locs hw => ?_)
    refine lv_aload_n hx hb dX12_image_113 rfl (lv_at hl 0 rfl) ?_
    refine g_get S hw hinX12 (fs := fM a (up2 (up2 (up2 (up2 (up2 (up2 (row (row (row (row (row σ 15 (σ 4)) 16 ((row σ 15 (σ 4)) 5)) 17 ((row (row σ 15 (σ 4)) 16 ((row σ 15 (σ 4)) 5)) 6)) 18 ((row (row (row σ 15 (σ 4)) 16 ((row σ 15 (σ 4)) 5)) 17 ((row (row σ 15 (σ 4)) 16 ((row σ 15 (σ 4)) 5)) 6)) 7)) 19 ((row (row (row (row σ 15 (σ 4)) 16 ((row σ 15 (σ 4)) 5)) 17 ((row (row σ 15 (σ 4)) 16 ((row σ 15 (σ 4)) 5)) 6)) 18 ((row (row (row σ 15 (σ 4)) 16 ((row σ 15 (σ 4)) 5)) 17 ((row (row σ 15 (σ 4)) 16 ((row σ 15 (σ 4)) 5)) 6)) 7)) 13)) 0 27 (σ 0 7)) 0 28 (σ 0 8)) 0 29 (σ 0 13)) 0 30 (σ 0 15)) 0 31 (σ 0 22)) 0 26 (σ 0 9)) h) 0 rfl rfl 8 (by decide) lk12 (v := .int (σ 0 8)) (congrArg (fun z => some (Value.int z)) ((up2_rp (by decide)).trans ((up2_rp (by decide)).trans ((up2_rp (by decide)).trans ((up2_rp (by decide)).trans ((up2_rp (by decide)).trans ((up2_rp (by decide)).trans ((row_rn (by decide)).trans ((row_rn (by decide)).trans ((row_rn (by decide)).trans ((row_rn (by decide)).trans (row_rn (by decide))))))))))))) dX12_image_114 ?_
    exact g_iret S hr hlk hw (by simp only [M_image_r, if_pos c_1]) (by simp only [M_image_s, if_pos c_1]) dX12_image_117
  · refine lv_bipush (v := (-103)) hx hb dX12_image_7 (by decide) ?_
    exact g_iret S hr hlk hw (by simp only [M_image_r, if_neg c_1]) (by simp only [M_image_s, if_neg c_1]) dX12_image_9

def M_restore_r (σ : Nat → Nat → Int32) : Int32 := if (σ 0 26) = (σ 0 9) then (σ 0 28) else (-103)
def M_restore_s (σ : Nat → Nat → Int32) : Nat → Nat → Int32 := if (σ 0 26) = (σ 0 9) then (up2 (up2 (up2 (up2 (up2 (row (row (row (row (row σ 4 (σ 15)) 5 ((row σ 4 (σ 15)) 16)) 6 ((row (row σ 4 (σ 15)) 5 ((row σ 4 (σ 15)) 16)) 17)) 7 ((row (row (row σ 4 (σ 15)) 5 ((row σ 4 (σ 15)) 16)) 6 ((row (row σ 4 (σ 15)) 5 ((row σ 4 (σ 15)) 16)) 17)) 18)) 13 ((row (row (row (row σ 4 (σ 15)) 5 ((row σ 4 (σ 15)) 16)) 6 ((row (row σ 4 (σ 15)) 5 ((row σ 4 (σ 15)) 16)) 17)) 7 ((row (row (row σ 4 (σ 15)) 5 ((row σ 4 (σ 15)) 16)) 6 ((row (row σ 4 (σ 15)) 5 ((row σ 4 (σ 15)) 16)) 17)) 18)) 19)) 0 7 (σ 0 27)) 0 8 (σ 0 28)) 0 13 (σ 0 29)) 0 15 (σ 0 30)) 0 22 (σ 0 31)) else σ
theorem M_restore_s_k1 (σ : Nat → Nat → Int32) : M_restore_s σ 1 = σ 1 := by
  unfold M_restore_s
  by_cases z1 : (σ 0 26) = (σ 0 9)
  · refine Eq.trans (congrFun (if_pos z1) 1) ?_
    exact (up2_n _ _ _ (by decide)).trans ((up2_n _ _ _ (by decide)).trans ((up2_n _ _ _ (by decide)).trans ((up2_n _ _ _ (by decide)).trans ((up2_n _ _ _ (by decide)).trans ((row_n _ _ (by decide)).trans ((row_n _ _ (by decide)).trans ((row_n _ _ (by decide)).trans ((row_n _ _ (by decide)).trans (row_n _ _ (by decide))))))))))
  · refine Eq.trans (congrFun (if_neg z1) 1) ?_
    exact rfl
theorem M_restore_s_k2 (σ : Nat → Nat → Int32) : M_restore_s σ 2 = σ 2 := by
  unfold M_restore_s
  by_cases z1 : (σ 0 26) = (σ 0 9)
  · refine Eq.trans (congrFun (if_pos z1) 2) ?_
    exact (up2_n _ _ _ (by decide)).trans ((up2_n _ _ _ (by decide)).trans ((up2_n _ _ _ (by decide)).trans ((up2_n _ _ _ (by decide)).trans ((up2_n _ _ _ (by decide)).trans ((row_n _ _ (by decide)).trans ((row_n _ _ (by decide)).trans ((row_n _ _ (by decide)).trans ((row_n _ _ (by decide)).trans (row_n _ _ (by decide))))))))))
  · refine Eq.trans (congrFun (if_neg z1) 2) ?_
    exact rfl
theorem M_restore_s_k3 (σ : Nat → Nat → Int32) : M_restore_s σ 3 = σ 3 := by
  unfold M_restore_s
  by_cases z1 : (σ 0 26) = (σ 0 9)
  · refine Eq.trans (congrFun (if_pos z1) 3) ?_
    exact (up2_n _ _ _ (by decide)).trans ((up2_n _ _ _ (by decide)).trans ((up2_n _ _ _ (by decide)).trans ((up2_n _ _ _ (by decide)).trans ((up2_n _ _ _ (by decide)).trans ((row_n _ _ (by decide)).trans ((row_n _ _ (by decide)).trans ((row_n _ _ (by decide)).trans ((row_n _ _ (by decide)).trans (row_n _ _ (by decide))))))))))
  · refine Eq.trans (congrFun (if_neg z1) 3) ?_
    exact rfl
theorem M_restore_s_k8 (σ : Nat → Nat → Int32) : M_restore_s σ 8 = σ 8 := by
  unfold M_restore_s
  by_cases z1 : (σ 0 26) = (σ 0 9)
  · refine Eq.trans (congrFun (if_pos z1) 8) ?_
    exact (up2_n _ _ _ (by decide)).trans ((up2_n _ _ _ (by decide)).trans ((up2_n _ _ _ (by decide)).trans ((up2_n _ _ _ (by decide)).trans ((up2_n _ _ _ (by decide)).trans ((row_n _ _ (by decide)).trans ((row_n _ _ (by decide)).trans ((row_n _ _ (by decide)).trans ((row_n _ _ (by decide)).trans (row_n _ _ (by decide))))))))))
  · refine Eq.trans (congrFun (if_neg z1) 8) ?_
    exact rfl
theorem M_restore_s_k9 (σ : Nat → Nat → Int32) : M_restore_s σ 9 = σ 9 := by
  unfold M_restore_s
  by_cases z1 : (σ 0 26) = (σ 0 9)
  · refine Eq.trans (congrFun (if_pos z1) 9) ?_
    exact (up2_n _ _ _ (by decide)).trans ((up2_n _ _ _ (by decide)).trans ((up2_n _ _ _ (by decide)).trans ((up2_n _ _ _ (by decide)).trans ((up2_n _ _ _ (by decide)).trans ((row_n _ _ (by decide)).trans ((row_n _ _ (by decide)).trans ((row_n _ _ (by decide)).trans ((row_n _ _ (by decide)).trans (row_n _ _ (by decide))))))))))
  · refine Eq.trans (congrFun (if_neg z1) 9) ?_
    exact rfl
theorem M_restore_s_k10 (σ : Nat → Nat → Int32) : M_restore_s σ 10 = σ 10 := by
  unfold M_restore_s
  by_cases z1 : (σ 0 26) = (σ 0 9)
  · refine Eq.trans (congrFun (if_pos z1) 10) ?_
    exact (up2_n _ _ _ (by decide)).trans ((up2_n _ _ _ (by decide)).trans ((up2_n _ _ _ (by decide)).trans ((up2_n _ _ _ (by decide)).trans ((up2_n _ _ _ (by decide)).trans ((row_n _ _ (by decide)).trans ((row_n _ _ (by decide)).trans ((row_n _ _ (by decide)).trans ((row_n _ _ (by decide)).trans (row_n _ _ (by decide))))))))))
  · refine Eq.trans (congrFun (if_neg z1) 10) ?_
    exact rfl
theorem M_restore_s_k11 (σ : Nat → Nat → Int32) : M_restore_s σ 11 = σ 11 := by
  unfold M_restore_s
  by_cases z1 : (σ 0 26) = (σ 0 9)
  · refine Eq.trans (congrFun (if_pos z1) 11) ?_
    exact (up2_n _ _ _ (by decide)).trans ((up2_n _ _ _ (by decide)).trans ((up2_n _ _ _ (by decide)).trans ((up2_n _ _ _ (by decide)).trans ((up2_n _ _ _ (by decide)).trans ((row_n _ _ (by decide)).trans ((row_n _ _ (by decide)).trans ((row_n _ _ (by decide)).trans ((row_n _ _ (by decide)).trans (row_n _ _ (by decide))))))))))
  · refine Eq.trans (congrFun (if_neg z1) 11) ?_
    exact rfl
theorem M_restore_s_k12 (σ : Nat → Nat → Int32) : M_restore_s σ 12 = σ 12 := by
  unfold M_restore_s
  by_cases z1 : (σ 0 26) = (σ 0 9)
  · refine Eq.trans (congrFun (if_pos z1) 12) ?_
    exact (up2_n _ _ _ (by decide)).trans ((up2_n _ _ _ (by decide)).trans ((up2_n _ _ _ (by decide)).trans ((up2_n _ _ _ (by decide)).trans ((up2_n _ _ _ (by decide)).trans ((row_n _ _ (by decide)).trans ((row_n _ _ (by decide)).trans ((row_n _ _ (by decide)).trans ((row_n _ _ (by decide)).trans (row_n _ _ (by decide))))))))))
  · refine Eq.trans (congrFun (if_neg z1) 12) ?_
    exact rfl
theorem M_restore_s_k14 (σ : Nat → Nat → Int32) : M_restore_s σ 14 = σ 14 := by
  unfold M_restore_s
  by_cases z1 : (σ 0 26) = (σ 0 9)
  · refine Eq.trans (congrFun (if_pos z1) 14) ?_
    exact (up2_n _ _ _ (by decide)).trans ((up2_n _ _ _ (by decide)).trans ((up2_n _ _ _ (by decide)).trans ((up2_n _ _ _ (by decide)).trans ((up2_n _ _ _ (by decide)).trans ((row_n _ _ (by decide)).trans ((row_n _ _ (by decide)).trans ((row_n _ _ (by decide)).trans ((row_n _ _ (by decide)).trans (row_n _ _ (by decide))))))))))
  · refine Eq.trans (congrFun (if_neg z1) 14) ?_
    exact rfl
theorem M_restore_s_k15 (σ : Nat → Nat → Int32) : M_restore_s σ 15 = σ 15 := by
  unfold M_restore_s
  by_cases z1 : (σ 0 26) = (σ 0 9)
  · refine Eq.trans (congrFun (if_pos z1) 15) ?_
    exact (up2_n _ _ _ (by decide)).trans ((up2_n _ _ _ (by decide)).trans ((up2_n _ _ _ (by decide)).trans ((up2_n _ _ _ (by decide)).trans ((up2_n _ _ _ (by decide)).trans ((row_n _ _ (by decide)).trans ((row_n _ _ (by decide)).trans ((row_n _ _ (by decide)).trans ((row_n _ _ (by decide)).trans (row_n _ _ (by decide))))))))))
  · refine Eq.trans (congrFun (if_neg z1) 15) ?_
    exact rfl
theorem M_restore_s_k16 (σ : Nat → Nat → Int32) : M_restore_s σ 16 = σ 16 := by
  unfold M_restore_s
  by_cases z1 : (σ 0 26) = (σ 0 9)
  · refine Eq.trans (congrFun (if_pos z1) 16) ?_
    exact (up2_n _ _ _ (by decide)).trans ((up2_n _ _ _ (by decide)).trans ((up2_n _ _ _ (by decide)).trans ((up2_n _ _ _ (by decide)).trans ((up2_n _ _ _ (by decide)).trans ((row_n _ _ (by decide)).trans ((row_n _ _ (by decide)).trans ((row_n _ _ (by decide)).trans ((row_n _ _ (by decide)).trans (row_n _ _ (by decide))))))))))
  · refine Eq.trans (congrFun (if_neg z1) 16) ?_
    exact rfl
theorem M_restore_s_k17 (σ : Nat → Nat → Int32) : M_restore_s σ 17 = σ 17 := by
  unfold M_restore_s
  by_cases z1 : (σ 0 26) = (σ 0 9)
  · refine Eq.trans (congrFun (if_pos z1) 17) ?_
    exact (up2_n _ _ _ (by decide)).trans ((up2_n _ _ _ (by decide)).trans ((up2_n _ _ _ (by decide)).trans ((up2_n _ _ _ (by decide)).trans ((up2_n _ _ _ (by decide)).trans ((row_n _ _ (by decide)).trans ((row_n _ _ (by decide)).trans ((row_n _ _ (by decide)).trans ((row_n _ _ (by decide)).trans (row_n _ _ (by decide))))))))))
  · refine Eq.trans (congrFun (if_neg z1) 17) ?_
    exact rfl
theorem M_restore_s_k18 (σ : Nat → Nat → Int32) : M_restore_s σ 18 = σ 18 := by
  unfold M_restore_s
  by_cases z1 : (σ 0 26) = (σ 0 9)
  · refine Eq.trans (congrFun (if_pos z1) 18) ?_
    exact (up2_n _ _ _ (by decide)).trans ((up2_n _ _ _ (by decide)).trans ((up2_n _ _ _ (by decide)).trans ((up2_n _ _ _ (by decide)).trans ((up2_n _ _ _ (by decide)).trans ((row_n _ _ (by decide)).trans ((row_n _ _ (by decide)).trans ((row_n _ _ (by decide)).trans ((row_n _ _ (by decide)).trans (row_n _ _ (by decide))))))))))
  · refine Eq.trans (congrFun (if_neg z1) 18) ?_
    exact rfl
theorem M_restore_s_k19 (σ : Nat → Nat → Int32) : M_restore_s σ 19 = σ 19 := by
  unfold M_restore_s
  by_cases z1 : (σ 0 26) = (σ 0 9)
  · refine Eq.trans (congrFun (if_pos z1) 19) ?_
    exact (up2_n _ _ _ (by decide)).trans ((up2_n _ _ _ (by decide)).trans ((up2_n _ _ _ (by decide)).trans ((up2_n _ _ _ (by decide)).trans ((up2_n _ _ _ (by decide)).trans ((row_n _ _ (by decide)).trans ((row_n _ _ (by decide)).trans ((row_n _ _ (by decide)).trans ((row_n _ _ (by decide)).trans (row_n _ _ (by decide))))))))))
  · refine Eq.trans (congrFun (if_neg z1) 19) ?_
    exact rfl
set_option maxHeartbeats 4000000 in
set_option maxRecDepth 100000 in
theorem c_M_restore (l : Launch) (D : va_G) (cI : ClassId) (a : Nat → Nat) (σ : Nat → Nat → Int32) (h : Int64) : gI l D [(cI, .int)] yX12_restore wsX12_restore 2 [.ref (a 0)] (wM cI a σ h) (M_restore_r σ) (wM cI a (M_restore_s σ) h) := by
  refine g_start (cc := cX12_restore) (maxL := 1) (ret := some .int) (Qc := gQi D [(cI, .int)] (M_restore_r σ) (wM cI a (M_restore_s σ) h)) (by decide) rfl (Nat.le_of_ble_eq_true rfl) ?_
  intro p e s m below meth C A ls S hr hlk hw hl
  obtain ⟨hx, hb, hml, hown, hts⟩ := id S
  have hinX12 : ∀ x ∈ u_ws RX12 TX12 38, x ∈ wsX12_restore := fun x h => List.mem_cons_of_mem _ (List.mem_append_right _ h)
  have lk0 : Cond.fieldLink RX12 67 "CowsOwedModel" "keptHills" "I" ∈ wsX12_restore := by decide +kernel
  have lk1 : Cond.fieldLink RX12 123 "CowsOwedModel" "hillsRead" "I" ∈ wsX12_restore := by decide +kernel
  have lk2 : Cond.fieldLink RX12 52 "CowsOwedModel" "keptHerds" "[I" ∈ wsX12_restore := by decide +kernel
  have lk3 : Cond.fieldLink RX12 19 "CowsOwedModel" "herds" "[I" ∈ wsX12_restore := by decide +kernel
  have lk4 : Cond.fieldLink RX12 55 "CowsOwedModel" "keptDebts" "[I" ∈ wsX12_restore := by decide +kernel
  have lk5 : Cond.fieldLink RX12 22 "CowsOwedModel" "debts" "[I" ∈ wsX12_restore := by decide +kernel
  have lk6 : Cond.fieldLink RX12 58 "CowsOwedModel" "keptRows" "[I" ∈ wsX12_restore := by decide +kernel
  have lk7 : Cond.fieldLink RX12 25 "CowsOwedModel" "rows" "[I" ∈ wsX12_restore := by decide +kernel
  have lk8 : Cond.fieldLink RX12 61 "CowsOwedModel" "keptPlanned" "[I" ∈ wsX12_restore := by decide +kernel
  have lk9 : Cond.fieldLink RX12 28 "CowsOwedModel" "planned" "[I" ∈ wsX12_restore := by decide +kernel
  have lk10 : Cond.fieldLink RX12 64 "CowsOwedModel" "keptTold" "[I" ∈ wsX12_restore := by decide +kernel
  have lk11 : Cond.fieldLink RX12 46 "CowsOwedModel" "told" "[I" ∈ wsX12_restore := by decide +kernel
  have lk12 : Cond.fieldLink RX12 230 "CowsOwedModel" "keptRate" "I" ∈ wsX12_restore := by decide +kernel
  have lk13 : Cond.fieldLink RX12 108 "CowsOwedModel" "rateNow" "I" ∈ wsX12_restore := by decide +kernel
  have lk14 : Cond.fieldLink RX12 233 "CowsOwedModel" "keptYears" "I" ∈ wsX12_restore := by decide +kernel
  have lk15 : Cond.fieldLink RX12 111 "CowsOwedModel" "yearsNow" "I" ∈ wsX12_restore := by decide +kernel
  have lk16 : Cond.fieldLink RX12 236 "CowsOwedModel" "keptWeddings" "I" ∈ wsX12_restore := by decide +kernel
  have lk17 : Cond.fieldLink RX12 114 "CowsOwedModel" "weddings" "I" ∈ wsX12_restore := by decide +kernel
  have lk18 : Cond.fieldLink RX12 239 "CowsOwedModel" "keptPlans" "I" ∈ wsX12_restore := by decide +kernel
  have lk19 : Cond.fieldLink RX12 117 "CowsOwedModel" "plans" "I" ∈ wsX12_restore := by decide +kernel
  have lk20 : Cond.fieldLink RX12 242 "CowsOwedModel" "keptToldMany" "I" ∈ wsX12_restore := by decide +kernel
  have lk21 : Cond.fieldLink RX12 120 "CowsOwedModel" "toldMany" "I" ∈ wsX12_restore := by decide +kernel
  have hl : lv_has ls 1 [(0, .ref (a 0))] := hl
  refine lv_aload_n hx hb dX12_restore_0 rfl (lv_at hl 0 rfl) ?_
  refine g_get S hw hinX12 (fs := fM a σ h) 0 rfl rfl 26 (by decide) lk0 (v := .int (σ 0 26)) rfl dX12_restore_1 ?_
  refine lv_aload_n hx hb dX12_restore_4 rfl (lv_at hl 0 rfl) ?_
  refine g_get S hw hinX12 (fs := fM a σ h) 0 rfl rfl 9 (by decide) lk1 (v := .int (σ 0 9)) rfl dX12_restore_5 ?_
  refine lv_icmp_eq hx hb (tgt := 14) dX12_restore_8 (by decide) (fun c_1 => ?_) (fun c_1 => ?_)
  · refine lv_aload_n hx hb dX12_restore_14 rfl (lv_at hl 0 rfl) ?_
    refine g_get S hw hinX12 (fs := fM a σ h) 0 rfl rfl 32 (by decide) lk2 (v := .ref (a 15)) rfl dX12_restore_15 ?_
    refine lv_aload_n hx hb dX12_restore_18 rfl (lv_at hl 0 rfl) ?_
    refine g_get S hw hinX12 (fs := fM a σ h) 0 rfl rfl 11 (by decide) lk3 (v := .ref (a 4)) rfl dX12_restore_19 ?_
    refine g_callSv S hw (c_M_copy_15_4 l D cI a σ h) gX12_restore_X12_copy rfl 2 rfl (by decide +kernel) (by decide) (by decide) hl.1 rfl (Nat.le_of_ble_eq_true rfl) dX12_restore_22 (fun H locs hw => ?_)
    refine lv_aload_n hx hb dX12_restore_25 rfl (lv_at hl 0 rfl) ?_
    refine g_get S hw hinX12 (fs := fM a (row σ 4 (σ 15)) h) 0 rfl rfl 33 (by decide) lk4 (v := .ref (a 16)) rfl dX12_restore_26 ?_
    refine lv_aload_n hx hb dX12_restore_29 rfl (lv_at hl 0 rfl) ?_
    refine g_get S hw hinX12 (fs := fM a (row σ 4 (σ 15)) h) 0 rfl rfl 12 (by decide) lk5 (v := .ref (a 5)) rfl dX12_restore_30 ?_
    refine g_callSv S hw (c_M_copy_16_5 l D cI a (row σ 4 (σ 15)) h) gX12_restore_X12_copy rfl 2 rfl (by decide +kernel) (by decide) (by decide) hl.1 rfl (Nat.le_of_ble_eq_true rfl) dX12_restore_33 (fun H locs hw => ?_)
    refine lv_aload_n hx hb dX12_restore_36 rfl (lv_at hl 0 rfl) ?_
    refine g_get S hw hinX12 (fs := fM a (row (row σ 4 (σ 15)) 5 ((row σ 4 (σ 15)) 16)) h) 0 rfl rfl 34 (by decide) lk6 (v := .ref (a 17)) rfl dX12_restore_37 ?_
    refine lv_aload_n hx hb dX12_restore_40 rfl (lv_at hl 0 rfl) ?_
    refine g_get S hw hinX12 (fs := fM a (row (row σ 4 (σ 15)) 5 ((row σ 4 (σ 15)) 16)) h) 0 rfl rfl 14 (by decide) lk7 (v := .ref (a 6)) rfl dX12_restore_41 ?_
    refine g_callSv S hw (c_M_copy_17_6 l D cI a (row (row σ 4 (σ 15)) 5 ((row σ 4 (σ 15)) 16)) h) gX12_restore_X12_copy rfl 2 rfl (by decide +kernel) (by decide) (by decide) hl.1 rfl (Nat.le_of_ble_eq_true rfl) dX12_restore_44 (fun H locs hw => ?_)
    refine lv_aload_n hx hb dX12_restore_47 rfl (lv_at hl 0 rfl) ?_
    refine g_get S hw hinX12 (fs := fM a (row (row (row σ 4 (σ 15)) 5 ((row σ 4 (σ 15)) 16)) 6 ((row (row σ 4 (σ 15)) 5 ((row σ 4 (σ 15)) 16)) 17)) h) 0 rfl rfl 35 (by decide) lk8 (v := .ref (a 18)) rfl dX12_restore_48 ?_
    refine lv_aload_n hx hb dX12_restore_51 rfl (lv_at hl 0 rfl) ?_
    refine g_get S hw hinX12 (fs := fM a (row (row (row σ 4 (σ 15)) 5 ((row σ 4 (σ 15)) 16)) 6 ((row (row σ 4 (σ 15)) 5 ((row σ 4 (σ 15)) 16)) 17)) h) 0 rfl rfl 16 (by decide) lk9 (v := .ref (a 7)) rfl dX12_restore_52 ?_
    refine g_callSv S hw (c_M_copy_18_7 l D cI a (row (row (row σ 4 (σ 15)) 5 ((row σ 4 (σ 15)) 16)) 6 ((row (row σ 4 (σ 15)) 5 ((row σ 4 (σ 15)) 16)) 17)) h) gX12_restore_X12_copy rfl 2 rfl (by decide +kernel) (by decide) (by decide) hl.1 rfl (Nat.le_of_ble_eq_true rfl) dX12_restore_55 (fun H locs hw => ?_)
    refine lv_aload_n hx hb dX12_restore_58 rfl (lv_at hl 0 rfl) ?_
    refine g_get S hw hinX12 (fs := fM a (row (row (row (row σ 4 (σ 15)) 5 ((row σ 4 (σ 15)) 16)) 6 ((row (row σ 4 (σ 15)) 5 ((row σ 4 (σ 15)) 16)) 17)) 7 ((row (row (row σ 4 (σ 15)) 5 ((row σ 4 (σ 15)) 16)) 6 ((row (row σ 4 (σ 15)) 5 ((row σ 4 (σ 15)) 16)) 17)) 18)) h) 0 rfl rfl 36 (by decide) lk10 (v := .ref (a 19)) rfl dX12_restore_59 ?_
    refine lv_aload_n hx hb dX12_restore_62 rfl (lv_at hl 0 rfl) ?_
    refine g_get S hw hinX12 (fs := fM a (row (row (row (row σ 4 (σ 15)) 5 ((row σ 4 (σ 15)) 16)) 6 ((row (row σ 4 (σ 15)) 5 ((row σ 4 (σ 15)) 16)) 17)) 7 ((row (row (row σ 4 (σ 15)) 5 ((row σ 4 (σ 15)) 16)) 6 ((row (row σ 4 (σ 15)) 5 ((row σ 4 (σ 15)) 16)) 17)) 18)) h) 0 rfl rfl 23 (by decide) lk11 (v := .ref (a 13)) rfl dX12_restore_63 ?_
    refine g_callSv S hw (c_M_copy_19_13 l D cI a (row (row (row (row σ 4 (σ 15)) 5 ((row σ 4 (σ 15)) 16)) 6 ((row (row σ 4 (σ 15)) 5 ((row σ 4 (σ 15)) 16)) 17)) 7 ((row (row (row σ 4 (σ 15)) 5 ((row σ 4 (σ 15)) 16)) 6 ((row (row σ 4 (σ 15)) 5 ((row σ 4 (σ 15)) 16)) 17)) 18)) h) gX12_restore_X12_copy rfl 2 rfl (by decide +kernel) (by decide) (by decide) hl.1 rfl (Nat.le_of_ble_eq_true rfl) dX12_restore_66 (fun H locs hw => ?_)
    refine lv_aload_n hx hb dX12_restore_69 rfl (lv_at hl 0 rfl) ?_
    refine lv_aload_n hx hb dX12_restore_70 rfl (lv_at hl 0 rfl) ?_
    refine g_get S hw hinX12 (fs := fM a (row (row (row (row (row σ 4 (σ 15)) 5 ((row σ 4 (σ 15)) 16)) 6 ((row (row σ 4 (σ 15)) 5 ((row σ 4 (σ 15)) 16)) 17)) 7 ((row (row (row σ 4 (σ 15)) 5 ((row σ 4 (σ 15)) 16)) 6 ((row (row σ 4 (σ 15)) 5 ((row σ 4 (σ 15)) 16)) 17)) 18)) 13 ((row (row (row (row σ 4 (σ 15)) 5 ((row σ 4 (σ 15)) 16)) 6 ((row (row σ 4 (σ 15)) 5 ((row σ 4 (σ 15)) 16)) 17)) 7 ((row (row (row σ 4 (σ 15)) 5 ((row σ 4 (σ 15)) 16)) 6 ((row (row σ 4 (σ 15)) 5 ((row σ 4 (σ 15)) 16)) 17)) 18)) 19)) h) 0 rfl rfl 27 (by decide) lk12 (v := .int (σ 0 27)) (congrArg (fun z => some (Value.int z)) ((row_rn (by decide)).trans ((row_rn (by decide)).trans ((row_rn (by decide)).trans ((row_rn (by decide)).trans (row_rn (by decide))))))) dX12_restore_71 ?_
    refine g_put S hw hinX12 tyX12 tyX12_ok nmX12 (fs := fM a (row (row (row (row (row σ 4 (σ 15)) 5 ((row σ 4 (σ 15)) 16)) 6 ((row (row σ 4 (σ 15)) 5 ((row σ 4 (σ 15)) 16)) 17)) 7 ((row (row (row σ 4 (σ 15)) 5 ((row σ 4 (σ 15)) 16)) 6 ((row (row σ 4 (σ 15)) 5 ((row σ 4 (σ 15)) 16)) 17)) 18)) 13 ((row (row (row (row σ 4 (σ 15)) 5 ((row σ 4 (σ 15)) 16)) 6 ((row (row σ 4 (σ 15)) 5 ((row σ 4 (σ 15)) 16)) 17)) 7 ((row (row (row σ 4 (σ 15)) 5 ((row σ 4 (σ 15)) 16)) 6 ((row (row σ 4 (σ 15)) 5 ((row σ 4 (σ 15)) 16)) 17)) 18)) 19)) h) 0 rfl rfl 7 (by decide) lk13 rfl rfl rfl (Nat.le_of_ble_eq_true rfl) (w2 := wM cI a (up2 (row (row (row (row (row σ 4 (σ 15)) 5 ((row σ 4 (σ 15)) 16)) 6 ((row (row σ 4 (σ 15)) 5 ((row σ 4 (σ 15)) 16)) 17)) 7 ((row (row (row σ 4 (σ 15)) 5 ((row σ 4 (σ 15)) 16)) 6 ((row (row σ 4 (σ 15)) 5 ((row σ 4 (σ 15)) 16)) 17)) 18)) 13 ((row (row (row (row σ 4 (σ 15)) 5 ((row σ 4 (σ 15)) 16)) 6 ((row (row σ 4 (σ 15)) 5 ((row σ 4 (σ 15)) 16)) 17)) 7 ((row (row (row σ 4 (σ 15)) 5 ((row σ 4 (σ 15)) 16)) 6 ((row (row σ 4 (σ 15)) 5 ((row σ 4 (σ 15)) 16)) 17)) 18)) 19)) 0 7 (σ 0 27)) h) (wM_f7 _ _ _ _ _) dX12_restore_74 (fun H locs hw => ?_)
    refine lv_aload_n hx hb dX12_restore_77 rfl (lv_at hl 0 rfl) ?_
    refine lv_aload_n hx hb dX12_restore_78 rfl (lv_at hl 0 rfl) ?_
    refine g_get S hw hinX12 (fs := fM a (up2 (row (row (row (row (row σ 4 (σ 15)) 5 ((row σ 4 (σ 15)) 16)) 6 ((row (row σ 4 (σ 15)) 5 ((row σ 4 (σ 15)) 16)) 17)) 7 ((row (row (row σ 4 (σ 15)) 5 ((row σ 4 (σ 15)) 16)) 6 ((row (row σ 4 (σ 15)) 5 ((row σ 4 (σ 15)) 16)) 17)) 18)) 13 ((row (row (row (row σ 4 (σ 15)) 5 ((row σ 4 (σ 15)) 16)) 6 ((row (row σ 4 (σ 15)) 5 ((row σ 4 (σ 15)) 16)) 17)) 7 ((row (row (row σ 4 (σ 15)) 5 ((row σ 4 (σ 15)) 16)) 6 ((row (row σ 4 (σ 15)) 5 ((row σ 4 (σ 15)) 16)) 17)) 18)) 19)) 0 7 (σ 0 27)) h) 0 rfl rfl 28 (by decide) lk14 (v := .int (σ 0 28)) (congrArg (fun z => some (Value.int z)) ((up2_rp (by decide)).trans ((row_rn (by decide)).trans ((row_rn (by decide)).trans ((row_rn (by decide)).trans ((row_rn (by decide)).trans (row_rn (by decide)))))))) dX12_restore_79 ?_
    refine g_put S hw hinX12 tyX12 tyX12_ok nmX12 (fs := fM a (up2 (row (row (row (row (row σ 4 (σ 15)) 5 ((row σ 4 (σ 15)) 16)) 6 ((row (row σ 4 (σ 15)) 5 ((row σ 4 (σ 15)) 16)) 17)) 7 ((row (row (row σ 4 (σ 15)) 5 ((row σ 4 (σ 15)) 16)) 6 ((row (row σ 4 (σ 15)) 5 ((row σ 4 (σ 15)) 16)) 17)) 18)) 13 ((row (row (row (row σ 4 (σ 15)) 5 ((row σ 4 (σ 15)) 16)) 6 ((row (row σ 4 (σ 15)) 5 ((row σ 4 (σ 15)) 16)) 17)) 7 ((row (row (row σ 4 (σ 15)) 5 ((row σ 4 (σ 15)) 16)) 6 ((row (row σ 4 (σ 15)) 5 ((row σ 4 (σ 15)) 16)) 17)) 18)) 19)) 0 7 (σ 0 27)) h) 0 rfl rfl 8 (by decide) lk15 rfl rfl rfl (Nat.le_of_ble_eq_true rfl) (w2 := wM cI a (up2 (up2 (row (row (row (row (row σ 4 (σ 15)) 5 ((row σ 4 (σ 15)) 16)) 6 ((row (row σ 4 (σ 15)) 5 ((row σ 4 (σ 15)) 16)) 17)) 7 ((row (row (row σ 4 (σ 15)) 5 ((row σ 4 (σ 15)) 16)) 6 ((row (row σ 4 (σ 15)) 5 ((row σ 4 (σ 15)) 16)) 17)) 18)) 13 ((row (row (row (row σ 4 (σ 15)) 5 ((row σ 4 (σ 15)) 16)) 6 ((row (row σ 4 (σ 15)) 5 ((row σ 4 (σ 15)) 16)) 17)) 7 ((row (row (row σ 4 (σ 15)) 5 ((row σ 4 (σ 15)) 16)) 6 ((row (row σ 4 (σ 15)) 5 ((row σ 4 (σ 15)) 16)) 17)) 18)) 19)) 0 7 (σ 0 27)) 0 8 (σ 0 28)) h) (wM_f8 _ _ _ _ _) dX12_restore_82 (fun H locs hw => ?_)
    refine lv_aload_n hx hb dX12_restore_85 rfl (lv_at hl 0 rfl) ?_
    refine lv_aload_n hx hb dX12_restore_86 rfl (lv_at hl 0 rfl) ?_
    refine g_get S hw hinX12 (fs := fM a (up2 (up2 (row (row (row (row (row σ 4 (σ 15)) 5 ((row σ 4 (σ 15)) 16)) 6 ((row (row σ 4 (σ 15)) 5 ((row σ 4 (σ 15)) 16)) 17)) 7 ((row (row (row σ 4 (σ 15)) 5 ((row σ 4 (σ 15)) 16)) 6 ((row (row σ 4 (σ 15)) 5 ((row σ 4 (σ 15)) 16)) 17)) 18)) 13 ((row (row (row (row σ 4 (σ 15)) 5 ((row σ 4 (σ 15)) 16)) 6 ((row (row σ 4 (σ 15)) 5 ((row σ 4 (σ 15)) 16)) 17)) 7 ((row (row (row σ 4 (σ 15)) 5 ((row σ 4 (σ 15)) 16)) 6 ((row (row σ 4 (σ 15)) 5 ((row σ 4 (σ 15)) 16)) 17)) 18)) 19)) 0 7 (σ 0 27)) 0 8 (σ 0 28)) h) 0 rfl rfl 29 (by decide) lk16 (v := .int (σ 0 29)) (congrArg (fun z => some (Value.int z)) ((up2_rp (by decide)).trans ((up2_rp (by decide)).trans ((row_rn (by decide)).trans ((row_rn (by decide)).trans ((row_rn (by decide)).trans ((row_rn (by decide)).trans (row_rn (by decide))))))))) dX12_restore_87 ?_
    refine g_put S hw hinX12 tyX12 tyX12_ok nmX12 (fs := fM a (up2 (up2 (row (row (row (row (row σ 4 (σ 15)) 5 ((row σ 4 (σ 15)) 16)) 6 ((row (row σ 4 (σ 15)) 5 ((row σ 4 (σ 15)) 16)) 17)) 7 ((row (row (row σ 4 (σ 15)) 5 ((row σ 4 (σ 15)) 16)) 6 ((row (row σ 4 (σ 15)) 5 ((row σ 4 (σ 15)) 16)) 17)) 18)) 13 ((row (row (row (row σ 4 (σ 15)) 5 ((row σ 4 (σ 15)) 16)) 6 ((row (row σ 4 (σ 15)) 5 ((row σ 4 (σ 15)) 16)) 17)) 7 ((row (row (row σ 4 (σ 15)) 5 ((row σ 4 (σ 15)) 16)) 6 ((row (row σ 4 (σ 15)) 5 ((row σ 4 (σ 15)) 16)) 17)) 18)) 19)) 0 7 (σ 0 27)) 0 8 (σ 0 28)) h) 0 rfl rfl 13 (by decide) lk17 rfl rfl rfl (Nat.le_of_ble_eq_true rfl) (w2 := wM cI a (up2 (up2 (up2 (row (row (row (row (row σ 4 (σ 15)) 5 ((row σ 4 (σ 15)) 16)) 6 ((row (row σ 4 (σ 15)) 5 ((row σ 4 (σ 15)) 16)) 17)) 7 ((row (row (row σ 4 (σ 15)) 5 ((row σ 4 (σ 15)) 16)) 6 ((row (row σ 4 (σ 15)) 5 ((row σ 4 (σ 15)) 16)) 17)) 18)) 13 ((row (row (row (row σ 4 (σ 15)) 5 ((row σ 4 (σ 15)) 16)) 6 ((row (row σ 4 (σ 15)) 5 ((row σ 4 (σ 15)) 16)) 17)) 7 ((row (row (row σ 4 (σ 15)) 5 ((row σ 4 (σ 15)) 16)) 6 ((row (row σ 4 (σ 15)) 5 ((row σ 4 (σ 15)) 16)) 17)) 18)) 19)) 0 7 (σ 0 27)) 0 8 (σ 0 28)) 0 13 (σ 0 29)) h) (wM_f13 _ _ _ _ _) dX12_restore_90 (fun H locs hw => ?_)
    refine lv_aload_n hx hb dX12_restore_93 rfl (lv_at hl 0 rfl) ?_
    refine lv_aload_n hx hb dX12_restore_94 rfl (lv_at hl 0 rfl) ?_
    refine g_get S hw hinX12 (fs := fM a (up2 (up2 (up2 (row (row (row (row (row σ 4 (σ 15)) 5 ((row σ 4 (σ 15)) 16)) 6 ((row (row σ 4 (σ 15)) 5 ((row σ 4 (σ 15)) 16)) 17)) 7 ((row (row (row σ 4 (σ 15)) 5 ((row σ 4 (σ 15)) 16)) 6 ((row (row σ 4 (σ 15)) 5 ((row σ 4 (σ 15)) 16)) 17)) 18)) 13 ((row (row (row (row σ 4 (σ 15)) 5 ((row σ 4 (σ 15)) 16)) 6 ((row (row σ 4 (σ 15)) 5 ((row σ 4 (σ 15)) 16)) 17)) 7 ((row (row (row σ 4 (σ 15)) 5 ((row σ 4 (σ 15)) 16)) 6 ((row (row σ 4 (σ 15)) 5 ((row σ 4 (σ 15)) 16)) 17)) 18)) 19)) 0 7 (σ 0 27)) 0 8 (σ 0 28)) 0 13 (σ 0 29)) h) 0 rfl rfl 30 (by decide) lk18 (v := .int (σ 0 30)) (congrArg (fun z => some (Value.int z)) ((up2_rp (by decide)).trans ((up2_rp (by decide)).trans ((up2_rp (by decide)).trans ((row_rn (by decide)).trans ((row_rn (by decide)).trans ((row_rn (by decide)).trans ((row_rn (by decide)).trans (row_rn (by decide)))))))))) dX12_restore_95 ?_
    refine g_put S hw hinX12 tyX12 tyX12_ok nmX12 (fs := fM a (up2 (up2 (up2 (row (row (row (row (row σ 4 (σ 15)) 5 ((row σ 4 (σ 15)) 16)) 6 ((row (row σ 4 (σ 15)) 5 ((row σ 4 (σ 15)) 16)) 17)) 7 ((row (row (row σ 4 (σ 15)) 5 ((row σ 4 (σ 15)) 16)) 6 ((row (row σ 4 (σ 15)) 5 ((row σ 4 (σ 15)) 16)) 17)) 18)) 13 ((row (row (row (row σ 4 (σ 15)) 5 ((row σ 4 (σ 15)) 16)) 6 ((row (row σ 4 (σ 15)) 5 ((row σ 4 (σ 15)) 16)) 17)) 7 ((row (row (row σ 4 (σ 15)) 5 ((row σ 4 (σ 15)) 16)) 6 ((row (row σ 4 (σ 15)) 5 ((row σ 4 (σ 15)) 16)) 17)) 18)) 19)) 0 7 (σ 0 27)) 0 8 (σ 0 28)) 0 13 (σ 0 29)) h) 0 rfl rfl 15 (by decide) lk19 rfl rfl rfl (Nat.le_of_ble_eq_true rfl) (w2 := wM cI a (up2 (up2 (up2 (up2 (row (row (row (row (row σ 4 (σ 15)) 5 ((row σ 4 (σ 15)) 16)) 6 ((row (row σ 4 (σ 15)) 5 ((row σ 4 (σ 15)) 16)) 17)) 7 ((row (row (row σ 4 (σ 15)) 5 ((row σ 4 (σ 15)) 16)) 6 ((row (row σ 4 (σ 15)) 5 ((row σ 4 (σ 15)) 16)) 17)) 18)) 13 ((row (row (row (row σ 4 (σ 15)) 5 ((row σ 4 (σ 15)) 16)) 6 ((row (row σ 4 (σ 15)) 5 ((row σ 4 (σ 15)) 16)) 17)) 7 ((row (row (row σ 4 (σ 15)) 5 ((row σ 4 (σ 15)) 16)) 6 ((row (row σ 4 (σ 15)) 5 ((row σ 4 (σ 15)) 16)) 17)) 18)) 19)) 0 7 (σ 0 27)) 0 8 (σ 0 28)) 0 13 (σ 0 29)) 0 15 (σ 0 30)) h) (wM_f15 _ _ _ _ _) dX12_restore_98 (fun H locs hw => ?_)
    refine lv_aload_n hx hb dX12_restore_101 rfl (lv_at hl 0 rfl) ?_
    refine lv_aload_n hx hb dX12_restore_102 rfl (lv_at hl 0 rfl) ?_
    refine g_get S hw hinX12 (fs := fM a (up2 (up2 (up2 (up2 (row (row (row (row (row σ 4 (σ 15)) 5 ((row σ 4 (σ 15)) 16)) 6 ((row (row σ 4 (σ 15)) 5 ((row σ 4 (σ 15)) 16)) 17)) 7 ((row (row (row σ 4 (σ 15)) 5 ((row σ 4 (σ 15)) 16)) 6 ((row (row σ 4 (σ 15)) 5 ((row σ 4 (σ 15)) 16)) 17)) 18)) 13 ((row (row (row (row σ 4 (σ 15)) 5 ((row σ 4 (σ 15)) 16)) 6 ((row (row σ 4 (σ 15)) 5 ((row σ 4 (σ 15)) 16)) 17)) 7 ((row (row (row σ 4 (σ 15)) 5 ((row σ 4 (σ 15)) 16)) 6 ((row (row σ 4 (σ 15)) 5 ((row σ 4 (σ 15)) 16)) 17)) 18)) 19)) 0 7 (σ 0 27)) 0 8 (σ 0 28)) 0 13 (σ 0 29)) 0 15 (σ 0 30)) h) 0 rfl rfl 31 (by decide) lk20 (v := .int (σ 0 31)) (congrArg (fun z => some (Value.int z)) ((up2_rp (by decide)).trans ((up2_rp (by decide)).trans ((up2_rp (by decide)).trans ((up2_rp (by decide)).trans ((row_rn (by decide)).trans ((row_rn (by decide)).trans ((row_rn (by decide)).trans ((row_rn (by decide)).trans (row_rn (by decide))))))))))) dX12_restore_103 ?_
    refine g_put S hw hinX12 tyX12 tyX12_ok nmX12 (fs := fM a (up2 (up2 (up2 (up2 (row (row (row (row (row σ 4 (σ 15)) 5 ((row σ 4 (σ 15)) 16)) 6 ((row (row σ 4 (σ 15)) 5 ((row σ 4 (σ 15)) 16)) 17)) 7 ((row (row (row σ 4 (σ 15)) 5 ((row σ 4 (σ 15)) 16)) 6 ((row (row σ 4 (σ 15)) 5 ((row σ 4 (σ 15)) 16)) 17)) 18)) 13 ((row (row (row (row σ 4 (σ 15)) 5 ((row σ 4 (σ 15)) 16)) 6 ((row (row σ 4 (σ 15)) 5 ((row σ 4 (σ 15)) 16)) 17)) 7 ((row (row (row σ 4 (σ 15)) 5 ((row σ 4 (σ 15)) 16)) 6 ((row (row σ 4 (σ 15)) 5 ((row σ 4 (σ 15)) 16)) 17)) 18)) 19)) 0 7 (σ 0 27)) 0 8 (σ 0 28)) 0 13 (σ 0 29)) 0 15 (σ 0 30)) h) 0 rfl rfl 22 (by decide) lk21 rfl rfl rfl (Nat.le_of_ble_eq_true rfl) (w2 := wM cI a (up2 (up2 (up2 (up2 (up2 (row (row (row (row (row σ 4 (σ 15)) 5 ((row σ 4 (σ 15)) 16)) 6 ((row (row σ 4 (σ 15)) 5 ((row σ 4 (σ 15)) 16)) 17)) 7 ((row (row (row σ 4 (σ 15)) 5 ((row σ 4 (σ 15)) 16)) 6 ((row (row σ 4 (σ 15)) 5 ((row σ 4 (σ 15)) 16)) 17)) 18)) 13 ((row (row (row (row σ 4 (σ 15)) 5 ((row σ 4 (σ 15)) 16)) 6 ((row (row σ 4 (σ 15)) 5 ((row σ 4 (σ 15)) 16)) 17)) 7 ((row (row (row σ 4 (σ 15)) 5 ((row σ 4 (σ 15)) 16)) 6 ((row (row σ 4 (σ 15)) 5 ((row σ 4 (σ 15)) 16)) 17)) 18)) 19)) 0 7 (σ 0 27)) 0 8 (σ 0 28)) 0 13 (σ 0 29)) 0 15 (σ 0 30)) 0 22 (σ 0 31)) h) (wM_f22 _ _ _ _ _) dX12_restore_106 (fun H locs hw => ?_)
    refine lv_aload_n hx hb dX12_restore_109 rfl (lv_at hl 0 rfl) ?_
    refine g_get S hw hinX12 (fs := fM a (up2 (up2 (up2 (up2 (up2 (row (row (row (row (row σ 4 (σ 15)) 5 ((row σ 4 (σ 15)) 16)) 6 ((row (row σ 4 (σ 15)) 5 ((row σ 4 (σ 15)) 16)) 17)) 7 ((row (row (row σ 4 (σ 15)) 5 ((row σ 4 (σ 15)) 16)) 6 ((row (row σ 4 (σ 15)) 5 ((row σ 4 (σ 15)) 16)) 17)) 18)) 13 ((row (row (row (row σ 4 (σ 15)) 5 ((row σ 4 (σ 15)) 16)) 6 ((row (row σ 4 (σ 15)) 5 ((row σ 4 (σ 15)) 16)) 17)) 7 ((row (row (row σ 4 (σ 15)) 5 ((row σ 4 (σ 15)) 16)) 6 ((row (row σ 4 (σ 15)) 5 ((row σ 4 (σ 15)) 16)) 17)) 18)) 19)) 0 7 (σ 0 27)) 0 8 (σ 0 28)) 0 13 (σ 0 29)) 0 15 (σ 0 30)) 0 22 (σ 0 31)) h) 0 rfl rfl 8 (by decide) lk15 (v := .int (σ 0 28)) (congrArg (fun z => some (Value.int z)) ((up2_rp (by decide)).trans ((up2_rp (by decide)).trans ((up2_rp (by decide)).trans (up2_rs))))) dX12_restore_110 ?_
    exact g_iret S hr hlk hw (by simp only [M_restore_r, if_pos c_1]) (by simp only [M_restore_s, if_pos c_1]) dX12_restore_113
  · refine lv_bipush (v := (-103)) hx hb dX12_restore_11 (by decide) ?_
    exact g_iret S hr hlk hw (by simp only [M_restore_r, if_neg c_1]) (by simp only [M_restore_s, if_neg c_1]) dX12_restore_13

def M_countOf_r (σ : Nat → Nat → Int32) (n : Nat) (what : Int32) : Int32 := if what = 0 then (nI n) else (if what = 1 then (σ 0 7) else (if what = 2 then (M_cowsAll_r σ n) else (if what = 3 then (M_owedAll_r σ) else (if what = 4 then (σ 0 13) else (if what = 5 then (σ 0 8) else (if what = 6 then (σ 0 15) else (if what = 7 then (σ 0 22) else (if what = 8 then (σ 0 1) else (if what = 9 then (σ 0 9) else (-102))))))))))
set_option maxHeartbeats 4000000 in
set_option maxRecDepth 100000 in
theorem c_M_countOf (l : Launch) (D : va_G) (cI : ClassId) (a : Nat → Nat) (σ : Nat → Nat → Int32) (h : Int64) (n : Nat) (what : Int32) (hn : σ 0 6 = nI n) (hnb : n ≤ 4) : gI l D [(cI, .int)] yX12_countOf wsX12_countOf 2 [.ref (a 0), .int what] (wM cI a σ h) (M_countOf_r σ n what) (wM cI a σ h) := by
  refine g_start (cc := cX12_countOf) (maxL := 2) (ret := some .int) (Qc := gQi D [(cI, .int)] (M_countOf_r σ n what) (wM cI a σ h)) (by decide) rfl (Nat.le_of_ble_eq_true rfl) ?_
  intro p e s m below meth C A ls S hr hlk hw hl
  obtain ⟨hx, hb, hml, hown, hts⟩ := id S
  have hinX12 : ∀ x ∈ u_ws RX12 TX12 38, x ∈ wsX12_countOf := fun x h => List.mem_cons_of_mem _ (List.mem_append_right _ h)
  have lk0 : Cond.fieldLink RX12 105 "CowsOwedModel" "clans" "I" ∈ wsX12_countOf := by decide +kernel
  have lk1 : Cond.fieldLink RX12 108 "CowsOwedModel" "rateNow" "I" ∈ wsX12_countOf := by decide +kernel
  have lk2 : Cond.fieldLink RX12 114 "CowsOwedModel" "weddings" "I" ∈ wsX12_countOf := by decide +kernel
  have lk3 : Cond.fieldLink RX12 111 "CowsOwedModel" "yearsNow" "I" ∈ wsX12_countOf := by decide +kernel
  have lk4 : Cond.fieldLink RX12 117 "CowsOwedModel" "plans" "I" ∈ wsX12_countOf := by decide +kernel
  have lk5 : Cond.fieldLink RX12 120 "CowsOwedModel" "toldMany" "I" ∈ wsX12_countOf := by decide +kernel
  have lk6 : Cond.fieldLink RX12 77 "CowsOwedModel" "pageMany" "I" ∈ wsX12_countOf := by decide +kernel
  have lk7 : Cond.fieldLink RX12 123 "CowsOwedModel" "hillsRead" "I" ∈ wsX12_countOf := by decide +kernel
  have hl : lv_has ls 2 [(0, .ref (a 0)), (1, .int what)] := hl
  refine lv_iload_n hx hb dX12_countOf_0 rfl (lv_at hl 1 rfl) ?_
  by_cases s_1 : what = 0
  · refine lv_tableIn (off := 55) (tgt := 56) hx hb dX12_countOf_1 (by rw [s_1]; decide) (by rw [s_1]; decide) (by rw [s_1]; rfl) (by decide) ?_
    refine lv_aload_n hx hb dX12_countOf_56 rfl (lv_at hl 0 rfl) ?_
    refine g_get S hw hinX12 (fs := fM a σ h) 0 rfl rfl 6 (by decide) lk0 (v := .int (nI n)) (congrArg (fun z => some (Value.int z)) (hn)) dX12_countOf_57 ?_
    exact g_iret S hr hlk hw (by simp only [M_countOf_r, if_pos s_1]) rfl dX12_countOf_60
  · by_cases s_2 : what = 1
    · refine lv_tableIn (off := 60) (tgt := 61) hx hb dX12_countOf_1 (by rw [s_2]; decide) (by rw [s_2]; decide) (by rw [s_2]; rfl) (by decide) ?_
      refine lv_aload_n hx hb dX12_countOf_61 rfl (lv_at hl 0 rfl) ?_
      refine g_get S hw hinX12 (fs := fM a σ h) 0 rfl rfl 7 (by decide) lk1 (v := .int (σ 0 7)) rfl dX12_countOf_62 ?_
      exact g_iret S hr hlk hw (by simp only [M_countOf_r, if_neg s_1, if_pos s_2]) rfl dX12_countOf_65
    · by_cases s_3 : what = 2
      · refine lv_tableIn (off := 65) (tgt := 66) hx hb dX12_countOf_1 (by rw [s_3]; decide) (by rw [s_3]; decide) (by rw [s_3]; rfl) (by decide) ?_
        refine lv_aload_n hx hb dX12_countOf_66 rfl (lv_at hl 0 rfl) ?_
        refine g_callVi S hw (c_M_cowsAll l D cI a σ h n (hn) (by omega)) gX12_countOf_X12_cowsAll rfl 0 rfl rfl 0 rfl (by decide +kernel) (by decide) (by decide) hl.1 rfl (Nat.le_of_ble_eq_true rfl) dX12_countOf_67 (fun H locs hw => ?_)
        exact g_iret S hr hlk hw (by simp only [M_countOf_r, if_neg s_1, if_neg s_2, if_pos s_3]) rfl dX12_countOf_70
      · by_cases s_4 : what = 3
        · refine lv_tableIn (off := 70) (tgt := 71) hx hb dX12_countOf_1 (by rw [s_4]; decide) (by rw [s_4]; decide) (by rw [s_4]; rfl) (by decide) ?_
          refine lv_aload_n hx hb dX12_countOf_71 rfl (lv_at hl 0 rfl) ?_
          refine g_callVi S hw (c_M_owedAll l D cI a σ h) gX12_countOf_X12_owedAll rfl 0 rfl rfl 0 rfl (by decide +kernel) (by decide) (by decide) hl.1 rfl (Nat.le_of_ble_eq_true rfl) dX12_countOf_72 (fun H locs hw => ?_)
          exact g_iret S hr hlk hw (by simp only [M_countOf_r, if_neg s_1, if_neg s_2, if_neg s_3, if_pos s_4]) rfl dX12_countOf_75
        · by_cases s_5 : what = 4
          · refine lv_tableIn (off := 75) (tgt := 76) hx hb dX12_countOf_1 (by rw [s_5]; decide) (by rw [s_5]; decide) (by rw [s_5]; rfl) (by decide) ?_
            refine lv_aload_n hx hb dX12_countOf_76 rfl (lv_at hl 0 rfl) ?_
            refine g_get S hw hinX12 (fs := fM a σ h) 0 rfl rfl 13 (by decide) lk2 (v := .int (σ 0 13)) rfl dX12_countOf_77 ?_
            exact g_iret S hr hlk hw (by simp only [M_countOf_r, if_neg s_1, if_neg s_2, if_neg s_3, if_neg s_4, if_pos s_5]) rfl dX12_countOf_80
          · by_cases s_6 : what = 5
            · refine lv_tableIn (off := 80) (tgt := 81) hx hb dX12_countOf_1 (by rw [s_6]; decide) (by rw [s_6]; decide) (by rw [s_6]; rfl) (by decide) ?_
              refine lv_aload_n hx hb dX12_countOf_81 rfl (lv_at hl 0 rfl) ?_
              refine g_get S hw hinX12 (fs := fM a σ h) 0 rfl rfl 8 (by decide) lk3 (v := .int (σ 0 8)) rfl dX12_countOf_82 ?_
              exact g_iret S hr hlk hw (by simp only [M_countOf_r, if_neg s_1, if_neg s_2, if_neg s_3, if_neg s_4, if_neg s_5, if_pos s_6]) rfl dX12_countOf_85
            · by_cases s_7 : what = 6
              · refine lv_tableIn (off := 85) (tgt := 86) hx hb dX12_countOf_1 (by rw [s_7]; decide) (by rw [s_7]; decide) (by rw [s_7]; rfl) (by decide) ?_
                refine lv_aload_n hx hb dX12_countOf_86 rfl (lv_at hl 0 rfl) ?_
                refine g_get S hw hinX12 (fs := fM a σ h) 0 rfl rfl 15 (by decide) lk4 (v := .int (σ 0 15)) rfl dX12_countOf_87 ?_
                exact g_iret S hr hlk hw (by simp only [M_countOf_r, if_neg s_1, if_neg s_2, if_neg s_3, if_neg s_4, if_neg s_5, if_neg s_6, if_pos s_7]) rfl dX12_countOf_90
              · by_cases s_8 : what = 7
                · refine lv_tableIn (off := 90) (tgt := 91) hx hb dX12_countOf_1 (by rw [s_8]; decide) (by rw [s_8]; decide) (by rw [s_8]; rfl) (by decide) ?_
                  refine lv_aload_n hx hb dX12_countOf_91 rfl (lv_at hl 0 rfl) ?_
                  refine g_get S hw hinX12 (fs := fM a σ h) 0 rfl rfl 22 (by decide) lk5 (v := .int (σ 0 22)) rfl dX12_countOf_92 ?_
                  exact g_iret S hr hlk hw (by simp only [M_countOf_r, if_neg s_1, if_neg s_2, if_neg s_3, if_neg s_4, if_neg s_5, if_neg s_6, if_neg s_7, if_pos s_8]) rfl dX12_countOf_95
                · by_cases s_9 : what = 8
                  · refine lv_tableIn (off := 95) (tgt := 96) hx hb dX12_countOf_1 (by rw [s_9]; decide) (by rw [s_9]; decide) (by rw [s_9]; rfl) (by decide) ?_
                    refine lv_aload_n hx hb dX12_countOf_96 rfl (lv_at hl 0 rfl) ?_
                    refine g_get S hw hinX12 (fs := fM a σ h) 0 rfl rfl 1 (by decide) lk6 (v := .int (σ 0 1)) rfl dX12_countOf_97 ?_
                    exact g_iret S hr hlk hw (by simp only [M_countOf_r, if_neg s_1, if_neg s_2, if_neg s_3, if_neg s_4, if_neg s_5, if_neg s_6, if_neg s_7, if_neg s_8, if_pos s_9]) rfl dX12_countOf_100
                  · by_cases s_10 : what = 9
                    · refine lv_tableIn (off := 100) (tgt := 101) hx hb dX12_countOf_1 (by rw [s_10]; decide) (by rw [s_10]; decide) (by rw [s_10]; rfl) (by decide) ?_
                      refine lv_aload_n hx hb dX12_countOf_101 rfl (lv_at hl 0 rfl) ?_
                      refine g_get S hw hinX12 (fs := fM a σ h) 0 rfl rfl 9 (by decide) lk7 (v := .int (σ 0 9)) rfl dX12_countOf_102 ?_
                      exact g_iret S hr hlk hw (by simp only [M_countOf_r, if_neg s_1, if_neg s_2, if_neg s_3, if_neg s_4, if_neg s_5, if_neg s_6, if_neg s_7, if_neg s_8, if_neg s_9, if_pos s_10]) rfl dX12_countOf_105
                    · refine lv_tableOut (tgt := 106) hx hb dX12_countOf_1 (by have q0 := lv_neT (a := 0) s_1 (by decide); have q1 := lv_neT (a := 1) s_2 (by decide); have q2 := lv_neT (a := 2) s_3 (by decide); have q3 := lv_neT (a := 3) s_4 (by decide); have q4 := lv_neT (a := 4) s_5 (by decide); have q5 := lv_neT (a := 5) s_6 (by decide); have q6 := lv_neT (a := 6) s_7 (by decide); have q7 := lv_neT (a := 7) s_8 (by decide); have q8 := lv_neT (a := 8) s_9 (by decide); have q9 := lv_neT (a := 9) s_10 (by decide); omega) (by decide) ?_
                      refine lv_bipush (v := (-102)) hx hb dX12_countOf_106 (by decide) ?_
                      exact g_iret S hr hlk hw (by simp only [M_countOf_r, if_neg s_1, if_neg s_2, if_neg s_3, if_neg s_4, if_neg s_5, if_neg s_6, if_neg s_7, if_neg s_8, if_neg s_9, if_neg s_10]) rfl dX12_countOf_108

def M_count_r (σ : Nat → Nat → Int32) (n : Nat) (what : Int32) : Int32 := M_countOf_r σ n what
set_option maxHeartbeats 4000000 in
set_option maxRecDepth 100000 in
theorem c_M_count (l : Launch) (D : va_G) (cI : ClassId) (a : Nat → Nat) (σ : Nat → Nat → Int32) (h : Int64) (n : Nat) (what : Int32) (hn : σ 0 6 = nI n) (hnb : n ≤ 4) : gI l D [(cI, .int)] yX12_count wsX12_count 3 [.ref (a 0), .int what] (wM cI a σ h) (M_count_r σ n what) (wM cI a σ h) := by
  refine g_start (cc := cX12_count) (maxL := 2) (ret := some .int) (Qc := gQi D [(cI, .int)] (M_count_r σ n what) (wM cI a σ h)) (by decide) rfl (Nat.le_of_ble_eq_true rfl) ?_
  intro p e s m below meth C A ls S hr hlk hw hl
  obtain ⟨hx, hb, hml, hown, hts⟩ := id S
  have hl : lv_has ls 2 [(0, .ref (a 0)), (1, .int what)] := hl
  refine lv_aload_n hx hb dX12_count_0 rfl (lv_at hl 0 rfl) ?_
  refine lv_iload_n hx hb dX12_count_1 rfl (lv_at hl 1 rfl) ?_
  refine g_callVi S hw (c_M_countOf l D cI a σ h n what (hn) (by omega)) gX12_count_X12_countOf rfl 0 rfl rfl 1 rfl (by decide +kernel) (by decide) (by decide) hl.1 rfl (Nat.le_of_ble_eq_true rfl) dX12_count_2 (fun H locs hw => ?_)
  exact g_iret S hr hlk hw (by simp only [M_count_r]) rfl dX12_count_5

def M_say_h (σ : Nat → Nat → Int32) (h : Int64) (v : Int64) : Int64 := ((31 * h) + v)
set_option maxHeartbeats 4000000 in
set_option maxRecDepth 100000 in
theorem c_M_say (l : Launch) (D : va_G) (cI : ClassId) (a : Nat → Nat) (σ : Nat → Nat → Int32) (h : Int64) (v : Int64) : gV l D [(cI, .int)] yX12_say wsX12_say 1 [.ref (a 0), .long v] (wM cI a σ h)  (wM cI a σ (M_say_h σ h v)) := by
  refine g_start (cc := cX12_say) (maxL := 3) (ret := none) (Qc := gQv D [(cI, .int)] (wM cI a σ (M_say_h σ h v))) (by decide) rfl (Nat.le_of_ble_eq_true rfl) ?_
  intro p e s m below meth C A ls S hr hlk hw hl
  obtain ⟨hx, hb, hml, hown, hts⟩ := id S
  have hinX12 : ∀ x ∈ u_ws RX12 TX12 38, x ∈ wsX12_say := fun x h => List.mem_cons_of_mem _ (List.mem_append_right _ h)
  have lk0 : Cond.constantLong RX12 248 (31) ∈ wsX12_say := by decide +kernel
  have lk1 : Cond.fieldLink RX12 250 "CowsOwedModel" "hash" "J" ∈ wsX12_say := by decide +kernel
  have hl : lv_has ls 3 [(0, .ref (a 0)), (1, .long v)] := hl
  refine lv_aload_n hx hb dX12_say_0 rfl (lv_at hl 0 rfl) ?_
  refine lv_ldc2 (v := 31) hx hb hown (hts _ lk0) dX12_say_1 ?_
  refine lv_aload_n hx hb dX12_say_4 rfl (lv_at hl 0 rfl) ?_
  refine g_get S hw hinX12 (fs := fM a σ h) 0 rfl rfl 37 (by decide) lk1 (v := .long h) rfl dX12_say_5 ?_
  refine lv_lmul hx hb dX12_say_8 ?_
  refine lv_lload_n hx hb dX12_say_9 rfl (lv_at hl 1 rfl) ?_
  refine lv_ladd hx hb dX12_say_10 ?_
  refine g_put S hw hinX12 tyX12 tyX12_ok nmX12 (fs := fM a σ h) 0 rfl rfl 37 (by decide) lk1 rfl rfl rfl (Nat.le_of_ble_eq_true rfl) (w2 := wM cI a σ ((31 * h) + v)) (wM_f37 _ _ _ _ _) dX12_say_11 (fun H locs hw => ?_)
  exact g_vret S hr hlk hw (by simp only [M_say_h]) dX12_say_14

def M_sayClan_S2_0 (σ : Nat → Nat → Int32) (c : Nat) (i2 : Nat) (h2 : Int64) : Int64 := if i2 < 7 then (M_say_h σ h2 ((M_clanOf_r σ c (nI i2)).toInt64)) else (if i2 ≤ 9 then h2 else (M_say_h σ h2 ((M_clanOf_r σ c (nI i2)).toInt64)))
def M_sayClan_L2 (σ : Nat → Nat → Int32) (c : Nat) : Nat → Nat → (Int64) → (Int64)
  | 0, _, h2 => h2
  | n2 + 1, i2, h2 => M_sayClan_L2 σ c n2 (i2 + 1) (M_sayClan_S2_0 σ c i2 h2)
def M_sayClan_h (σ : Nat → Nat → Int32) (h : Int64) (c : Nat) : Int64 := (M_sayClan_L2 σ c 14 0 h)
set_option maxHeartbeats 4000000 in
set_option maxRecDepth 100000 in
theorem c_M_sayClan (l : Launch) (D : va_G) (cI : ClassId) (a : Nat → Nat) (σ : Nat → Nat → Int32) (h : Int64) (c : Nat) (hc : c < 4) : gV l D [(cI, .int)] yX12_sayClan wsX12_sayClan 3 [.ref (a 0), .int (nI c)] (wM cI a σ h)  (wM cI a σ (M_sayClan_h σ h c)) := by
  refine g_start (cc := cX12_sayClan) (maxL := 3) (ret := none) (Qc := gQv D [(cI, .int)] (wM cI a σ (M_sayClan_h σ h c))) (by decide) rfl (Nat.le_of_ble_eq_true rfl) ?_
  intro p e s m below meth C A ls S hr hlk hw hl
  obtain ⟨hx, hb, hml, hown, hts⟩ := id S
  have hl : lv_has ls 3 [(0, .ref (a 0)), (1, .int (nI c))] := hl
  refine lv_iconst (v := 0) hx hb dX12_sayClan_0 (by decide) ?_
  refine lv_istore_n (lv' := [(2, .int 0), (0, .ref (a 0)), (1, .int (nI c))]) hx hb dX12_sayClan_1 rfl hl (by decide) rfl (fun ls hl => ?_)
  have L2 : ∀ (n2 i2 : Nat) (h2 : Int64) (H : Heap) (locs : List Loc) (ls : Array Slot), i2 + n2 = 14 → M_sayClan_L2 σ c n2 i2 h2 = M_sayClan_L2 σ c 14 0 h → gw D [(cI, .int)] A s H locs (wM cI a σ h2) → lv_has ls 3 [(2, .int (nI i2)), (0, .ref (a 0)), (1, .int (nI c))] → W p l e (gR 3) s m ([.ref (a 0), .int (nI c)] : List Value).toArray below meth C H locs 0 0 (MQ below (gQv D [(cI, .int)] (wM cI a σ (M_sayClan_h σ h c)) A) ([.ref (a 0), .int (nI c)] : List Value).toArray s 0 0 A) (F0 m 2 ls []) := by
    intro n2
    induction n2 with
    | zero =>
      intro i2 h2 H locs ls hi2 hF2 hw hl
      refine lv_iload_n hx hb dX12_sayClan_2 rfl (lv_at hl 0 rfl) ?_
      refine lv_bipush (v := 14) hx hb dX12_sayClan_3 (by decide) ?_
      refine ln_ge (x := i2) (y := 14) hx hb (by omega) (by omega) (tgt := 37) dX12_sayClan_5 (by decide) (fun c_x => ?_) (fun c_x => absurd (by omega) c_x)
      have hz2 : 14 = i2 := by omega
      subst hz2
      have e2_0 : (M_sayClan_L2 σ c 14 0 h) = h2 := hF2.symm
      subst e2_0
      exact g_vret S hr hlk hw (by simp only [M_sayClan_h]) dX12_sayClan_37
    | succ n2 ih2 =>
      intro i2 h2 H locs ls hi2 hF2 hw hl
      refine lv_iload_n hx hb dX12_sayClan_2 rfl (lv_at hl 0 rfl) ?_
      refine lv_bipush (v := 14) hx hb dX12_sayClan_3 (by decide) ?_
      refine ln_ge (x := i2) (y := 14) hx hb (by omega) (by omega) (tgt := 37) dX12_sayClan_5 (by decide) (fun c_x => absurd c_x (by omega)) (fun c_x => ?_)
      refine lv_iload_n hx hb dX12_sayClan_8 rfl (lv_at hl 0 rfl) ?_
      refine lv_bipush (v := 7) hx hb dX12_sayClan_9 (by decide) ?_
      refine ln_lt (x := i2) (y := 7) hx hb (by omega) (by omega) (tgt := 20) dX12_sayClan_11 (by decide) (fun c_2 => ?_) (fun c_2 => ?_)
      · refine lv_aload_n hx hb dX12_sayClan_20 rfl (lv_at hl 1 rfl) ?_
        refine lv_aload_n hx hb dX12_sayClan_21 rfl (lv_at hl 1 rfl) ?_
        refine lv_iload_n hx hb dX12_sayClan_22 rfl (lv_at hl 2 rfl) ?_
        refine lv_iload_n hx hb dX12_sayClan_23 rfl (lv_at hl 0 rfl) ?_
        refine g_callVi S hw (c_M_clanOf l D cI a σ h2 c (nI i2) (by omega)) gX12_sayClan_X12_clanOf rfl 0 rfl rfl 2 rfl (by decide +kernel) (by decide) (by decide) hl.1 rfl (Nat.le_of_ble_eq_true rfl) dX12_sayClan_24 (fun H locs hw => ?_)
        refine lv_i2l hx hb dX12_sayClan_27 rfl ?_
        refine g_callVv S hw (c_M_say l D cI a σ h2 ((M_clanOf_r σ c (nI i2)).toInt64)) gX12_sayClan_X12_say rfl 0 rfl rfl 1 rfl (by decide +kernel) (by decide) (by decide) hl.1 rfl (Nat.le_of_ble_eq_true rfl) dX12_sayClan_28 (fun H locs hw => ?_)
        refine lv_iinc (v := nI (i2 + 1)) (lv' := [(2, .int (nI (i2 + 1))), (0, .ref (a 0)), (1, .int (nI c))]) hx hb dX12_sayClan_31 hl (k := 0) rfl (nI_1 _) (by decide) rfl (fun ls hl => ?_)
        refine lv_goto (tgt := 2) hx hb dX12_sayClan_34 (by decide) ?_
        exact ih2 (i2 + 1) (M_say_h σ h2 ((M_clanOf_r σ c (nI i2)).toInt64)) _ _ _ (by omega) (by have q := hF2; simp only [M_sayClan_L2, M_sayClan_S2_0, if_pos c_2] at q; exact q) hw (lv_sub hl [0, 1, 2] rfl)
      · refine lv_iload_n hx hb dX12_sayClan_14 rfl (lv_at hl 0 rfl) ?_
        refine lv_bipush (v := 9) hx hb dX12_sayClan_15 (by decide) ?_
        refine ln_le (x := i2) (y := 9) hx hb (by omega) (by omega) (tgt := 31) dX12_sayClan_17 (by decide) (fun c_3 => ?_) (fun c_3 => ?_)
        · refine lv_iinc (v := nI (i2 + 1)) (lv' := [(2, .int (nI (i2 + 1))), (0, .ref (a 0)), (1, .int (nI c))]) hx hb dX12_sayClan_31 hl (k := 0) rfl (nI_1 _) (by decide) rfl (fun ls hl => ?_)
          refine lv_goto (tgt := 2) hx hb dX12_sayClan_34 (by decide) ?_
          exact ih2 (i2 + 1) h2 _ _ _ (by omega) (by have q := hF2; simp only [M_sayClan_L2, M_sayClan_S2_0, if_neg c_2, if_pos c_3] at q; exact q) hw (lv_sub hl [0, 1, 2] rfl)
        · refine lv_aload_n hx hb dX12_sayClan_20 rfl (lv_at hl 1 rfl) ?_
          refine lv_aload_n hx hb dX12_sayClan_21 rfl (lv_at hl 1 rfl) ?_
          refine lv_iload_n hx hb dX12_sayClan_22 rfl (lv_at hl 2 rfl) ?_
          refine lv_iload_n hx hb dX12_sayClan_23 rfl (lv_at hl 0 rfl) ?_
          refine g_callVi S hw (c_M_clanOf l D cI a σ h2 c (nI i2) (by omega)) gX12_sayClan_X12_clanOf rfl 0 rfl rfl 2 rfl (by decide +kernel) (by decide) (by decide) hl.1 rfl (Nat.le_of_ble_eq_true rfl) dX12_sayClan_24 (fun H locs hw => ?_)
          refine lv_i2l hx hb dX12_sayClan_27 rfl ?_
          refine g_callVv S hw (c_M_say l D cI a σ h2 ((M_clanOf_r σ c (nI i2)).toInt64)) gX12_sayClan_X12_say rfl 0 rfl rfl 1 rfl (by decide +kernel) (by decide) (by decide) hl.1 rfl (Nat.le_of_ble_eq_true rfl) dX12_sayClan_28 (fun H locs hw => ?_)
          refine lv_iinc (v := nI (i2 + 1)) (lv' := [(2, .int (nI (i2 + 1))), (0, .ref (a 0)), (1, .int (nI c))]) hx hb dX12_sayClan_31 hl (k := 0) rfl (nI_1 _) (by decide) rfl (fun ls hl => ?_)
          refine lv_goto (tgt := 2) hx hb dX12_sayClan_34 (by decide) ?_
          exact ih2 (i2 + 1) (M_say_h σ h2 ((M_clanOf_r σ c (nI i2)).toInt64)) _ _ _ (by omega) (by have q := hF2; simp only [M_sayClan_L2, M_sayClan_S2_0, if_neg c_2, if_neg c_3] at q; exact q) hw (lv_sub hl [0, 1, 2] rfl)
  exact L2 14 0 h _ _ _ (by omega) rfl hw (lv_sub hl [0, 1, 2] rfl)

def M_go_r (σ : Nat → Nat → Int32) (rm : Nat) (c : Int32) : Int32 := if (σ 0 5) = 0 then (if (M_kindBy_r c) = (-1) then 0 else 1) else (if (σ 0 5) = 1 then (M_in_r ((c - 48).toInt64) 0 9) else (if (σ 0 5) = 2 then (if c = 44 then (if 4 ≤ rm then 0 else 1) else (if c = 59 then (if rm ≤ 1 then 0 else 1) else 0)) else (if (σ 0 5) = 3 then (M_in_r ((c - 48).toInt64) 1 5) else 0)))
def M_go_s (σ : Nat → Nat → Int32) (rm : Nat) (c : Int32) : Nat → Nat → Int32 := if (σ 0 5) = 0 then (if (M_kindBy_r c) = (-1) then (up2 (up2 σ 0 5 ((σ 0 5) + 1)) 2 (2 * rm) (M_kindBy_r c)) else (up2 (up2 σ 0 5 ((σ 0 5) + 1)) 2 (2 * rm) (M_kindBy_r c))) else (if (σ 0 5) = 1 then (up2 (up2 (up2 σ 0 5 ((σ 0 5) + 1)) 2 ((2 * rm) + 1) (c - 48)) 0 3 (nI (rm + 1))) else (if (σ 0 5) = 2 then (if c = 44 then (if 4 ≤ rm then (up2 (up2 σ 0 5 ((σ 0 5) + 1)) 0 5 0) else (up2 (up2 σ 0 5 ((σ 0 5) + 1)) 0 5 0)) else (if c = 59 then (if rm ≤ 1 then (up2 (up2 σ 0 5 ((σ 0 5) + 1)) 0 5 3) else (up2 (up2 σ 0 5 ((σ 0 5) + 1)) 0 5 3)) else (up2 (up2 σ 0 5 ((σ 0 5) + 1)) 0 5 3))) else (if (σ 0 5) = 3 then (up2 (up2 σ 0 5 ((σ 0 5) + 1)) 0 4 (c - 48)) else (up2 σ 0 5 ((σ 0 5) + 1)))))
theorem M_go_z (σ : Nat → Nat → Int32) (rm : Nat) (c : Int32) : M_go_r σ rm c = 0 ∨ M_go_r σ rm c = 1 := by
  unfold M_go_r
  by_cases z1 : (σ 0 5) = 0
  · rw [if_pos z1]
    by_cases z2 : (M_kindBy_r c) = (-1)
    · rw [if_pos z2]
      exact Or.inl rfl
    · rw [if_neg z2]
      exact Or.inr rfl
  · rw [if_neg z1]
    by_cases z2 : (σ 0 5) = 1
    · rw [if_pos z2]
      exact M_in_z ((c - 48).toInt64) 0 9
    · rw [if_neg z2]
      by_cases z3 : (σ 0 5) = 2
      · rw [if_pos z3]
        by_cases z4 : c = 44
        · rw [if_pos z4]
          by_cases z5 : 4 ≤ rm
          · rw [if_pos z5]
            exact Or.inl rfl
          · rw [if_neg z5]
            exact Or.inr rfl
        · rw [if_neg z4]
          by_cases z5 : c = 59
          · rw [if_pos z5]
            by_cases z6 : rm ≤ 1
            · rw [if_pos z6]
              exact Or.inl rfl
            · rw [if_neg z6]
              exact Or.inr rfl
          · rw [if_neg z5]
            exact Or.inl rfl
      · rw [if_neg z3]
        by_cases z4 : (σ 0 5) = 3
        · rw [if_pos z4]
          exact M_in_z ((c - 48).toInt64) 1 5
        · rw [if_neg z4]
          exact Or.inl rfl
theorem M_go_s_p0_1 (σ : Nat → Nat → Int32) (rm : Nat) (c : Int32) : M_go_s σ rm c 0 1 = σ 0 1 := by
  unfold M_go_s
  by_cases z1 : (σ 0 5) = 0
  · refine Eq.trans (congrFun (congrFun (if_pos z1) 0) 1) ?_
    by_cases z2 : (M_kindBy_r c) = (-1)
    · refine Eq.trans (congrFun (congrFun (if_pos z2) 0) 1) ?_
      exact (up2_rn (by decide)).trans (up2_rp (by decide))
    · refine Eq.trans (congrFun (congrFun (if_neg z2) 0) 1) ?_
      exact (up2_rn (by decide)).trans (up2_rp (by decide))
  · refine Eq.trans (congrFun (congrFun (if_neg z1) 0) 1) ?_
    by_cases z2 : (σ 0 5) = 1
    · refine Eq.trans (congrFun (congrFun (if_pos z2) 0) 1) ?_
      exact (up2_rp (by decide)).trans ((up2_rn (by decide)).trans (up2_rp (by decide)))
    · refine Eq.trans (congrFun (congrFun (if_neg z2) 0) 1) ?_
      by_cases z3 : (σ 0 5) = 2
      · refine Eq.trans (congrFun (congrFun (if_pos z3) 0) 1) ?_
        by_cases z4 : c = 44
        · refine Eq.trans (congrFun (congrFun (if_pos z4) 0) 1) ?_
          by_cases z5 : 4 ≤ rm
          · refine Eq.trans (congrFun (congrFun (if_pos z5) 0) 1) ?_
            exact (up2_rp (by decide)).trans (up2_rp (by decide))
          · refine Eq.trans (congrFun (congrFun (if_neg z5) 0) 1) ?_
            exact (up2_rp (by decide)).trans (up2_rp (by decide))
        · refine Eq.trans (congrFun (congrFun (if_neg z4) 0) 1) ?_
          by_cases z5 : c = 59
          · refine Eq.trans (congrFun (congrFun (if_pos z5) 0) 1) ?_
            by_cases z6 : rm ≤ 1
            · refine Eq.trans (congrFun (congrFun (if_pos z6) 0) 1) ?_
              exact (up2_rp (by decide)).trans (up2_rp (by decide))
            · refine Eq.trans (congrFun (congrFun (if_neg z6) 0) 1) ?_
              exact (up2_rp (by decide)).trans (up2_rp (by decide))
          · refine Eq.trans (congrFun (congrFun (if_neg z5) 0) 1) ?_
            exact (up2_rp (by decide)).trans (up2_rp (by decide))
      · refine Eq.trans (congrFun (congrFun (if_neg z3) 0) 1) ?_
        by_cases z4 : (σ 0 5) = 3
        · refine Eq.trans (congrFun (congrFun (if_pos z4) 0) 1) ?_
          exact (up2_rp (by decide)).trans (up2_rp (by decide))
        · refine Eq.trans (congrFun (congrFun (if_neg z4) 0) 1) ?_
          exact up2_rp (by decide)
theorem M_go_s_k1 (σ : Nat → Nat → Int32) (rm : Nat) (c : Int32) : M_go_s σ rm c 1 = σ 1 := by
  unfold M_go_s
  by_cases z1 : (σ 0 5) = 0
  · refine Eq.trans (congrFun (if_pos z1) 1) ?_
    by_cases z2 : (M_kindBy_r c) = (-1)
    · refine Eq.trans (congrFun (if_pos z2) 1) ?_
      exact (up2_n _ _ _ (by decide)).trans (up2_n _ _ _ (by decide))
    · refine Eq.trans (congrFun (if_neg z2) 1) ?_
      exact (up2_n _ _ _ (by decide)).trans (up2_n _ _ _ (by decide))
  · refine Eq.trans (congrFun (if_neg z1) 1) ?_
    by_cases z2 : (σ 0 5) = 1
    · refine Eq.trans (congrFun (if_pos z2) 1) ?_
      exact (up2_n _ _ _ (by decide)).trans ((up2_n _ _ _ (by decide)).trans (up2_n _ _ _ (by decide)))
    · refine Eq.trans (congrFun (if_neg z2) 1) ?_
      by_cases z3 : (σ 0 5) = 2
      · refine Eq.trans (congrFun (if_pos z3) 1) ?_
        by_cases z4 : c = 44
        · refine Eq.trans (congrFun (if_pos z4) 1) ?_
          by_cases z5 : 4 ≤ rm
          · refine Eq.trans (congrFun (if_pos z5) 1) ?_
            exact (up2_n _ _ _ (by decide)).trans (up2_n _ _ _ (by decide))
          · refine Eq.trans (congrFun (if_neg z5) 1) ?_
            exact (up2_n _ _ _ (by decide)).trans (up2_n _ _ _ (by decide))
        · refine Eq.trans (congrFun (if_neg z4) 1) ?_
          by_cases z5 : c = 59
          · refine Eq.trans (congrFun (if_pos z5) 1) ?_
            by_cases z6 : rm ≤ 1
            · refine Eq.trans (congrFun (if_pos z6) 1) ?_
              exact (up2_n _ _ _ (by decide)).trans (up2_n _ _ _ (by decide))
            · refine Eq.trans (congrFun (if_neg z6) 1) ?_
              exact (up2_n _ _ _ (by decide)).trans (up2_n _ _ _ (by decide))
          · refine Eq.trans (congrFun (if_neg z5) 1) ?_
            exact (up2_n _ _ _ (by decide)).trans (up2_n _ _ _ (by decide))
      · refine Eq.trans (congrFun (if_neg z3) 1) ?_
        by_cases z4 : (σ 0 5) = 3
        · refine Eq.trans (congrFun (if_pos z4) 1) ?_
          exact (up2_n _ _ _ (by decide)).trans (up2_n _ _ _ (by decide))
        · refine Eq.trans (congrFun (if_neg z4) 1) ?_
          exact up2_n _ _ _ (by decide)
theorem M_go_s_k3 (σ : Nat → Nat → Int32) (rm : Nat) (c : Int32) : M_go_s σ rm c 3 = σ 3 := by
  unfold M_go_s
  by_cases z1 : (σ 0 5) = 0
  · refine Eq.trans (congrFun (if_pos z1) 3) ?_
    by_cases z2 : (M_kindBy_r c) = (-1)
    · refine Eq.trans (congrFun (if_pos z2) 3) ?_
      exact (up2_n _ _ _ (by decide)).trans (up2_n _ _ _ (by decide))
    · refine Eq.trans (congrFun (if_neg z2) 3) ?_
      exact (up2_n _ _ _ (by decide)).trans (up2_n _ _ _ (by decide))
  · refine Eq.trans (congrFun (if_neg z1) 3) ?_
    by_cases z2 : (σ 0 5) = 1
    · refine Eq.trans (congrFun (if_pos z2) 3) ?_
      exact (up2_n _ _ _ (by decide)).trans ((up2_n _ _ _ (by decide)).trans (up2_n _ _ _ (by decide)))
    · refine Eq.trans (congrFun (if_neg z2) 3) ?_
      by_cases z3 : (σ 0 5) = 2
      · refine Eq.trans (congrFun (if_pos z3) 3) ?_
        by_cases z4 : c = 44
        · refine Eq.trans (congrFun (if_pos z4) 3) ?_
          by_cases z5 : 4 ≤ rm
          · refine Eq.trans (congrFun (if_pos z5) 3) ?_
            exact (up2_n _ _ _ (by decide)).trans (up2_n _ _ _ (by decide))
          · refine Eq.trans (congrFun (if_neg z5) 3) ?_
            exact (up2_n _ _ _ (by decide)).trans (up2_n _ _ _ (by decide))
        · refine Eq.trans (congrFun (if_neg z4) 3) ?_
          by_cases z5 : c = 59
          · refine Eq.trans (congrFun (if_pos z5) 3) ?_
            by_cases z6 : rm ≤ 1
            · refine Eq.trans (congrFun (if_pos z6) 3) ?_
              exact (up2_n _ _ _ (by decide)).trans (up2_n _ _ _ (by decide))
            · refine Eq.trans (congrFun (if_neg z6) 3) ?_
              exact (up2_n _ _ _ (by decide)).trans (up2_n _ _ _ (by decide))
          · refine Eq.trans (congrFun (if_neg z5) 3) ?_
            exact (up2_n _ _ _ (by decide)).trans (up2_n _ _ _ (by decide))
      · refine Eq.trans (congrFun (if_neg z3) 3) ?_
        by_cases z4 : (σ 0 5) = 3
        · refine Eq.trans (congrFun (if_pos z4) 3) ?_
          exact (up2_n _ _ _ (by decide)).trans (up2_n _ _ _ (by decide))
        · refine Eq.trans (congrFun (if_neg z4) 3) ?_
          exact up2_n _ _ _ (by decide)
theorem M_go_s_k4 (σ : Nat → Nat → Int32) (rm : Nat) (c : Int32) : M_go_s σ rm c 4 = σ 4 := by
  unfold M_go_s
  by_cases z1 : (σ 0 5) = 0
  · refine Eq.trans (congrFun (if_pos z1) 4) ?_
    by_cases z2 : (M_kindBy_r c) = (-1)
    · refine Eq.trans (congrFun (if_pos z2) 4) ?_
      exact (up2_n _ _ _ (by decide)).trans (up2_n _ _ _ (by decide))
    · refine Eq.trans (congrFun (if_neg z2) 4) ?_
      exact (up2_n _ _ _ (by decide)).trans (up2_n _ _ _ (by decide))
  · refine Eq.trans (congrFun (if_neg z1) 4) ?_
    by_cases z2 : (σ 0 5) = 1
    · refine Eq.trans (congrFun (if_pos z2) 4) ?_
      exact (up2_n _ _ _ (by decide)).trans ((up2_n _ _ _ (by decide)).trans (up2_n _ _ _ (by decide)))
    · refine Eq.trans (congrFun (if_neg z2) 4) ?_
      by_cases z3 : (σ 0 5) = 2
      · refine Eq.trans (congrFun (if_pos z3) 4) ?_
        by_cases z4 : c = 44
        · refine Eq.trans (congrFun (if_pos z4) 4) ?_
          by_cases z5 : 4 ≤ rm
          · refine Eq.trans (congrFun (if_pos z5) 4) ?_
            exact (up2_n _ _ _ (by decide)).trans (up2_n _ _ _ (by decide))
          · refine Eq.trans (congrFun (if_neg z5) 4) ?_
            exact (up2_n _ _ _ (by decide)).trans (up2_n _ _ _ (by decide))
        · refine Eq.trans (congrFun (if_neg z4) 4) ?_
          by_cases z5 : c = 59
          · refine Eq.trans (congrFun (if_pos z5) 4) ?_
            by_cases z6 : rm ≤ 1
            · refine Eq.trans (congrFun (if_pos z6) 4) ?_
              exact (up2_n _ _ _ (by decide)).trans (up2_n _ _ _ (by decide))
            · refine Eq.trans (congrFun (if_neg z6) 4) ?_
              exact (up2_n _ _ _ (by decide)).trans (up2_n _ _ _ (by decide))
          · refine Eq.trans (congrFun (if_neg z5) 4) ?_
            exact (up2_n _ _ _ (by decide)).trans (up2_n _ _ _ (by decide))
      · refine Eq.trans (congrFun (if_neg z3) 4) ?_
        by_cases z4 : (σ 0 5) = 3
        · refine Eq.trans (congrFun (if_pos z4) 4) ?_
          exact (up2_n _ _ _ (by decide)).trans (up2_n _ _ _ (by decide))
        · refine Eq.trans (congrFun (if_neg z4) 4) ?_
          exact up2_n _ _ _ (by decide)
theorem M_go_s_k5 (σ : Nat → Nat → Int32) (rm : Nat) (c : Int32) : M_go_s σ rm c 5 = σ 5 := by
  unfold M_go_s
  by_cases z1 : (σ 0 5) = 0
  · refine Eq.trans (congrFun (if_pos z1) 5) ?_
    by_cases z2 : (M_kindBy_r c) = (-1)
    · refine Eq.trans (congrFun (if_pos z2) 5) ?_
      exact (up2_n _ _ _ (by decide)).trans (up2_n _ _ _ (by decide))
    · refine Eq.trans (congrFun (if_neg z2) 5) ?_
      exact (up2_n _ _ _ (by decide)).trans (up2_n _ _ _ (by decide))
  · refine Eq.trans (congrFun (if_neg z1) 5) ?_
    by_cases z2 : (σ 0 5) = 1
    · refine Eq.trans (congrFun (if_pos z2) 5) ?_
      exact (up2_n _ _ _ (by decide)).trans ((up2_n _ _ _ (by decide)).trans (up2_n _ _ _ (by decide)))
    · refine Eq.trans (congrFun (if_neg z2) 5) ?_
      by_cases z3 : (σ 0 5) = 2
      · refine Eq.trans (congrFun (if_pos z3) 5) ?_
        by_cases z4 : c = 44
        · refine Eq.trans (congrFun (if_pos z4) 5) ?_
          by_cases z5 : 4 ≤ rm
          · refine Eq.trans (congrFun (if_pos z5) 5) ?_
            exact (up2_n _ _ _ (by decide)).trans (up2_n _ _ _ (by decide))
          · refine Eq.trans (congrFun (if_neg z5) 5) ?_
            exact (up2_n _ _ _ (by decide)).trans (up2_n _ _ _ (by decide))
        · refine Eq.trans (congrFun (if_neg z4) 5) ?_
          by_cases z5 : c = 59
          · refine Eq.trans (congrFun (if_pos z5) 5) ?_
            by_cases z6 : rm ≤ 1
            · refine Eq.trans (congrFun (if_pos z6) 5) ?_
              exact (up2_n _ _ _ (by decide)).trans (up2_n _ _ _ (by decide))
            · refine Eq.trans (congrFun (if_neg z6) 5) ?_
              exact (up2_n _ _ _ (by decide)).trans (up2_n _ _ _ (by decide))
          · refine Eq.trans (congrFun (if_neg z5) 5) ?_
            exact (up2_n _ _ _ (by decide)).trans (up2_n _ _ _ (by decide))
      · refine Eq.trans (congrFun (if_neg z3) 5) ?_
        by_cases z4 : (σ 0 5) = 3
        · refine Eq.trans (congrFun (if_pos z4) 5) ?_
          exact (up2_n _ _ _ (by decide)).trans (up2_n _ _ _ (by decide))
        · refine Eq.trans (congrFun (if_neg z4) 5) ?_
          exact up2_n _ _ _ (by decide)
theorem M_go_s_k6 (σ : Nat → Nat → Int32) (rm : Nat) (c : Int32) : M_go_s σ rm c 6 = σ 6 := by
  unfold M_go_s
  by_cases z1 : (σ 0 5) = 0
  · refine Eq.trans (congrFun (if_pos z1) 6) ?_
    by_cases z2 : (M_kindBy_r c) = (-1)
    · refine Eq.trans (congrFun (if_pos z2) 6) ?_
      exact (up2_n _ _ _ (by decide)).trans (up2_n _ _ _ (by decide))
    · refine Eq.trans (congrFun (if_neg z2) 6) ?_
      exact (up2_n _ _ _ (by decide)).trans (up2_n _ _ _ (by decide))
  · refine Eq.trans (congrFun (if_neg z1) 6) ?_
    by_cases z2 : (σ 0 5) = 1
    · refine Eq.trans (congrFun (if_pos z2) 6) ?_
      exact (up2_n _ _ _ (by decide)).trans ((up2_n _ _ _ (by decide)).trans (up2_n _ _ _ (by decide)))
    · refine Eq.trans (congrFun (if_neg z2) 6) ?_
      by_cases z3 : (σ 0 5) = 2
      · refine Eq.trans (congrFun (if_pos z3) 6) ?_
        by_cases z4 : c = 44
        · refine Eq.trans (congrFun (if_pos z4) 6) ?_
          by_cases z5 : 4 ≤ rm
          · refine Eq.trans (congrFun (if_pos z5) 6) ?_
            exact (up2_n _ _ _ (by decide)).trans (up2_n _ _ _ (by decide))
          · refine Eq.trans (congrFun (if_neg z5) 6) ?_
            exact (up2_n _ _ _ (by decide)).trans (up2_n _ _ _ (by decide))
        · refine Eq.trans (congrFun (if_neg z4) 6) ?_
          by_cases z5 : c = 59
          · refine Eq.trans (congrFun (if_pos z5) 6) ?_
            by_cases z6 : rm ≤ 1
            · refine Eq.trans (congrFun (if_pos z6) 6) ?_
              exact (up2_n _ _ _ (by decide)).trans (up2_n _ _ _ (by decide))
            · refine Eq.trans (congrFun (if_neg z6) 6) ?_
              exact (up2_n _ _ _ (by decide)).trans (up2_n _ _ _ (by decide))
          · refine Eq.trans (congrFun (if_neg z5) 6) ?_
            exact (up2_n _ _ _ (by decide)).trans (up2_n _ _ _ (by decide))
      · refine Eq.trans (congrFun (if_neg z3) 6) ?_
        by_cases z4 : (σ 0 5) = 3
        · refine Eq.trans (congrFun (if_pos z4) 6) ?_
          exact (up2_n _ _ _ (by decide)).trans (up2_n _ _ _ (by decide))
        · refine Eq.trans (congrFun (if_neg z4) 6) ?_
          exact up2_n _ _ _ (by decide)
theorem M_go_s_k7 (σ : Nat → Nat → Int32) (rm : Nat) (c : Int32) : M_go_s σ rm c 7 = σ 7 := by
  unfold M_go_s
  by_cases z1 : (σ 0 5) = 0
  · refine Eq.trans (congrFun (if_pos z1) 7) ?_
    by_cases z2 : (M_kindBy_r c) = (-1)
    · refine Eq.trans (congrFun (if_pos z2) 7) ?_
      exact (up2_n _ _ _ (by decide)).trans (up2_n _ _ _ (by decide))
    · refine Eq.trans (congrFun (if_neg z2) 7) ?_
      exact (up2_n _ _ _ (by decide)).trans (up2_n _ _ _ (by decide))
  · refine Eq.trans (congrFun (if_neg z1) 7) ?_
    by_cases z2 : (σ 0 5) = 1
    · refine Eq.trans (congrFun (if_pos z2) 7) ?_
      exact (up2_n _ _ _ (by decide)).trans ((up2_n _ _ _ (by decide)).trans (up2_n _ _ _ (by decide)))
    · refine Eq.trans (congrFun (if_neg z2) 7) ?_
      by_cases z3 : (σ 0 5) = 2
      · refine Eq.trans (congrFun (if_pos z3) 7) ?_
        by_cases z4 : c = 44
        · refine Eq.trans (congrFun (if_pos z4) 7) ?_
          by_cases z5 : 4 ≤ rm
          · refine Eq.trans (congrFun (if_pos z5) 7) ?_
            exact (up2_n _ _ _ (by decide)).trans (up2_n _ _ _ (by decide))
          · refine Eq.trans (congrFun (if_neg z5) 7) ?_
            exact (up2_n _ _ _ (by decide)).trans (up2_n _ _ _ (by decide))
        · refine Eq.trans (congrFun (if_neg z4) 7) ?_
          by_cases z5 : c = 59
          · refine Eq.trans (congrFun (if_pos z5) 7) ?_
            by_cases z6 : rm ≤ 1
            · refine Eq.trans (congrFun (if_pos z6) 7) ?_
              exact (up2_n _ _ _ (by decide)).trans (up2_n _ _ _ (by decide))
            · refine Eq.trans (congrFun (if_neg z6) 7) ?_
              exact (up2_n _ _ _ (by decide)).trans (up2_n _ _ _ (by decide))
          · refine Eq.trans (congrFun (if_neg z5) 7) ?_
            exact (up2_n _ _ _ (by decide)).trans (up2_n _ _ _ (by decide))
      · refine Eq.trans (congrFun (if_neg z3) 7) ?_
        by_cases z4 : (σ 0 5) = 3
        · refine Eq.trans (congrFun (if_pos z4) 7) ?_
          exact (up2_n _ _ _ (by decide)).trans (up2_n _ _ _ (by decide))
        · refine Eq.trans (congrFun (if_neg z4) 7) ?_
          exact up2_n _ _ _ (by decide)
theorem M_go_s_k8 (σ : Nat → Nat → Int32) (rm : Nat) (c : Int32) : M_go_s σ rm c 8 = σ 8 := by
  unfold M_go_s
  by_cases z1 : (σ 0 5) = 0
  · refine Eq.trans (congrFun (if_pos z1) 8) ?_
    by_cases z2 : (M_kindBy_r c) = (-1)
    · refine Eq.trans (congrFun (if_pos z2) 8) ?_
      exact (up2_n _ _ _ (by decide)).trans (up2_n _ _ _ (by decide))
    · refine Eq.trans (congrFun (if_neg z2) 8) ?_
      exact (up2_n _ _ _ (by decide)).trans (up2_n _ _ _ (by decide))
  · refine Eq.trans (congrFun (if_neg z1) 8) ?_
    by_cases z2 : (σ 0 5) = 1
    · refine Eq.trans (congrFun (if_pos z2) 8) ?_
      exact (up2_n _ _ _ (by decide)).trans ((up2_n _ _ _ (by decide)).trans (up2_n _ _ _ (by decide)))
    · refine Eq.trans (congrFun (if_neg z2) 8) ?_
      by_cases z3 : (σ 0 5) = 2
      · refine Eq.trans (congrFun (if_pos z3) 8) ?_
        by_cases z4 : c = 44
        · refine Eq.trans (congrFun (if_pos z4) 8) ?_
          by_cases z5 : 4 ≤ rm
          · refine Eq.trans (congrFun (if_pos z5) 8) ?_
            exact (up2_n _ _ _ (by decide)).trans (up2_n _ _ _ (by decide))
          · refine Eq.trans (congrFun (if_neg z5) 8) ?_
            exact (up2_n _ _ _ (by decide)).trans (up2_n _ _ _ (by decide))
        · refine Eq.trans (congrFun (if_neg z4) 8) ?_
          by_cases z5 : c = 59
          · refine Eq.trans (congrFun (if_pos z5) 8) ?_
            by_cases z6 : rm ≤ 1
            · refine Eq.trans (congrFun (if_pos z6) 8) ?_
              exact (up2_n _ _ _ (by decide)).trans (up2_n _ _ _ (by decide))
            · refine Eq.trans (congrFun (if_neg z6) 8) ?_
              exact (up2_n _ _ _ (by decide)).trans (up2_n _ _ _ (by decide))
          · refine Eq.trans (congrFun (if_neg z5) 8) ?_
            exact (up2_n _ _ _ (by decide)).trans (up2_n _ _ _ (by decide))
      · refine Eq.trans (congrFun (if_neg z3) 8) ?_
        by_cases z4 : (σ 0 5) = 3
        · refine Eq.trans (congrFun (if_pos z4) 8) ?_
          exact (up2_n _ _ _ (by decide)).trans (up2_n _ _ _ (by decide))
        · refine Eq.trans (congrFun (if_neg z4) 8) ?_
          exact up2_n _ _ _ (by decide)
theorem M_go_s_k9 (σ : Nat → Nat → Int32) (rm : Nat) (c : Int32) : M_go_s σ rm c 9 = σ 9 := by
  unfold M_go_s
  by_cases z1 : (σ 0 5) = 0
  · refine Eq.trans (congrFun (if_pos z1) 9) ?_
    by_cases z2 : (M_kindBy_r c) = (-1)
    · refine Eq.trans (congrFun (if_pos z2) 9) ?_
      exact (up2_n _ _ _ (by decide)).trans (up2_n _ _ _ (by decide))
    · refine Eq.trans (congrFun (if_neg z2) 9) ?_
      exact (up2_n _ _ _ (by decide)).trans (up2_n _ _ _ (by decide))
  · refine Eq.trans (congrFun (if_neg z1) 9) ?_
    by_cases z2 : (σ 0 5) = 1
    · refine Eq.trans (congrFun (if_pos z2) 9) ?_
      exact (up2_n _ _ _ (by decide)).trans ((up2_n _ _ _ (by decide)).trans (up2_n _ _ _ (by decide)))
    · refine Eq.trans (congrFun (if_neg z2) 9) ?_
      by_cases z3 : (σ 0 5) = 2
      · refine Eq.trans (congrFun (if_pos z3) 9) ?_
        by_cases z4 : c = 44
        · refine Eq.trans (congrFun (if_pos z4) 9) ?_
          by_cases z5 : 4 ≤ rm
          · refine Eq.trans (congrFun (if_pos z5) 9) ?_
            exact (up2_n _ _ _ (by decide)).trans (up2_n _ _ _ (by decide))
          · refine Eq.trans (congrFun (if_neg z5) 9) ?_
            exact (up2_n _ _ _ (by decide)).trans (up2_n _ _ _ (by decide))
        · refine Eq.trans (congrFun (if_neg z4) 9) ?_
          by_cases z5 : c = 59
          · refine Eq.trans (congrFun (if_pos z5) 9) ?_
            by_cases z6 : rm ≤ 1
            · refine Eq.trans (congrFun (if_pos z6) 9) ?_
              exact (up2_n _ _ _ (by decide)).trans (up2_n _ _ _ (by decide))
            · refine Eq.trans (congrFun (if_neg z6) 9) ?_
              exact (up2_n _ _ _ (by decide)).trans (up2_n _ _ _ (by decide))
          · refine Eq.trans (congrFun (if_neg z5) 9) ?_
            exact (up2_n _ _ _ (by decide)).trans (up2_n _ _ _ (by decide))
      · refine Eq.trans (congrFun (if_neg z3) 9) ?_
        by_cases z4 : (σ 0 5) = 3
        · refine Eq.trans (congrFun (if_pos z4) 9) ?_
          exact (up2_n _ _ _ (by decide)).trans (up2_n _ _ _ (by decide))
        · refine Eq.trans (congrFun (if_neg z4) 9) ?_
          exact up2_n _ _ _ (by decide)
theorem M_go_s_k10 (σ : Nat → Nat → Int32) (rm : Nat) (c : Int32) : M_go_s σ rm c 10 = σ 10 := by
  unfold M_go_s
  by_cases z1 : (σ 0 5) = 0
  · refine Eq.trans (congrFun (if_pos z1) 10) ?_
    by_cases z2 : (M_kindBy_r c) = (-1)
    · refine Eq.trans (congrFun (if_pos z2) 10) ?_
      exact (up2_n _ _ _ (by decide)).trans (up2_n _ _ _ (by decide))
    · refine Eq.trans (congrFun (if_neg z2) 10) ?_
      exact (up2_n _ _ _ (by decide)).trans (up2_n _ _ _ (by decide))
  · refine Eq.trans (congrFun (if_neg z1) 10) ?_
    by_cases z2 : (σ 0 5) = 1
    · refine Eq.trans (congrFun (if_pos z2) 10) ?_
      exact (up2_n _ _ _ (by decide)).trans ((up2_n _ _ _ (by decide)).trans (up2_n _ _ _ (by decide)))
    · refine Eq.trans (congrFun (if_neg z2) 10) ?_
      by_cases z3 : (σ 0 5) = 2
      · refine Eq.trans (congrFun (if_pos z3) 10) ?_
        by_cases z4 : c = 44
        · refine Eq.trans (congrFun (if_pos z4) 10) ?_
          by_cases z5 : 4 ≤ rm
          · refine Eq.trans (congrFun (if_pos z5) 10) ?_
            exact (up2_n _ _ _ (by decide)).trans (up2_n _ _ _ (by decide))
          · refine Eq.trans (congrFun (if_neg z5) 10) ?_
            exact (up2_n _ _ _ (by decide)).trans (up2_n _ _ _ (by decide))
        · refine Eq.trans (congrFun (if_neg z4) 10) ?_
          by_cases z5 : c = 59
          · refine Eq.trans (congrFun (if_pos z5) 10) ?_
            by_cases z6 : rm ≤ 1
            · refine Eq.trans (congrFun (if_pos z6) 10) ?_
              exact (up2_n _ _ _ (by decide)).trans (up2_n _ _ _ (by decide))
            · refine Eq.trans (congrFun (if_neg z6) 10) ?_
              exact (up2_n _ _ _ (by decide)).trans (up2_n _ _ _ (by decide))
          · refine Eq.trans (congrFun (if_neg z5) 10) ?_
            exact (up2_n _ _ _ (by decide)).trans (up2_n _ _ _ (by decide))
      · refine Eq.trans (congrFun (if_neg z3) 10) ?_
        by_cases z4 : (σ 0 5) = 3
        · refine Eq.trans (congrFun (if_pos z4) 10) ?_
          exact (up2_n _ _ _ (by decide)).trans (up2_n _ _ _ (by decide))
        · refine Eq.trans (congrFun (if_neg z4) 10) ?_
          exact up2_n _ _ _ (by decide)
theorem M_go_s_k11 (σ : Nat → Nat → Int32) (rm : Nat) (c : Int32) : M_go_s σ rm c 11 = σ 11 := by
  unfold M_go_s
  by_cases z1 : (σ 0 5) = 0
  · refine Eq.trans (congrFun (if_pos z1) 11) ?_
    by_cases z2 : (M_kindBy_r c) = (-1)
    · refine Eq.trans (congrFun (if_pos z2) 11) ?_
      exact (up2_n _ _ _ (by decide)).trans (up2_n _ _ _ (by decide))
    · refine Eq.trans (congrFun (if_neg z2) 11) ?_
      exact (up2_n _ _ _ (by decide)).trans (up2_n _ _ _ (by decide))
  · refine Eq.trans (congrFun (if_neg z1) 11) ?_
    by_cases z2 : (σ 0 5) = 1
    · refine Eq.trans (congrFun (if_pos z2) 11) ?_
      exact (up2_n _ _ _ (by decide)).trans ((up2_n _ _ _ (by decide)).trans (up2_n _ _ _ (by decide)))
    · refine Eq.trans (congrFun (if_neg z2) 11) ?_
      by_cases z3 : (σ 0 5) = 2
      · refine Eq.trans (congrFun (if_pos z3) 11) ?_
        by_cases z4 : c = 44
        · refine Eq.trans (congrFun (if_pos z4) 11) ?_
          by_cases z5 : 4 ≤ rm
          · refine Eq.trans (congrFun (if_pos z5) 11) ?_
            exact (up2_n _ _ _ (by decide)).trans (up2_n _ _ _ (by decide))
          · refine Eq.trans (congrFun (if_neg z5) 11) ?_
            exact (up2_n _ _ _ (by decide)).trans (up2_n _ _ _ (by decide))
        · refine Eq.trans (congrFun (if_neg z4) 11) ?_
          by_cases z5 : c = 59
          · refine Eq.trans (congrFun (if_pos z5) 11) ?_
            by_cases z6 : rm ≤ 1
            · refine Eq.trans (congrFun (if_pos z6) 11) ?_
              exact (up2_n _ _ _ (by decide)).trans (up2_n _ _ _ (by decide))
            · refine Eq.trans (congrFun (if_neg z6) 11) ?_
              exact (up2_n _ _ _ (by decide)).trans (up2_n _ _ _ (by decide))
          · refine Eq.trans (congrFun (if_neg z5) 11) ?_
            exact (up2_n _ _ _ (by decide)).trans (up2_n _ _ _ (by decide))
      · refine Eq.trans (congrFun (if_neg z3) 11) ?_
        by_cases z4 : (σ 0 5) = 3
        · refine Eq.trans (congrFun (if_pos z4) 11) ?_
          exact (up2_n _ _ _ (by decide)).trans (up2_n _ _ _ (by decide))
        · refine Eq.trans (congrFun (if_neg z4) 11) ?_
          exact up2_n _ _ _ (by decide)
theorem M_go_s_k12 (σ : Nat → Nat → Int32) (rm : Nat) (c : Int32) : M_go_s σ rm c 12 = σ 12 := by
  unfold M_go_s
  by_cases z1 : (σ 0 5) = 0
  · refine Eq.trans (congrFun (if_pos z1) 12) ?_
    by_cases z2 : (M_kindBy_r c) = (-1)
    · refine Eq.trans (congrFun (if_pos z2) 12) ?_
      exact (up2_n _ _ _ (by decide)).trans (up2_n _ _ _ (by decide))
    · refine Eq.trans (congrFun (if_neg z2) 12) ?_
      exact (up2_n _ _ _ (by decide)).trans (up2_n _ _ _ (by decide))
  · refine Eq.trans (congrFun (if_neg z1) 12) ?_
    by_cases z2 : (σ 0 5) = 1
    · refine Eq.trans (congrFun (if_pos z2) 12) ?_
      exact (up2_n _ _ _ (by decide)).trans ((up2_n _ _ _ (by decide)).trans (up2_n _ _ _ (by decide)))
    · refine Eq.trans (congrFun (if_neg z2) 12) ?_
      by_cases z3 : (σ 0 5) = 2
      · refine Eq.trans (congrFun (if_pos z3) 12) ?_
        by_cases z4 : c = 44
        · refine Eq.trans (congrFun (if_pos z4) 12) ?_
          by_cases z5 : 4 ≤ rm
          · refine Eq.trans (congrFun (if_pos z5) 12) ?_
            exact (up2_n _ _ _ (by decide)).trans (up2_n _ _ _ (by decide))
          · refine Eq.trans (congrFun (if_neg z5) 12) ?_
            exact (up2_n _ _ _ (by decide)).trans (up2_n _ _ _ (by decide))
        · refine Eq.trans (congrFun (if_neg z4) 12) ?_
          by_cases z5 : c = 59
          · refine Eq.trans (congrFun (if_pos z5) 12) ?_
            by_cases z6 : rm ≤ 1
            · refine Eq.trans (congrFun (if_pos z6) 12) ?_
              exact (up2_n _ _ _ (by decide)).trans (up2_n _ _ _ (by decide))
            · refine Eq.trans (congrFun (if_neg z6) 12) ?_
              exact (up2_n _ _ _ (by decide)).trans (up2_n _ _ _ (by decide))
          · refine Eq.trans (congrFun (if_neg z5) 12) ?_
            exact (up2_n _ _ _ (by decide)).trans (up2_n _ _ _ (by decide))
      · refine Eq.trans (congrFun (if_neg z3) 12) ?_
        by_cases z4 : (σ 0 5) = 3
        · refine Eq.trans (congrFun (if_pos z4) 12) ?_
          exact (up2_n _ _ _ (by decide)).trans (up2_n _ _ _ (by decide))
        · refine Eq.trans (congrFun (if_neg z4) 12) ?_
          exact up2_n _ _ _ (by decide)
theorem M_go_s_k13 (σ : Nat → Nat → Int32) (rm : Nat) (c : Int32) : M_go_s σ rm c 13 = σ 13 := by
  unfold M_go_s
  by_cases z1 : (σ 0 5) = 0
  · refine Eq.trans (congrFun (if_pos z1) 13) ?_
    by_cases z2 : (M_kindBy_r c) = (-1)
    · refine Eq.trans (congrFun (if_pos z2) 13) ?_
      exact (up2_n _ _ _ (by decide)).trans (up2_n _ _ _ (by decide))
    · refine Eq.trans (congrFun (if_neg z2) 13) ?_
      exact (up2_n _ _ _ (by decide)).trans (up2_n _ _ _ (by decide))
  · refine Eq.trans (congrFun (if_neg z1) 13) ?_
    by_cases z2 : (σ 0 5) = 1
    · refine Eq.trans (congrFun (if_pos z2) 13) ?_
      exact (up2_n _ _ _ (by decide)).trans ((up2_n _ _ _ (by decide)).trans (up2_n _ _ _ (by decide)))
    · refine Eq.trans (congrFun (if_neg z2) 13) ?_
      by_cases z3 : (σ 0 5) = 2
      · refine Eq.trans (congrFun (if_pos z3) 13) ?_
        by_cases z4 : c = 44
        · refine Eq.trans (congrFun (if_pos z4) 13) ?_
          by_cases z5 : 4 ≤ rm
          · refine Eq.trans (congrFun (if_pos z5) 13) ?_
            exact (up2_n _ _ _ (by decide)).trans (up2_n _ _ _ (by decide))
          · refine Eq.trans (congrFun (if_neg z5) 13) ?_
            exact (up2_n _ _ _ (by decide)).trans (up2_n _ _ _ (by decide))
        · refine Eq.trans (congrFun (if_neg z4) 13) ?_
          by_cases z5 : c = 59
          · refine Eq.trans (congrFun (if_pos z5) 13) ?_
            by_cases z6 : rm ≤ 1
            · refine Eq.trans (congrFun (if_pos z6) 13) ?_
              exact (up2_n _ _ _ (by decide)).trans (up2_n _ _ _ (by decide))
            · refine Eq.trans (congrFun (if_neg z6) 13) ?_
              exact (up2_n _ _ _ (by decide)).trans (up2_n _ _ _ (by decide))
          · refine Eq.trans (congrFun (if_neg z5) 13) ?_
            exact (up2_n _ _ _ (by decide)).trans (up2_n _ _ _ (by decide))
      · refine Eq.trans (congrFun (if_neg z3) 13) ?_
        by_cases z4 : (σ 0 5) = 3
        · refine Eq.trans (congrFun (if_pos z4) 13) ?_
          exact (up2_n _ _ _ (by decide)).trans (up2_n _ _ _ (by decide))
        · refine Eq.trans (congrFun (if_neg z4) 13) ?_
          exact up2_n _ _ _ (by decide)
theorem M_go_s_k14 (σ : Nat → Nat → Int32) (rm : Nat) (c : Int32) : M_go_s σ rm c 14 = σ 14 := by
  unfold M_go_s
  by_cases z1 : (σ 0 5) = 0
  · refine Eq.trans (congrFun (if_pos z1) 14) ?_
    by_cases z2 : (M_kindBy_r c) = (-1)
    · refine Eq.trans (congrFun (if_pos z2) 14) ?_
      exact (up2_n _ _ _ (by decide)).trans (up2_n _ _ _ (by decide))
    · refine Eq.trans (congrFun (if_neg z2) 14) ?_
      exact (up2_n _ _ _ (by decide)).trans (up2_n _ _ _ (by decide))
  · refine Eq.trans (congrFun (if_neg z1) 14) ?_
    by_cases z2 : (σ 0 5) = 1
    · refine Eq.trans (congrFun (if_pos z2) 14) ?_
      exact (up2_n _ _ _ (by decide)).trans ((up2_n _ _ _ (by decide)).trans (up2_n _ _ _ (by decide)))
    · refine Eq.trans (congrFun (if_neg z2) 14) ?_
      by_cases z3 : (σ 0 5) = 2
      · refine Eq.trans (congrFun (if_pos z3) 14) ?_
        by_cases z4 : c = 44
        · refine Eq.trans (congrFun (if_pos z4) 14) ?_
          by_cases z5 : 4 ≤ rm
          · refine Eq.trans (congrFun (if_pos z5) 14) ?_
            exact (up2_n _ _ _ (by decide)).trans (up2_n _ _ _ (by decide))
          · refine Eq.trans (congrFun (if_neg z5) 14) ?_
            exact (up2_n _ _ _ (by decide)).trans (up2_n _ _ _ (by decide))
        · refine Eq.trans (congrFun (if_neg z4) 14) ?_
          by_cases z5 : c = 59
          · refine Eq.trans (congrFun (if_pos z5) 14) ?_
            by_cases z6 : rm ≤ 1
            · refine Eq.trans (congrFun (if_pos z6) 14) ?_
              exact (up2_n _ _ _ (by decide)).trans (up2_n _ _ _ (by decide))
            · refine Eq.trans (congrFun (if_neg z6) 14) ?_
              exact (up2_n _ _ _ (by decide)).trans (up2_n _ _ _ (by decide))
          · refine Eq.trans (congrFun (if_neg z5) 14) ?_
            exact (up2_n _ _ _ (by decide)).trans (up2_n _ _ _ (by decide))
      · refine Eq.trans (congrFun (if_neg z3) 14) ?_
        by_cases z4 : (σ 0 5) = 3
        · refine Eq.trans (congrFun (if_pos z4) 14) ?_
          exact (up2_n _ _ _ (by decide)).trans (up2_n _ _ _ (by decide))
        · refine Eq.trans (congrFun (if_neg z4) 14) ?_
          exact up2_n _ _ _ (by decide)
theorem M_go_s_k15 (σ : Nat → Nat → Int32) (rm : Nat) (c : Int32) : M_go_s σ rm c 15 = σ 15 := by
  unfold M_go_s
  by_cases z1 : (σ 0 5) = 0
  · refine Eq.trans (congrFun (if_pos z1) 15) ?_
    by_cases z2 : (M_kindBy_r c) = (-1)
    · refine Eq.trans (congrFun (if_pos z2) 15) ?_
      exact (up2_n _ _ _ (by decide)).trans (up2_n _ _ _ (by decide))
    · refine Eq.trans (congrFun (if_neg z2) 15) ?_
      exact (up2_n _ _ _ (by decide)).trans (up2_n _ _ _ (by decide))
  · refine Eq.trans (congrFun (if_neg z1) 15) ?_
    by_cases z2 : (σ 0 5) = 1
    · refine Eq.trans (congrFun (if_pos z2) 15) ?_
      exact (up2_n _ _ _ (by decide)).trans ((up2_n _ _ _ (by decide)).trans (up2_n _ _ _ (by decide)))
    · refine Eq.trans (congrFun (if_neg z2) 15) ?_
      by_cases z3 : (σ 0 5) = 2
      · refine Eq.trans (congrFun (if_pos z3) 15) ?_
        by_cases z4 : c = 44
        · refine Eq.trans (congrFun (if_pos z4) 15) ?_
          by_cases z5 : 4 ≤ rm
          · refine Eq.trans (congrFun (if_pos z5) 15) ?_
            exact (up2_n _ _ _ (by decide)).trans (up2_n _ _ _ (by decide))
          · refine Eq.trans (congrFun (if_neg z5) 15) ?_
            exact (up2_n _ _ _ (by decide)).trans (up2_n _ _ _ (by decide))
        · refine Eq.trans (congrFun (if_neg z4) 15) ?_
          by_cases z5 : c = 59
          · refine Eq.trans (congrFun (if_pos z5) 15) ?_
            by_cases z6 : rm ≤ 1
            · refine Eq.trans (congrFun (if_pos z6) 15) ?_
              exact (up2_n _ _ _ (by decide)).trans (up2_n _ _ _ (by decide))
            · refine Eq.trans (congrFun (if_neg z6) 15) ?_
              exact (up2_n _ _ _ (by decide)).trans (up2_n _ _ _ (by decide))
          · refine Eq.trans (congrFun (if_neg z5) 15) ?_
            exact (up2_n _ _ _ (by decide)).trans (up2_n _ _ _ (by decide))
      · refine Eq.trans (congrFun (if_neg z3) 15) ?_
        by_cases z4 : (σ 0 5) = 3
        · refine Eq.trans (congrFun (if_pos z4) 15) ?_
          exact (up2_n _ _ _ (by decide)).trans (up2_n _ _ _ (by decide))
        · refine Eq.trans (congrFun (if_neg z4) 15) ?_
          exact up2_n _ _ _ (by decide)
theorem M_go_s_k16 (σ : Nat → Nat → Int32) (rm : Nat) (c : Int32) : M_go_s σ rm c 16 = σ 16 := by
  unfold M_go_s
  by_cases z1 : (σ 0 5) = 0
  · refine Eq.trans (congrFun (if_pos z1) 16) ?_
    by_cases z2 : (M_kindBy_r c) = (-1)
    · refine Eq.trans (congrFun (if_pos z2) 16) ?_
      exact (up2_n _ _ _ (by decide)).trans (up2_n _ _ _ (by decide))
    · refine Eq.trans (congrFun (if_neg z2) 16) ?_
      exact (up2_n _ _ _ (by decide)).trans (up2_n _ _ _ (by decide))
  · refine Eq.trans (congrFun (if_neg z1) 16) ?_
    by_cases z2 : (σ 0 5) = 1
    · refine Eq.trans (congrFun (if_pos z2) 16) ?_
      exact (up2_n _ _ _ (by decide)).trans ((up2_n _ _ _ (by decide)).trans (up2_n _ _ _ (by decide)))
    · refine Eq.trans (congrFun (if_neg z2) 16) ?_
      by_cases z3 : (σ 0 5) = 2
      · refine Eq.trans (congrFun (if_pos z3) 16) ?_
        by_cases z4 : c = 44
        · refine Eq.trans (congrFun (if_pos z4) 16) ?_
          by_cases z5 : 4 ≤ rm
          · refine Eq.trans (congrFun (if_pos z5) 16) ?_
            exact (up2_n _ _ _ (by decide)).trans (up2_n _ _ _ (by decide))
          · refine Eq.trans (congrFun (if_neg z5) 16) ?_
            exact (up2_n _ _ _ (by decide)).trans (up2_n _ _ _ (by decide))
        · refine Eq.trans (congrFun (if_neg z4) 16) ?_
          by_cases z5 : c = 59
          · refine Eq.trans (congrFun (if_pos z5) 16) ?_
            by_cases z6 : rm ≤ 1
            · refine Eq.trans (congrFun (if_pos z6) 16) ?_
              exact (up2_n _ _ _ (by decide)).trans (up2_n _ _ _ (by decide))
            · refine Eq.trans (congrFun (if_neg z6) 16) ?_
              exact (up2_n _ _ _ (by decide)).trans (up2_n _ _ _ (by decide))
          · refine Eq.trans (congrFun (if_neg z5) 16) ?_
            exact (up2_n _ _ _ (by decide)).trans (up2_n _ _ _ (by decide))
      · refine Eq.trans (congrFun (if_neg z3) 16) ?_
        by_cases z4 : (σ 0 5) = 3
        · refine Eq.trans (congrFun (if_pos z4) 16) ?_
          exact (up2_n _ _ _ (by decide)).trans (up2_n _ _ _ (by decide))
        · refine Eq.trans (congrFun (if_neg z4) 16) ?_
          exact up2_n _ _ _ (by decide)
theorem M_go_s_k17 (σ : Nat → Nat → Int32) (rm : Nat) (c : Int32) : M_go_s σ rm c 17 = σ 17 := by
  unfold M_go_s
  by_cases z1 : (σ 0 5) = 0
  · refine Eq.trans (congrFun (if_pos z1) 17) ?_
    by_cases z2 : (M_kindBy_r c) = (-1)
    · refine Eq.trans (congrFun (if_pos z2) 17) ?_
      exact (up2_n _ _ _ (by decide)).trans (up2_n _ _ _ (by decide))
    · refine Eq.trans (congrFun (if_neg z2) 17) ?_
      exact (up2_n _ _ _ (by decide)).trans (up2_n _ _ _ (by decide))
  · refine Eq.trans (congrFun (if_neg z1) 17) ?_
    by_cases z2 : (σ 0 5) = 1
    · refine Eq.trans (congrFun (if_pos z2) 17) ?_
      exact (up2_n _ _ _ (by decide)).trans ((up2_n _ _ _ (by decide)).trans (up2_n _ _ _ (by decide)))
    · refine Eq.trans (congrFun (if_neg z2) 17) ?_
      by_cases z3 : (σ 0 5) = 2
      · refine Eq.trans (congrFun (if_pos z3) 17) ?_
        by_cases z4 : c = 44
        · refine Eq.trans (congrFun (if_pos z4) 17) ?_
          by_cases z5 : 4 ≤ rm
          · refine Eq.trans (congrFun (if_pos z5) 17) ?_
            exact (up2_n _ _ _ (by decide)).trans (up2_n _ _ _ (by decide))
          · refine Eq.trans (congrFun (if_neg z5) 17) ?_
            exact (up2_n _ _ _ (by decide)).trans (up2_n _ _ _ (by decide))
        · refine Eq.trans (congrFun (if_neg z4) 17) ?_
          by_cases z5 : c = 59
          · refine Eq.trans (congrFun (if_pos z5) 17) ?_
            by_cases z6 : rm ≤ 1
            · refine Eq.trans (congrFun (if_pos z6) 17) ?_
              exact (up2_n _ _ _ (by decide)).trans (up2_n _ _ _ (by decide))
            · refine Eq.trans (congrFun (if_neg z6) 17) ?_
              exact (up2_n _ _ _ (by decide)).trans (up2_n _ _ _ (by decide))
          · refine Eq.trans (congrFun (if_neg z5) 17) ?_
            exact (up2_n _ _ _ (by decide)).trans (up2_n _ _ _ (by decide))
      · refine Eq.trans (congrFun (if_neg z3) 17) ?_
        by_cases z4 : (σ 0 5) = 3
        · refine Eq.trans (congrFun (if_pos z4) 17) ?_
          exact (up2_n _ _ _ (by decide)).trans (up2_n _ _ _ (by decide))
        · refine Eq.trans (congrFun (if_neg z4) 17) ?_
          exact up2_n _ _ _ (by decide)
theorem M_go_s_k18 (σ : Nat → Nat → Int32) (rm : Nat) (c : Int32) : M_go_s σ rm c 18 = σ 18 := by
  unfold M_go_s
  by_cases z1 : (σ 0 5) = 0
  · refine Eq.trans (congrFun (if_pos z1) 18) ?_
    by_cases z2 : (M_kindBy_r c) = (-1)
    · refine Eq.trans (congrFun (if_pos z2) 18) ?_
      exact (up2_n _ _ _ (by decide)).trans (up2_n _ _ _ (by decide))
    · refine Eq.trans (congrFun (if_neg z2) 18) ?_
      exact (up2_n _ _ _ (by decide)).trans (up2_n _ _ _ (by decide))
  · refine Eq.trans (congrFun (if_neg z1) 18) ?_
    by_cases z2 : (σ 0 5) = 1
    · refine Eq.trans (congrFun (if_pos z2) 18) ?_
      exact (up2_n _ _ _ (by decide)).trans ((up2_n _ _ _ (by decide)).trans (up2_n _ _ _ (by decide)))
    · refine Eq.trans (congrFun (if_neg z2) 18) ?_
      by_cases z3 : (σ 0 5) = 2
      · refine Eq.trans (congrFun (if_pos z3) 18) ?_
        by_cases z4 : c = 44
        · refine Eq.trans (congrFun (if_pos z4) 18) ?_
          by_cases z5 : 4 ≤ rm
          · refine Eq.trans (congrFun (if_pos z5) 18) ?_
            exact (up2_n _ _ _ (by decide)).trans (up2_n _ _ _ (by decide))
          · refine Eq.trans (congrFun (if_neg z5) 18) ?_
            exact (up2_n _ _ _ (by decide)).trans (up2_n _ _ _ (by decide))
        · refine Eq.trans (congrFun (if_neg z4) 18) ?_
          by_cases z5 : c = 59
          · refine Eq.trans (congrFun (if_pos z5) 18) ?_
            by_cases z6 : rm ≤ 1
            · refine Eq.trans (congrFun (if_pos z6) 18) ?_
              exact (up2_n _ _ _ (by decide)).trans (up2_n _ _ _ (by decide))
            · refine Eq.trans (congrFun (if_neg z6) 18) ?_
              exact (up2_n _ _ _ (by decide)).trans (up2_n _ _ _ (by decide))
          · refine Eq.trans (congrFun (if_neg z5) 18) ?_
            exact (up2_n _ _ _ (by decide)).trans (up2_n _ _ _ (by decide))
      · refine Eq.trans (congrFun (if_neg z3) 18) ?_
        by_cases z4 : (σ 0 5) = 3
        · refine Eq.trans (congrFun (if_pos z4) 18) ?_
          exact (up2_n _ _ _ (by decide)).trans (up2_n _ _ _ (by decide))
        · refine Eq.trans (congrFun (if_neg z4) 18) ?_
          exact up2_n _ _ _ (by decide)
theorem M_go_s_k19 (σ : Nat → Nat → Int32) (rm : Nat) (c : Int32) : M_go_s σ rm c 19 = σ 19 := by
  unfold M_go_s
  by_cases z1 : (σ 0 5) = 0
  · refine Eq.trans (congrFun (if_pos z1) 19) ?_
    by_cases z2 : (M_kindBy_r c) = (-1)
    · refine Eq.trans (congrFun (if_pos z2) 19) ?_
      exact (up2_n _ _ _ (by decide)).trans (up2_n _ _ _ (by decide))
    · refine Eq.trans (congrFun (if_neg z2) 19) ?_
      exact (up2_n _ _ _ (by decide)).trans (up2_n _ _ _ (by decide))
  · refine Eq.trans (congrFun (if_neg z1) 19) ?_
    by_cases z2 : (σ 0 5) = 1
    · refine Eq.trans (congrFun (if_pos z2) 19) ?_
      exact (up2_n _ _ _ (by decide)).trans ((up2_n _ _ _ (by decide)).trans (up2_n _ _ _ (by decide)))
    · refine Eq.trans (congrFun (if_neg z2) 19) ?_
      by_cases z3 : (σ 0 5) = 2
      · refine Eq.trans (congrFun (if_pos z3) 19) ?_
        by_cases z4 : c = 44
        · refine Eq.trans (congrFun (if_pos z4) 19) ?_
          by_cases z5 : 4 ≤ rm
          · refine Eq.trans (congrFun (if_pos z5) 19) ?_
            exact (up2_n _ _ _ (by decide)).trans (up2_n _ _ _ (by decide))
          · refine Eq.trans (congrFun (if_neg z5) 19) ?_
            exact (up2_n _ _ _ (by decide)).trans (up2_n _ _ _ (by decide))
        · refine Eq.trans (congrFun (if_neg z4) 19) ?_
          by_cases z5 : c = 59
          · refine Eq.trans (congrFun (if_pos z5) 19) ?_
            by_cases z6 : rm ≤ 1
            · refine Eq.trans (congrFun (if_pos z6) 19) ?_
              exact (up2_n _ _ _ (by decide)).trans (up2_n _ _ _ (by decide))
            · refine Eq.trans (congrFun (if_neg z6) 19) ?_
              exact (up2_n _ _ _ (by decide)).trans (up2_n _ _ _ (by decide))
          · refine Eq.trans (congrFun (if_neg z5) 19) ?_
            exact (up2_n _ _ _ (by decide)).trans (up2_n _ _ _ (by decide))
      · refine Eq.trans (congrFun (if_neg z3) 19) ?_
        by_cases z4 : (σ 0 5) = 3
        · refine Eq.trans (congrFun (if_pos z4) 19) ?_
          exact (up2_n _ _ _ (by decide)).trans (up2_n _ _ _ (by decide))
        · refine Eq.trans (congrFun (if_neg z4) 19) ?_
          exact up2_n _ _ _ (by decide)
set_option maxHeartbeats 4000000 in
set_option maxRecDepth 100000 in
theorem c_M_go (l : Launch) (D : va_G) (cI : ClassId) (a : Nat → Nat) (σ : Nat → Nat → Int32) (h : Int64) (rm : Nat) (c : Int32) (hrm : σ 0 3 = nI rm) (hrmb : rm ≤ 4) (hgo : (σ 0 5 = 0 ∨ σ 0 5 = 1) → rm < 4) : gI l D [(cI, .int)] yX12_go wsX12_go 2 [.ref (a 0), .int c] (wM cI a σ h) (M_go_r σ rm c) (wM cI a (M_go_s σ rm c) h) := by
  refine g_start (cc := cX12_go) (maxL := 4) (ret := some .boolean) (Qc := gQi D [(cI, .int)] (M_go_r σ rm c) (wM cI a (M_go_s σ rm c) h)) (by decide) rfl (Nat.le_of_ble_eq_true rfl) ?_
  intro p e s m below meth C A ls S hr hlk hw hl
  obtain ⟨hx, hb, hml, hown, hts⟩ := id S
  have hinX12 : ∀ x ∈ u_ws RX12 TX12 38, x ∈ wsX12_go := fun x h => List.mem_cons_of_mem _ (List.mem_append_right _ h)
  have lk0 : Cond.fieldLink RX12 80 "CowsOwedModel" "state" "I" ∈ wsX12_go := by decide +kernel
  have lk1 : Cond.fieldLink RX12 13 "CowsOwedModel" "read" "[I" ∈ wsX12_go := by decide +kernel
  have lk2 : Cond.fieldLink RX12 83 "CowsOwedModel" "readMany" "I" ∈ wsX12_go := by decide +kernel
  have lk3 : Cond.constantLong RX12 90 (9) ∈ wsX12_go := by decide +kernel
  have lk4 : Cond.fieldLink RX12 92 "CowsOwedModel" "readRate" "I" ∈ wsX12_go := by decide +kernel
  have lk5 : Cond.constantLong RX12 95 (5) ∈ wsX12_go := by decide +kernel
  have hl : lv_has ls 4 [(0, .ref (a 0)), (1, .int c)] := hl
  refine lv_iload_n hx hb dX12_go_0 rfl (lv_at hl 1 rfl) ?_
  refine lv_bipush (v := 48) hx hb dX12_go_1 (by decide) ?_
  refine lv_isub hx hb dX12_go_3 ?_
  refine lv_istore_n (lv' := [(2, .int (c - 48)), (0, .ref (a 0)), (1, .int c)]) hx hb dX12_go_4 rfl hl (by decide) rfl (fun ls hl => ?_)
  refine lv_aload_n hx hb dX12_go_5 rfl (lv_at hl 1 rfl) ?_
  refine g_get S hw hinX12 (fs := fM a σ h) 0 rfl rfl 5 (by decide) lk0 (v := .int (σ 0 5)) rfl dX12_go_6 ?_
  refine lv_istore_n (lv' := [(3, .int (σ 0 5)), (2, .int (c - 48)), (0, .ref (a 0)), (1, .int c)]) hx hb dX12_go_9 rfl hl (by decide) rfl (fun ls hl => ?_)
  refine lv_aload_n hx hb dX12_go_10 rfl (lv_at hl 2 rfl) ?_
  refine lv_dup hx hb dX12_go_11 rfl ?_
  refine g_get S hw hinX12 (fs := fM a σ h) 0 rfl rfl 5 (by decide) lk0 (v := .int (σ 0 5)) rfl dX12_go_12 ?_
  refine lv_iconst (v := 1) hx hb dX12_go_15 (by decide) ?_
  refine lv_iadd hx hb dX12_go_16 ?_
  refine g_put S hw hinX12 tyX12 tyX12_ok nmX12 (fs := fM a σ h) 0 rfl rfl 5 (by decide) lk0 rfl rfl rfl (Nat.le_of_ble_eq_true rfl) (w2 := wM cI a (up2 σ 0 5 ((σ 0 5) + 1)) h) (wM_f5 _ _ _ _ _) dX12_go_17 (fun H locs hw => ?_)
  refine lv_iload_n hx hb dX12_go_20 rfl (lv_at hl 0 rfl) ?_
  by_cases s_1 : (σ 0 5) = 0
  · refine lv_tableIn (off := 31) (tgt := 52) hx hb dX12_go_21 (by rw [s_1]; decide) (by rw [s_1]; decide) (by rw [s_1]; rfl) (by decide) ?_
    have hq := hgo (Or.inl s_1)
    refine lv_aload_n hx hb dX12_go_52 rfl (lv_at hl 2 rfl) ?_
    refine g_get S hw hinX12 (fs := fM a (up2 σ 0 5 ((σ 0 5) + 1)) h) 0 rfl rfl 2 (by decide) lk1 (v := .ref (a 2)) rfl dX12_go_53 ?_
    refine lv_iconst (v := 2) hx hb dX12_go_56 (by decide) ?_
    refine lv_aload_n hx hb dX12_go_57 rfl (lv_at hl 2 rfl) ?_
    refine g_get S hw hinX12 (fs := fM a (up2 σ 0 5 ((σ 0 5) + 1)) h) 0 rfl rfl 3 (by decide) lk2 (v := .int (nI rm)) (congrArg (fun z => some (Value.int z)) ((up2_rp (by decide)).trans (hrm))) dX12_go_58 ?_
    refine ln_imul (x := 2) (y := rm) hx hb dX12_go_61 ?_
    refine lv_iload_n hx hb dX12_go_62 rfl (lv_at hl 3 rfl) ?_
    refine g_callSi S hw (c_M_kindBy l D [(cI, .int)] (wM cI a (up2 σ 0 5 ((σ 0 5) + 1)) h) c) gX12_go_X12_kindBy rfl 1 rfl (by decide +kernel) (by decide) (by decide) hl.1 rfl (Nat.le_of_ble_eq_true rfl) dX12_go_63 (fun H locs hw => ?_)
    refine g_iast S hw (f := (up2 σ 0 5 ((σ 0 5) + 1)) 2) (i := 2 * rm) 2 0 rfl rfl (by omega) (by decide) (w2 := wM cI a (up2 (up2 σ 0 5 ((σ 0 5) + 1)) 2 (2 * rm) (M_kindBy_r c)) h) (wM_a2 _ _ _ _ _ _) dX12_go_66 (fun H locs hw => ?_)
    refine lv_iload_n hx hb dX12_go_67 rfl (lv_at hl 3 rfl) ?_
    refine g_callSi S hw (c_M_kindBy l D [(cI, .int)] (wM cI a (up2 (up2 σ 0 5 ((σ 0 5) + 1)) 2 (2 * rm) (M_kindBy_r c)) h) c) gX12_go_X12_kindBy rfl 1 rfl (by decide +kernel) (by decide) (by decide) hl.1 rfl (Nat.le_of_ble_eq_true rfl) dX12_go_68 (fun H locs hw => ?_)
    refine lv_iconst (v := (-1)) hx hb dX12_go_71 (by decide) ?_
    refine lv_icmp_eq hx hb (tgt := 79) dX12_go_72 (by decide) (fun c_2 => ?_) (fun c_2 => ?_)
    · refine lv_iconst (v := 0) hx hb dX12_go_79 (by decide) ?_
      exact g_zret S hr hlk hw (by decide) (by simp only [M_go_r, if_pos s_1, if_pos c_2]) (by simp only [M_go_s, if_pos s_1, if_pos c_2]) dX12_go_80
    · refine lv_iconst (v := 1) hx hb dX12_go_75 (by decide) ?_
      refine lv_goto (tgt := 80) hx hb dX12_go_76 (by decide) ?_
      exact g_zret S hr hlk hw (by decide) (by simp only [M_go_r, if_pos s_1, if_neg c_2]) (by simp only [M_go_s, if_pos s_1, if_neg c_2]) dX12_go_80
  · by_cases s_3 : (σ 0 5) = 1
    · refine lv_tableIn (off := 60) (tgt := 81) hx hb dX12_go_21 (by rw [s_3]; decide) (by rw [s_3]; decide) (by rw [s_3]; rfl) (by decide) ?_
      have hq := hgo (Or.inr s_3)
      refine lv_aload_n hx hb dX12_go_81 rfl (lv_at hl 2 rfl) ?_
      refine g_get S hw hinX12 (fs := fM a (up2 σ 0 5 ((σ 0 5) + 1)) h) 0 rfl rfl 2 (by decide) lk1 (v := .ref (a 2)) rfl dX12_go_82 ?_
      refine lv_iconst (v := 2) hx hb dX12_go_85 (by decide) ?_
      refine lv_aload_n hx hb dX12_go_86 rfl (lv_at hl 2 rfl) ?_
      refine g_get S hw hinX12 (fs := fM a (up2 σ 0 5 ((σ 0 5) + 1)) h) 0 rfl rfl 3 (by decide) lk2 (v := .int (nI rm)) (congrArg (fun z => some (Value.int z)) ((up2_rp (by decide)).trans (hrm))) dX12_go_87 ?_
      refine ln_imul (x := 2) (y := rm) hx hb dX12_go_90 ?_
      refine lv_iconst (v := 1) hx hb dX12_go_91 (by decide) ?_
      refine ln_iadd (x := 2 * rm) (y := 1) hx hb dX12_go_92 ?_
      refine lv_iload_n hx hb dX12_go_93 rfl (lv_at hl 1 rfl) ?_
      refine g_iast S hw (f := (up2 σ 0 5 ((σ 0 5) + 1)) 2) (i := (2 * rm) + 1) 2 0 rfl rfl (by omega) (by decide) (w2 := wM cI a (up2 (up2 σ 0 5 ((σ 0 5) + 1)) 2 ((2 * rm) + 1) (c - 48)) h) (wM_a2 _ _ _ _ _ _) dX12_go_94 (fun H locs hw => ?_)
      refine lv_aload_n hx hb dX12_go_95 rfl (lv_at hl 2 rfl) ?_
      refine lv_dup hx hb dX12_go_96 rfl ?_
      refine g_get S hw hinX12 (fs := fM a (up2 (up2 σ 0 5 ((σ 0 5) + 1)) 2 ((2 * rm) + 1) (c - 48)) h) 0 rfl rfl 3 (by decide) lk2 (v := .int (nI rm)) (congrArg (fun z => some (Value.int z)) (((up2_rn (by decide)).trans (up2_rp (by decide))).trans (hrm))) dX12_go_97 ?_
      refine lv_iconst (v := 1) hx hb dX12_go_100 (by decide) ?_
      refine ln_iadd (x := rm) (y := 1) hx hb dX12_go_101 ?_
      refine g_put S hw hinX12 tyX12 tyX12_ok nmX12 (fs := fM a (up2 (up2 σ 0 5 ((σ 0 5) + 1)) 2 ((2 * rm) + 1) (c - 48)) h) 0 rfl rfl 3 (by decide) lk2 rfl rfl rfl (Nat.le_of_ble_eq_true rfl) (w2 := wM cI a (up2 (up2 (up2 σ 0 5 ((σ 0 5) + 1)) 2 ((2 * rm) + 1) (c - 48)) 0 3 (nI (rm + 1))) h) (wM_f3 _ _ _ _ _) dX12_go_102 (fun H locs hw => ?_)
      refine lv_iload_n hx hb dX12_go_105 rfl (lv_at hl 1 rfl) ?_
      refine lv_i2l hx hb dX12_go_106 rfl ?_
      refine lv_lconst (v := 0) hx hb dX12_go_107 (by decide) ?_
      refine lv_ldc2 (v := 9) hx hb hown (hts _ lk3) dX12_go_108 ?_
      refine g_callSi S hw (c_M_in l D [(cI, .int)] (wM cI a (up2 (up2 (up2 σ 0 5 ((σ 0 5) + 1)) 2 ((2 * rm) + 1) (c - 48)) 0 3 (nI (rm + 1))) h) ((c - 48).toInt64) 0 9) gX12_go_X12_in rfl 3 rfl (by decide +kernel) (by decide) (by decide) hl.1 rfl (Nat.le_of_ble_eq_true rfl) dX12_go_111 (fun H locs hw => ?_)
      exact g_zret S hr hlk hw (g_zz (M_in_z ((c - 48).toInt64) 0 9)) (by simp only [M_go_r, if_neg s_1, if_pos s_3]) (by simp only [M_go_s, if_neg s_1, if_pos s_3]) dX12_go_114
    · by_cases s_4 : (σ 0 5) = 2
      · refine lv_tableIn (off := 94) (tgt := 115) hx hb dX12_go_21 (by rw [s_4]; decide) (by rw [s_4]; decide) (by rw [s_4]; rfl) (by decide) ?_
        refine lv_aload_n hx hb dX12_go_115 rfl (lv_at hl 2 rfl) ?_
        refine lv_iload_n hx hb dX12_go_116 rfl (lv_at hl 3 rfl) ?_
        refine lv_bipush (v := 44) hx hb dX12_go_117 (by decide) ?_
        refine lv_icmp_ne hx hb (tgt := 126) dX12_go_119 (by decide) (fun c_5 => ?_) (fun c_5 => ?_)
        · refine lv_iconst (v := 3) hx hb dX12_go_126 (by decide) ?_
          refine g_put S hw hinX12 tyX12 tyX12_ok nmX12 (fs := fM a (up2 σ 0 5 ((σ 0 5) + 1)) h) 0 rfl rfl 5 (by decide) lk0 rfl rfl rfl (Nat.le_of_ble_eq_true rfl) (w2 := wM cI a (up2 (up2 σ 0 5 ((σ 0 5) + 1)) 0 5 3) h) (wM_f5 _ _ _ _ _) dX12_go_127 (fun H locs hw => ?_)
          refine lv_iload_n hx hb dX12_go_130 rfl (lv_at hl 3 rfl) ?_
          refine lv_bipush (v := 44) hx hb dX12_go_131 (by decide) ?_
          refine lv_icmp_ne hx hb (tgt := 152) dX12_go_133 (by decide) (fun c_x => ?_) (fun c_x => absurd c_x c_5)
          refine lv_iload_n hx hb dX12_go_152 rfl (lv_at hl 3 rfl) ?_
          refine lv_bipush (v := 59) hx hb dX12_go_153 (by decide) ?_
          refine lv_icmp_ne hx hb (tgt := 170) dX12_go_155 (by decide) (fun c_7 => ?_) (fun c_7 => ?_)
          · refine lv_iconst (v := 0) hx hb dX12_go_170 (by decide) ?_
            exact g_zret S hr hlk hw (by decide) (by simp only [M_go_r, if_neg s_1, if_neg s_3, if_pos s_4, if_neg c_5, if_neg c_7]) (by simp only [M_go_s, if_neg s_1, if_neg s_3, if_pos s_4, if_neg c_5, if_neg c_7]) dX12_go_171
          · refine lv_aload_n hx hb dX12_go_158 rfl (lv_at hl 2 rfl) ?_
            refine g_get S hw hinX12 (fs := fM a (up2 (up2 σ 0 5 ((σ 0 5) + 1)) 0 5 3) h) 0 rfl rfl 3 (by decide) lk2 (v := .int (nI rm)) (congrArg (fun z => some (Value.int z)) (((up2_rp (by decide)).trans (up2_rp (by decide))).trans (hrm))) dX12_go_159 ?_
            refine lv_iconst (v := 1) hx hb dX12_go_162 (by decide) ?_
            refine ln_le (x := rm) (y := 1) hx hb (by omega) (by omega) (tgt := 170) dX12_go_163 (by decide) (fun c_8 => ?_) (fun c_8 => ?_)
            · refine lv_iconst (v := 0) hx hb dX12_go_170 (by decide) ?_
              exact g_zret S hr hlk hw (by decide) (by simp only [M_go_r, if_neg s_1, if_neg s_3, if_pos s_4, if_neg c_5, if_pos c_7, if_pos c_8]) (by simp only [M_go_s, if_neg s_1, if_neg s_3, if_pos s_4, if_neg c_5, if_pos c_7, if_pos c_8]) dX12_go_171
            · refine lv_iconst (v := 1) hx hb dX12_go_166 (by decide) ?_
              refine lv_goto (tgt := 171) hx hb dX12_go_167 (by decide) ?_
              exact g_zret S hr hlk hw (by decide) (by simp only [M_go_r, if_neg s_1, if_neg s_3, if_pos s_4, if_neg c_5, if_pos c_7, if_neg c_8]) (by simp only [M_go_s, if_neg s_1, if_neg s_3, if_pos s_4, if_neg c_5, if_pos c_7, if_neg c_8]) dX12_go_171
        · refine lv_iconst (v := 0) hx hb dX12_go_122 (by decide) ?_
          refine lv_goto (tgt := 127) hx hb dX12_go_123 (by decide) ?_
          refine g_put S hw hinX12 tyX12 tyX12_ok nmX12 (fs := fM a (up2 σ 0 5 ((σ 0 5) + 1)) h) 0 rfl rfl 5 (by decide) lk0 rfl rfl rfl (Nat.le_of_ble_eq_true rfl) (w2 := wM cI a (up2 (up2 σ 0 5 ((σ 0 5) + 1)) 0 5 0) h) (wM_f5 _ _ _ _ _) dX12_go_127 (fun H locs hw => ?_)
          refine lv_iload_n hx hb dX12_go_130 rfl (lv_at hl 3 rfl) ?_
          refine lv_bipush (v := 44) hx hb dX12_go_131 (by decide) ?_
          refine lv_icmp_ne hx hb (tgt := 152) dX12_go_133 (by decide) (fun c_x => absurd c_5 c_x) (fun c_x => ?_)
          refine lv_aload_n hx hb dX12_go_136 rfl (lv_at hl 2 rfl) ?_
          refine g_get S hw hinX12 (fs := fM a (up2 (up2 σ 0 5 ((σ 0 5) + 1)) 0 5 0) h) 0 rfl rfl 3 (by decide) lk2 (v := .int (nI rm)) (congrArg (fun z => some (Value.int z)) (((up2_rp (by decide)).trans (up2_rp (by decide))).trans (hrm))) dX12_go_137 ?_
          refine lv_iconst (v := 4) hx hb dX12_go_140 (by decide) ?_
          refine ln_ge (x := rm) (y := 4) hx hb (by omega) (by omega) (tgt := 148) dX12_go_141 (by decide) (fun c_10 => ?_) (fun c_10 => ?_)
          · refine lv_iconst (v := 0) hx hb dX12_go_148 (by decide) ?_
            refine lv_goto (tgt := 171) hx hb dX12_go_149 (by decide) ?_
            exact g_zret S hr hlk hw (by decide) (by simp only [M_go_r, if_neg s_1, if_neg s_3, if_pos s_4, if_pos c_5, if_pos c_10]) (by simp only [M_go_s, if_neg s_1, if_neg s_3, if_pos s_4, if_pos c_5, if_pos c_10]) dX12_go_171
          · refine lv_iconst (v := 1) hx hb dX12_go_144 (by decide) ?_
            refine lv_goto (tgt := 171) hx hb dX12_go_145 (by decide) ?_
            exact g_zret S hr hlk hw (by decide) (by simp only [M_go_r, if_neg s_1, if_neg s_3, if_pos s_4, if_pos c_5, if_neg c_10]) (by simp only [M_go_s, if_neg s_1, if_neg s_3, if_pos s_4, if_pos c_5, if_neg c_10]) dX12_go_171
      · by_cases s_11 : (σ 0 5) = 3
        · refine lv_tableIn (off := 151) (tgt := 172) hx hb dX12_go_21 (by rw [s_11]; decide) (by rw [s_11]; decide) (by rw [s_11]; rfl) (by decide) ?_
          refine lv_aload_n hx hb dX12_go_172 rfl (lv_at hl 2 rfl) ?_
          refine lv_iload_n hx hb dX12_go_173 rfl (lv_at hl 1 rfl) ?_
          refine g_put S hw hinX12 tyX12 tyX12_ok nmX12 (fs := fM a (up2 σ 0 5 ((σ 0 5) + 1)) h) 0 rfl rfl 4 (by decide) lk4 rfl rfl rfl (Nat.le_of_ble_eq_true rfl) (w2 := wM cI a (up2 (up2 σ 0 5 ((σ 0 5) + 1)) 0 4 (c - 48)) h) (wM_f4 _ _ _ _ _) dX12_go_174 (fun H locs hw => ?_)
          refine lv_iload_n hx hb dX12_go_177 rfl (lv_at hl 1 rfl) ?_
          refine lv_i2l hx hb dX12_go_178 rfl ?_
          refine lv_lconst (v := 1) hx hb dX12_go_179 (by decide) ?_
          refine lv_ldc2 (v := 5) hx hb hown (hts _ lk5) dX12_go_180 ?_
          refine g_callSi S hw (c_M_in l D [(cI, .int)] (wM cI a (up2 (up2 σ 0 5 ((σ 0 5) + 1)) 0 4 (c - 48)) h) ((c - 48).toInt64) 1 5) gX12_go_X12_in rfl 3 rfl (by decide +kernel) (by decide) (by decide) hl.1 rfl (Nat.le_of_ble_eq_true rfl) dX12_go_183 (fun H locs hw => ?_)
          exact g_zret S hr hlk hw (g_zz (M_in_z ((c - 48).toInt64) 1 5)) (by simp only [M_go_r, if_neg s_1, if_neg s_3, if_neg s_4, if_pos s_11]) (by simp only [M_go_s, if_neg s_1, if_neg s_3, if_neg s_4, if_pos s_11]) dX12_go_186
        · refine lv_tableOut (tgt := 187) hx hb dX12_go_21 (by have q0 := lv_neT (a := 0) s_1 (by decide); have q1 := lv_neT (a := 1) s_3 (by decide); have q2 := lv_neT (a := 2) s_4 (by decide); have q3 := lv_neT (a := 3) s_11 (by decide); omega) (by decide) ?_
          refine lv_iconst (v := 0) hx hb dX12_go_187 (by decide) ?_
          exact g_zret S hr hlk hw (by decide) (by simp only [M_go_r, if_neg s_1, if_neg s_3, if_neg s_4, if_neg s_11]) (by simp only [M_go_s, if_neg s_1, if_neg s_3, if_neg s_4, if_neg s_11]) dX12_go_188
