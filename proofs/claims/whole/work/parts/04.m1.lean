def M_in_r (v : Int64) (lo : Int64) (hi : Int64) : Int32 := if (lg_cmp v lo) < 0 then 0 else (if 0 < (lg_cmp v hi) then 0 else 1)
theorem M_in_z (v : Int64) (lo : Int64) (hi : Int64) : M_in_r v lo hi = 0 ∨ M_in_r v lo hi = 1 := by
  unfold M_in_r
  by_cases z1 : (lg_cmp v lo) < 0
  · rw [if_pos z1]
    exact Or.inl rfl
  · rw [if_neg z1]
    by_cases z2 : 0 < (lg_cmp v hi)
    · rw [if_pos z2]
      exact Or.inl rfl
    · rw [if_neg z2]
      exact Or.inr rfl
set_option maxHeartbeats 4000000 in
set_option maxRecDepth 100000 in
theorem c_M_in (l : Launch) (D : va_G) (tys : List (ClassId × FieldType)) (w0 : va_W) (v : Int64) (lo : Int64) (hi : Int64) : gI l D tys yX12_in wsX12_in 1 [.long v, .long lo, .long hi] w0 (M_in_r v lo hi) w0 := by
  refine g_start (cc := cX12_in) (maxL := 6) (ret := some .boolean) (Qc := gQi D tys (M_in_r v lo hi) w0) (by decide) rfl (Nat.le_of_ble_eq_true rfl) ?_
  intro p e s m below meth C A ls S hr hlk hw hl
  obtain ⟨hx, hb, hml, hown, hts⟩ := id S
  have hl : lv_has ls 6 [(0, .long v), (2, .long lo), (4, .long hi)] := hl
  refine lv_lload_n hx hb dX12_in_0 rfl (lv_at hl 0 rfl) ?_
  refine lv_lload_n hx hb dX12_in_1 rfl (lv_at hl 1 rfl) ?_
  refine W.lcmp hx hb dX12_in_2 ?_
  refine lv_if_lt hx hb (tgt := 17) dX12_in_3 (by decide) (fun c_1 => ?_) (fun c_1 => ?_)
  · refine lv_iconst (v := 0) hx hb dX12_in_17 (by decide) ?_
    exact g_zret S hr hlk hw (by decide) (by simp only [M_in_r, if_pos c_1]) rfl dX12_in_18
  · refine lv_lload_n hx hb dX12_in_6 rfl (lv_at hl 0 rfl) ?_
    refine lv_lload hx hb dX12_in_7 (lv_at hl 2 rfl) ?_
    refine W.lcmp hx hb dX12_in_9 ?_
    refine lv_if_gt hx hb (tgt := 17) dX12_in_10 (by decide) (fun c_2 => ?_) (fun c_2 => ?_)
    · refine lv_iconst (v := 0) hx hb dX12_in_17 (by decide) ?_
      exact g_zret S hr hlk hw (by decide) (by simp only [M_in_r, if_neg c_1, if_pos c_2]) rfl dX12_in_18
    · refine lv_iconst (v := 1) hx hb dX12_in_13 (by decide) ?_
      refine lv_goto (tgt := 18) hx hb dX12_in_14 (by decide) ?_
      exact g_zret S hr hlk hw (by decide) (by simp only [M_in_r, if_neg c_1, if_neg c_2]) rfl dX12_in_18

def M_kindBy_r (c : Int32) : Int32 := if c = 99 then 0 else (if c = 112 then 1 else (if c = 111 then 2 else (if c = 119 then 3 else (if c = 107 then 4 else (-1)))))
set_option maxHeartbeats 4000000 in
set_option maxRecDepth 100000 in
theorem c_M_kindBy (l : Launch) (D : va_G) (tys : List (ClassId × FieldType)) (w0 : va_W) (c : Int32) : gI l D tys yX12_kindBy wsX12_kindBy 1 [.int c] w0 (M_kindBy_r c) w0 := by
  refine g_start (cc := cX12_kindBy) (maxL := 1) (ret := some .int) (Qc := gQi D tys (M_kindBy_r c) w0) (by decide) rfl (Nat.le_of_ble_eq_true rfl) ?_
  intro p e s m below meth C A ls S hr hlk hw hl
  obtain ⟨hx, hb, hml, hown, hts⟩ := id S
  have hl : lv_has ls 1 [(0, .int c)] := hl
  refine lv_iload_n hx hb dX12_kindBy_0 rfl (lv_at hl 0 rfl) ?_
  refine lv_bipush (v := 99) hx hb dX12_kindBy_1 (by decide) ?_
  refine lv_icmp_ne hx hb (tgt := 10) dX12_kindBy_3 (by decide) (fun c_1 => ?_) (fun c_1 => ?_)
  · refine lv_iload_n hx hb dX12_kindBy_10 rfl (lv_at hl 0 rfl) ?_
    refine lv_bipush (v := 112) hx hb dX12_kindBy_11 (by decide) ?_
    refine lv_icmp_ne hx hb (tgt := 20) dX12_kindBy_13 (by decide) (fun c_2 => ?_) (fun c_2 => ?_)
    · refine lv_iload_n hx hb dX12_kindBy_20 rfl (lv_at hl 0 rfl) ?_
      refine lv_bipush (v := 111) hx hb dX12_kindBy_21 (by decide) ?_
      refine lv_icmp_ne hx hb (tgt := 30) dX12_kindBy_23 (by decide) (fun c_3 => ?_) (fun c_3 => ?_)
      · refine lv_iload_n hx hb dX12_kindBy_30 rfl (lv_at hl 0 rfl) ?_
        refine lv_bipush (v := 119) hx hb dX12_kindBy_31 (by decide) ?_
        refine lv_icmp_ne hx hb (tgt := 40) dX12_kindBy_33 (by decide) (fun c_4 => ?_) (fun c_4 => ?_)
        · refine lv_iload_n hx hb dX12_kindBy_40 rfl (lv_at hl 0 rfl) ?_
          refine lv_bipush (v := 107) hx hb dX12_kindBy_41 (by decide) ?_
          refine lv_icmp_ne hx hb (tgt := 50) dX12_kindBy_43 (by decide) (fun c_5 => ?_) (fun c_5 => ?_)
          · refine lv_iconst (v := (-1)) hx hb dX12_kindBy_50 (by decide) ?_
            exact g_iret S hr hlk hw (by simp only [M_kindBy_r, if_neg c_1, if_neg c_2, if_neg c_3, if_neg c_4, if_neg c_5]) rfl dX12_kindBy_51
          · refine lv_iconst (v := 4) hx hb dX12_kindBy_46 (by decide) ?_
            refine lv_goto (tgt := 51) hx hb dX12_kindBy_47 (by decide) ?_
            exact g_iret S hr hlk hw (by simp only [M_kindBy_r, if_neg c_1, if_neg c_2, if_neg c_3, if_neg c_4, if_pos c_5]) rfl dX12_kindBy_51
        · refine lv_iconst (v := 3) hx hb dX12_kindBy_36 (by decide) ?_
          refine lv_goto (tgt := 51) hx hb dX12_kindBy_37 (by decide) ?_
          exact g_iret S hr hlk hw (by simp only [M_kindBy_r, if_neg c_1, if_neg c_2, if_neg c_3, if_pos c_4]) rfl dX12_kindBy_51
      · refine lv_iconst (v := 2) hx hb dX12_kindBy_26 (by decide) ?_
        refine lv_goto (tgt := 51) hx hb dX12_kindBy_27 (by decide) ?_
        exact g_iret S hr hlk hw (by simp only [M_kindBy_r, if_neg c_1, if_neg c_2, if_pos c_3]) rfl dX12_kindBy_51
    · refine lv_iconst (v := 1) hx hb dX12_kindBy_16 (by decide) ?_
      refine lv_goto (tgt := 51) hx hb dX12_kindBy_17 (by decide) ?_
      exact g_iret S hr hlk hw (by simp only [M_kindBy_r, if_neg c_1, if_pos c_2]) rfl dX12_kindBy_51
  · refine lv_iconst (v := 0) hx hb dX12_kindBy_6 (by decide) ?_
    refine lv_goto (tgt := 51) hx hb dX12_kindBy_7 (by decide) ?_
    exact g_iret S hr hlk hw (by simp only [M_kindBy_r, if_pos c_1]) rfl dX12_kindBy_51

def M_asksBy_r (kind : Int32) (rate : Int32) : Int32 := if kind = 1 then (rate + 1) else (if kind = 2 then (if rate ≤ 1 then 1 else (rate - 1)) else (if kind = 4 then ((2 * rate) + 2) else rate))
set_option maxHeartbeats 4000000 in
set_option maxRecDepth 100000 in
theorem c_M_asksBy (l : Launch) (D : va_G) (tys : List (ClassId × FieldType)) (w0 : va_W) (kind : Int32) (rate : Int32) : gI l D tys yX12_asksBy wsX12_asksBy 1 [.int kind, .int rate] w0 (M_asksBy_r kind rate) w0 := by
  refine g_start (cc := cX12_asksBy) (maxL := 2) (ret := some .int) (Qc := gQi D tys (M_asksBy_r kind rate) w0) (by decide) rfl (Nat.le_of_ble_eq_true rfl) ?_
  intro p e s m below meth C A ls S hr hlk hw hl
  obtain ⟨hx, hb, hml, hown, hts⟩ := id S
  have hl : lv_has ls 2 [(0, .int kind), (1, .int rate)] := hl
  refine lv_iload_n hx hb dX12_asksBy_0 rfl (lv_at hl 0 rfl) ?_
  refine lv_iconst (v := 1) hx hb dX12_asksBy_1 (by decide) ?_
  refine lv_icmp_ne hx hb (tgt := 11) dX12_asksBy_2 (by decide) (fun c_1 => ?_) (fun c_1 => ?_)
  · refine lv_iload_n hx hb dX12_asksBy_11 rfl (lv_at hl 0 rfl) ?_
    refine lv_iconst (v := 2) hx hb dX12_asksBy_12 (by decide) ?_
    refine lv_icmp_ne hx hb (tgt := 31) dX12_asksBy_13 (by decide) (fun c_2 => ?_) (fun c_2 => ?_)
    · refine lv_iload_n hx hb dX12_asksBy_31 rfl (lv_at hl 0 rfl) ?_
      refine lv_iconst (v := 4) hx hb dX12_asksBy_32 (by decide) ?_
      refine lv_icmp_ne hx hb (tgt := 44) dX12_asksBy_33 (by decide) (fun c_3 => ?_) (fun c_3 => ?_)
      · refine lv_iload_n hx hb dX12_asksBy_44 rfl (lv_at hl 1 rfl) ?_
        exact g_iret S hr hlk hw (by simp only [M_asksBy_r, if_neg c_1, if_neg c_2, if_neg c_3]) rfl dX12_asksBy_45
      · refine lv_iconst (v := 2) hx hb dX12_asksBy_36 (by decide) ?_
        refine lv_iload_n hx hb dX12_asksBy_37 rfl (lv_at hl 1 rfl) ?_
        refine lv_imul hx hb dX12_asksBy_38 ?_
        refine lv_iconst (v := 2) hx hb dX12_asksBy_39 (by decide) ?_
        refine lv_iadd hx hb dX12_asksBy_40 ?_
        refine lv_goto (tgt := 45) hx hb dX12_asksBy_41 (by decide) ?_
        exact g_iret S hr hlk hw (by simp only [M_asksBy_r, if_neg c_1, if_neg c_2, if_pos c_3]) rfl dX12_asksBy_45
    · refine lv_iload_n hx hb dX12_asksBy_16 rfl (lv_at hl 1 rfl) ?_
      refine lv_iconst (v := 1) hx hb dX12_asksBy_17 (by decide) ?_
      refine lv_icmp_le hx hb (tgt := 27) dX12_asksBy_18 (by decide) (fun c_4 => ?_) (fun c_4 => ?_)
      · refine lv_iconst (v := 1) hx hb dX12_asksBy_27 (by decide) ?_
        refine lv_goto (tgt := 45) hx hb dX12_asksBy_28 (by decide) ?_
        exact g_iret S hr hlk hw (by simp only [M_asksBy_r, if_neg c_1, if_pos c_2, if_pos c_4]) rfl dX12_asksBy_45
      · refine lv_iload_n hx hb dX12_asksBy_21 rfl (lv_at hl 1 rfl) ?_
        refine lv_iconst (v := 1) hx hb dX12_asksBy_22 (by decide) ?_
        refine lv_isub hx hb dX12_asksBy_23 ?_
        refine lv_goto (tgt := 45) hx hb dX12_asksBy_24 (by decide) ?_
        exact g_iret S hr hlk hw (by simp only [M_asksBy_r, if_neg c_1, if_pos c_2, if_neg c_4]) rfl dX12_asksBy_45
  · refine lv_iload_n hx hb dX12_asksBy_5 rfl (lv_at hl 1 rfl) ?_
    refine lv_iconst (v := 1) hx hb dX12_asksBy_6 (by decide) ?_
    refine lv_iadd hx hb dX12_asksBy_7 ?_
    refine lv_goto (tgt := 45) hx hb dX12_asksBy_8 (by decide) ?_
    exact g_iret S hr hlk hw (by simp only [M_asksBy_r, if_pos c_1]) rfl dX12_asksBy_45

def M_blank_r (σ : Nat → Nat → Int32) : Int32 := σ 0 1
def M_blank_s (σ : Nat → Nat → Int32) : Nat → Nat → Int32 := up2 σ 0 1 0
theorem M_blank_s_k1 (σ : Nat → Nat → Int32) : M_blank_s σ 1 = σ 1 := by
  unfold M_blank_s
  exact up2_n _ _ _ (by decide)
theorem M_blank_s_k2 (σ : Nat → Nat → Int32) : M_blank_s σ 2 = σ 2 := by
  unfold M_blank_s
  exact up2_n _ _ _ (by decide)
theorem M_blank_s_k3 (σ : Nat → Nat → Int32) : M_blank_s σ 3 = σ 3 := by
  unfold M_blank_s
  exact up2_n _ _ _ (by decide)
theorem M_blank_s_k4 (σ : Nat → Nat → Int32) : M_blank_s σ 4 = σ 4 := by
  unfold M_blank_s
  exact up2_n _ _ _ (by decide)
theorem M_blank_s_k5 (σ : Nat → Nat → Int32) : M_blank_s σ 5 = σ 5 := by
  unfold M_blank_s
  exact up2_n _ _ _ (by decide)
theorem M_blank_s_k6 (σ : Nat → Nat → Int32) : M_blank_s σ 6 = σ 6 := by
  unfold M_blank_s
  exact up2_n _ _ _ (by decide)
theorem M_blank_s_k7 (σ : Nat → Nat → Int32) : M_blank_s σ 7 = σ 7 := by
  unfold M_blank_s
  exact up2_n _ _ _ (by decide)
theorem M_blank_s_k8 (σ : Nat → Nat → Int32) : M_blank_s σ 8 = σ 8 := by
  unfold M_blank_s
  exact up2_n _ _ _ (by decide)
theorem M_blank_s_k9 (σ : Nat → Nat → Int32) : M_blank_s σ 9 = σ 9 := by
  unfold M_blank_s
  exact up2_n _ _ _ (by decide)
theorem M_blank_s_k10 (σ : Nat → Nat → Int32) : M_blank_s σ 10 = σ 10 := by
  unfold M_blank_s
  exact up2_n _ _ _ (by decide)
theorem M_blank_s_k11 (σ : Nat → Nat → Int32) : M_blank_s σ 11 = σ 11 := by
  unfold M_blank_s
  exact up2_n _ _ _ (by decide)
theorem M_blank_s_k12 (σ : Nat → Nat → Int32) : M_blank_s σ 12 = σ 12 := by
  unfold M_blank_s
  exact up2_n _ _ _ (by decide)
theorem M_blank_s_k13 (σ : Nat → Nat → Int32) : M_blank_s σ 13 = σ 13 := by
  unfold M_blank_s
  exact up2_n _ _ _ (by decide)
theorem M_blank_s_k14 (σ : Nat → Nat → Int32) : M_blank_s σ 14 = σ 14 := by
  unfold M_blank_s
  exact up2_n _ _ _ (by decide)
theorem M_blank_s_k15 (σ : Nat → Nat → Int32) : M_blank_s σ 15 = σ 15 := by
  unfold M_blank_s
  exact up2_n _ _ _ (by decide)
theorem M_blank_s_k16 (σ : Nat → Nat → Int32) : M_blank_s σ 16 = σ 16 := by
  unfold M_blank_s
  exact up2_n _ _ _ (by decide)
theorem M_blank_s_k17 (σ : Nat → Nat → Int32) : M_blank_s σ 17 = σ 17 := by
  unfold M_blank_s
  exact up2_n _ _ _ (by decide)
theorem M_blank_s_k18 (σ : Nat → Nat → Int32) : M_blank_s σ 18 = σ 18 := by
  unfold M_blank_s
  exact up2_n _ _ _ (by decide)
theorem M_blank_s_k19 (σ : Nat → Nat → Int32) : M_blank_s σ 19 = σ 19 := by
  unfold M_blank_s
  exact up2_n _ _ _ (by decide)
set_option maxHeartbeats 4000000 in
set_option maxRecDepth 100000 in
theorem c_M_blank (l : Launch) (D : va_G) (cI : ClassId) (a : Nat → Nat) (σ : Nat → Nat → Int32) (h : Int64) : gI l D [(cI, .int)] yX12_blank wsX12_blank 1 [.ref (a 0)] (wM cI a σ h) (M_blank_r σ) (wM cI a (M_blank_s σ) h) := by
  refine g_start (cc := cX12_blank) (maxL := 2) (ret := some .int) (Qc := gQi D [(cI, .int)] (M_blank_r σ) (wM cI a (M_blank_s σ) h)) (by decide) rfl (Nat.le_of_ble_eq_true rfl) ?_
  intro p e s m below meth C A ls S hr hlk hw hl
  obtain ⟨hx, hb, hml, hown, hts⟩ := id S
  have hinX12 : ∀ x ∈ u_ws RX12 TX12 38, x ∈ wsX12_blank := fun x h => List.mem_cons_of_mem _ (List.mem_append_right _ h)
  have lk0 : Cond.fieldLink RX12 77 "CowsOwedModel" "pageMany" "I" ∈ wsX12_blank := by decide +kernel
  have hl : lv_has ls 2 [(0, .ref (a 0))] := hl
  refine lv_aload_n hx hb dX12_blank_0 rfl (lv_at hl 0 rfl) ?_
  refine g_get S hw hinX12 (fs := fM a σ h) 0 rfl rfl 1 (by decide) lk0 (v := .int (σ 0 1)) rfl dX12_blank_1 ?_
  refine lv_istore_n (lv' := [(1, .int (σ 0 1)), (0, .ref (a 0))]) hx hb dX12_blank_4 rfl hl (by decide) rfl (fun ls hl => ?_)
  refine lv_aload_n hx hb dX12_blank_5 rfl (lv_at hl 1 rfl) ?_
  refine lv_iconst (v := 0) hx hb dX12_blank_6 (by decide) ?_
  refine g_put S hw hinX12 tyX12 tyX12_ok nmX12 (fs := fM a σ h) 0 rfl rfl 1 (by decide) lk0 rfl rfl rfl (Nat.le_of_ble_eq_true rfl) (w2 := wM cI a (up2 σ 0 1 0) h) (wM_f1 _ _ _ _ _) dX12_blank_7 (fun H locs hw => ?_)
  refine lv_iload_n hx hb dX12_blank_10 rfl (lv_at hl 0 rfl) ?_
  exact g_iret S hr hlk hw (by simp only [M_blank_r]) (by simp only [M_blank_s]) dX12_blank_11

def M_letter_r (σ : Nat → Nat → Int32) (pm : Nat) (code : Int32) : Int32 := if (M_in_r code.toInt64 1 126) = 0 then (-102) else (if pm = 16 then (-104) else (nI (pm + 1)))
def M_letter_s (σ : Nat → Nat → Int32) (pm : Nat) (code : Int32) : Nat → Nat → Int32 := if (M_in_r code.toInt64 1 126) = 0 then σ else (if pm = 16 then σ else (up2 (up2 σ 1 pm code) 0 1 (nI (pm + 1))))
theorem M_letter_s_k2 (σ : Nat → Nat → Int32) (pm : Nat) (code : Int32) : M_letter_s σ pm code 2 = σ 2 := by
  unfold M_letter_s
  by_cases z1 : (M_in_r code.toInt64 1 126) = 0
  · refine Eq.trans (congrFun (if_pos z1) 2) ?_
    exact rfl
  · refine Eq.trans (congrFun (if_neg z1) 2) ?_
    by_cases z2 : pm = 16
    · refine Eq.trans (congrFun (if_pos z2) 2) ?_
      exact rfl
    · refine Eq.trans (congrFun (if_neg z2) 2) ?_
      exact (up2_n _ _ _ (by decide)).trans (up2_n _ _ _ (by decide))
theorem M_letter_s_k3 (σ : Nat → Nat → Int32) (pm : Nat) (code : Int32) : M_letter_s σ pm code 3 = σ 3 := by
  unfold M_letter_s
  by_cases z1 : (M_in_r code.toInt64 1 126) = 0
  · refine Eq.trans (congrFun (if_pos z1) 3) ?_
    exact rfl
  · refine Eq.trans (congrFun (if_neg z1) 3) ?_
    by_cases z2 : pm = 16
    · refine Eq.trans (congrFun (if_pos z2) 3) ?_
      exact rfl
    · refine Eq.trans (congrFun (if_neg z2) 3) ?_
      exact (up2_n _ _ _ (by decide)).trans (up2_n _ _ _ (by decide))
theorem M_letter_s_k4 (σ : Nat → Nat → Int32) (pm : Nat) (code : Int32) : M_letter_s σ pm code 4 = σ 4 := by
  unfold M_letter_s
  by_cases z1 : (M_in_r code.toInt64 1 126) = 0
  · refine Eq.trans (congrFun (if_pos z1) 4) ?_
    exact rfl
  · refine Eq.trans (congrFun (if_neg z1) 4) ?_
    by_cases z2 : pm = 16
    · refine Eq.trans (congrFun (if_pos z2) 4) ?_
      exact rfl
    · refine Eq.trans (congrFun (if_neg z2) 4) ?_
      exact (up2_n _ _ _ (by decide)).trans (up2_n _ _ _ (by decide))
theorem M_letter_s_k5 (σ : Nat → Nat → Int32) (pm : Nat) (code : Int32) : M_letter_s σ pm code 5 = σ 5 := by
  unfold M_letter_s
  by_cases z1 : (M_in_r code.toInt64 1 126) = 0
  · refine Eq.trans (congrFun (if_pos z1) 5) ?_
    exact rfl
  · refine Eq.trans (congrFun (if_neg z1) 5) ?_
    by_cases z2 : pm = 16
    · refine Eq.trans (congrFun (if_pos z2) 5) ?_
      exact rfl
    · refine Eq.trans (congrFun (if_neg z2) 5) ?_
      exact (up2_n _ _ _ (by decide)).trans (up2_n _ _ _ (by decide))
theorem M_letter_s_k6 (σ : Nat → Nat → Int32) (pm : Nat) (code : Int32) : M_letter_s σ pm code 6 = σ 6 := by
  unfold M_letter_s
  by_cases z1 : (M_in_r code.toInt64 1 126) = 0
  · refine Eq.trans (congrFun (if_pos z1) 6) ?_
    exact rfl
  · refine Eq.trans (congrFun (if_neg z1) 6) ?_
    by_cases z2 : pm = 16
    · refine Eq.trans (congrFun (if_pos z2) 6) ?_
      exact rfl
    · refine Eq.trans (congrFun (if_neg z2) 6) ?_
      exact (up2_n _ _ _ (by decide)).trans (up2_n _ _ _ (by decide))
theorem M_letter_s_k7 (σ : Nat → Nat → Int32) (pm : Nat) (code : Int32) : M_letter_s σ pm code 7 = σ 7 := by
  unfold M_letter_s
  by_cases z1 : (M_in_r code.toInt64 1 126) = 0
  · refine Eq.trans (congrFun (if_pos z1) 7) ?_
    exact rfl
  · refine Eq.trans (congrFun (if_neg z1) 7) ?_
    by_cases z2 : pm = 16
    · refine Eq.trans (congrFun (if_pos z2) 7) ?_
      exact rfl
    · refine Eq.trans (congrFun (if_neg z2) 7) ?_
      exact (up2_n _ _ _ (by decide)).trans (up2_n _ _ _ (by decide))
theorem M_letter_s_k8 (σ : Nat → Nat → Int32) (pm : Nat) (code : Int32) : M_letter_s σ pm code 8 = σ 8 := by
  unfold M_letter_s
  by_cases z1 : (M_in_r code.toInt64 1 126) = 0
  · refine Eq.trans (congrFun (if_pos z1) 8) ?_
    exact rfl
  · refine Eq.trans (congrFun (if_neg z1) 8) ?_
    by_cases z2 : pm = 16
    · refine Eq.trans (congrFun (if_pos z2) 8) ?_
      exact rfl
    · refine Eq.trans (congrFun (if_neg z2) 8) ?_
      exact (up2_n _ _ _ (by decide)).trans (up2_n _ _ _ (by decide))
theorem M_letter_s_k9 (σ : Nat → Nat → Int32) (pm : Nat) (code : Int32) : M_letter_s σ pm code 9 = σ 9 := by
  unfold M_letter_s
  by_cases z1 : (M_in_r code.toInt64 1 126) = 0
  · refine Eq.trans (congrFun (if_pos z1) 9) ?_
    exact rfl
  · refine Eq.trans (congrFun (if_neg z1) 9) ?_
    by_cases z2 : pm = 16
    · refine Eq.trans (congrFun (if_pos z2) 9) ?_
      exact rfl
    · refine Eq.trans (congrFun (if_neg z2) 9) ?_
      exact (up2_n _ _ _ (by decide)).trans (up2_n _ _ _ (by decide))
theorem M_letter_s_k10 (σ : Nat → Nat → Int32) (pm : Nat) (code : Int32) : M_letter_s σ pm code 10 = σ 10 := by
  unfold M_letter_s
  by_cases z1 : (M_in_r code.toInt64 1 126) = 0
  · refine Eq.trans (congrFun (if_pos z1) 10) ?_
    exact rfl
  · refine Eq.trans (congrFun (if_neg z1) 10) ?_
    by_cases z2 : pm = 16
    · refine Eq.trans (congrFun (if_pos z2) 10) ?_
      exact rfl
    · refine Eq.trans (congrFun (if_neg z2) 10) ?_
      exact (up2_n _ _ _ (by decide)).trans (up2_n _ _ _ (by decide))
theorem M_letter_s_k11 (σ : Nat → Nat → Int32) (pm : Nat) (code : Int32) : M_letter_s σ pm code 11 = σ 11 := by
  unfold M_letter_s
  by_cases z1 : (M_in_r code.toInt64 1 126) = 0
  · refine Eq.trans (congrFun (if_pos z1) 11) ?_
    exact rfl
  · refine Eq.trans (congrFun (if_neg z1) 11) ?_
    by_cases z2 : pm = 16
    · refine Eq.trans (congrFun (if_pos z2) 11) ?_
      exact rfl
    · refine Eq.trans (congrFun (if_neg z2) 11) ?_
      exact (up2_n _ _ _ (by decide)).trans (up2_n _ _ _ (by decide))
theorem M_letter_s_k12 (σ : Nat → Nat → Int32) (pm : Nat) (code : Int32) : M_letter_s σ pm code 12 = σ 12 := by
  unfold M_letter_s
  by_cases z1 : (M_in_r code.toInt64 1 126) = 0
  · refine Eq.trans (congrFun (if_pos z1) 12) ?_
    exact rfl
  · refine Eq.trans (congrFun (if_neg z1) 12) ?_
    by_cases z2 : pm = 16
    · refine Eq.trans (congrFun (if_pos z2) 12) ?_
      exact rfl
    · refine Eq.trans (congrFun (if_neg z2) 12) ?_
      exact (up2_n _ _ _ (by decide)).trans (up2_n _ _ _ (by decide))
theorem M_letter_s_k13 (σ : Nat → Nat → Int32) (pm : Nat) (code : Int32) : M_letter_s σ pm code 13 = σ 13 := by
  unfold M_letter_s
  by_cases z1 : (M_in_r code.toInt64 1 126) = 0
  · refine Eq.trans (congrFun (if_pos z1) 13) ?_
    exact rfl
  · refine Eq.trans (congrFun (if_neg z1) 13) ?_
    by_cases z2 : pm = 16
    · refine Eq.trans (congrFun (if_pos z2) 13) ?_
      exact rfl
    · refine Eq.trans (congrFun (if_neg z2) 13) ?_
      exact (up2_n _ _ _ (by decide)).trans (up2_n _ _ _ (by decide))
theorem M_letter_s_k14 (σ : Nat → Nat → Int32) (pm : Nat) (code : Int32) : M_letter_s σ pm code 14 = σ 14 := by
  unfold M_letter_s
  by_cases z1 : (M_in_r code.toInt64 1 126) = 0
  · refine Eq.trans (congrFun (if_pos z1) 14) ?_
    exact rfl
  · refine Eq.trans (congrFun (if_neg z1) 14) ?_
    by_cases z2 : pm = 16
    · refine Eq.trans (congrFun (if_pos z2) 14) ?_
      exact rfl
    · refine Eq.trans (congrFun (if_neg z2) 14) ?_
      exact (up2_n _ _ _ (by decide)).trans (up2_n _ _ _ (by decide))
theorem M_letter_s_k15 (σ : Nat → Nat → Int32) (pm : Nat) (code : Int32) : M_letter_s σ pm code 15 = σ 15 := by
  unfold M_letter_s
  by_cases z1 : (M_in_r code.toInt64 1 126) = 0
  · refine Eq.trans (congrFun (if_pos z1) 15) ?_
    exact rfl
  · refine Eq.trans (congrFun (if_neg z1) 15) ?_
    by_cases z2 : pm = 16
    · refine Eq.trans (congrFun (if_pos z2) 15) ?_
      exact rfl
    · refine Eq.trans (congrFun (if_neg z2) 15) ?_
      exact (up2_n _ _ _ (by decide)).trans (up2_n _ _ _ (by decide))
theorem M_letter_s_k16 (σ : Nat → Nat → Int32) (pm : Nat) (code : Int32) : M_letter_s σ pm code 16 = σ 16 := by
  unfold M_letter_s
  by_cases z1 : (M_in_r code.toInt64 1 126) = 0
  · refine Eq.trans (congrFun (if_pos z1) 16) ?_
    exact rfl
  · refine Eq.trans (congrFun (if_neg z1) 16) ?_
    by_cases z2 : pm = 16
    · refine Eq.trans (congrFun (if_pos z2) 16) ?_
      exact rfl
    · refine Eq.trans (congrFun (if_neg z2) 16) ?_
      exact (up2_n _ _ _ (by decide)).trans (up2_n _ _ _ (by decide))
theorem M_letter_s_k17 (σ : Nat → Nat → Int32) (pm : Nat) (code : Int32) : M_letter_s σ pm code 17 = σ 17 := by
  unfold M_letter_s
  by_cases z1 : (M_in_r code.toInt64 1 126) = 0
  · refine Eq.trans (congrFun (if_pos z1) 17) ?_
    exact rfl
  · refine Eq.trans (congrFun (if_neg z1) 17) ?_
    by_cases z2 : pm = 16
    · refine Eq.trans (congrFun (if_pos z2) 17) ?_
      exact rfl
    · refine Eq.trans (congrFun (if_neg z2) 17) ?_
      exact (up2_n _ _ _ (by decide)).trans (up2_n _ _ _ (by decide))
theorem M_letter_s_k18 (σ : Nat → Nat → Int32) (pm : Nat) (code : Int32) : M_letter_s σ pm code 18 = σ 18 := by
  unfold M_letter_s
  by_cases z1 : (M_in_r code.toInt64 1 126) = 0
  · refine Eq.trans (congrFun (if_pos z1) 18) ?_
    exact rfl
  · refine Eq.trans (congrFun (if_neg z1) 18) ?_
    by_cases z2 : pm = 16
    · refine Eq.trans (congrFun (if_pos z2) 18) ?_
      exact rfl
    · refine Eq.trans (congrFun (if_neg z2) 18) ?_
      exact (up2_n _ _ _ (by decide)).trans (up2_n _ _ _ (by decide))
theorem M_letter_s_k19 (σ : Nat → Nat → Int32) (pm : Nat) (code : Int32) : M_letter_s σ pm code 19 = σ 19 := by
  unfold M_letter_s
  by_cases z1 : (M_in_r code.toInt64 1 126) = 0
  · refine Eq.trans (congrFun (if_pos z1) 19) ?_
    exact rfl
  · refine Eq.trans (congrFun (if_neg z1) 19) ?_
    by_cases z2 : pm = 16
    · refine Eq.trans (congrFun (if_pos z2) 19) ?_
      exact rfl
    · refine Eq.trans (congrFun (if_neg z2) 19) ?_
      exact (up2_n _ _ _ (by decide)).trans (up2_n _ _ _ (by decide))
set_option maxHeartbeats 4000000 in
set_option maxRecDepth 100000 in
theorem c_M_letter (l : Launch) (D : va_G) (cI : ClassId) (a : Nat → Nat) (σ : Nat → Nat → Int32) (h : Int64) (pm : Nat) (code : Int32) (hpm : σ 0 1 = nI pm) (hpm16 : pm ≤ 16) : gI l D [(cI, .int)] yX12_letter wsX12_letter 2 [.ref (a 0), .int code] (wM cI a σ h) (M_letter_r σ pm code) (wM cI a (M_letter_s σ pm code) h) := by
  refine g_start (cc := cX12_letter) (maxL := 2) (ret := some .int) (Qc := gQi D [(cI, .int)] (M_letter_r σ pm code) (wM cI a (M_letter_s σ pm code) h)) (by decide) rfl (Nat.le_of_ble_eq_true rfl) ?_
  intro p e s m below meth C A ls S hr hlk hw hl
  obtain ⟨hx, hb, hml, hown, hts⟩ := id S
  have hinX12 : ∀ x ∈ u_ws RX12 TX12 38, x ∈ wsX12_letter := fun x h => List.mem_cons_of_mem _ (List.mem_append_right _ h)
  have lk0 : Cond.constantLong RX12 71 (126) ∈ wsX12_letter := by decide +kernel
  have lk1 : Cond.fieldLink RX12 77 "CowsOwedModel" "pageMany" "I" ∈ wsX12_letter := by decide +kernel
  have lk2 : Cond.fieldLink RX12 7 "CowsOwedModel" "page" "[I" ∈ wsX12_letter := by decide +kernel
  have hl : lv_has ls 2 [(0, .ref (a 0)), (1, .int code)] := hl
  refine lv_iload_n hx hb dX12_letter_0 rfl (lv_at hl 1 rfl) ?_
  refine lv_i2l hx hb dX12_letter_1 rfl ?_
  refine lv_lconst (v := 1) hx hb dX12_letter_2 (by decide) ?_
  refine lv_ldc2 (v := 126) hx hb hown (hts _ lk0) dX12_letter_3 ?_
  refine g_callSi S hw (c_M_in l D [(cI, .int)] (wM cI a σ h) code.toInt64 1 126) gX12_letter_X12_in rfl 3 rfl (by decide +kernel) (by decide) (by decide) hl.1 rfl (Nat.le_of_ble_eq_true rfl) dX12_letter_6 (fun H locs hw => ?_)
  refine lv_if_ne hx hb (tgt := 15) dX12_letter_9 (by decide) (fun c_1 => ?_) (fun c_1 => ?_)
  · refine lv_aload_n hx hb dX12_letter_15 rfl (lv_at hl 0 rfl) ?_
    refine g_get S hw hinX12 (fs := fM a σ h) 0 rfl rfl 1 (by decide) lk1 (v := .int (nI pm)) (congrArg (fun z => some (Value.int z)) (hpm)) dX12_letter_16 ?_
    refine lv_bipush (v := 16) hx hb dX12_letter_19 (by decide) ?_
    refine ln_ne (x := pm) (y := 16) hx hb (by omega) (by omega) (tgt := 27) dX12_letter_21 (by decide) (fun c_2 => ?_) (fun c_2 => ?_)
    · refine lv_aload_n hx hb dX12_letter_27 rfl (lv_at hl 0 rfl) ?_
      refine g_get S hw hinX12 (fs := fM a σ h) 0 rfl rfl 0 (by decide) lk2 (v := .ref (a 1)) rfl dX12_letter_28 ?_
      refine lv_aload_n hx hb dX12_letter_31 rfl (lv_at hl 0 rfl) ?_
      refine g_get S hw hinX12 (fs := fM a σ h) 0 rfl rfl 1 (by decide) lk1 (v := .int (nI pm)) (congrArg (fun z => some (Value.int z)) (hpm)) dX12_letter_32 ?_
      refine lv_iload_n hx hb dX12_letter_35 rfl (lv_at hl 1 rfl) ?_
      refine g_iast S hw (f := σ 1) (i := pm) 1 0 rfl rfl (by omega) (by decide) (w2 := wM cI a (up2 σ 1 pm code) h) (wM_a1 _ _ _ _ _ _) dX12_letter_36 (fun H locs hw => ?_)
      refine lv_aload_n hx hb dX12_letter_37 rfl (lv_at hl 0 rfl) ?_
      refine lv_dup hx hb dX12_letter_38 rfl ?_
      refine g_get S hw hinX12 (fs := fM a (up2 σ 1 pm code) h) 0 rfl rfl 1 (by decide) lk1 (v := .int (nI pm)) (congrArg (fun z => some (Value.int z)) ((up2_rn (by decide)).trans (hpm))) dX12_letter_39 ?_
      refine lv_iconst (v := 1) hx hb dX12_letter_42 (by decide) ?_
      refine ln_iadd (x := pm) (y := 1) hx hb dX12_letter_43 ?_
      refine g_put S hw hinX12 tyX12 tyX12_ok nmX12 (fs := fM a (up2 σ 1 pm code) h) 0 rfl rfl 1 (by decide) lk1 rfl rfl rfl (Nat.le_of_ble_eq_true rfl) (w2 := wM cI a (up2 (up2 σ 1 pm code) 0 1 (nI (pm + 1))) h) (wM_f1 _ _ _ _ _) dX12_letter_44 (fun H locs hw => ?_)
      refine lv_aload_n hx hb dX12_letter_47 rfl (lv_at hl 0 rfl) ?_
      refine g_get S hw hinX12 (fs := fM a (up2 (up2 σ 1 pm code) 0 1 (nI (pm + 1))) h) 0 rfl rfl 1 (by decide) lk1 (v := .int (nI (pm + 1))) (congrArg (fun z => some (Value.int z)) (up2_rs)) dX12_letter_48 ?_
      exact g_iret S hr hlk hw (by simp only [M_letter_r, if_neg c_1, if_neg c_2]) (by simp only [M_letter_s, if_neg c_1, if_neg c_2]) dX12_letter_51
    · refine lv_bipush (v := (-104)) hx hb dX12_letter_24 (by decide) ?_
      exact g_iret S hr hlk hw (by simp only [M_letter_r, if_neg c_1, if_pos c_2]) (by simp only [M_letter_s, if_neg c_1, if_pos c_2]) dX12_letter_26
  · refine lv_bipush (v := (-102)) hx hb dX12_letter_12 (by decide) ?_
    exact g_iret S hr hlk hw (by simp only [M_letter_r, if_pos c_1]) (by simp only [M_letter_s, if_pos c_1]) dX12_letter_14

def M_lacks_r (σ : Nat → Nat → Int32) : Int32 := if (σ 0 6) = 0 then 1 else 0
theorem M_lacks_z (σ : Nat → Nat → Int32) : M_lacks_r σ = 0 ∨ M_lacks_r σ = 1 := by
  unfold M_lacks_r
  by_cases z1 : (σ 0 6) = 0
  · rw [if_pos z1]
    exact Or.inr rfl
  · rw [if_neg z1]
    exact Or.inl rfl
set_option maxHeartbeats 4000000 in
set_option maxRecDepth 100000 in
theorem c_M_lacks (l : Launch) (D : va_G) (cI : ClassId) (a : Nat → Nat) (σ : Nat → Nat → Int32) (h : Int64) : gI l D [(cI, .int)] yX12_lacks wsX12_lacks 1 [.ref (a 0)] (wM cI a σ h) (M_lacks_r σ) (wM cI a σ h) := by
  refine g_start (cc := cX12_lacks) (maxL := 1) (ret := some .boolean) (Qc := gQi D [(cI, .int)] (M_lacks_r σ) (wM cI a σ h)) (by decide) rfl (Nat.le_of_ble_eq_true rfl) ?_
  intro p e s m below meth C A ls S hr hlk hw hl
  obtain ⟨hx, hb, hml, hown, hts⟩ := id S
  have hinX12 : ∀ x ∈ u_ws RX12 TX12 38, x ∈ wsX12_lacks := fun x h => List.mem_cons_of_mem _ (List.mem_append_right _ h)
  have lk0 : Cond.fieldLink RX12 105 "CowsOwedModel" "clans" "I" ∈ wsX12_lacks := by decide +kernel
  have hl : lv_has ls 1 [(0, .ref (a 0))] := hl
  refine lv_aload_n hx hb dX12_lacks_0 rfl (lv_at hl 0 rfl) ?_
  refine g_get S hw hinX12 (fs := fM a σ h) 0 rfl rfl 6 (by decide) lk0 (v := .int (σ 0 6)) rfl dX12_lacks_1 ?_
  refine lv_if_ne hx hb (tgt := 11) dX12_lacks_4 (by decide) (fun c_1 => ?_) (fun c_1 => ?_)
  · refine lv_iconst (v := 0) hx hb dX12_lacks_11 (by decide) ?_
    exact g_zret S hr hlk hw (by decide) (by simp only [M_lacks_r, if_neg c_1]) rfl dX12_lacks_12
  · refine lv_iconst (v := 1) hx hb dX12_lacks_7 (by decide) ?_
    refine lv_goto (tgt := 12) hx hb dX12_lacks_8 (by decide) ?_
    exact g_zret S hr hlk hw (by decide) (by simp only [M_lacks_r, if_pos c_1]) rfl dX12_lacks_12

def M_isClan_r (σ : Nat → Nat → Int32) (c : Int32) : Int32 := M_in_r c.toInt64 0 (((σ 0 6) - 1).toInt64)
theorem M_isClan_z (σ : Nat → Nat → Int32) (c : Int32) : M_isClan_r σ c = 0 ∨ M_isClan_r σ c = 1 := by
  unfold M_isClan_r
  exact M_in_z c.toInt64 0 (((σ 0 6) - 1).toInt64)
set_option maxHeartbeats 4000000 in
set_option maxRecDepth 100000 in
theorem c_M_isClan (l : Launch) (D : va_G) (cI : ClassId) (a : Nat → Nat) (σ : Nat → Nat → Int32) (h : Int64) (c : Int32) : gI l D [(cI, .int)] yX12_isClan wsX12_isClan 2 [.ref (a 0), .int c] (wM cI a σ h) (M_isClan_r σ c) (wM cI a σ h) := by
  refine g_start (cc := cX12_isClan) (maxL := 2) (ret := some .boolean) (Qc := gQi D [(cI, .int)] (M_isClan_r σ c) (wM cI a σ h)) (by decide) rfl (Nat.le_of_ble_eq_true rfl) ?_
  intro p e s m below meth C A ls S hr hlk hw hl
  obtain ⟨hx, hb, hml, hown, hts⟩ := id S
  have hinX12 : ∀ x ∈ u_ws RX12 TX12 38, x ∈ wsX12_isClan := fun x h => List.mem_cons_of_mem _ (List.mem_append_right _ h)
  have lk0 : Cond.fieldLink RX12 105 "CowsOwedModel" "clans" "I" ∈ wsX12_isClan := by decide +kernel
  have hl : lv_has ls 2 [(0, .ref (a 0)), (1, .int c)] := hl
  refine lv_iload_n hx hb dX12_isClan_0 rfl (lv_at hl 1 rfl) ?_
  refine lv_i2l hx hb dX12_isClan_1 rfl ?_
  refine lv_lconst (v := 0) hx hb dX12_isClan_2 (by decide) ?_
  refine lv_aload_n hx hb dX12_isClan_3 rfl (lv_at hl 0 rfl) ?_
  refine g_get S hw hinX12 (fs := fM a σ h) 0 rfl rfl 6 (by decide) lk0 (v := .int (σ 0 6)) rfl dX12_isClan_4 ?_
  refine lv_iconst (v := 1) hx hb dX12_isClan_7 (by decide) ?_
  refine lv_isub hx hb dX12_isClan_8 ?_
  refine lv_i2l hx hb dX12_isClan_9 rfl ?_
  refine g_callSi S hw (c_M_in l D [(cI, .int)] (wM cI a σ h) c.toInt64 0 (((σ 0 6) - 1).toInt64)) gX12_isClan_X12_in rfl 3 rfl (by decide +kernel) (by decide) (by decide) hl.1 rfl (Nat.le_of_ble_eq_true rfl) dX12_isClan_10 (fun H locs hw => ?_)
  exact g_zret S hr hlk hw (g_zz (M_in_z c.toInt64 0 (((σ 0 6) - 1).toInt64))) (by simp only [M_isClan_r]) rfl dX12_isClan_13

def M_areTwo_r (σ : Nat → Nat → Int32) (c : Int32) (d : Int32) : Int32 := if (M_isClan_r σ c) = 0 then 0 else (if (M_isClan_r σ d) = 0 then 0 else (if c = d then 0 else 1))
theorem M_areTwo_z (σ : Nat → Nat → Int32) (c : Int32) (d : Int32) : M_areTwo_r σ c d = 0 ∨ M_areTwo_r σ c d = 1 := by
  unfold M_areTwo_r
  by_cases z1 : (M_isClan_r σ c) = 0
  · rw [if_pos z1]
    exact Or.inl rfl
  · rw [if_neg z1]
    by_cases z2 : (M_isClan_r σ d) = 0
    · rw [if_pos z2]
      exact Or.inl rfl
    · rw [if_neg z2]
      by_cases z3 : c = d
      · rw [if_pos z3]
        exact Or.inl rfl
      · rw [if_neg z3]
        exact Or.inr rfl
set_option maxHeartbeats 4000000 in
set_option maxRecDepth 100000 in
theorem c_M_areTwo (l : Launch) (D : va_G) (cI : ClassId) (a : Nat → Nat) (σ : Nat → Nat → Int32) (h : Int64) (c : Int32) (d : Int32) : gI l D [(cI, .int)] yX12_areTwo wsX12_areTwo 3 [.ref (a 0), .int c, .int d] (wM cI a σ h) (M_areTwo_r σ c d) (wM cI a σ h) := by
  refine g_start (cc := cX12_areTwo) (maxL := 3) (ret := some .boolean) (Qc := gQi D [(cI, .int)] (M_areTwo_r σ c d) (wM cI a σ h)) (by decide) rfl (Nat.le_of_ble_eq_true rfl) ?_
  intro p e s m below meth C A ls S hr hlk hw hl
  obtain ⟨hx, hb, hml, hown, hts⟩ := id S
  have hl : lv_has ls 3 [(0, .ref (a 0)), (1, .int c), (2, .int d)] := hl
  refine lv_aload_n hx hb dX12_areTwo_0 rfl (lv_at hl 0 rfl) ?_
  refine lv_iload_n hx hb dX12_areTwo_1 rfl (lv_at hl 1 rfl) ?_
  refine g_callVi S hw (c_M_isClan l D cI a σ h c) gX12_areTwo_X12_isClan rfl 0 rfl rfl 1 rfl (by decide +kernel) (by decide) (by decide) hl.1 rfl (Nat.le_of_ble_eq_true rfl) dX12_areTwo_2 (fun H locs hw => ?_)
  refine lv_if_eq hx hb (tgt := 25) dX12_areTwo_5 (by decide) (fun c_1 => ?_) (fun c_1 => ?_)
  · refine lv_iconst (v := 0) hx hb dX12_areTwo_25 (by decide) ?_
    exact g_zret S hr hlk hw (by decide) (by simp only [M_areTwo_r, if_pos c_1]) rfl dX12_areTwo_26
  · refine lv_aload_n hx hb dX12_areTwo_8 rfl (lv_at hl 0 rfl) ?_
    refine lv_iload_n hx hb dX12_areTwo_9 rfl (lv_at hl 2 rfl) ?_
    refine g_callVi S hw (c_M_isClan l D cI a σ h d) gX12_areTwo_X12_isClan rfl 0 rfl rfl 1 rfl (by decide +kernel) (by decide) (by decide) hl.1 rfl (Nat.le_of_ble_eq_true rfl) dX12_areTwo_10 (fun H locs hw => ?_)
    refine lv_if_eq hx hb (tgt := 25) dX12_areTwo_13 (by decide) (fun c_2 => ?_) (fun c_2 => ?_)
    · refine lv_iconst (v := 0) hx hb dX12_areTwo_25 (by decide) ?_
      exact g_zret S hr hlk hw (by decide) (by simp only [M_areTwo_r, if_neg c_1, if_pos c_2]) rfl dX12_areTwo_26
    · refine lv_iload_n hx hb dX12_areTwo_16 rfl (lv_at hl 1 rfl) ?_
      refine lv_iload_n hx hb dX12_areTwo_17 rfl (lv_at hl 2 rfl) ?_
      refine lv_icmp_eq hx hb (tgt := 25) dX12_areTwo_18 (by decide) (fun c_3 => ?_) (fun c_3 => ?_)
      · refine lv_iconst (v := 0) hx hb dX12_areTwo_25 (by decide) ?_
        exact g_zret S hr hlk hw (by decide) (by simp only [M_areTwo_r, if_neg c_1, if_neg c_2, if_pos c_3]) rfl dX12_areTwo_26
      · refine lv_iconst (v := 1) hx hb dX12_areTwo_21 (by decide) ?_
        refine lv_goto (tgt := 26) hx hb dX12_areTwo_22 (by decide) ?_
        exact g_zret S hr hlk hw (by decide) (by simp only [M_areTwo_r, if_neg c_1, if_neg c_2, if_neg c_3]) rfl dX12_areTwo_26

def M_spareOf_r (σ : Nat → Nat → Int32) (c : Nat) : Int32 := if (σ 3 c) = 3 then (if (σ 4 c) ≤ 1 then 0 else ((σ 4 c) - 1)) else (if (σ 4 c) ≤ 0 then 0 else ((σ 4 c) - 0))
set_option maxHeartbeats 4000000 in
set_option maxRecDepth 100000 in
theorem c_M_spareOf (l : Launch) (D : va_G) (cI : ClassId) (a : Nat → Nat) (σ : Nat → Nat → Int32) (h : Int64) (c : Nat) (hc : c < 4) : gI l D [(cI, .int)] yX12_spareOf wsX12_spareOf 1 [.ref (a 0), .int (nI c)] (wM cI a σ h) (M_spareOf_r σ c) (wM cI a σ h) := by
  refine g_start (cc := cX12_spareOf) (maxL := 3) (ret := some .int) (Qc := gQi D [(cI, .int)] (M_spareOf_r σ c) (wM cI a σ h)) (by decide) rfl (Nat.le_of_ble_eq_true rfl) ?_
  intro p e s m below meth C A ls S hr hlk hw hl
  obtain ⟨hx, hb, hml, hown, hts⟩ := id S
  have hinX12 : ∀ x ∈ u_ws RX12 TX12 38, x ∈ wsX12_spareOf := fun x h => List.mem_cons_of_mem _ (List.mem_append_right _ h)
  have lk0 : Cond.fieldLink RX12 16 "CowsOwedModel" "kinds" "[I" ∈ wsX12_spareOf := by decide +kernel
  have lk1 : Cond.fieldLink RX12 19 "CowsOwedModel" "herds" "[I" ∈ wsX12_spareOf := by decide +kernel
  have hl : lv_has ls 3 [(0, .ref (a 0)), (1, .int (nI c))] := hl
  refine lv_aload_n hx hb dX12_spareOf_0 rfl (lv_at hl 0 rfl) ?_
  refine g_get S hw hinX12 (fs := fM a σ h) 0 rfl rfl 10 (by decide) lk0 (v := .ref (a 3)) rfl dX12_spareOf_1 ?_
  refine lv_iload_n hx hb dX12_spareOf_4 rfl (lv_at hl 1 rfl) ?_
  refine g_iald S hw (f := σ 3) (i := c) (x := σ 3 c) 3 0 rfl rfl (by omega) (by decide) rfl dX12_spareOf_5 ?_
  refine lv_iconst (v := 3) hx hb dX12_spareOf_6 (by decide) ?_
  refine lv_icmp_ne hx hb (tgt := 14) dX12_spareOf_7 (by decide) (fun c_1 => ?_) (fun c_1 => ?_)
  · refine lv_iconst (v := 0) hx hb dX12_spareOf_14 (by decide) ?_
    refine lv_istore_n (lv' := [(2, .int 0), (0, .ref (a 0)), (1, .int (nI c))]) hx hb dX12_spareOf_15 rfl hl (by decide) rfl (fun ls hl => ?_)
    refine lv_aload_n hx hb dX12_spareOf_16 rfl (lv_at hl 1 rfl) ?_
    refine g_get S hw hinX12 (fs := fM a σ h) 0 rfl rfl 11 (by decide) lk1 (v := .ref (a 4)) rfl dX12_spareOf_17 ?_
    refine lv_iload_n hx hb dX12_spareOf_20 rfl (lv_at hl 2 rfl) ?_
    refine g_iald S hw (f := σ 4) (i := c) (x := σ 4 c) 4 0 rfl rfl (by omega) (by decide) rfl dX12_spareOf_21 ?_
    refine lv_iload_n hx hb dX12_spareOf_22 rfl (lv_at hl 0 rfl) ?_
    refine lv_icmp_le hx hb (tgt := 37) dX12_spareOf_23 (by decide) (fun c_2 => ?_) (fun c_2 => ?_)
    · refine lv_iconst (v := 0) hx hb dX12_spareOf_37 (by decide) ?_
      exact g_iret S hr hlk hw (by simp only [M_spareOf_r, if_neg c_1, if_pos c_2]) rfl dX12_spareOf_38
    · refine lv_aload_n hx hb dX12_spareOf_26 rfl (lv_at hl 1 rfl) ?_
      refine g_get S hw hinX12 (fs := fM a σ h) 0 rfl rfl 11 (by decide) lk1 (v := .ref (a 4)) rfl dX12_spareOf_27 ?_
      refine lv_iload_n hx hb dX12_spareOf_30 rfl (lv_at hl 2 rfl) ?_
      refine g_iald S hw (f := σ 4) (i := c) (x := σ 4 c) 4 0 rfl rfl (by omega) (by decide) rfl dX12_spareOf_31 ?_
      refine lv_iload_n hx hb dX12_spareOf_32 rfl (lv_at hl 0 rfl) ?_
      refine lv_isub hx hb dX12_spareOf_33 ?_
      refine lv_goto (tgt := 38) hx hb dX12_spareOf_34 (by decide) ?_
      exact g_iret S hr hlk hw (by simp only [M_spareOf_r, if_neg c_1, if_neg c_2]) rfl dX12_spareOf_38
  · refine lv_iconst (v := 1) hx hb dX12_spareOf_10 (by decide) ?_
    refine lv_goto (tgt := 15) hx hb dX12_spareOf_11 (by decide) ?_
    refine lv_istore_n (lv' := [(2, .int 1), (0, .ref (a 0)), (1, .int (nI c))]) hx hb dX12_spareOf_15 rfl hl (by decide) rfl (fun ls hl => ?_)
    refine lv_aload_n hx hb dX12_spareOf_16 rfl (lv_at hl 1 rfl) ?_
    refine g_get S hw hinX12 (fs := fM a σ h) 0 rfl rfl 11 (by decide) lk1 (v := .ref (a 4)) rfl dX12_spareOf_17 ?_
    refine lv_iload_n hx hb dX12_spareOf_20 rfl (lv_at hl 2 rfl) ?_
    refine g_iald S hw (f := σ 4) (i := c) (x := σ 4 c) 4 0 rfl rfl (by omega) (by decide) rfl dX12_spareOf_21 ?_
    refine lv_iload_n hx hb dX12_spareOf_22 rfl (lv_at hl 0 rfl) ?_
    refine lv_icmp_le hx hb (tgt := 37) dX12_spareOf_23 (by decide) (fun c_3 => ?_) (fun c_3 => ?_)
    · refine lv_iconst (v := 0) hx hb dX12_spareOf_37 (by decide) ?_
      exact g_iret S hr hlk hw (by simp only [M_spareOf_r, if_pos c_1, if_pos c_3]) rfl dX12_spareOf_38
    · refine lv_aload_n hx hb dX12_spareOf_26 rfl (lv_at hl 1 rfl) ?_
      refine g_get S hw hinX12 (fs := fM a σ h) 0 rfl rfl 11 (by decide) lk1 (v := .ref (a 4)) rfl dX12_spareOf_27 ?_
      refine lv_iload_n hx hb dX12_spareOf_30 rfl (lv_at hl 2 rfl) ?_
      refine g_iald S hw (f := σ 4) (i := c) (x := σ 4 c) 4 0 rfl rfl (by omega) (by decide) rfl dX12_spareOf_31 ?_
      refine lv_iload_n hx hb dX12_spareOf_32 rfl (lv_at hl 0 rfl) ?_
      refine lv_isub hx hb dX12_spareOf_33 ?_
      refine lv_goto (tgt := 38) hx hb dX12_spareOf_34 (by decide) ?_
      exact g_iret S hr hlk hw (by simp only [M_spareOf_r, if_pos c_1, if_neg c_3]) rfl dX12_spareOf_38

def M_paysNow_r (σ : Nat → Nat → Int32) (c : Nat) (d : Nat) (many : Int32) : Int32 := if (M_spareOf_r σ c) ≤ many then (M_spareOf_r σ c) else many
def M_paysNow_s (σ : Nat → Nat → Int32) (c : Nat) (d : Nat) (many : Int32) : Nat → Nat → Int32 := if (M_spareOf_r σ c) ≤ many then (up2 (up2 σ 4 c ((σ 4 c) - (M_spareOf_r σ c))) 4 d (((upd (σ 4) c ((σ 4 c) - (M_spareOf_r σ c))) d) + (M_spareOf_r σ c))) else (up2 (up2 σ 4 c ((σ 4 c) - many)) 4 d (((upd (σ 4) c ((σ 4 c) - many)) d) + many))
theorem M_paysNow_s_k0 (σ : Nat → Nat → Int32) (c : Nat) (d : Nat) (many : Int32) : M_paysNow_s σ c d many 0 = σ 0 := by
  unfold M_paysNow_s
  by_cases z1 : (M_spareOf_r σ c) ≤ many
  · refine Eq.trans (congrFun (if_pos z1) 0) ?_
    exact (up2_n _ _ _ (by decide)).trans (up2_n _ _ _ (by decide))
  · refine Eq.trans (congrFun (if_neg z1) 0) ?_
    exact (up2_n _ _ _ (by decide)).trans (up2_n _ _ _ (by decide))
theorem M_paysNow_s_k1 (σ : Nat → Nat → Int32) (c : Nat) (d : Nat) (many : Int32) : M_paysNow_s σ c d many 1 = σ 1 := by
  unfold M_paysNow_s
  by_cases z1 : (M_spareOf_r σ c) ≤ many
  · refine Eq.trans (congrFun (if_pos z1) 1) ?_
    exact (up2_n _ _ _ (by decide)).trans (up2_n _ _ _ (by decide))
  · refine Eq.trans (congrFun (if_neg z1) 1) ?_
    exact (up2_n _ _ _ (by decide)).trans (up2_n _ _ _ (by decide))
theorem M_paysNow_s_k2 (σ : Nat → Nat → Int32) (c : Nat) (d : Nat) (many : Int32) : M_paysNow_s σ c d many 2 = σ 2 := by
  unfold M_paysNow_s
  by_cases z1 : (M_spareOf_r σ c) ≤ many
  · refine Eq.trans (congrFun (if_pos z1) 2) ?_
    exact (up2_n _ _ _ (by decide)).trans (up2_n _ _ _ (by decide))
  · refine Eq.trans (congrFun (if_neg z1) 2) ?_
    exact (up2_n _ _ _ (by decide)).trans (up2_n _ _ _ (by decide))
theorem M_paysNow_s_k3 (σ : Nat → Nat → Int32) (c : Nat) (d : Nat) (many : Int32) : M_paysNow_s σ c d many 3 = σ 3 := by
  unfold M_paysNow_s
  by_cases z1 : (M_spareOf_r σ c) ≤ many
  · refine Eq.trans (congrFun (if_pos z1) 3) ?_
    exact (up2_n _ _ _ (by decide)).trans (up2_n _ _ _ (by decide))
  · refine Eq.trans (congrFun (if_neg z1) 3) ?_
    exact (up2_n _ _ _ (by decide)).trans (up2_n _ _ _ (by decide))
theorem M_paysNow_s_k5 (σ : Nat → Nat → Int32) (c : Nat) (d : Nat) (many : Int32) : M_paysNow_s σ c d many 5 = σ 5 := by
  unfold M_paysNow_s
  by_cases z1 : (M_spareOf_r σ c) ≤ many
  · refine Eq.trans (congrFun (if_pos z1) 5) ?_
    exact (up2_n _ _ _ (by decide)).trans (up2_n _ _ _ (by decide))
  · refine Eq.trans (congrFun (if_neg z1) 5) ?_
    exact (up2_n _ _ _ (by decide)).trans (up2_n _ _ _ (by decide))
theorem M_paysNow_s_k6 (σ : Nat → Nat → Int32) (c : Nat) (d : Nat) (many : Int32) : M_paysNow_s σ c d many 6 = σ 6 := by
  unfold M_paysNow_s
  by_cases z1 : (M_spareOf_r σ c) ≤ many
  · refine Eq.trans (congrFun (if_pos z1) 6) ?_
    exact (up2_n _ _ _ (by decide)).trans (up2_n _ _ _ (by decide))
  · refine Eq.trans (congrFun (if_neg z1) 6) ?_
    exact (up2_n _ _ _ (by decide)).trans (up2_n _ _ _ (by decide))
theorem M_paysNow_s_k7 (σ : Nat → Nat → Int32) (c : Nat) (d : Nat) (many : Int32) : M_paysNow_s σ c d many 7 = σ 7 := by
  unfold M_paysNow_s
  by_cases z1 : (M_spareOf_r σ c) ≤ many
  · refine Eq.trans (congrFun (if_pos z1) 7) ?_
    exact (up2_n _ _ _ (by decide)).trans (up2_n _ _ _ (by decide))
  · refine Eq.trans (congrFun (if_neg z1) 7) ?_
    exact (up2_n _ _ _ (by decide)).trans (up2_n _ _ _ (by decide))
theorem M_paysNow_s_k8 (σ : Nat → Nat → Int32) (c : Nat) (d : Nat) (many : Int32) : M_paysNow_s σ c d many 8 = σ 8 := by
  unfold M_paysNow_s
  by_cases z1 : (M_spareOf_r σ c) ≤ many
  · refine Eq.trans (congrFun (if_pos z1) 8) ?_
    exact (up2_n _ _ _ (by decide)).trans (up2_n _ _ _ (by decide))
  · refine Eq.trans (congrFun (if_neg z1) 8) ?_
    exact (up2_n _ _ _ (by decide)).trans (up2_n _ _ _ (by decide))
theorem M_paysNow_s_k9 (σ : Nat → Nat → Int32) (c : Nat) (d : Nat) (many : Int32) : M_paysNow_s σ c d many 9 = σ 9 := by
  unfold M_paysNow_s
  by_cases z1 : (M_spareOf_r σ c) ≤ many
  · refine Eq.trans (congrFun (if_pos z1) 9) ?_
    exact (up2_n _ _ _ (by decide)).trans (up2_n _ _ _ (by decide))
  · refine Eq.trans (congrFun (if_neg z1) 9) ?_
    exact (up2_n _ _ _ (by decide)).trans (up2_n _ _ _ (by decide))
theorem M_paysNow_s_k10 (σ : Nat → Nat → Int32) (c : Nat) (d : Nat) (many : Int32) : M_paysNow_s σ c d many 10 = σ 10 := by
  unfold M_paysNow_s
  by_cases z1 : (M_spareOf_r σ c) ≤ many
  · refine Eq.trans (congrFun (if_pos z1) 10) ?_
    exact (up2_n _ _ _ (by decide)).trans (up2_n _ _ _ (by decide))
  · refine Eq.trans (congrFun (if_neg z1) 10) ?_
    exact (up2_n _ _ _ (by decide)).trans (up2_n _ _ _ (by decide))
theorem M_paysNow_s_k11 (σ : Nat → Nat → Int32) (c : Nat) (d : Nat) (many : Int32) : M_paysNow_s σ c d many 11 = σ 11 := by
  unfold M_paysNow_s
  by_cases z1 : (M_spareOf_r σ c) ≤ many
  · refine Eq.trans (congrFun (if_pos z1) 11) ?_
    exact (up2_n _ _ _ (by decide)).trans (up2_n _ _ _ (by decide))
  · refine Eq.trans (congrFun (if_neg z1) 11) ?_
    exact (up2_n _ _ _ (by decide)).trans (up2_n _ _ _ (by decide))
theorem M_paysNow_s_k12 (σ : Nat → Nat → Int32) (c : Nat) (d : Nat) (many : Int32) : M_paysNow_s σ c d many 12 = σ 12 := by
  unfold M_paysNow_s
  by_cases z1 : (M_spareOf_r σ c) ≤ many
  · refine Eq.trans (congrFun (if_pos z1) 12) ?_
    exact (up2_n _ _ _ (by decide)).trans (up2_n _ _ _ (by decide))
  · refine Eq.trans (congrFun (if_neg z1) 12) ?_
    exact (up2_n _ _ _ (by decide)).trans (up2_n _ _ _ (by decide))
theorem M_paysNow_s_k13 (σ : Nat → Nat → Int32) (c : Nat) (d : Nat) (many : Int32) : M_paysNow_s σ c d many 13 = σ 13 := by
  unfold M_paysNow_s
  by_cases z1 : (M_spareOf_r σ c) ≤ many
  · refine Eq.trans (congrFun (if_pos z1) 13) ?_
    exact (up2_n _ _ _ (by decide)).trans (up2_n _ _ _ (by decide))
  · refine Eq.trans (congrFun (if_neg z1) 13) ?_
    exact (up2_n _ _ _ (by decide)).trans (up2_n _ _ _ (by decide))
theorem M_paysNow_s_k14 (σ : Nat → Nat → Int32) (c : Nat) (d : Nat) (many : Int32) : M_paysNow_s σ c d many 14 = σ 14 := by
  unfold M_paysNow_s
  by_cases z1 : (M_spareOf_r σ c) ≤ many
  · refine Eq.trans (congrFun (if_pos z1) 14) ?_
    exact (up2_n _ _ _ (by decide)).trans (up2_n _ _ _ (by decide))
  · refine Eq.trans (congrFun (if_neg z1) 14) ?_
    exact (up2_n _ _ _ (by decide)).trans (up2_n _ _ _ (by decide))
theorem M_paysNow_s_k15 (σ : Nat → Nat → Int32) (c : Nat) (d : Nat) (many : Int32) : M_paysNow_s σ c d many 15 = σ 15 := by
  unfold M_paysNow_s
  by_cases z1 : (M_spareOf_r σ c) ≤ many
  · refine Eq.trans (congrFun (if_pos z1) 15) ?_
    exact (up2_n _ _ _ (by decide)).trans (up2_n _ _ _ (by decide))
  · refine Eq.trans (congrFun (if_neg z1) 15) ?_
    exact (up2_n _ _ _ (by decide)).trans (up2_n _ _ _ (by decide))
theorem M_paysNow_s_k16 (σ : Nat → Nat → Int32) (c : Nat) (d : Nat) (many : Int32) : M_paysNow_s σ c d many 16 = σ 16 := by
  unfold M_paysNow_s
  by_cases z1 : (M_spareOf_r σ c) ≤ many
  · refine Eq.trans (congrFun (if_pos z1) 16) ?_
    exact (up2_n _ _ _ (by decide)).trans (up2_n _ _ _ (by decide))
  · refine Eq.trans (congrFun (if_neg z1) 16) ?_
    exact (up2_n _ _ _ (by decide)).trans (up2_n _ _ _ (by decide))
theorem M_paysNow_s_k17 (σ : Nat → Nat → Int32) (c : Nat) (d : Nat) (many : Int32) : M_paysNow_s σ c d many 17 = σ 17 := by
  unfold M_paysNow_s
  by_cases z1 : (M_spareOf_r σ c) ≤ many
  · refine Eq.trans (congrFun (if_pos z1) 17) ?_
    exact (up2_n _ _ _ (by decide)).trans (up2_n _ _ _ (by decide))
  · refine Eq.trans (congrFun (if_neg z1) 17) ?_
    exact (up2_n _ _ _ (by decide)).trans (up2_n _ _ _ (by decide))
theorem M_paysNow_s_k18 (σ : Nat → Nat → Int32) (c : Nat) (d : Nat) (many : Int32) : M_paysNow_s σ c d many 18 = σ 18 := by
  unfold M_paysNow_s
  by_cases z1 : (M_spareOf_r σ c) ≤ many
  · refine Eq.trans (congrFun (if_pos z1) 18) ?_
    exact (up2_n _ _ _ (by decide)).trans (up2_n _ _ _ (by decide))
  · refine Eq.trans (congrFun (if_neg z1) 18) ?_
    exact (up2_n _ _ _ (by decide)).trans (up2_n _ _ _ (by decide))
theorem M_paysNow_s_k19 (σ : Nat → Nat → Int32) (c : Nat) (d : Nat) (many : Int32) : M_paysNow_s σ c d many 19 = σ 19 := by
  unfold M_paysNow_s
  by_cases z1 : (M_spareOf_r σ c) ≤ many
  · refine Eq.trans (congrFun (if_pos z1) 19) ?_
    exact (up2_n _ _ _ (by decide)).trans (up2_n _ _ _ (by decide))
  · refine Eq.trans (congrFun (if_neg z1) 19) ?_
    exact (up2_n _ _ _ (by decide)).trans (up2_n _ _ _ (by decide))
set_option maxHeartbeats 4000000 in
set_option maxRecDepth 100000 in
theorem c_M_paysNow (l : Launch) (D : va_G) (cI : ClassId) (a : Nat → Nat) (σ : Nat → Nat → Int32) (h : Int64) (c : Nat) (d : Nat) (many : Int32) (hc : c < 4) (hd : d < 4) : gI l D [(cI, .int)] yX12_paysNow wsX12_paysNow 2 [.ref (a 0), .int (nI c), .int (nI d), .int many] (wM cI a σ h) (M_paysNow_r σ c d many) (wM cI a (M_paysNow_s σ c d many) h) := by
  refine g_start (cc := cX12_paysNow) (maxL := 5) (ret := some .int) (Qc := gQi D [(cI, .int)] (M_paysNow_r σ c d many) (wM cI a (M_paysNow_s σ c d many) h)) (by decide) rfl (Nat.le_of_ble_eq_true rfl) ?_
  intro p e s m below meth C A ls S hr hlk hw hl
  obtain ⟨hx, hb, hml, hown, hts⟩ := id S
  have hinX12 : ∀ x ∈ u_ws RX12 TX12 38, x ∈ wsX12_paysNow := fun x h => List.mem_cons_of_mem _ (List.mem_append_right _ h)
  have lk0 : Cond.fieldLink RX12 19 "CowsOwedModel" "herds" "[I" ∈ wsX12_paysNow := by decide +kernel
  have hl : lv_has ls 5 [(0, .ref (a 0)), (1, .int (nI c)), (2, .int (nI d)), (3, .int many)] := hl
  refine lv_iload_n hx hb dX12_paysNow_0 rfl (lv_at hl 3 rfl) ?_
  refine lv_aload_n hx hb dX12_paysNow_1 rfl (lv_at hl 0 rfl) ?_
  refine lv_iload_n hx hb dX12_paysNow_2 rfl (lv_at hl 1 rfl) ?_
  refine g_callVi S hw (c_M_spareOf l D cI a σ h c (by omega)) gX12_paysNow_X12_spareOf rfl 0 rfl rfl 1 rfl (by decide +kernel) (by decide) (by decide) hl.1 rfl (Nat.le_of_ble_eq_true rfl) dX12_paysNow_3 (fun H locs hw => ?_)
  refine lv_icmp_ge hx hb (tgt := 13) dX12_paysNow_6 (by decide) (fun c_1 => ?_) (fun c_1 => ?_)
  · refine lv_aload_n hx hb dX12_paysNow_13 rfl (lv_at hl 0 rfl) ?_
    refine lv_iload_n hx hb dX12_paysNow_14 rfl (lv_at hl 1 rfl) ?_
    refine g_callVi S hw (c_M_spareOf l D cI a σ h c (by omega)) gX12_paysNow_X12_spareOf rfl 0 rfl rfl 1 rfl (by decide +kernel) (by decide) (by decide) hl.1 rfl (Nat.le_of_ble_eq_true rfl) dX12_paysNow_15 (fun H locs hw => ?_)
    refine lv_istore (lv' := [(4, .int (M_spareOf_r σ c)), (0, .ref (a 0)), (1, .int (nI c)), (2, .int (nI d)), (3, .int many)]) hx hb dX12_paysNow_18 hl (by decide) rfl (fun ls hl => ?_)
    refine lv_aload_n hx hb dX12_paysNow_20 rfl (lv_at hl 1 rfl) ?_
    refine g_get S hw hinX12 (fs := fM a σ h) 0 rfl rfl 11 (by decide) lk0 (v := .ref (a 4)) rfl dX12_paysNow_21 ?_
    refine lv_iload_n hx hb dX12_paysNow_24 rfl (lv_at hl 2 rfl) ?_
    refine lv_dup2_11 hx hb dX12_paysNow_25 rfl rfl ?_
    refine g_iald S hw (f := σ 4) (i := c) (x := σ 4 c) 4 0 rfl rfl (by omega) (by decide) rfl dX12_paysNow_26 ?_
    refine lv_iload hx hb dX12_paysNow_27 (lv_at hl 0 rfl) ?_
    refine lv_isub hx hb dX12_paysNow_29 ?_
    refine g_iast S hw (f := σ 4) (i := c) 4 0 rfl rfl (by omega) (by decide) (w2 := wM cI a (up2 σ 4 c ((σ 4 c) - (M_spareOf_r σ c))) h) (wM_a4 _ _ _ _ _ _) dX12_paysNow_30 (fun H locs hw => ?_)
    refine lv_aload_n hx hb dX12_paysNow_31 rfl (lv_at hl 1 rfl) ?_
    refine g_get S hw hinX12 (fs := fM a (up2 σ 4 c ((σ 4 c) - (M_spareOf_r σ c))) h) 0 rfl rfl 11 (by decide) lk0 (v := .ref (a 4)) rfl dX12_paysNow_32 ?_
    refine lv_iload_n hx hb dX12_paysNow_35 rfl (lv_at hl 3 rfl) ?_
    refine lv_dup2_11 hx hb dX12_paysNow_36 rfl rfl ?_
    refine g_iald S hw (f := (up2 σ 4 c ((σ 4 c) - (M_spareOf_r σ c))) 4) (i := d) (x := (upd (σ 4) c ((σ 4 c) - (M_spareOf_r σ c))) d) 4 0 rfl rfl (by omega) (by decide) (congrFun (up2_s _ _ _ _) d) dX12_paysNow_37 ?_
    refine lv_iload hx hb dX12_paysNow_38 (lv_at hl 0 rfl) ?_
    refine lv_iadd hx hb dX12_paysNow_40 ?_
    refine g_iast S hw (f := (up2 σ 4 c ((σ 4 c) - (M_spareOf_r σ c))) 4) (i := d) 4 0 rfl rfl (by omega) (by decide) (w2 := wM cI a (up2 (up2 σ 4 c ((σ 4 c) - (M_spareOf_r σ c))) 4 d (((upd (σ 4) c ((σ 4 c) - (M_spareOf_r σ c))) d) + (M_spareOf_r σ c))) h) (wM_a4 _ _ _ _ _ _) dX12_paysNow_41 (fun H locs hw => ?_)
    refine lv_iload hx hb dX12_paysNow_42 (lv_at hl 0 rfl) ?_
    exact g_iret S hr hlk hw (by simp only [M_paysNow_r, if_pos c_1]) (by simp only [M_paysNow_s, if_pos c_1]) dX12_paysNow_44
  · refine lv_iload_n hx hb dX12_paysNow_9 rfl (lv_at hl 3 rfl) ?_
    refine lv_goto (tgt := 18) hx hb dX12_paysNow_10 (by decide) ?_
    refine lv_istore (lv' := [(4, .int many), (0, .ref (a 0)), (1, .int (nI c)), (2, .int (nI d)), (3, .int many)]) hx hb dX12_paysNow_18 hl (by decide) rfl (fun ls hl => ?_)
    refine lv_aload_n hx hb dX12_paysNow_20 rfl (lv_at hl 1 rfl) ?_
    refine g_get S hw hinX12 (fs := fM a σ h) 0 rfl rfl 11 (by decide) lk0 (v := .ref (a 4)) rfl dX12_paysNow_21 ?_
    refine lv_iload_n hx hb dX12_paysNow_24 rfl (lv_at hl 2 rfl) ?_
    refine lv_dup2_11 hx hb dX12_paysNow_25 rfl rfl ?_
    refine g_iald S hw (f := σ 4) (i := c) (x := σ 4 c) 4 0 rfl rfl (by omega) (by decide) rfl dX12_paysNow_26 ?_
    refine lv_iload hx hb dX12_paysNow_27 (lv_at hl 0 rfl) ?_
    refine lv_isub hx hb dX12_paysNow_29 ?_
    refine g_iast S hw (f := σ 4) (i := c) 4 0 rfl rfl (by omega) (by decide) (w2 := wM cI a (up2 σ 4 c ((σ 4 c) - many)) h) (wM_a4 _ _ _ _ _ _) dX12_paysNow_30 (fun H locs hw => ?_)
    refine lv_aload_n hx hb dX12_paysNow_31 rfl (lv_at hl 1 rfl) ?_
    refine g_get S hw hinX12 (fs := fM a (up2 σ 4 c ((σ 4 c) - many)) h) 0 rfl rfl 11 (by decide) lk0 (v := .ref (a 4)) rfl dX12_paysNow_32 ?_
    refine lv_iload_n hx hb dX12_paysNow_35 rfl (lv_at hl 3 rfl) ?_
    refine lv_dup2_11 hx hb dX12_paysNow_36 rfl rfl ?_
    refine g_iald S hw (f := (up2 σ 4 c ((σ 4 c) - many)) 4) (i := d) (x := (upd (σ 4) c ((σ 4 c) - many)) d) 4 0 rfl rfl (by omega) (by decide) (congrFun (up2_s _ _ _ _) d) dX12_paysNow_37 ?_
    refine lv_iload hx hb dX12_paysNow_38 (lv_at hl 0 rfl) ?_
    refine lv_iadd hx hb dX12_paysNow_40 ?_
    refine g_iast S hw (f := (up2 σ 4 c ((σ 4 c) - many)) 4) (i := d) 4 0 rfl rfl (by omega) (by decide) (w2 := wM cI a (up2 (up2 σ 4 c ((σ 4 c) - many)) 4 d (((upd (σ 4) c ((σ 4 c) - many)) d) + many)) h) (wM_a4 _ _ _ _ _ _) dX12_paysNow_41 (fun H locs hw => ?_)
    refine lv_iload hx hb dX12_paysNow_42 (lv_at hl 0 rfl) ?_
    exact g_iret S hr hlk hw (by simp only [M_paysNow_r, if_neg c_1]) (by simp only [M_paysNow_s, if_neg c_1]) dX12_paysNow_44

def M_pays_r (σ : Nat → Nat → Int32) (c : Nat) (d : Nat) (many : Int32) : Int32 := M_paysNow_r σ c d many
def M_pays_s (σ : Nat → Nat → Int32) (c : Nat) (d : Nat) (many : Int32) : Nat → Nat → Int32 := up2 (M_paysNow_s σ c d many) 5 ((4 * c) + d) ((σ 5 ((4 * c) + d)) + (many - (M_paysNow_r σ c d many)))
theorem M_pays_s_k0 (σ : Nat → Nat → Int32) (c : Nat) (d : Nat) (many : Int32) : M_pays_s σ c d many 0 = σ 0 := by
  unfold M_pays_s
  exact (up2_n _ _ _ (by decide)).trans (M_paysNow_s_k0 σ c d many)
theorem M_pays_s_k1 (σ : Nat → Nat → Int32) (c : Nat) (d : Nat) (many : Int32) : M_pays_s σ c d many 1 = σ 1 := by
  unfold M_pays_s
  exact (up2_n _ _ _ (by decide)).trans (M_paysNow_s_k1 σ c d many)
theorem M_pays_s_k2 (σ : Nat → Nat → Int32) (c : Nat) (d : Nat) (many : Int32) : M_pays_s σ c d many 2 = σ 2 := by
  unfold M_pays_s
  exact (up2_n _ _ _ (by decide)).trans (M_paysNow_s_k2 σ c d many)
theorem M_pays_s_k3 (σ : Nat → Nat → Int32) (c : Nat) (d : Nat) (many : Int32) : M_pays_s σ c d many 3 = σ 3 := by
  unfold M_pays_s
  exact (up2_n _ _ _ (by decide)).trans (M_paysNow_s_k3 σ c d many)
theorem M_pays_s_k6 (σ : Nat → Nat → Int32) (c : Nat) (d : Nat) (many : Int32) : M_pays_s σ c d many 6 = σ 6 := by
  unfold M_pays_s
  exact (up2_n _ _ _ (by decide)).trans (M_paysNow_s_k6 σ c d many)
theorem M_pays_s_k7 (σ : Nat → Nat → Int32) (c : Nat) (d : Nat) (many : Int32) : M_pays_s σ c d many 7 = σ 7 := by
  unfold M_pays_s
  exact (up2_n _ _ _ (by decide)).trans (M_paysNow_s_k7 σ c d many)
theorem M_pays_s_k8 (σ : Nat → Nat → Int32) (c : Nat) (d : Nat) (many : Int32) : M_pays_s σ c d many 8 = σ 8 := by
  unfold M_pays_s
  exact (up2_n _ _ _ (by decide)).trans (M_paysNow_s_k8 σ c d many)
theorem M_pays_s_k9 (σ : Nat → Nat → Int32) (c : Nat) (d : Nat) (many : Int32) : M_pays_s σ c d many 9 = σ 9 := by
  unfold M_pays_s
  exact (up2_n _ _ _ (by decide)).trans (M_paysNow_s_k9 σ c d many)
theorem M_pays_s_k10 (σ : Nat → Nat → Int32) (c : Nat) (d : Nat) (many : Int32) : M_pays_s σ c d many 10 = σ 10 := by
  unfold M_pays_s
  exact (up2_n _ _ _ (by decide)).trans (M_paysNow_s_k10 σ c d many)
theorem M_pays_s_k11 (σ : Nat → Nat → Int32) (c : Nat) (d : Nat) (many : Int32) : M_pays_s σ c d many 11 = σ 11 := by
  unfold M_pays_s
  exact (up2_n _ _ _ (by decide)).trans (M_paysNow_s_k11 σ c d many)
theorem M_pays_s_k12 (σ : Nat → Nat → Int32) (c : Nat) (d : Nat) (many : Int32) : M_pays_s σ c d many 12 = σ 12 := by
  unfold M_pays_s
  exact (up2_n _ _ _ (by decide)).trans (M_paysNow_s_k12 σ c d many)
theorem M_pays_s_k13 (σ : Nat → Nat → Int32) (c : Nat) (d : Nat) (many : Int32) : M_pays_s σ c d many 13 = σ 13 := by
  unfold M_pays_s
  exact (up2_n _ _ _ (by decide)).trans (M_paysNow_s_k13 σ c d many)
theorem M_pays_s_k14 (σ : Nat → Nat → Int32) (c : Nat) (d : Nat) (many : Int32) : M_pays_s σ c d many 14 = σ 14 := by
  unfold M_pays_s
  exact (up2_n _ _ _ (by decide)).trans (M_paysNow_s_k14 σ c d many)
theorem M_pays_s_k15 (σ : Nat → Nat → Int32) (c : Nat) (d : Nat) (many : Int32) : M_pays_s σ c d many 15 = σ 15 := by
  unfold M_pays_s
  exact (up2_n _ _ _ (by decide)).trans (M_paysNow_s_k15 σ c d many)
theorem M_pays_s_k16 (σ : Nat → Nat → Int32) (c : Nat) (d : Nat) (many : Int32) : M_pays_s σ c d many 16 = σ 16 := by
  unfold M_pays_s
  exact (up2_n _ _ _ (by decide)).trans (M_paysNow_s_k16 σ c d many)
theorem M_pays_s_k17 (σ : Nat → Nat → Int32) (c : Nat) (d : Nat) (many : Int32) : M_pays_s σ c d many 17 = σ 17 := by
  unfold M_pays_s
  exact (up2_n _ _ _ (by decide)).trans (M_paysNow_s_k17 σ c d many)
theorem M_pays_s_k18 (σ : Nat → Nat → Int32) (c : Nat) (d : Nat) (many : Int32) : M_pays_s σ c d many 18 = σ 18 := by
  unfold M_pays_s
  exact (up2_n _ _ _ (by decide)).trans (M_paysNow_s_k18 σ c d many)
theorem M_pays_s_k19 (σ : Nat → Nat → Int32) (c : Nat) (d : Nat) (many : Int32) : M_pays_s σ c d many 19 = σ 19 := by
  unfold M_pays_s
  exact (up2_n _ _ _ (by decide)).trans (M_paysNow_s_k19 σ c d many)
set_option maxHeartbeats 4000000 in
set_option maxRecDepth 100000 in
theorem c_M_pays (l : Launch) (D : va_G) (cI : ClassId) (a : Nat → Nat) (σ : Nat → Nat → Int32) (h : Int64) (c : Nat) (d : Nat) (many : Int32) (hc : c < 4) (hd : d < 4) : gI l D [(cI, .int)] yX12_pays wsX12_pays 3 [.ref (a 0), .int (nI c), .int (nI d), .int many] (wM cI a σ h) (M_pays_r σ c d many) (wM cI a (M_pays_s σ c d many) h) := by
  refine g_start (cc := cX12_pays) (maxL := 5) (ret := some .int) (Qc := gQi D [(cI, .int)] (M_pays_r σ c d many) (wM cI a (M_pays_s σ c d many) h)) (by decide) rfl (Nat.le_of_ble_eq_true rfl) ?_
  intro p e s m below meth C A ls S hr hlk hw hl
  obtain ⟨hx, hb, hml, hown, hts⟩ := id S
  have hinX12 : ∀ x ∈ u_ws RX12 TX12 38, x ∈ wsX12_pays := fun x h => List.mem_cons_of_mem _ (List.mem_append_right _ h)
  have lk0 : Cond.fieldLink RX12 22 "CowsOwedModel" "debts" "[I" ∈ wsX12_pays := by decide +kernel
  have hl : lv_has ls 5 [(0, .ref (a 0)), (1, .int (nI c)), (2, .int (nI d)), (3, .int many)] := hl
  refine lv_aload_n hx hb dX12_pays_0 rfl (lv_at hl 0 rfl) ?_
  refine lv_iload_n hx hb dX12_pays_1 rfl (lv_at hl 1 rfl) ?_
  refine lv_iload_n hx hb dX12_pays_2 rfl (lv_at hl 2 rfl) ?_
  refine lv_iload_n hx hb dX12_pays_3 rfl (lv_at hl 3 rfl) ?_
  refine g_callVi S hw (c_M_paysNow l D cI a σ h c d many (by omega) (by omega)) gX12_pays_X12_paysNow rfl 0 rfl rfl 3 rfl (by decide +kernel) (by decide) (by decide) hl.1 rfl (Nat.le_of_ble_eq_true rfl) dX12_pays_4 (fun H locs hw => ?_)
  refine lv_istore (lv' := [(4, .int (M_paysNow_r σ c d many)), (0, .ref (a 0)), (1, .int (nI c)), (2, .int (nI d)), (3, .int many)]) hx hb dX12_pays_7 hl (by decide) rfl (fun ls hl => ?_)
  refine lv_aload_n hx hb dX12_pays_9 rfl (lv_at hl 1 rfl) ?_
  refine g_get S hw hinX12 (fs := fM a (M_paysNow_s σ c d many) h) 0 rfl rfl 12 (by decide) lk0 (v := .ref (a 5)) rfl dX12_pays_10 ?_
  refine lv_iconst (v := 4) hx hb dX12_pays_13 (by decide) ?_
  refine lv_iload_n hx hb dX12_pays_14 rfl (lv_at hl 2 rfl) ?_
  refine ln_imul (x := 4) (y := c) hx hb dX12_pays_15 ?_
  refine lv_iload_n hx hb dX12_pays_16 rfl (lv_at hl 3 rfl) ?_
  refine ln_iadd (x := 4 * c) (y := d) hx hb dX12_pays_17 ?_
  refine lv_dup2_11 hx hb dX12_pays_18 rfl rfl ?_
  refine g_iald S hw (f := (M_paysNow_s σ c d many) 5) (i := (4 * c) + d) (x := σ 5 ((4 * c) + d)) 5 0 rfl rfl (by omega) (by decide) (congrFun (M_paysNow_s_k5 σ c d many) ((4 * c) + d)) dX12_pays_19 ?_
  refine lv_iload_n hx hb dX12_pays_20 rfl (lv_at hl 4 rfl) ?_
  refine lv_iload hx hb dX12_pays_21 (lv_at hl 0 rfl) ?_
  refine lv_isub hx hb dX12_pays_23 ?_
  refine lv_iadd hx hb dX12_pays_24 ?_
  refine g_iast S hw (f := (M_paysNow_s σ c d many) 5) (i := (4 * c) + d) 5 0 rfl rfl (by omega) (by decide) (w2 := wM cI a (up2 (M_paysNow_s σ c d many) 5 ((4 * c) + d) ((σ 5 ((4 * c) + d)) + (many - (M_paysNow_r σ c d many)))) h) (wM_a5 _ _ _ _ _ _) dX12_pays_25 (fun H locs hw => ?_)
  refine lv_iload hx hb dX12_pays_26 (lv_at hl 0 rfl) ?_
  exact g_iret S hr hlk hw (by simp only [M_pays_r]) (by simp only [M_pays_s]) dX12_pays_28

def M_owesOf_r (σ : Nat → Nat → Int32) (c : Nat) : Int32 := (((σ 5 (4 * c)) + (σ 5 ((4 * c) + 1))) + (σ 5 ((4 * c) + 2))) + (σ 5 ((4 * c) + 3))
set_option maxHeartbeats 4000000 in
set_option maxRecDepth 100000 in
theorem c_M_owesOf (l : Launch) (D : va_G) (cI : ClassId) (a : Nat → Nat) (σ : Nat → Nat → Int32) (h : Int64) (c : Nat) (hc : c < 4) : gI l D [(cI, .int)] yX12_owesOf wsX12_owesOf 1 [.ref (a 0), .int (nI c)] (wM cI a σ h) (M_owesOf_r σ c) (wM cI a σ h) := by
  refine g_start (cc := cX12_owesOf) (maxL := 2) (ret := some .int) (Qc := gQi D [(cI, .int)] (M_owesOf_r σ c) (wM cI a σ h)) (by decide) rfl (Nat.le_of_ble_eq_true rfl) ?_
  intro p e s m below meth C A ls S hr hlk hw hl
  obtain ⟨hx, hb, hml, hown, hts⟩ := id S
  have hinX12 : ∀ x ∈ u_ws RX12 TX12 38, x ∈ wsX12_owesOf := fun x h => List.mem_cons_of_mem _ (List.mem_append_right _ h)
  have lk0 : Cond.fieldLink RX12 22 "CowsOwedModel" "debts" "[I" ∈ wsX12_owesOf := by decide +kernel
  have hl : lv_has ls 2 [(0, .ref (a 0)), (1, .int (nI c))] := hl
  refine lv_aload_n hx hb dX12_owesOf_0 rfl (lv_at hl 0 rfl) ?_
  refine g_get S hw hinX12 (fs := fM a σ h) 0 rfl rfl 12 (by decide) lk0 (v := .ref (a 5)) rfl dX12_owesOf_1 ?_
  refine lv_iconst (v := 4) hx hb dX12_owesOf_4 (by decide) ?_
  refine lv_iload_n hx hb dX12_owesOf_5 rfl (lv_at hl 1 rfl) ?_
  refine ln_imul (x := 4) (y := c) hx hb dX12_owesOf_6 ?_
  refine g_iald S hw (f := σ 5) (i := 4 * c) (x := σ 5 (4 * c)) 5 0 rfl rfl (by omega) (by decide) rfl dX12_owesOf_7 ?_
  refine lv_aload_n hx hb dX12_owesOf_8 rfl (lv_at hl 0 rfl) ?_
  refine g_get S hw hinX12 (fs := fM a σ h) 0 rfl rfl 12 (by decide) lk0 (v := .ref (a 5)) rfl dX12_owesOf_9 ?_
  refine lv_iconst (v := 4) hx hb dX12_owesOf_12 (by decide) ?_
  refine lv_iload_n hx hb dX12_owesOf_13 rfl (lv_at hl 1 rfl) ?_
  refine ln_imul (x := 4) (y := c) hx hb dX12_owesOf_14 ?_
  refine lv_iconst (v := 1) hx hb dX12_owesOf_15 (by decide) ?_
  refine ln_iadd (x := 4 * c) (y := 1) hx hb dX12_owesOf_16 ?_
  refine g_iald S hw (f := σ 5) (i := (4 * c) + 1) (x := σ 5 ((4 * c) + 1)) 5 0 rfl rfl (by omega) (by decide) rfl dX12_owesOf_17 ?_
  refine lv_iadd hx hb dX12_owesOf_18 ?_
  refine lv_aload_n hx hb dX12_owesOf_19 rfl (lv_at hl 0 rfl) ?_
  refine g_get S hw hinX12 (fs := fM a σ h) 0 rfl rfl 12 (by decide) lk0 (v := .ref (a 5)) rfl dX12_owesOf_20 ?_
  refine lv_iconst (v := 4) hx hb dX12_owesOf_23 (by decide) ?_
  refine lv_iload_n hx hb dX12_owesOf_24 rfl (lv_at hl 1 rfl) ?_
  refine ln_imul (x := 4) (y := c) hx hb dX12_owesOf_25 ?_
  refine lv_iconst (v := 2) hx hb dX12_owesOf_26 (by decide) ?_
  refine ln_iadd (x := 4 * c) (y := 2) hx hb dX12_owesOf_27 ?_
  refine g_iald S hw (f := σ 5) (i := (4 * c) + 2) (x := σ 5 ((4 * c) + 2)) 5 0 rfl rfl (by omega) (by decide) rfl dX12_owesOf_28 ?_
  refine lv_iadd hx hb dX12_owesOf_29 ?_
  refine lv_aload_n hx hb dX12_owesOf_30 rfl (lv_at hl 0 rfl) ?_
  refine g_get S hw hinX12 (fs := fM a σ h) 0 rfl rfl 12 (by decide) lk0 (v := .ref (a 5)) rfl dX12_owesOf_31 ?_
  refine lv_iconst (v := 4) hx hb dX12_owesOf_34 (by decide) ?_
  refine lv_iload_n hx hb dX12_owesOf_35 rfl (lv_at hl 1 rfl) ?_
  refine ln_imul (x := 4) (y := c) hx hb dX12_owesOf_36 ?_
  refine lv_iconst (v := 3) hx hb dX12_owesOf_37 (by decide) ?_
  refine ln_iadd (x := 4 * c) (y := 3) hx hb dX12_owesOf_38 ?_
  refine g_iald S hw (f := σ 5) (i := (4 * c) + 3) (x := σ 5 ((4 * c) + 3)) 5 0 rfl rfl (by omega) (by decide) rfl dX12_owesOf_39 ?_
  refine lv_iadd hx hb dX12_owesOf_40 ?_
  exact g_iret S hr hlk hw (by simp only [M_owesOf_r]) rfl dX12_owesOf_41

def M_owedTo_r (σ : Nat → Nat → Int32) (c : Nat) : Int32 := (((σ 5 c) + (σ 5 (4 + c))) + (σ 5 (8 + c))) + (σ 5 (12 + c))
set_option maxHeartbeats 4000000 in
set_option maxRecDepth 100000 in
theorem c_M_owedTo (l : Launch) (D : va_G) (cI : ClassId) (a : Nat → Nat) (σ : Nat → Nat → Int32) (h : Int64) (c : Nat) (hc : c < 4) : gI l D [(cI, .int)] yX12_owedTo wsX12_owedTo 1 [.ref (a 0), .int (nI c)] (wM cI a σ h) (M_owedTo_r σ c) (wM cI a σ h) := by
  refine g_start (cc := cX12_owedTo) (maxL := 2) (ret := some .int) (Qc := gQi D [(cI, .int)] (M_owedTo_r σ c) (wM cI a σ h)) (by decide) rfl (Nat.le_of_ble_eq_true rfl) ?_
  intro p e s m below meth C A ls S hr hlk hw hl
  obtain ⟨hx, hb, hml, hown, hts⟩ := id S
  have hinX12 : ∀ x ∈ u_ws RX12 TX12 38, x ∈ wsX12_owedTo := fun x h => List.mem_cons_of_mem _ (List.mem_append_right _ h)
  have lk0 : Cond.fieldLink RX12 22 "CowsOwedModel" "debts" "[I" ∈ wsX12_owedTo := by decide +kernel
  have hl : lv_has ls 2 [(0, .ref (a 0)), (1, .int (nI c))] := hl
  refine lv_aload_n hx hb dX12_owedTo_0 rfl (lv_at hl 0 rfl) ?_
  refine g_get S hw hinX12 (fs := fM a σ h) 0 rfl rfl 12 (by decide) lk0 (v := .ref (a 5)) rfl dX12_owedTo_1 ?_
  refine lv_iload_n hx hb dX12_owedTo_4 rfl (lv_at hl 1 rfl) ?_
  refine g_iald S hw (f := σ 5) (i := c) (x := σ 5 c) 5 0 rfl rfl (by omega) (by decide) rfl dX12_owedTo_5 ?_
  refine lv_aload_n hx hb dX12_owedTo_6 rfl (lv_at hl 0 rfl) ?_
  refine g_get S hw hinX12 (fs := fM a σ h) 0 rfl rfl 12 (by decide) lk0 (v := .ref (a 5)) rfl dX12_owedTo_7 ?_
  refine lv_iconst (v := 4) hx hb dX12_owedTo_10 (by decide) ?_
  refine lv_iload_n hx hb dX12_owedTo_11 rfl (lv_at hl 1 rfl) ?_
  refine ln_iadd (x := 4) (y := c) hx hb dX12_owedTo_12 ?_
  refine g_iald S hw (f := σ 5) (i := 4 + c) (x := σ 5 (4 + c)) 5 0 rfl rfl (by omega) (by decide) rfl dX12_owedTo_13 ?_
  refine lv_iadd hx hb dX12_owedTo_14 ?_
  refine lv_aload_n hx hb dX12_owedTo_15 rfl (lv_at hl 0 rfl) ?_
  refine g_get S hw hinX12 (fs := fM a σ h) 0 rfl rfl 12 (by decide) lk0 (v := .ref (a 5)) rfl dX12_owedTo_16 ?_
  refine lv_bipush (v := 8) hx hb dX12_owedTo_19 (by decide) ?_
  refine lv_iload_n hx hb dX12_owedTo_21 rfl (lv_at hl 1 rfl) ?_
  refine ln_iadd (x := 8) (y := c) hx hb dX12_owedTo_22 ?_
  refine g_iald S hw (f := σ 5) (i := 8 + c) (x := σ 5 (8 + c)) 5 0 rfl rfl (by omega) (by decide) rfl dX12_owedTo_23 ?_
  refine lv_iadd hx hb dX12_owedTo_24 ?_
  refine lv_aload_n hx hb dX12_owedTo_25 rfl (lv_at hl 0 rfl) ?_
  refine g_get S hw hinX12 (fs := fM a σ h) 0 rfl rfl 12 (by decide) lk0 (v := .ref (a 5)) rfl dX12_owedTo_26 ?_
  refine lv_bipush (v := 12) hx hb dX12_owedTo_29 (by decide) ?_
  refine lv_iload_n hx hb dX12_owedTo_31 rfl (lv_at hl 1 rfl) ?_
  refine ln_iadd (x := 12) (y := c) hx hb dX12_owedTo_32 ?_
  refine g_iald S hw (f := σ 5) (i := 12 + c) (x := σ 5 (12 + c)) 5 0 rfl rfl (by omega) (by decide) rfl dX12_owedTo_33 ?_
  refine lv_iadd hx hb dX12_owedTo_34 ?_
  exact g_iret S hr hlk hw (by simp only [M_owedTo_r]) rfl dX12_owedTo_35
