def M_owedAll_S4_0 (σ : Nat → Nat → Int32) (i4 : Nat) (x4_1 : Int32) : Int32 := x4_1 + (σ 5 i4)
def M_owedAll_L4 (σ : Nat → Nat → Int32) : Nat → Nat → (Int32) → (Int32)
  | 0, _, x4_1 => x4_1
  | n4 + 1, i4, x4_1 => M_owedAll_L4 σ n4 (i4 + 1) (M_owedAll_S4_0 σ i4 x4_1)
def M_owedAll_r (σ : Nat → Nat → Int32) : Int32 := (M_owedAll_L4 σ 16 0 0)
set_option maxHeartbeats 4000000 in
set_option maxRecDepth 100000 in
theorem c_M_owedAll (l : Launch) (D : va_G) (cI : ClassId) (a : Nat → Nat) (σ : Nat → Nat → Int32) (h : Int64) : gI l D [(cI, .int)] yX12_owedAll wsX12_owedAll 1 [.ref (a 0)] (wM cI a σ h) (M_owedAll_r σ) (wM cI a σ h) := by
  refine g_start (cc := cX12_owedAll) (maxL := 3) (ret := some .int) (Qc := gQi D [(cI, .int)] (M_owedAll_r σ) (wM cI a σ h)) (by decide) rfl (Nat.le_of_ble_eq_true rfl) ?_
  intro p e s m below meth C A ls S hr hlk hw hl
  obtain ⟨hx, hb, hml, hown, hts⟩ := id S
  have hinX12 : ∀ x ∈ u_ws RX12 TX12 38, x ∈ wsX12_owedAll := fun x h => List.mem_cons_of_mem _ (List.mem_append_right _ h)
  have lk0 : Cond.fieldLink RX12 22 "CowsOwedModel" "debts" "[I" ∈ wsX12_owedAll := by decide +kernel
  have hl : lv_has ls 3 [(0, .ref (a 0))] := hl
  refine lv_iconst (v := 0) hx hb dX12_owedAll_0 (by decide) ?_
  refine lv_istore_n (lv' := [(1, .int 0), (0, .ref (a 0))]) hx hb dX12_owedAll_1 rfl hl (by decide) rfl (fun ls hl => ?_)
  refine lv_iconst (v := 0) hx hb dX12_owedAll_2 (by decide) ?_
  refine lv_istore_n (lv' := [(2, .int 0), (1, .int 0), (0, .ref (a 0))]) hx hb dX12_owedAll_3 rfl hl (by decide) rfl (fun ls hl => ?_)
  have L4 : ∀ (n4 i4 : Nat) (x4_1 : Int32) (H : Heap) (locs : List Loc) (ls : Array Slot), i4 + n4 = 16 → M_owedAll_L4 σ n4 i4 x4_1 = M_owedAll_L4 σ 16 0 0 → gw D [(cI, .int)] A s H locs (wM cI a σ h) → lv_has ls 3 [(2, .int (nI i4)), (1, .int x4_1), (0, .ref (a 0))] → W p l e (gR 1) s m ([.ref (a 0)] : List Value).toArray below meth C H locs 0 0 (MQ below (gQi D [(cI, .int)] (M_owedAll_r σ) (wM cI a σ h) A) ([.ref (a 0)] : List Value).toArray s 0 0 A) (F0 m 4 ls []) := by
    intro n4
    induction n4 with
    | zero =>
      intro i4 x4_1 H locs ls hi4 hF4 hw hl
      refine lv_iload_n hx hb dX12_owedAll_4 rfl (lv_at hl 0 rfl) ?_
      refine lv_bipush (v := 16) hx hb dX12_owedAll_5 (by decide) ?_
      refine ln_ge (x := i4) (y := 16) hx hb (by omega) (by omega) (tgt := 25) dX12_owedAll_7 (by decide) (fun c_x => ?_) (fun c_x => absurd (by omega) c_x)
      have hz4 : 16 = i4 := by omega
      subst hz4
      have e4_0 : (M_owedAll_L4 σ 16 0 0) = x4_1 := hF4.symm
      subst e4_0
      refine lv_iload_n hx hb dX12_owedAll_25 rfl (lv_at hl 1 rfl) ?_
      exact g_iret S hr hlk hw (by simp only [M_owedAll_r]) rfl dX12_owedAll_26
    | succ n4 ih4 =>
      intro i4 x4_1 H locs ls hi4 hF4 hw hl
      refine lv_iload_n hx hb dX12_owedAll_4 rfl (lv_at hl 0 rfl) ?_
      refine lv_bipush (v := 16) hx hb dX12_owedAll_5 (by decide) ?_
      refine ln_ge (x := i4) (y := 16) hx hb (by omega) (by omega) (tgt := 25) dX12_owedAll_7 (by decide) (fun c_x => absurd c_x (by omega)) (fun c_x => ?_)
      refine lv_iload_n hx hb dX12_owedAll_10 rfl (lv_at hl 1 rfl) ?_
      refine lv_aload_n hx hb dX12_owedAll_11 rfl (lv_at hl 2 rfl) ?_
      refine g_get S hw hinX12 (fs := fM a σ h) 0 rfl rfl 12 (by decide) lk0 (v := .ref (a 5)) rfl dX12_owedAll_12 ?_
      refine lv_iload_n hx hb dX12_owedAll_15 rfl (lv_at hl 0 rfl) ?_
      refine g_iald S hw (f := σ 5) (i := i4) (x := σ 5 i4) 5 0 rfl rfl (by omega) (by decide) rfl dX12_owedAll_16 ?_
      refine lv_iadd hx hb dX12_owedAll_17 ?_
      refine lv_istore_n (lv' := [(1, .int (x4_1 + (σ 5 i4))), (2, .int (nI i4)), (0, .ref (a 0))]) hx hb dX12_owedAll_18 rfl hl (by decide) rfl (fun ls hl => ?_)
      refine lv_iinc (v := nI (i4 + 1)) (lv' := [(2, .int (nI (i4 + 1))), (1, .int (x4_1 + (σ 5 i4))), (0, .ref (a 0))]) hx hb dX12_owedAll_19 hl (k := 1) rfl (nI_1 _) (by decide) rfl (fun ls hl => ?_)
      refine lv_goto (tgt := 4) hx hb dX12_owedAll_22 (by decide) ?_
      exact ih4 (i4 + 1) (x4_1 + (σ 5 i4)) _ _ _ (by omega) hF4 hw (lv_sub hl [0, 1, 2] rfl)
  exact L4 16 0 0 _ _ _ (by omega) rfl hw (lv_sub hl [0, 1, 2] rfl)

def M_cowsAll_S4_0 (σ : Nat → Nat → Int32) (n : Nat) (i4 : Nat) (x4_1 : Int32) : Int32 := x4_1 + (σ 4 i4)
def M_cowsAll_L4 (σ : Nat → Nat → Int32) (n : Nat) : Nat → Nat → (Int32) → (Int32)
  | 0, _, x4_1 => x4_1
  | n4 + 1, i4, x4_1 => M_cowsAll_L4 σ n n4 (i4 + 1) (M_cowsAll_S4_0 σ n i4 x4_1)
def M_cowsAll_r (σ : Nat → Nat → Int32) (n : Nat) : Int32 := (M_cowsAll_L4 σ n n 0 0)
set_option maxHeartbeats 4000000 in
set_option maxRecDepth 100000 in
theorem c_M_cowsAll (l : Launch) (D : va_G) (cI : ClassId) (a : Nat → Nat) (σ : Nat → Nat → Int32) (h : Int64) (n : Nat) (hn : σ 0 6 = nI n) (hnb : n ≤ 4) : gI l D [(cI, .int)] yX12_cowsAll wsX12_cowsAll 1 [.ref (a 0)] (wM cI a σ h) (M_cowsAll_r σ n) (wM cI a σ h) := by
  refine g_start (cc := cX12_cowsAll) (maxL := 3) (ret := some .int) (Qc := gQi D [(cI, .int)] (M_cowsAll_r σ n) (wM cI a σ h)) (by decide) rfl (Nat.le_of_ble_eq_true rfl) ?_
  intro p e s m below meth C A ls S hr hlk hw hl
  obtain ⟨hx, hb, hml, hown, hts⟩ := id S
  have hinX12 : ∀ x ∈ u_ws RX12 TX12 38, x ∈ wsX12_cowsAll := fun x h => List.mem_cons_of_mem _ (List.mem_append_right _ h)
  have lk0 : Cond.fieldLink RX12 105 "CowsOwedModel" "clans" "I" ∈ wsX12_cowsAll := by decide +kernel
  have lk1 : Cond.fieldLink RX12 19 "CowsOwedModel" "herds" "[I" ∈ wsX12_cowsAll := by decide +kernel
  have hl : lv_has ls 3 [(0, .ref (a 0))] := hl
  refine lv_iconst (v := 0) hx hb dX12_cowsAll_0 (by decide) ?_
  refine lv_istore_n (lv' := [(1, .int 0), (0, .ref (a 0))]) hx hb dX12_cowsAll_1 rfl hl (by decide) rfl (fun ls hl => ?_)
  refine lv_iconst (v := 0) hx hb dX12_cowsAll_2 (by decide) ?_
  refine lv_istore_n (lv' := [(2, .int 0), (1, .int 0), (0, .ref (a 0))]) hx hb dX12_cowsAll_3 rfl hl (by decide) rfl (fun ls hl => ?_)
  have L4 : ∀ (n4 i4 : Nat) (x4_1 : Int32) (H : Heap) (locs : List Loc) (ls : Array Slot), i4 + n4 = n → M_cowsAll_L4 σ n n4 i4 x4_1 = M_cowsAll_L4 σ n n 0 0 → gw D [(cI, .int)] A s H locs (wM cI a σ h) → lv_has ls 3 [(2, .int (nI i4)), (1, .int x4_1), (0, .ref (a 0))] → W p l e (gR 1) s m ([.ref (a 0)] : List Value).toArray below meth C H locs 0 0 (MQ below (gQi D [(cI, .int)] (M_cowsAll_r σ n) (wM cI a σ h) A) ([.ref (a 0)] : List Value).toArray s 0 0 A) (F0 m 4 ls []) := by
    intro n4
    induction n4 with
    | zero =>
      intro i4 x4_1 H locs ls hi4 hF4 hw hl
      refine lv_iload_n hx hb dX12_cowsAll_4 rfl (lv_at hl 0 rfl) ?_
      refine lv_aload_n hx hb dX12_cowsAll_5 rfl (lv_at hl 2 rfl) ?_
      refine g_get S hw hinX12 (fs := fM a σ h) 0 rfl rfl 6 (by decide) lk0 (v := .int (nI n)) (congrArg (fun z => some (Value.int z)) (hn)) dX12_cowsAll_6 ?_
      refine ln_ge (x := i4) (y := n) hx hb (by omega) (by omega) (tgt := 27) dX12_cowsAll_9 (by decide) (fun c_x => ?_) (fun c_x => absurd (by omega) c_x)
      have hz4 : n = i4 := by omega
      subst hz4
      have e4_0 : (M_cowsAll_L4 σ n n 0 0) = x4_1 := hF4.symm
      subst e4_0
      refine lv_iload_n hx hb dX12_cowsAll_27 rfl (lv_at hl 1 rfl) ?_
      exact g_iret S hr hlk hw (by simp only [M_cowsAll_r]) rfl dX12_cowsAll_28
    | succ n4 ih4 =>
      intro i4 x4_1 H locs ls hi4 hF4 hw hl
      refine lv_iload_n hx hb dX12_cowsAll_4 rfl (lv_at hl 0 rfl) ?_
      refine lv_aload_n hx hb dX12_cowsAll_5 rfl (lv_at hl 2 rfl) ?_
      refine g_get S hw hinX12 (fs := fM a σ h) 0 rfl rfl 6 (by decide) lk0 (v := .int (nI n)) (congrArg (fun z => some (Value.int z)) (hn)) dX12_cowsAll_6 ?_
      refine ln_ge (x := i4) (y := n) hx hb (by omega) (by omega) (tgt := 27) dX12_cowsAll_9 (by decide) (fun c_x => absurd c_x (by omega)) (fun c_x => ?_)
      refine lv_iload_n hx hb dX12_cowsAll_12 rfl (lv_at hl 1 rfl) ?_
      refine lv_aload_n hx hb dX12_cowsAll_13 rfl (lv_at hl 2 rfl) ?_
      refine g_get S hw hinX12 (fs := fM a σ h) 0 rfl rfl 11 (by decide) lk1 (v := .ref (a 4)) rfl dX12_cowsAll_14 ?_
      refine lv_iload_n hx hb dX12_cowsAll_17 rfl (lv_at hl 0 rfl) ?_
      refine g_iald S hw (f := σ 4) (i := i4) (x := σ 4 i4) 4 0 rfl rfl (by omega) (by decide) rfl dX12_cowsAll_18 ?_
      refine lv_iadd hx hb dX12_cowsAll_19 ?_
      refine lv_istore_n (lv' := [(1, .int (x4_1 + (σ 4 i4))), (2, .int (nI i4)), (0, .ref (a 0))]) hx hb dX12_cowsAll_20 rfl hl (by decide) rfl (fun ls hl => ?_)
      refine lv_iinc (v := nI (i4 + 1)) (lv' := [(2, .int (nI (i4 + 1))), (1, .int (x4_1 + (σ 4 i4))), (0, .ref (a 0))]) hx hb dX12_cowsAll_21 hl (k := 1) rfl (nI_1 _) (by decide) rfl (fun ls hl => ?_)
      refine lv_goto (tgt := 4) hx hb dX12_cowsAll_24 (by decide) ?_
      exact ih4 (i4 + 1) (x4_1 + (σ 4 i4)) _ _ _ (by omega) hF4 hw (lv_sub hl [0, 1, 2] rfl)
  exact L4 n 0 0 _ _ _ (by omega) rfl hw (lv_sub hl [0, 1, 2] rfl)

def M_settledOf_S4_0 (σ : Nat → Nat → Int32) (n : Nat) (i4 : Nat) (x4_1 : Int32) : Int32 := if ((M_owedTo_r σ i4) - (M_owesOf_r σ i4)) ≤ 0 then (x4_1 + 0) else (x4_1 + ((M_owedTo_r σ i4) - (M_owesOf_r σ i4)))
def M_settledOf_L4 (σ : Nat → Nat → Int32) (n : Nat) : Nat → Nat → (Int32) → (Int32)
  | 0, _, x4_1 => x4_1
  | n4 + 1, i4, x4_1 => M_settledOf_L4 σ n n4 (i4 + 1) (M_settledOf_S4_0 σ n i4 x4_1)
def M_settledOf_r (σ : Nat → Nat → Int32) (n : Nat) : Int32 := (M_settledOf_L4 σ n n 0 0)
set_option maxHeartbeats 4000000 in
set_option maxRecDepth 100000 in
theorem c_M_settledOf (l : Launch) (D : va_G) (cI : ClassId) (a : Nat → Nat) (σ : Nat → Nat → Int32) (h : Int64) (n : Nat) (hn : σ 0 6 = nI n) (hnb : n ≤ 4) : gI l D [(cI, .int)] yX12_settledOf wsX12_settledOf 2 [.ref (a 0)] (wM cI a σ h) (M_settledOf_r σ n) (wM cI a σ h) := by
  refine g_start (cc := cX12_settledOf) (maxL := 4) (ret := some .int) (Qc := gQi D [(cI, .int)] (M_settledOf_r σ n) (wM cI a σ h)) (by decide) rfl (Nat.le_of_ble_eq_true rfl) ?_
  intro p e s m below meth C A ls S hr hlk hw hl
  obtain ⟨hx, hb, hml, hown, hts⟩ := id S
  have hinX12 : ∀ x ∈ u_ws RX12 TX12 38, x ∈ wsX12_settledOf := fun x h => List.mem_cons_of_mem _ (List.mem_append_right _ h)
  have lk0 : Cond.fieldLink RX12 105 "CowsOwedModel" "clans" "I" ∈ wsX12_settledOf := by decide +kernel
  have hl : lv_has ls 4 [(0, .ref (a 0))] := hl
  refine lv_iconst (v := 0) hx hb dX12_settledOf_0 (by decide) ?_
  refine lv_istore_n (lv' := [(1, .int 0), (0, .ref (a 0))]) hx hb dX12_settledOf_1 rfl hl (by decide) rfl (fun ls hl => ?_)
  refine lv_iconst (v := 0) hx hb dX12_settledOf_2 (by decide) ?_
  refine lv_istore_n (lv' := [(2, .int 0), (1, .int 0), (0, .ref (a 0))]) hx hb dX12_settledOf_3 rfl hl (by decide) rfl (fun ls hl => ?_)
  have L4 : ∀ (n4 i4 : Nat) (x4_1 : Int32) (H : Heap) (locs : List Loc) (ls : Array Slot), i4 + n4 = n → M_settledOf_L4 σ n n4 i4 x4_1 = M_settledOf_L4 σ n n 0 0 → gw D [(cI, .int)] A s H locs (wM cI a σ h) → lv_has ls 4 [(2, .int (nI i4)), (1, .int x4_1), (0, .ref (a 0))] → W p l e (gR 2) s m ([.ref (a 0)] : List Value).toArray below meth C H locs 0 0 (MQ below (gQi D [(cI, .int)] (M_settledOf_r σ n) (wM cI a σ h) A) ([.ref (a 0)] : List Value).toArray s 0 0 A) (F0 m 4 ls []) := by
    intro n4
    induction n4 with
    | zero =>
      intro i4 x4_1 H locs ls hi4 hF4 hw hl
      refine lv_iload_n hx hb dX12_settledOf_4 rfl (lv_at hl 0 rfl) ?_
      refine lv_aload_n hx hb dX12_settledOf_5 rfl (lv_at hl 2 rfl) ?_
      refine g_get S hw hinX12 (fs := fM a σ h) 0 rfl rfl 6 (by decide) lk0 (v := .int (nI n)) (congrArg (fun z => some (Value.int z)) (hn)) dX12_settledOf_6 ?_
      refine ln_ge (x := i4) (y := n) hx hb (by omega) (by omega) (tgt := 42) dX12_settledOf_9 (by decide) (fun c_x => ?_) (fun c_x => absurd (by omega) c_x)
      have hz4 : n = i4 := by omega
      subst hz4
      have e4_0 : (M_settledOf_L4 σ n n 0 0) = x4_1 := hF4.symm
      subst e4_0
      refine lv_iload_n hx hb dX12_settledOf_42 rfl (lv_at hl 1 rfl) ?_
      exact g_iret S hr hlk hw (by simp only [M_settledOf_r]) rfl dX12_settledOf_43
    | succ n4 ih4 =>
      intro i4 x4_1 H locs ls hi4 hF4 hw hl
      refine lv_iload_n hx hb dX12_settledOf_4 rfl (lv_at hl 0 rfl) ?_
      refine lv_aload_n hx hb dX12_settledOf_5 rfl (lv_at hl 2 rfl) ?_
      refine g_get S hw hinX12 (fs := fM a σ h) 0 rfl rfl 6 (by decide) lk0 (v := .int (nI n)) (congrArg (fun z => some (Value.int z)) (hn)) dX12_settledOf_6 ?_
      refine ln_ge (x := i4) (y := n) hx hb (by omega) (by omega) (tgt := 42) dX12_settledOf_9 (by decide) (fun c_x => absurd c_x (by omega)) (fun c_x => ?_)
      refine lv_aload_n hx hb dX12_settledOf_12 rfl (lv_at hl 2 rfl) ?_
      refine lv_iload_n hx hb dX12_settledOf_13 rfl (lv_at hl 0 rfl) ?_
      refine g_callVi S hw (c_M_owedTo l D cI a σ h i4 (by omega)) gX12_settledOf_X12_owedTo rfl 0 rfl rfl 1 rfl (by decide +kernel) (by decide) (by decide) hl.1 rfl (Nat.le_of_ble_eq_true rfl) dX12_settledOf_14 (fun H locs hw => ?_)
      refine lv_aload_n hx hb dX12_settledOf_17 rfl (lv_at hl 2 rfl) ?_
      refine lv_iload_n hx hb dX12_settledOf_18 rfl (lv_at hl 0 rfl) ?_
      refine g_callVi S hw (c_M_owesOf l D cI a σ h i4 (by omega)) gX12_settledOf_X12_owesOf rfl 0 rfl rfl 1 rfl (by decide +kernel) (by decide) (by decide) hl.1 rfl (Nat.le_of_ble_eq_true rfl) dX12_settledOf_19 (fun H locs hw => ?_)
      refine lv_isub hx hb dX12_settledOf_22 ?_
      refine lv_istore_n (lv' := [(3, .int ((M_owedTo_r σ i4) - (M_owesOf_r σ i4))), (2, .int (nI i4)), (1, .int x4_1), (0, .ref (a 0))]) hx hb dX12_settledOf_23 rfl hl (by decide) rfl (fun ls hl => ?_)
      refine lv_iload_n hx hb dX12_settledOf_24 rfl (lv_at hl 2 rfl) ?_
      refine lv_iload_n hx hb dX12_settledOf_25 rfl (lv_at hl 0 rfl) ?_
      refine lv_if_le hx hb (tgt := 33) dX12_settledOf_26 (by decide) (fun c_2 => ?_) (fun c_2 => ?_)
      · refine lv_iconst (v := 0) hx hb dX12_settledOf_33 (by decide) ?_
        refine lv_iadd hx hb dX12_settledOf_34 ?_
        refine lv_istore_n (lv' := [(1, .int (x4_1 + 0)), (3, .int ((M_owedTo_r σ i4) - (M_owesOf_r σ i4))), (2, .int (nI i4)), (0, .ref (a 0))]) hx hb dX12_settledOf_35 rfl hl (by decide) rfl (fun ls hl => ?_)
        refine lv_iinc (v := nI (i4 + 1)) (lv' := [(2, .int (nI (i4 + 1))), (1, .int (x4_1 + 0)), (3, .int ((M_owedTo_r σ i4) - (M_owesOf_r σ i4))), (0, .ref (a 0))]) hx hb dX12_settledOf_36 hl (k := 2) rfl (nI_1 _) (by decide) rfl (fun ls hl => ?_)
        refine lv_goto (tgt := 4) hx hb dX12_settledOf_39 (by decide) ?_
        exact ih4 (i4 + 1) (x4_1 + 0) _ _ _ (by omega) (by have q := hF4; simp only [M_settledOf_L4, M_settledOf_S4_0, if_pos c_2] at q; exact q) hw (lv_sub hl [0, 1, 3] rfl)
      · refine lv_iload_n hx hb dX12_settledOf_29 rfl (lv_at hl 0 rfl) ?_
        refine lv_goto (tgt := 34) hx hb dX12_settledOf_30 (by decide) ?_
        refine lv_iadd hx hb dX12_settledOf_34 ?_
        refine lv_istore_n (lv' := [(1, .int (x4_1 + ((M_owedTo_r σ i4) - (M_owesOf_r σ i4)))), (3, .int ((M_owedTo_r σ i4) - (M_owesOf_r σ i4))), (2, .int (nI i4)), (0, .ref (a 0))]) hx hb dX12_settledOf_35 rfl hl (by decide) rfl (fun ls hl => ?_)
        refine lv_iinc (v := nI (i4 + 1)) (lv' := [(2, .int (nI (i4 + 1))), (1, .int (x4_1 + ((M_owedTo_r σ i4) - (M_owesOf_r σ i4)))), (3, .int ((M_owedTo_r σ i4) - (M_owesOf_r σ i4))), (0, .ref (a 0))]) hx hb dX12_settledOf_36 hl (k := 2) rfl (nI_1 _) (by decide) rfl (fun ls hl => ?_)
        refine lv_goto (tgt := 4) hx hb dX12_settledOf_39 (by decide) ?_
        exact ih4 (i4 + 1) (x4_1 + ((M_owedTo_r σ i4) - (M_owesOf_r σ i4))) _ _ _ (by omega) (by have q := hF4; simp only [M_settledOf_L4, M_settledOf_S4_0, if_neg c_2] at q; exact q) hw (lv_sub hl [0, 1, 3] rfl)
  exact L4 n 0 0 _ _ _ (by omega) rfl hw (lv_sub hl [0, 1, 2] rfl)

def M_passYear_S2_0 (n : Nat) (i2 : Nat) (σ2 : Nat → Nat → Int32) : Nat → Nat → Int32 := if (σ2 4 i2) ≤ 99 then (if ((σ2 4 i2) + ((σ2 4 i2) / 2)) ≤ 99 then (up2 σ2 4 i2 ((σ2 4 i2) + ((σ2 4 i2) / 2))) else (up2 σ2 4 i2 99)) else (up2 σ2 4 i2 (σ2 4 i2))
def M_passYear_L2 (n : Nat) : Nat → Nat → (Nat → Nat → Int32) → (Nat → Nat → Int32)
  | 0, _, σ2 => σ2
  | n2 + 1, i2, σ2 => M_passYear_L2 n n2 (i2 + 1) (M_passYear_S2_0 n i2 σ2)
theorem M_passYear_S2_k0 (n : Nat) (i2 : Nat) (σ2 : Nat → Nat → Int32) : M_passYear_S2_0 n i2 σ2 0 = σ2 0 := by
  unfold M_passYear_S2_0
  by_cases z1 : (σ2 4 i2) ≤ 99
  · refine Eq.trans (congrFun (if_pos z1) 0) ?_
    by_cases z2 : ((σ2 4 i2) + ((σ2 4 i2) / 2)) ≤ 99
    · refine Eq.trans (congrFun (if_pos z2) 0) ?_
      exact up2_n _ _ _ (by decide)
    · refine Eq.trans (congrFun (if_neg z2) 0) ?_
      exact up2_n _ _ _ (by decide)
  · refine Eq.trans (congrFun (if_neg z1) 0) ?_
    exact up2_n _ _ _ (by decide)
theorem M_passYear_L2_k0 (n : Nat) : ∀ (n2 i2 : Nat) (σ2 : Nat → Nat → Int32), (M_passYear_L2 n n2 i2 σ2) 0 = σ2 0 := by
  intro n2
  induction n2 with
  | zero => intros; rfl
  | succ n2 ih => intro i2 σ2; exact (ih (i2 + 1) (M_passYear_S2_0 n i2 σ2)).trans (M_passYear_S2_k0 n i2 σ2)
theorem M_passYear_S2_k1 (n : Nat) (i2 : Nat) (σ2 : Nat → Nat → Int32) : M_passYear_S2_0 n i2 σ2 1 = σ2 1 := by
  unfold M_passYear_S2_0
  by_cases z1 : (σ2 4 i2) ≤ 99
  · refine Eq.trans (congrFun (if_pos z1) 1) ?_
    by_cases z2 : ((σ2 4 i2) + ((σ2 4 i2) / 2)) ≤ 99
    · refine Eq.trans (congrFun (if_pos z2) 1) ?_
      exact up2_n _ _ _ (by decide)
    · refine Eq.trans (congrFun (if_neg z2) 1) ?_
      exact up2_n _ _ _ (by decide)
  · refine Eq.trans (congrFun (if_neg z1) 1) ?_
    exact up2_n _ _ _ (by decide)
theorem M_passYear_L2_k1 (n : Nat) : ∀ (n2 i2 : Nat) (σ2 : Nat → Nat → Int32), (M_passYear_L2 n n2 i2 σ2) 1 = σ2 1 := by
  intro n2
  induction n2 with
  | zero => intros; rfl
  | succ n2 ih => intro i2 σ2; exact (ih (i2 + 1) (M_passYear_S2_0 n i2 σ2)).trans (M_passYear_S2_k1 n i2 σ2)
theorem M_passYear_S2_k2 (n : Nat) (i2 : Nat) (σ2 : Nat → Nat → Int32) : M_passYear_S2_0 n i2 σ2 2 = σ2 2 := by
  unfold M_passYear_S2_0
  by_cases z1 : (σ2 4 i2) ≤ 99
  · refine Eq.trans (congrFun (if_pos z1) 2) ?_
    by_cases z2 : ((σ2 4 i2) + ((σ2 4 i2) / 2)) ≤ 99
    · refine Eq.trans (congrFun (if_pos z2) 2) ?_
      exact up2_n _ _ _ (by decide)
    · refine Eq.trans (congrFun (if_neg z2) 2) ?_
      exact up2_n _ _ _ (by decide)
  · refine Eq.trans (congrFun (if_neg z1) 2) ?_
    exact up2_n _ _ _ (by decide)
theorem M_passYear_L2_k2 (n : Nat) : ∀ (n2 i2 : Nat) (σ2 : Nat → Nat → Int32), (M_passYear_L2 n n2 i2 σ2) 2 = σ2 2 := by
  intro n2
  induction n2 with
  | zero => intros; rfl
  | succ n2 ih => intro i2 σ2; exact (ih (i2 + 1) (M_passYear_S2_0 n i2 σ2)).trans (M_passYear_S2_k2 n i2 σ2)
theorem M_passYear_S2_k3 (n : Nat) (i2 : Nat) (σ2 : Nat → Nat → Int32) : M_passYear_S2_0 n i2 σ2 3 = σ2 3 := by
  unfold M_passYear_S2_0
  by_cases z1 : (σ2 4 i2) ≤ 99
  · refine Eq.trans (congrFun (if_pos z1) 3) ?_
    by_cases z2 : ((σ2 4 i2) + ((σ2 4 i2) / 2)) ≤ 99
    · refine Eq.trans (congrFun (if_pos z2) 3) ?_
      exact up2_n _ _ _ (by decide)
    · refine Eq.trans (congrFun (if_neg z2) 3) ?_
      exact up2_n _ _ _ (by decide)
  · refine Eq.trans (congrFun (if_neg z1) 3) ?_
    exact up2_n _ _ _ (by decide)
theorem M_passYear_L2_k3 (n : Nat) : ∀ (n2 i2 : Nat) (σ2 : Nat → Nat → Int32), (M_passYear_L2 n n2 i2 σ2) 3 = σ2 3 := by
  intro n2
  induction n2 with
  | zero => intros; rfl
  | succ n2 ih => intro i2 σ2; exact (ih (i2 + 1) (M_passYear_S2_0 n i2 σ2)).trans (M_passYear_S2_k3 n i2 σ2)
theorem M_passYear_S2_k5 (n : Nat) (i2 : Nat) (σ2 : Nat → Nat → Int32) : M_passYear_S2_0 n i2 σ2 5 = σ2 5 := by
  unfold M_passYear_S2_0
  by_cases z1 : (σ2 4 i2) ≤ 99
  · refine Eq.trans (congrFun (if_pos z1) 5) ?_
    by_cases z2 : ((σ2 4 i2) + ((σ2 4 i2) / 2)) ≤ 99
    · refine Eq.trans (congrFun (if_pos z2) 5) ?_
      exact up2_n _ _ _ (by decide)
    · refine Eq.trans (congrFun (if_neg z2) 5) ?_
      exact up2_n _ _ _ (by decide)
  · refine Eq.trans (congrFun (if_neg z1) 5) ?_
    exact up2_n _ _ _ (by decide)
theorem M_passYear_L2_k5 (n : Nat) : ∀ (n2 i2 : Nat) (σ2 : Nat → Nat → Int32), (M_passYear_L2 n n2 i2 σ2) 5 = σ2 5 := by
  intro n2
  induction n2 with
  | zero => intros; rfl
  | succ n2 ih => intro i2 σ2; exact (ih (i2 + 1) (M_passYear_S2_0 n i2 σ2)).trans (M_passYear_S2_k5 n i2 σ2)
theorem M_passYear_S2_k6 (n : Nat) (i2 : Nat) (σ2 : Nat → Nat → Int32) : M_passYear_S2_0 n i2 σ2 6 = σ2 6 := by
  unfold M_passYear_S2_0
  by_cases z1 : (σ2 4 i2) ≤ 99
  · refine Eq.trans (congrFun (if_pos z1) 6) ?_
    by_cases z2 : ((σ2 4 i2) + ((σ2 4 i2) / 2)) ≤ 99
    · refine Eq.trans (congrFun (if_pos z2) 6) ?_
      exact up2_n _ _ _ (by decide)
    · refine Eq.trans (congrFun (if_neg z2) 6) ?_
      exact up2_n _ _ _ (by decide)
  · refine Eq.trans (congrFun (if_neg z1) 6) ?_
    exact up2_n _ _ _ (by decide)
theorem M_passYear_L2_k6 (n : Nat) : ∀ (n2 i2 : Nat) (σ2 : Nat → Nat → Int32), (M_passYear_L2 n n2 i2 σ2) 6 = σ2 6 := by
  intro n2
  induction n2 with
  | zero => intros; rfl
  | succ n2 ih => intro i2 σ2; exact (ih (i2 + 1) (M_passYear_S2_0 n i2 σ2)).trans (M_passYear_S2_k6 n i2 σ2)
theorem M_passYear_S2_k7 (n : Nat) (i2 : Nat) (σ2 : Nat → Nat → Int32) : M_passYear_S2_0 n i2 σ2 7 = σ2 7 := by
  unfold M_passYear_S2_0
  by_cases z1 : (σ2 4 i2) ≤ 99
  · refine Eq.trans (congrFun (if_pos z1) 7) ?_
    by_cases z2 : ((σ2 4 i2) + ((σ2 4 i2) / 2)) ≤ 99
    · refine Eq.trans (congrFun (if_pos z2) 7) ?_
      exact up2_n _ _ _ (by decide)
    · refine Eq.trans (congrFun (if_neg z2) 7) ?_
      exact up2_n _ _ _ (by decide)
  · refine Eq.trans (congrFun (if_neg z1) 7) ?_
    exact up2_n _ _ _ (by decide)
theorem M_passYear_L2_k7 (n : Nat) : ∀ (n2 i2 : Nat) (σ2 : Nat → Nat → Int32), (M_passYear_L2 n n2 i2 σ2) 7 = σ2 7 := by
  intro n2
  induction n2 with
  | zero => intros; rfl
  | succ n2 ih => intro i2 σ2; exact (ih (i2 + 1) (M_passYear_S2_0 n i2 σ2)).trans (M_passYear_S2_k7 n i2 σ2)
theorem M_passYear_S2_k8 (n : Nat) (i2 : Nat) (σ2 : Nat → Nat → Int32) : M_passYear_S2_0 n i2 σ2 8 = σ2 8 := by
  unfold M_passYear_S2_0
  by_cases z1 : (σ2 4 i2) ≤ 99
  · refine Eq.trans (congrFun (if_pos z1) 8) ?_
    by_cases z2 : ((σ2 4 i2) + ((σ2 4 i2) / 2)) ≤ 99
    · refine Eq.trans (congrFun (if_pos z2) 8) ?_
      exact up2_n _ _ _ (by decide)
    · refine Eq.trans (congrFun (if_neg z2) 8) ?_
      exact up2_n _ _ _ (by decide)
  · refine Eq.trans (congrFun (if_neg z1) 8) ?_
    exact up2_n _ _ _ (by decide)
theorem M_passYear_L2_k8 (n : Nat) : ∀ (n2 i2 : Nat) (σ2 : Nat → Nat → Int32), (M_passYear_L2 n n2 i2 σ2) 8 = σ2 8 := by
  intro n2
  induction n2 with
  | zero => intros; rfl
  | succ n2 ih => intro i2 σ2; exact (ih (i2 + 1) (M_passYear_S2_0 n i2 σ2)).trans (M_passYear_S2_k8 n i2 σ2)
theorem M_passYear_S2_k9 (n : Nat) (i2 : Nat) (σ2 : Nat → Nat → Int32) : M_passYear_S2_0 n i2 σ2 9 = σ2 9 := by
  unfold M_passYear_S2_0
  by_cases z1 : (σ2 4 i2) ≤ 99
  · refine Eq.trans (congrFun (if_pos z1) 9) ?_
    by_cases z2 : ((σ2 4 i2) + ((σ2 4 i2) / 2)) ≤ 99
    · refine Eq.trans (congrFun (if_pos z2) 9) ?_
      exact up2_n _ _ _ (by decide)
    · refine Eq.trans (congrFun (if_neg z2) 9) ?_
      exact up2_n _ _ _ (by decide)
  · refine Eq.trans (congrFun (if_neg z1) 9) ?_
    exact up2_n _ _ _ (by decide)
theorem M_passYear_L2_k9 (n : Nat) : ∀ (n2 i2 : Nat) (σ2 : Nat → Nat → Int32), (M_passYear_L2 n n2 i2 σ2) 9 = σ2 9 := by
  intro n2
  induction n2 with
  | zero => intros; rfl
  | succ n2 ih => intro i2 σ2; exact (ih (i2 + 1) (M_passYear_S2_0 n i2 σ2)).trans (M_passYear_S2_k9 n i2 σ2)
theorem M_passYear_S2_k10 (n : Nat) (i2 : Nat) (σ2 : Nat → Nat → Int32) : M_passYear_S2_0 n i2 σ2 10 = σ2 10 := by
  unfold M_passYear_S2_0
  by_cases z1 : (σ2 4 i2) ≤ 99
  · refine Eq.trans (congrFun (if_pos z1) 10) ?_
    by_cases z2 : ((σ2 4 i2) + ((σ2 4 i2) / 2)) ≤ 99
    · refine Eq.trans (congrFun (if_pos z2) 10) ?_
      exact up2_n _ _ _ (by decide)
    · refine Eq.trans (congrFun (if_neg z2) 10) ?_
      exact up2_n _ _ _ (by decide)
  · refine Eq.trans (congrFun (if_neg z1) 10) ?_
    exact up2_n _ _ _ (by decide)
theorem M_passYear_L2_k10 (n : Nat) : ∀ (n2 i2 : Nat) (σ2 : Nat → Nat → Int32), (M_passYear_L2 n n2 i2 σ2) 10 = σ2 10 := by
  intro n2
  induction n2 with
  | zero => intros; rfl
  | succ n2 ih => intro i2 σ2; exact (ih (i2 + 1) (M_passYear_S2_0 n i2 σ2)).trans (M_passYear_S2_k10 n i2 σ2)
theorem M_passYear_S2_k11 (n : Nat) (i2 : Nat) (σ2 : Nat → Nat → Int32) : M_passYear_S2_0 n i2 σ2 11 = σ2 11 := by
  unfold M_passYear_S2_0
  by_cases z1 : (σ2 4 i2) ≤ 99
  · refine Eq.trans (congrFun (if_pos z1) 11) ?_
    by_cases z2 : ((σ2 4 i2) + ((σ2 4 i2) / 2)) ≤ 99
    · refine Eq.trans (congrFun (if_pos z2) 11) ?_
      exact up2_n _ _ _ (by decide)
    · refine Eq.trans (congrFun (if_neg z2) 11) ?_
      exact up2_n _ _ _ (by decide)
  · refine Eq.trans (congrFun (if_neg z1) 11) ?_
    exact up2_n _ _ _ (by decide)
theorem M_passYear_L2_k11 (n : Nat) : ∀ (n2 i2 : Nat) (σ2 : Nat → Nat → Int32), (M_passYear_L2 n n2 i2 σ2) 11 = σ2 11 := by
  intro n2
  induction n2 with
  | zero => intros; rfl
  | succ n2 ih => intro i2 σ2; exact (ih (i2 + 1) (M_passYear_S2_0 n i2 σ2)).trans (M_passYear_S2_k11 n i2 σ2)
theorem M_passYear_S2_k12 (n : Nat) (i2 : Nat) (σ2 : Nat → Nat → Int32) : M_passYear_S2_0 n i2 σ2 12 = σ2 12 := by
  unfold M_passYear_S2_0
  by_cases z1 : (σ2 4 i2) ≤ 99
  · refine Eq.trans (congrFun (if_pos z1) 12) ?_
    by_cases z2 : ((σ2 4 i2) + ((σ2 4 i2) / 2)) ≤ 99
    · refine Eq.trans (congrFun (if_pos z2) 12) ?_
      exact up2_n _ _ _ (by decide)
    · refine Eq.trans (congrFun (if_neg z2) 12) ?_
      exact up2_n _ _ _ (by decide)
  · refine Eq.trans (congrFun (if_neg z1) 12) ?_
    exact up2_n _ _ _ (by decide)
theorem M_passYear_L2_k12 (n : Nat) : ∀ (n2 i2 : Nat) (σ2 : Nat → Nat → Int32), (M_passYear_L2 n n2 i2 σ2) 12 = σ2 12 := by
  intro n2
  induction n2 with
  | zero => intros; rfl
  | succ n2 ih => intro i2 σ2; exact (ih (i2 + 1) (M_passYear_S2_0 n i2 σ2)).trans (M_passYear_S2_k12 n i2 σ2)
theorem M_passYear_S2_k13 (n : Nat) (i2 : Nat) (σ2 : Nat → Nat → Int32) : M_passYear_S2_0 n i2 σ2 13 = σ2 13 := by
  unfold M_passYear_S2_0
  by_cases z1 : (σ2 4 i2) ≤ 99
  · refine Eq.trans (congrFun (if_pos z1) 13) ?_
    by_cases z2 : ((σ2 4 i2) + ((σ2 4 i2) / 2)) ≤ 99
    · refine Eq.trans (congrFun (if_pos z2) 13) ?_
      exact up2_n _ _ _ (by decide)
    · refine Eq.trans (congrFun (if_neg z2) 13) ?_
      exact up2_n _ _ _ (by decide)
  · refine Eq.trans (congrFun (if_neg z1) 13) ?_
    exact up2_n _ _ _ (by decide)
theorem M_passYear_L2_k13 (n : Nat) : ∀ (n2 i2 : Nat) (σ2 : Nat → Nat → Int32), (M_passYear_L2 n n2 i2 σ2) 13 = σ2 13 := by
  intro n2
  induction n2 with
  | zero => intros; rfl
  | succ n2 ih => intro i2 σ2; exact (ih (i2 + 1) (M_passYear_S2_0 n i2 σ2)).trans (M_passYear_S2_k13 n i2 σ2)
theorem M_passYear_S2_k14 (n : Nat) (i2 : Nat) (σ2 : Nat → Nat → Int32) : M_passYear_S2_0 n i2 σ2 14 = σ2 14 := by
  unfold M_passYear_S2_0
  by_cases z1 : (σ2 4 i2) ≤ 99
  · refine Eq.trans (congrFun (if_pos z1) 14) ?_
    by_cases z2 : ((σ2 4 i2) + ((σ2 4 i2) / 2)) ≤ 99
    · refine Eq.trans (congrFun (if_pos z2) 14) ?_
      exact up2_n _ _ _ (by decide)
    · refine Eq.trans (congrFun (if_neg z2) 14) ?_
      exact up2_n _ _ _ (by decide)
  · refine Eq.trans (congrFun (if_neg z1) 14) ?_
    exact up2_n _ _ _ (by decide)
theorem M_passYear_L2_k14 (n : Nat) : ∀ (n2 i2 : Nat) (σ2 : Nat → Nat → Int32), (M_passYear_L2 n n2 i2 σ2) 14 = σ2 14 := by
  intro n2
  induction n2 with
  | zero => intros; rfl
  | succ n2 ih => intro i2 σ2; exact (ih (i2 + 1) (M_passYear_S2_0 n i2 σ2)).trans (M_passYear_S2_k14 n i2 σ2)
theorem M_passYear_S2_k15 (n : Nat) (i2 : Nat) (σ2 : Nat → Nat → Int32) : M_passYear_S2_0 n i2 σ2 15 = σ2 15 := by
  unfold M_passYear_S2_0
  by_cases z1 : (σ2 4 i2) ≤ 99
  · refine Eq.trans (congrFun (if_pos z1) 15) ?_
    by_cases z2 : ((σ2 4 i2) + ((σ2 4 i2) / 2)) ≤ 99
    · refine Eq.trans (congrFun (if_pos z2) 15) ?_
      exact up2_n _ _ _ (by decide)
    · refine Eq.trans (congrFun (if_neg z2) 15) ?_
      exact up2_n _ _ _ (by decide)
  · refine Eq.trans (congrFun (if_neg z1) 15) ?_
    exact up2_n _ _ _ (by decide)
theorem M_passYear_L2_k15 (n : Nat) : ∀ (n2 i2 : Nat) (σ2 : Nat → Nat → Int32), (M_passYear_L2 n n2 i2 σ2) 15 = σ2 15 := by
  intro n2
  induction n2 with
  | zero => intros; rfl
  | succ n2 ih => intro i2 σ2; exact (ih (i2 + 1) (M_passYear_S2_0 n i2 σ2)).trans (M_passYear_S2_k15 n i2 σ2)
theorem M_passYear_S2_k16 (n : Nat) (i2 : Nat) (σ2 : Nat → Nat → Int32) : M_passYear_S2_0 n i2 σ2 16 = σ2 16 := by
  unfold M_passYear_S2_0
  by_cases z1 : (σ2 4 i2) ≤ 99
  · refine Eq.trans (congrFun (if_pos z1) 16) ?_
    by_cases z2 : ((σ2 4 i2) + ((σ2 4 i2) / 2)) ≤ 99
    · refine Eq.trans (congrFun (if_pos z2) 16) ?_
      exact up2_n _ _ _ (by decide)
    · refine Eq.trans (congrFun (if_neg z2) 16) ?_
      exact up2_n _ _ _ (by decide)
  · refine Eq.trans (congrFun (if_neg z1) 16) ?_
    exact up2_n _ _ _ (by decide)
theorem M_passYear_L2_k16 (n : Nat) : ∀ (n2 i2 : Nat) (σ2 : Nat → Nat → Int32), (M_passYear_L2 n n2 i2 σ2) 16 = σ2 16 := by
  intro n2
  induction n2 with
  | zero => intros; rfl
  | succ n2 ih => intro i2 σ2; exact (ih (i2 + 1) (M_passYear_S2_0 n i2 σ2)).trans (M_passYear_S2_k16 n i2 σ2)
theorem M_passYear_S2_k17 (n : Nat) (i2 : Nat) (σ2 : Nat → Nat → Int32) : M_passYear_S2_0 n i2 σ2 17 = σ2 17 := by
  unfold M_passYear_S2_0
  by_cases z1 : (σ2 4 i2) ≤ 99
  · refine Eq.trans (congrFun (if_pos z1) 17) ?_
    by_cases z2 : ((σ2 4 i2) + ((σ2 4 i2) / 2)) ≤ 99
    · refine Eq.trans (congrFun (if_pos z2) 17) ?_
      exact up2_n _ _ _ (by decide)
    · refine Eq.trans (congrFun (if_neg z2) 17) ?_
      exact up2_n _ _ _ (by decide)
  · refine Eq.trans (congrFun (if_neg z1) 17) ?_
    exact up2_n _ _ _ (by decide)
theorem M_passYear_L2_k17 (n : Nat) : ∀ (n2 i2 : Nat) (σ2 : Nat → Nat → Int32), (M_passYear_L2 n n2 i2 σ2) 17 = σ2 17 := by
  intro n2
  induction n2 with
  | zero => intros; rfl
  | succ n2 ih => intro i2 σ2; exact (ih (i2 + 1) (M_passYear_S2_0 n i2 σ2)).trans (M_passYear_S2_k17 n i2 σ2)
theorem M_passYear_S2_k18 (n : Nat) (i2 : Nat) (σ2 : Nat → Nat → Int32) : M_passYear_S2_0 n i2 σ2 18 = σ2 18 := by
  unfold M_passYear_S2_0
  by_cases z1 : (σ2 4 i2) ≤ 99
  · refine Eq.trans (congrFun (if_pos z1) 18) ?_
    by_cases z2 : ((σ2 4 i2) + ((σ2 4 i2) / 2)) ≤ 99
    · refine Eq.trans (congrFun (if_pos z2) 18) ?_
      exact up2_n _ _ _ (by decide)
    · refine Eq.trans (congrFun (if_neg z2) 18) ?_
      exact up2_n _ _ _ (by decide)
  · refine Eq.trans (congrFun (if_neg z1) 18) ?_
    exact up2_n _ _ _ (by decide)
theorem M_passYear_L2_k18 (n : Nat) : ∀ (n2 i2 : Nat) (σ2 : Nat → Nat → Int32), (M_passYear_L2 n n2 i2 σ2) 18 = σ2 18 := by
  intro n2
  induction n2 with
  | zero => intros; rfl
  | succ n2 ih => intro i2 σ2; exact (ih (i2 + 1) (M_passYear_S2_0 n i2 σ2)).trans (M_passYear_S2_k18 n i2 σ2)
theorem M_passYear_S2_k19 (n : Nat) (i2 : Nat) (σ2 : Nat → Nat → Int32) : M_passYear_S2_0 n i2 σ2 19 = σ2 19 := by
  unfold M_passYear_S2_0
  by_cases z1 : (σ2 4 i2) ≤ 99
  · refine Eq.trans (congrFun (if_pos z1) 19) ?_
    by_cases z2 : ((σ2 4 i2) + ((σ2 4 i2) / 2)) ≤ 99
    · refine Eq.trans (congrFun (if_pos z2) 19) ?_
      exact up2_n _ _ _ (by decide)
    · refine Eq.trans (congrFun (if_neg z2) 19) ?_
      exact up2_n _ _ _ (by decide)
  · refine Eq.trans (congrFun (if_neg z1) 19) ?_
    exact up2_n _ _ _ (by decide)
theorem M_passYear_L2_k19 (n : Nat) : ∀ (n2 i2 : Nat) (σ2 : Nat → Nat → Int32), (M_passYear_L2 n n2 i2 σ2) 19 = σ2 19 := by
  intro n2
  induction n2 with
  | zero => intros; rfl
  | succ n2 ih => intro i2 σ2; exact (ih (i2 + 1) (M_passYear_S2_0 n i2 σ2)).trans (M_passYear_S2_k19 n i2 σ2)
def M_passYear_S72_0 (n : Nat) (i72 : Nat) (σ72 : Nat → Nat → Int32) : Nat → Nat → Int32 := if (i72 / 4) = (i72 % 4) then σ72 else (if (M_isClan_r σ72 (nI (i72 / 4))) = 0 then σ72 else (if (M_isClan_r σ72 (nI (i72 % 4))) = 0 then σ72 else (up2 (M_paysNow_s σ72 (i72 / 4) (i72 % 4) (σ72 5 i72)) 5 i72 ((σ72 5 i72) - (M_paysNow_r σ72 (i72 / 4) (i72 % 4) (σ72 5 i72))))))
def M_passYear_L72 (n : Nat) : Nat → Nat → (Nat → Nat → Int32) → (Nat → Nat → Int32)
  | 0, _, σ72 => σ72
  | n72 + 1, i72, σ72 => M_passYear_L72 n n72 (i72 + 1) (M_passYear_S72_0 n i72 σ72)
theorem M_passYear_S72_k0 (n : Nat) (i72 : Nat) (σ72 : Nat → Nat → Int32) : M_passYear_S72_0 n i72 σ72 0 = σ72 0 := by
  unfold M_passYear_S72_0
  by_cases z1 : (i72 / 4) = (i72 % 4)
  · refine Eq.trans (congrFun (if_pos z1) 0) ?_
    exact rfl
  · refine Eq.trans (congrFun (if_neg z1) 0) ?_
    by_cases z2 : (M_isClan_r σ72 (nI (i72 / 4))) = 0
    · refine Eq.trans (congrFun (if_pos z2) 0) ?_
      exact rfl
    · refine Eq.trans (congrFun (if_neg z2) 0) ?_
      by_cases z3 : (M_isClan_r σ72 (nI (i72 % 4))) = 0
      · refine Eq.trans (congrFun (if_pos z3) 0) ?_
        exact rfl
      · refine Eq.trans (congrFun (if_neg z3) 0) ?_
        exact (up2_n _ _ _ (by decide)).trans (M_paysNow_s_k0 σ72 (i72 / 4) (i72 % 4) (σ72 5 i72))
theorem M_passYear_L72_k0 (n : Nat) : ∀ (n72 i72 : Nat) (σ72 : Nat → Nat → Int32), (M_passYear_L72 n n72 i72 σ72) 0 = σ72 0 := by
  intro n72
  induction n72 with
  | zero => intros; rfl
  | succ n72 ih => intro i72 σ72; exact (ih (i72 + 1) (M_passYear_S72_0 n i72 σ72)).trans (M_passYear_S72_k0 n i72 σ72)
theorem M_passYear_S72_k1 (n : Nat) (i72 : Nat) (σ72 : Nat → Nat → Int32) : M_passYear_S72_0 n i72 σ72 1 = σ72 1 := by
  unfold M_passYear_S72_0
  by_cases z1 : (i72 / 4) = (i72 % 4)
  · refine Eq.trans (congrFun (if_pos z1) 1) ?_
    exact rfl
  · refine Eq.trans (congrFun (if_neg z1) 1) ?_
    by_cases z2 : (M_isClan_r σ72 (nI (i72 / 4))) = 0
    · refine Eq.trans (congrFun (if_pos z2) 1) ?_
      exact rfl
    · refine Eq.trans (congrFun (if_neg z2) 1) ?_
      by_cases z3 : (M_isClan_r σ72 (nI (i72 % 4))) = 0
      · refine Eq.trans (congrFun (if_pos z3) 1) ?_
        exact rfl
      · refine Eq.trans (congrFun (if_neg z3) 1) ?_
        exact (up2_n _ _ _ (by decide)).trans (M_paysNow_s_k1 σ72 (i72 / 4) (i72 % 4) (σ72 5 i72))
theorem M_passYear_L72_k1 (n : Nat) : ∀ (n72 i72 : Nat) (σ72 : Nat → Nat → Int32), (M_passYear_L72 n n72 i72 σ72) 1 = σ72 1 := by
  intro n72
  induction n72 with
  | zero => intros; rfl
  | succ n72 ih => intro i72 σ72; exact (ih (i72 + 1) (M_passYear_S72_0 n i72 σ72)).trans (M_passYear_S72_k1 n i72 σ72)
theorem M_passYear_S72_k2 (n : Nat) (i72 : Nat) (σ72 : Nat → Nat → Int32) : M_passYear_S72_0 n i72 σ72 2 = σ72 2 := by
  unfold M_passYear_S72_0
  by_cases z1 : (i72 / 4) = (i72 % 4)
  · refine Eq.trans (congrFun (if_pos z1) 2) ?_
    exact rfl
  · refine Eq.trans (congrFun (if_neg z1) 2) ?_
    by_cases z2 : (M_isClan_r σ72 (nI (i72 / 4))) = 0
    · refine Eq.trans (congrFun (if_pos z2) 2) ?_
      exact rfl
    · refine Eq.trans (congrFun (if_neg z2) 2) ?_
      by_cases z3 : (M_isClan_r σ72 (nI (i72 % 4))) = 0
      · refine Eq.trans (congrFun (if_pos z3) 2) ?_
        exact rfl
      · refine Eq.trans (congrFun (if_neg z3) 2) ?_
        exact (up2_n _ _ _ (by decide)).trans (M_paysNow_s_k2 σ72 (i72 / 4) (i72 % 4) (σ72 5 i72))
theorem M_passYear_L72_k2 (n : Nat) : ∀ (n72 i72 : Nat) (σ72 : Nat → Nat → Int32), (M_passYear_L72 n n72 i72 σ72) 2 = σ72 2 := by
  intro n72
  induction n72 with
  | zero => intros; rfl
  | succ n72 ih => intro i72 σ72; exact (ih (i72 + 1) (M_passYear_S72_0 n i72 σ72)).trans (M_passYear_S72_k2 n i72 σ72)
theorem M_passYear_S72_k3 (n : Nat) (i72 : Nat) (σ72 : Nat → Nat → Int32) : M_passYear_S72_0 n i72 σ72 3 = σ72 3 := by
  unfold M_passYear_S72_0
  by_cases z1 : (i72 / 4) = (i72 % 4)
  · refine Eq.trans (congrFun (if_pos z1) 3) ?_
    exact rfl
  · refine Eq.trans (congrFun (if_neg z1) 3) ?_
    by_cases z2 : (M_isClan_r σ72 (nI (i72 / 4))) = 0
    · refine Eq.trans (congrFun (if_pos z2) 3) ?_
      exact rfl
    · refine Eq.trans (congrFun (if_neg z2) 3) ?_
      by_cases z3 : (M_isClan_r σ72 (nI (i72 % 4))) = 0
      · refine Eq.trans (congrFun (if_pos z3) 3) ?_
        exact rfl
      · refine Eq.trans (congrFun (if_neg z3) 3) ?_
        exact (up2_n _ _ _ (by decide)).trans (M_paysNow_s_k3 σ72 (i72 / 4) (i72 % 4) (σ72 5 i72))
theorem M_passYear_L72_k3 (n : Nat) : ∀ (n72 i72 : Nat) (σ72 : Nat → Nat → Int32), (M_passYear_L72 n n72 i72 σ72) 3 = σ72 3 := by
  intro n72
  induction n72 with
  | zero => intros; rfl
  | succ n72 ih => intro i72 σ72; exact (ih (i72 + 1) (M_passYear_S72_0 n i72 σ72)).trans (M_passYear_S72_k3 n i72 σ72)
theorem M_passYear_S72_k6 (n : Nat) (i72 : Nat) (σ72 : Nat → Nat → Int32) : M_passYear_S72_0 n i72 σ72 6 = σ72 6 := by
  unfold M_passYear_S72_0
  by_cases z1 : (i72 / 4) = (i72 % 4)
  · refine Eq.trans (congrFun (if_pos z1) 6) ?_
    exact rfl
  · refine Eq.trans (congrFun (if_neg z1) 6) ?_
    by_cases z2 : (M_isClan_r σ72 (nI (i72 / 4))) = 0
    · refine Eq.trans (congrFun (if_pos z2) 6) ?_
      exact rfl
    · refine Eq.trans (congrFun (if_neg z2) 6) ?_
      by_cases z3 : (M_isClan_r σ72 (nI (i72 % 4))) = 0
      · refine Eq.trans (congrFun (if_pos z3) 6) ?_
        exact rfl
      · refine Eq.trans (congrFun (if_neg z3) 6) ?_
        exact (up2_n _ _ _ (by decide)).trans (M_paysNow_s_k6 σ72 (i72 / 4) (i72 % 4) (σ72 5 i72))
theorem M_passYear_L72_k6 (n : Nat) : ∀ (n72 i72 : Nat) (σ72 : Nat → Nat → Int32), (M_passYear_L72 n n72 i72 σ72) 6 = σ72 6 := by
  intro n72
  induction n72 with
  | zero => intros; rfl
  | succ n72 ih => intro i72 σ72; exact (ih (i72 + 1) (M_passYear_S72_0 n i72 σ72)).trans (M_passYear_S72_k6 n i72 σ72)
theorem M_passYear_S72_k7 (n : Nat) (i72 : Nat) (σ72 : Nat → Nat → Int32) : M_passYear_S72_0 n i72 σ72 7 = σ72 7 := by
  unfold M_passYear_S72_0
  by_cases z1 : (i72 / 4) = (i72 % 4)
  · refine Eq.trans (congrFun (if_pos z1) 7) ?_
    exact rfl
  · refine Eq.trans (congrFun (if_neg z1) 7) ?_
    by_cases z2 : (M_isClan_r σ72 (nI (i72 / 4))) = 0
    · refine Eq.trans (congrFun (if_pos z2) 7) ?_
      exact rfl
    · refine Eq.trans (congrFun (if_neg z2) 7) ?_
      by_cases z3 : (M_isClan_r σ72 (nI (i72 % 4))) = 0
      · refine Eq.trans (congrFun (if_pos z3) 7) ?_
        exact rfl
      · refine Eq.trans (congrFun (if_neg z3) 7) ?_
        exact (up2_n _ _ _ (by decide)).trans (M_paysNow_s_k7 σ72 (i72 / 4) (i72 % 4) (σ72 5 i72))
theorem M_passYear_L72_k7 (n : Nat) : ∀ (n72 i72 : Nat) (σ72 : Nat → Nat → Int32), (M_passYear_L72 n n72 i72 σ72) 7 = σ72 7 := by
  intro n72
  induction n72 with
  | zero => intros; rfl
  | succ n72 ih => intro i72 σ72; exact (ih (i72 + 1) (M_passYear_S72_0 n i72 σ72)).trans (M_passYear_S72_k7 n i72 σ72)
theorem M_passYear_S72_k8 (n : Nat) (i72 : Nat) (σ72 : Nat → Nat → Int32) : M_passYear_S72_0 n i72 σ72 8 = σ72 8 := by
  unfold M_passYear_S72_0
  by_cases z1 : (i72 / 4) = (i72 % 4)
  · refine Eq.trans (congrFun (if_pos z1) 8) ?_
    exact rfl
  · refine Eq.trans (congrFun (if_neg z1) 8) ?_
    by_cases z2 : (M_isClan_r σ72 (nI (i72 / 4))) = 0
    · refine Eq.trans (congrFun (if_pos z2) 8) ?_
      exact rfl
    · refine Eq.trans (congrFun (if_neg z2) 8) ?_
      by_cases z3 : (M_isClan_r σ72 (nI (i72 % 4))) = 0
      · refine Eq.trans (congrFun (if_pos z3) 8) ?_
        exact rfl
      · refine Eq.trans (congrFun (if_neg z3) 8) ?_
        exact (up2_n _ _ _ (by decide)).trans (M_paysNow_s_k8 σ72 (i72 / 4) (i72 % 4) (σ72 5 i72))
theorem M_passYear_L72_k8 (n : Nat) : ∀ (n72 i72 : Nat) (σ72 : Nat → Nat → Int32), (M_passYear_L72 n n72 i72 σ72) 8 = σ72 8 := by
  intro n72
  induction n72 with
  | zero => intros; rfl
  | succ n72 ih => intro i72 σ72; exact (ih (i72 + 1) (M_passYear_S72_0 n i72 σ72)).trans (M_passYear_S72_k8 n i72 σ72)
theorem M_passYear_S72_k9 (n : Nat) (i72 : Nat) (σ72 : Nat → Nat → Int32) : M_passYear_S72_0 n i72 σ72 9 = σ72 9 := by
  unfold M_passYear_S72_0
  by_cases z1 : (i72 / 4) = (i72 % 4)
  · refine Eq.trans (congrFun (if_pos z1) 9) ?_
    exact rfl
  · refine Eq.trans (congrFun (if_neg z1) 9) ?_
    by_cases z2 : (M_isClan_r σ72 (nI (i72 / 4))) = 0
    · refine Eq.trans (congrFun (if_pos z2) 9) ?_
      exact rfl
    · refine Eq.trans (congrFun (if_neg z2) 9) ?_
      by_cases z3 : (M_isClan_r σ72 (nI (i72 % 4))) = 0
      · refine Eq.trans (congrFun (if_pos z3) 9) ?_
        exact rfl
      · refine Eq.trans (congrFun (if_neg z3) 9) ?_
        exact (up2_n _ _ _ (by decide)).trans (M_paysNow_s_k9 σ72 (i72 / 4) (i72 % 4) (σ72 5 i72))
theorem M_passYear_L72_k9 (n : Nat) : ∀ (n72 i72 : Nat) (σ72 : Nat → Nat → Int32), (M_passYear_L72 n n72 i72 σ72) 9 = σ72 9 := by
  intro n72
  induction n72 with
  | zero => intros; rfl
  | succ n72 ih => intro i72 σ72; exact (ih (i72 + 1) (M_passYear_S72_0 n i72 σ72)).trans (M_passYear_S72_k9 n i72 σ72)
theorem M_passYear_S72_k10 (n : Nat) (i72 : Nat) (σ72 : Nat → Nat → Int32) : M_passYear_S72_0 n i72 σ72 10 = σ72 10 := by
  unfold M_passYear_S72_0
  by_cases z1 : (i72 / 4) = (i72 % 4)
  · refine Eq.trans (congrFun (if_pos z1) 10) ?_
    exact rfl
  · refine Eq.trans (congrFun (if_neg z1) 10) ?_
    by_cases z2 : (M_isClan_r σ72 (nI (i72 / 4))) = 0
    · refine Eq.trans (congrFun (if_pos z2) 10) ?_
      exact rfl
    · refine Eq.trans (congrFun (if_neg z2) 10) ?_
      by_cases z3 : (M_isClan_r σ72 (nI (i72 % 4))) = 0
      · refine Eq.trans (congrFun (if_pos z3) 10) ?_
        exact rfl
      · refine Eq.trans (congrFun (if_neg z3) 10) ?_
        exact (up2_n _ _ _ (by decide)).trans (M_paysNow_s_k10 σ72 (i72 / 4) (i72 % 4) (σ72 5 i72))
theorem M_passYear_L72_k10 (n : Nat) : ∀ (n72 i72 : Nat) (σ72 : Nat → Nat → Int32), (M_passYear_L72 n n72 i72 σ72) 10 = σ72 10 := by
  intro n72
  induction n72 with
  | zero => intros; rfl
  | succ n72 ih => intro i72 σ72; exact (ih (i72 + 1) (M_passYear_S72_0 n i72 σ72)).trans (M_passYear_S72_k10 n i72 σ72)
theorem M_passYear_S72_k11 (n : Nat) (i72 : Nat) (σ72 : Nat → Nat → Int32) : M_passYear_S72_0 n i72 σ72 11 = σ72 11 := by
  unfold M_passYear_S72_0
  by_cases z1 : (i72 / 4) = (i72 % 4)
  · refine Eq.trans (congrFun (if_pos z1) 11) ?_
    exact rfl
  · refine Eq.trans (congrFun (if_neg z1) 11) ?_
    by_cases z2 : (M_isClan_r σ72 (nI (i72 / 4))) = 0
    · refine Eq.trans (congrFun (if_pos z2) 11) ?_
      exact rfl
    · refine Eq.trans (congrFun (if_neg z2) 11) ?_
      by_cases z3 : (M_isClan_r σ72 (nI (i72 % 4))) = 0
      · refine Eq.trans (congrFun (if_pos z3) 11) ?_
        exact rfl
      · refine Eq.trans (congrFun (if_neg z3) 11) ?_
        exact (up2_n _ _ _ (by decide)).trans (M_paysNow_s_k11 σ72 (i72 / 4) (i72 % 4) (σ72 5 i72))
theorem M_passYear_L72_k11 (n : Nat) : ∀ (n72 i72 : Nat) (σ72 : Nat → Nat → Int32), (M_passYear_L72 n n72 i72 σ72) 11 = σ72 11 := by
  intro n72
  induction n72 with
  | zero => intros; rfl
  | succ n72 ih => intro i72 σ72; exact (ih (i72 + 1) (M_passYear_S72_0 n i72 σ72)).trans (M_passYear_S72_k11 n i72 σ72)
theorem M_passYear_S72_k12 (n : Nat) (i72 : Nat) (σ72 : Nat → Nat → Int32) : M_passYear_S72_0 n i72 σ72 12 = σ72 12 := by
  unfold M_passYear_S72_0
  by_cases z1 : (i72 / 4) = (i72 % 4)
  · refine Eq.trans (congrFun (if_pos z1) 12) ?_
    exact rfl
  · refine Eq.trans (congrFun (if_neg z1) 12) ?_
    by_cases z2 : (M_isClan_r σ72 (nI (i72 / 4))) = 0
    · refine Eq.trans (congrFun (if_pos z2) 12) ?_
      exact rfl
    · refine Eq.trans (congrFun (if_neg z2) 12) ?_
      by_cases z3 : (M_isClan_r σ72 (nI (i72 % 4))) = 0
      · refine Eq.trans (congrFun (if_pos z3) 12) ?_
        exact rfl
      · refine Eq.trans (congrFun (if_neg z3) 12) ?_
        exact (up2_n _ _ _ (by decide)).trans (M_paysNow_s_k12 σ72 (i72 / 4) (i72 % 4) (σ72 5 i72))
theorem M_passYear_L72_k12 (n : Nat) : ∀ (n72 i72 : Nat) (σ72 : Nat → Nat → Int32), (M_passYear_L72 n n72 i72 σ72) 12 = σ72 12 := by
  intro n72
  induction n72 with
  | zero => intros; rfl
  | succ n72 ih => intro i72 σ72; exact (ih (i72 + 1) (M_passYear_S72_0 n i72 σ72)).trans (M_passYear_S72_k12 n i72 σ72)
theorem M_passYear_S72_k13 (n : Nat) (i72 : Nat) (σ72 : Nat → Nat → Int32) : M_passYear_S72_0 n i72 σ72 13 = σ72 13 := by
  unfold M_passYear_S72_0
  by_cases z1 : (i72 / 4) = (i72 % 4)
  · refine Eq.trans (congrFun (if_pos z1) 13) ?_
    exact rfl
  · refine Eq.trans (congrFun (if_neg z1) 13) ?_
    by_cases z2 : (M_isClan_r σ72 (nI (i72 / 4))) = 0
    · refine Eq.trans (congrFun (if_pos z2) 13) ?_
      exact rfl
    · refine Eq.trans (congrFun (if_neg z2) 13) ?_
      by_cases z3 : (M_isClan_r σ72 (nI (i72 % 4))) = 0
      · refine Eq.trans (congrFun (if_pos z3) 13) ?_
        exact rfl
      · refine Eq.trans (congrFun (if_neg z3) 13) ?_
        exact (up2_n _ _ _ (by decide)).trans (M_paysNow_s_k13 σ72 (i72 / 4) (i72 % 4) (σ72 5 i72))
theorem M_passYear_L72_k13 (n : Nat) : ∀ (n72 i72 : Nat) (σ72 : Nat → Nat → Int32), (M_passYear_L72 n n72 i72 σ72) 13 = σ72 13 := by
  intro n72
  induction n72 with
  | zero => intros; rfl
  | succ n72 ih => intro i72 σ72; exact (ih (i72 + 1) (M_passYear_S72_0 n i72 σ72)).trans (M_passYear_S72_k13 n i72 σ72)
theorem M_passYear_S72_k14 (n : Nat) (i72 : Nat) (σ72 : Nat → Nat → Int32) : M_passYear_S72_0 n i72 σ72 14 = σ72 14 := by
  unfold M_passYear_S72_0
  by_cases z1 : (i72 / 4) = (i72 % 4)
  · refine Eq.trans (congrFun (if_pos z1) 14) ?_
    exact rfl
  · refine Eq.trans (congrFun (if_neg z1) 14) ?_
    by_cases z2 : (M_isClan_r σ72 (nI (i72 / 4))) = 0
    · refine Eq.trans (congrFun (if_pos z2) 14) ?_
      exact rfl
    · refine Eq.trans (congrFun (if_neg z2) 14) ?_
      by_cases z3 : (M_isClan_r σ72 (nI (i72 % 4))) = 0
      · refine Eq.trans (congrFun (if_pos z3) 14) ?_
        exact rfl
      · refine Eq.trans (congrFun (if_neg z3) 14) ?_
        exact (up2_n _ _ _ (by decide)).trans (M_paysNow_s_k14 σ72 (i72 / 4) (i72 % 4) (σ72 5 i72))
theorem M_passYear_L72_k14 (n : Nat) : ∀ (n72 i72 : Nat) (σ72 : Nat → Nat → Int32), (M_passYear_L72 n n72 i72 σ72) 14 = σ72 14 := by
  intro n72
  induction n72 with
  | zero => intros; rfl
  | succ n72 ih => intro i72 σ72; exact (ih (i72 + 1) (M_passYear_S72_0 n i72 σ72)).trans (M_passYear_S72_k14 n i72 σ72)
theorem M_passYear_S72_k15 (n : Nat) (i72 : Nat) (σ72 : Nat → Nat → Int32) : M_passYear_S72_0 n i72 σ72 15 = σ72 15 := by
  unfold M_passYear_S72_0
  by_cases z1 : (i72 / 4) = (i72 % 4)
  · refine Eq.trans (congrFun (if_pos z1) 15) ?_
    exact rfl
  · refine Eq.trans (congrFun (if_neg z1) 15) ?_
    by_cases z2 : (M_isClan_r σ72 (nI (i72 / 4))) = 0
    · refine Eq.trans (congrFun (if_pos z2) 15) ?_
      exact rfl
    · refine Eq.trans (congrFun (if_neg z2) 15) ?_
      by_cases z3 : (M_isClan_r σ72 (nI (i72 % 4))) = 0
      · refine Eq.trans (congrFun (if_pos z3) 15) ?_
        exact rfl
      · refine Eq.trans (congrFun (if_neg z3) 15) ?_
        exact (up2_n _ _ _ (by decide)).trans (M_paysNow_s_k15 σ72 (i72 / 4) (i72 % 4) (σ72 5 i72))
theorem M_passYear_L72_k15 (n : Nat) : ∀ (n72 i72 : Nat) (σ72 : Nat → Nat → Int32), (M_passYear_L72 n n72 i72 σ72) 15 = σ72 15 := by
  intro n72
  induction n72 with
  | zero => intros; rfl
  | succ n72 ih => intro i72 σ72; exact (ih (i72 + 1) (M_passYear_S72_0 n i72 σ72)).trans (M_passYear_S72_k15 n i72 σ72)
theorem M_passYear_S72_k16 (n : Nat) (i72 : Nat) (σ72 : Nat → Nat → Int32) : M_passYear_S72_0 n i72 σ72 16 = σ72 16 := by
  unfold M_passYear_S72_0
  by_cases z1 : (i72 / 4) = (i72 % 4)
  · refine Eq.trans (congrFun (if_pos z1) 16) ?_
    exact rfl
  · refine Eq.trans (congrFun (if_neg z1) 16) ?_
    by_cases z2 : (M_isClan_r σ72 (nI (i72 / 4))) = 0
    · refine Eq.trans (congrFun (if_pos z2) 16) ?_
      exact rfl
    · refine Eq.trans (congrFun (if_neg z2) 16) ?_
      by_cases z3 : (M_isClan_r σ72 (nI (i72 % 4))) = 0
      · refine Eq.trans (congrFun (if_pos z3) 16) ?_
        exact rfl
      · refine Eq.trans (congrFun (if_neg z3) 16) ?_
        exact (up2_n _ _ _ (by decide)).trans (M_paysNow_s_k16 σ72 (i72 / 4) (i72 % 4) (σ72 5 i72))
theorem M_passYear_L72_k16 (n : Nat) : ∀ (n72 i72 : Nat) (σ72 : Nat → Nat → Int32), (M_passYear_L72 n n72 i72 σ72) 16 = σ72 16 := by
  intro n72
  induction n72 with
  | zero => intros; rfl
  | succ n72 ih => intro i72 σ72; exact (ih (i72 + 1) (M_passYear_S72_0 n i72 σ72)).trans (M_passYear_S72_k16 n i72 σ72)
theorem M_passYear_S72_k17 (n : Nat) (i72 : Nat) (σ72 : Nat → Nat → Int32) : M_passYear_S72_0 n i72 σ72 17 = σ72 17 := by
  unfold M_passYear_S72_0
  by_cases z1 : (i72 / 4) = (i72 % 4)
  · refine Eq.trans (congrFun (if_pos z1) 17) ?_
    exact rfl
  · refine Eq.trans (congrFun (if_neg z1) 17) ?_
    by_cases z2 : (M_isClan_r σ72 (nI (i72 / 4))) = 0
    · refine Eq.trans (congrFun (if_pos z2) 17) ?_
      exact rfl
    · refine Eq.trans (congrFun (if_neg z2) 17) ?_
      by_cases z3 : (M_isClan_r σ72 (nI (i72 % 4))) = 0
      · refine Eq.trans (congrFun (if_pos z3) 17) ?_
        exact rfl
      · refine Eq.trans (congrFun (if_neg z3) 17) ?_
        exact (up2_n _ _ _ (by decide)).trans (M_paysNow_s_k17 σ72 (i72 / 4) (i72 % 4) (σ72 5 i72))
theorem M_passYear_L72_k17 (n : Nat) : ∀ (n72 i72 : Nat) (σ72 : Nat → Nat → Int32), (M_passYear_L72 n n72 i72 σ72) 17 = σ72 17 := by
  intro n72
  induction n72 with
  | zero => intros; rfl
  | succ n72 ih => intro i72 σ72; exact (ih (i72 + 1) (M_passYear_S72_0 n i72 σ72)).trans (M_passYear_S72_k17 n i72 σ72)
theorem M_passYear_S72_k18 (n : Nat) (i72 : Nat) (σ72 : Nat → Nat → Int32) : M_passYear_S72_0 n i72 σ72 18 = σ72 18 := by
  unfold M_passYear_S72_0
  by_cases z1 : (i72 / 4) = (i72 % 4)
  · refine Eq.trans (congrFun (if_pos z1) 18) ?_
    exact rfl
  · refine Eq.trans (congrFun (if_neg z1) 18) ?_
    by_cases z2 : (M_isClan_r σ72 (nI (i72 / 4))) = 0
    · refine Eq.trans (congrFun (if_pos z2) 18) ?_
      exact rfl
    · refine Eq.trans (congrFun (if_neg z2) 18) ?_
      by_cases z3 : (M_isClan_r σ72 (nI (i72 % 4))) = 0
      · refine Eq.trans (congrFun (if_pos z3) 18) ?_
        exact rfl
      · refine Eq.trans (congrFun (if_neg z3) 18) ?_
        exact (up2_n _ _ _ (by decide)).trans (M_paysNow_s_k18 σ72 (i72 / 4) (i72 % 4) (σ72 5 i72))
theorem M_passYear_L72_k18 (n : Nat) : ∀ (n72 i72 : Nat) (σ72 : Nat → Nat → Int32), (M_passYear_L72 n n72 i72 σ72) 18 = σ72 18 := by
  intro n72
  induction n72 with
  | zero => intros; rfl
  | succ n72 ih => intro i72 σ72; exact (ih (i72 + 1) (M_passYear_S72_0 n i72 σ72)).trans (M_passYear_S72_k18 n i72 σ72)
theorem M_passYear_S72_k19 (n : Nat) (i72 : Nat) (σ72 : Nat → Nat → Int32) : M_passYear_S72_0 n i72 σ72 19 = σ72 19 := by
  unfold M_passYear_S72_0
  by_cases z1 : (i72 / 4) = (i72 % 4)
  · refine Eq.trans (congrFun (if_pos z1) 19) ?_
    exact rfl
  · refine Eq.trans (congrFun (if_neg z1) 19) ?_
    by_cases z2 : (M_isClan_r σ72 (nI (i72 / 4))) = 0
    · refine Eq.trans (congrFun (if_pos z2) 19) ?_
      exact rfl
    · refine Eq.trans (congrFun (if_neg z2) 19) ?_
      by_cases z3 : (M_isClan_r σ72 (nI (i72 % 4))) = 0
      · refine Eq.trans (congrFun (if_pos z3) 19) ?_
        exact rfl
      · refine Eq.trans (congrFun (if_neg z3) 19) ?_
        exact (up2_n _ _ _ (by decide)).trans (M_paysNow_s_k19 σ72 (i72 / 4) (i72 % 4) (σ72 5 i72))
theorem M_passYear_L72_k19 (n : Nat) : ∀ (n72 i72 : Nat) (σ72 : Nat → Nat → Int32), (M_passYear_L72 n n72 i72 σ72) 19 = σ72 19 := by
  intro n72
  induction n72 with
  | zero => intros; rfl
  | succ n72 ih => intro i72 σ72; exact (ih (i72 + 1) (M_passYear_S72_0 n i72 σ72)).trans (M_passYear_S72_k19 n i72 σ72)
def M_passYear_s (σ : Nat → Nat → Int32) (n : Nat) : Nat → Nat → Int32 := (M_passYear_L72 n 16 0 (M_passYear_L2 n n 0 σ))
theorem M_passYear_s_k0 (σ : Nat → Nat → Int32) (n : Nat) : M_passYear_s σ n 0 = σ 0 := by
  unfold M_passYear_s
  exact (M_passYear_L72_k0 n 16 0 (M_passYear_L2 n n 0 σ)).trans (M_passYear_L2_k0 n n 0 σ)
theorem M_passYear_s_k1 (σ : Nat → Nat → Int32) (n : Nat) : M_passYear_s σ n 1 = σ 1 := by
  unfold M_passYear_s
  exact (M_passYear_L72_k1 n 16 0 (M_passYear_L2 n n 0 σ)).trans (M_passYear_L2_k1 n n 0 σ)
theorem M_passYear_s_k2 (σ : Nat → Nat → Int32) (n : Nat) : M_passYear_s σ n 2 = σ 2 := by
  unfold M_passYear_s
  exact (M_passYear_L72_k2 n 16 0 (M_passYear_L2 n n 0 σ)).trans (M_passYear_L2_k2 n n 0 σ)
theorem M_passYear_s_k3 (σ : Nat → Nat → Int32) (n : Nat) : M_passYear_s σ n 3 = σ 3 := by
  unfold M_passYear_s
  exact (M_passYear_L72_k3 n 16 0 (M_passYear_L2 n n 0 σ)).trans (M_passYear_L2_k3 n n 0 σ)
theorem M_passYear_s_k6 (σ : Nat → Nat → Int32) (n : Nat) : M_passYear_s σ n 6 = σ 6 := by
  unfold M_passYear_s
  exact (M_passYear_L72_k6 n 16 0 (M_passYear_L2 n n 0 σ)).trans (M_passYear_L2_k6 n n 0 σ)
theorem M_passYear_s_k7 (σ : Nat → Nat → Int32) (n : Nat) : M_passYear_s σ n 7 = σ 7 := by
  unfold M_passYear_s
  exact (M_passYear_L72_k7 n 16 0 (M_passYear_L2 n n 0 σ)).trans (M_passYear_L2_k7 n n 0 σ)
theorem M_passYear_s_k8 (σ : Nat → Nat → Int32) (n : Nat) : M_passYear_s σ n 8 = σ 8 := by
  unfold M_passYear_s
  exact (M_passYear_L72_k8 n 16 0 (M_passYear_L2 n n 0 σ)).trans (M_passYear_L2_k8 n n 0 σ)
theorem M_passYear_s_k9 (σ : Nat → Nat → Int32) (n : Nat) : M_passYear_s σ n 9 = σ 9 := by
  unfold M_passYear_s
  exact (M_passYear_L72_k9 n 16 0 (M_passYear_L2 n n 0 σ)).trans (M_passYear_L2_k9 n n 0 σ)
theorem M_passYear_s_k10 (σ : Nat → Nat → Int32) (n : Nat) : M_passYear_s σ n 10 = σ 10 := by
  unfold M_passYear_s
  exact (M_passYear_L72_k10 n 16 0 (M_passYear_L2 n n 0 σ)).trans (M_passYear_L2_k10 n n 0 σ)
theorem M_passYear_s_k11 (σ : Nat → Nat → Int32) (n : Nat) : M_passYear_s σ n 11 = σ 11 := by
  unfold M_passYear_s
  exact (M_passYear_L72_k11 n 16 0 (M_passYear_L2 n n 0 σ)).trans (M_passYear_L2_k11 n n 0 σ)
theorem M_passYear_s_k12 (σ : Nat → Nat → Int32) (n : Nat) : M_passYear_s σ n 12 = σ 12 := by
  unfold M_passYear_s
  exact (M_passYear_L72_k12 n 16 0 (M_passYear_L2 n n 0 σ)).trans (M_passYear_L2_k12 n n 0 σ)
theorem M_passYear_s_k13 (σ : Nat → Nat → Int32) (n : Nat) : M_passYear_s σ n 13 = σ 13 := by
  unfold M_passYear_s
  exact (M_passYear_L72_k13 n 16 0 (M_passYear_L2 n n 0 σ)).trans (M_passYear_L2_k13 n n 0 σ)
theorem M_passYear_s_k14 (σ : Nat → Nat → Int32) (n : Nat) : M_passYear_s σ n 14 = σ 14 := by
  unfold M_passYear_s
  exact (M_passYear_L72_k14 n 16 0 (M_passYear_L2 n n 0 σ)).trans (M_passYear_L2_k14 n n 0 σ)
theorem M_passYear_s_k15 (σ : Nat → Nat → Int32) (n : Nat) : M_passYear_s σ n 15 = σ 15 := by
  unfold M_passYear_s
  exact (M_passYear_L72_k15 n 16 0 (M_passYear_L2 n n 0 σ)).trans (M_passYear_L2_k15 n n 0 σ)
theorem M_passYear_s_k16 (σ : Nat → Nat → Int32) (n : Nat) : M_passYear_s σ n 16 = σ 16 := by
  unfold M_passYear_s
  exact (M_passYear_L72_k16 n 16 0 (M_passYear_L2 n n 0 σ)).trans (M_passYear_L2_k16 n n 0 σ)
theorem M_passYear_s_k17 (σ : Nat → Nat → Int32) (n : Nat) : M_passYear_s σ n 17 = σ 17 := by
  unfold M_passYear_s
  exact (M_passYear_L72_k17 n 16 0 (M_passYear_L2 n n 0 σ)).trans (M_passYear_L2_k17 n n 0 σ)
theorem M_passYear_s_k18 (σ : Nat → Nat → Int32) (n : Nat) : M_passYear_s σ n 18 = σ 18 := by
  unfold M_passYear_s
  exact (M_passYear_L72_k18 n 16 0 (M_passYear_L2 n n 0 σ)).trans (M_passYear_L2_k18 n n 0 σ)
theorem M_passYear_s_k19 (σ : Nat → Nat → Int32) (n : Nat) : M_passYear_s σ n 19 = σ 19 := by
  unfold M_passYear_s
  exact (M_passYear_L72_k19 n 16 0 (M_passYear_L2 n n 0 σ)).trans (M_passYear_L2_k19 n n 0 σ)
set_option maxHeartbeats 4000000 in
set_option maxRecDepth 100000 in
theorem c_M_passYear (l : Launch) (D : va_G) (cI : ClassId) (a : Nat → Nat) (σ : Nat → Nat → Int32) (h : Int64) (n : Nat) (hn : σ 0 6 = nI n) (hnb : n ≤ 4) : gV l D [(cI, .int)] yX12_passYear wsX12_passYear 3 [.ref (a 0)] (wM cI a σ h)  (wM cI a (M_passYear_s σ n) h) := by
  refine g_start (cc := cX12_passYear) (maxL := 4) (ret := none) (Qc := gQv D [(cI, .int)] (wM cI a (M_passYear_s σ n) h)) (by decide) rfl (Nat.le_of_ble_eq_true rfl) ?_
  intro p e s m below meth C A ls S hr hlk hw hl
  obtain ⟨hx, hb, hml, hown, hts⟩ := id S
  have hinX12 : ∀ x ∈ u_ws RX12 TX12 38, x ∈ wsX12_passYear := fun x h => List.mem_cons_of_mem _ (List.mem_append_right _ h)
  have lk0 : Cond.fieldLink RX12 105 "CowsOwedModel" "clans" "I" ∈ wsX12_passYear := by decide +kernel
  have lk1 : Cond.fieldLink RX12 19 "CowsOwedModel" "herds" "[I" ∈ wsX12_passYear := by decide +kernel
  have lk2 : Cond.fieldLink RX12 22 "CowsOwedModel" "debts" "[I" ∈ wsX12_passYear := by decide +kernel
  have hl : lv_has ls 4 [(0, .ref (a 0))] := hl
  refine lv_iconst (v := 0) hx hb dX12_passYear_0 (by decide) ?_
  refine lv_istore_n (lv' := [(1, .int 0), (0, .ref (a 0))]) hx hb dX12_passYear_1 rfl hl (by decide) rfl (fun ls hl => ?_)
  have L2 : ∀ (n2 i2 : Nat) (σ2 : Nat → Nat → Int32) (H : Heap) (locs : List Loc) (ls : Array Slot), i2 + n2 = n → σ2 0 = σ 0 → M_passYear_L2 n n2 i2 σ2 = M_passYear_L2 n n 0 σ → gw D [(cI, .int)] A s H locs (wM cI a σ2 h) → lv_has ls 4 [(1, .int (nI i2)), (0, .ref (a 0))] → W p l e (gR 3) s m ([.ref (a 0)] : List Value).toArray below meth C H locs 0 0 (MQ below (gQv D [(cI, .int)] (wM cI a (M_passYear_s σ n) h) A) ([.ref (a 0)] : List Value).toArray s 0 0 A) (F0 m 2 ls []) := by
    intro n2
    induction n2 with
    | zero =>
      intro i2 σ2 H locs ls hi2 k2_0 hF2 hw hl
      refine lv_iload_n hx hb dX12_passYear_2 rfl (lv_at hl 0 rfl) ?_
      refine lv_aload_n hx hb dX12_passYear_3 rfl (lv_at hl 1 rfl) ?_
      refine g_get S hw hinX12 (fs := fM a σ2 h) 0 rfl rfl 6 (by decide) lk0 (v := .int (nI n)) (congrArg (fun z => some (Value.int z)) ((congrFun k2_0 6).trans (hn))) dX12_passYear_4 ?_
      refine ln_ge (x := i2) (y := n) hx hb (by omega) (by omega) (tgt := 70) dX12_passYear_7 (by decide) (fun c_x => ?_) (fun c_x => absurd (by omega) c_x)
      have hz2 : n = i2 := by omega
      subst hz2
      have e2_0 : (M_passYear_L2 n n 0 σ) = σ2 := hF2.symm
      subst e2_0
      refine lv_iconst (v := 0) hx hb dX12_passYear_70 (by decide) ?_
      refine lv_istore_n (lv' := [(1, .int 0), (0, .ref (a 0))]) hx hb dX12_passYear_71 rfl hl (by decide) rfl (fun ls hl => ?_)
      have L72 : ∀ (n72 i72 : Nat) (σ72 : Nat → Nat → Int32) (H : Heap) (locs : List Loc) (ls : Array Slot), i72 + n72 = 16 → σ72 0 = (M_passYear_L2 n n 0 σ) 0 → M_passYear_L72 n n72 i72 σ72 = M_passYear_L72 n 16 0 (M_passYear_L2 n n 0 σ) → gw D [(cI, .int)] A s H locs (wM cI a σ72 h) → lv_has ls 4 [(1, .int (nI i72)), (0, .ref (a 0))] → W p l e (gR 3) s m ([.ref (a 0)] : List Value).toArray below meth C H locs 0 0 (MQ below (gQv D [(cI, .int)] (wM cI a (M_passYear_s σ n) h) A) ([.ref (a 0)] : List Value).toArray s 0 0 A) (F0 m 72 ls []) := by
        intro n72
        induction n72 with
        | zero =>
          intro i72 σ72 H locs ls hi72 k72_0 hF72 hw hl
          refine lv_iload_n hx hb dX12_passYear_72 rfl (lv_at hl 0 rfl) ?_
          refine lv_bipush (v := 16) hx hb dX12_passYear_73 (by decide) ?_
          refine ln_ge (x := i72) (y := 16) hx hb (by omega) (by omega) (tgt := 134) dX12_passYear_75 (by decide) (fun c_x => ?_) (fun c_x => absurd (by omega) c_x)
          have hz72 : 16 = i72 := by omega
          subst hz72
          have e72_0 : (M_passYear_L72 n 16 0 (M_passYear_L2 n n 0 σ)) = σ72 := hF72.symm
          subst e72_0
          exact g_vret S hr hlk hw (by simp only [M_passYear_s]) dX12_passYear_134
        | succ n72 ih72 =>
          intro i72 σ72 H locs ls hi72 k72_0 hF72 hw hl
          refine lv_iload_n hx hb dX12_passYear_72 rfl (lv_at hl 0 rfl) ?_
          refine lv_bipush (v := 16) hx hb dX12_passYear_73 (by decide) ?_
          refine ln_ge (x := i72) (y := 16) hx hb (by omega) (by omega) (tgt := 134) dX12_passYear_75 (by decide) (fun c_x => absurd c_x (by omega)) (fun c_x => ?_)
          refine lv_iload_n hx hb dX12_passYear_78 rfl (lv_at hl 0 rfl) ?_
          refine lv_iconst (v := 4) hx hb dX12_passYear_79 (by decide) ?_
          refine ln_idiv (x := i72) (y := 4) hx hb (by omega) (by omega) (by omega) dX12_passYear_80 ?_
          refine lv_istore_n (lv' := [(2, .int (nI (i72 / 4))), (1, .int (nI i72)), (0, .ref (a 0))]) hx hb dX12_passYear_81 rfl hl (by decide) rfl (fun ls hl => ?_)
          refine lv_iload_n hx hb dX12_passYear_82 rfl (lv_at hl 1 rfl) ?_
          refine lv_iconst (v := 4) hx hb dX12_passYear_83 (by decide) ?_
          refine ln_irem (x := i72) (y := 4) hx hb (by omega) (by omega) (by omega) dX12_passYear_84 ?_
          refine lv_istore_n (lv' := [(3, .int (nI (i72 % 4))), (2, .int (nI (i72 / 4))), (1, .int (nI i72)), (0, .ref (a 0))]) hx hb dX12_passYear_85 rfl hl (by decide) rfl (fun ls hl => ?_)
          refine lv_iload_n hx hb dX12_passYear_86 rfl (lv_at hl 1 rfl) ?_
          refine lv_iload_n hx hb dX12_passYear_87 rfl (lv_at hl 0 rfl) ?_
          refine ln_eq (x := (i72 / 4)) (y := (i72 % 4)) hx hb (by omega) (by omega) (tgt := 128) dX12_passYear_88 (by decide) (fun c_6 => ?_) (fun c_6 => ?_)
          · refine lv_iinc (v := nI (i72 + 1)) (lv' := [(1, .int (nI (i72 + 1))), (3, .int (nI (i72 % 4))), (2, .int (nI (i72 / 4))), (0, .ref (a 0))]) hx hb dX12_passYear_128 hl (k := 2) rfl (nI_1 _) (by decide) rfl (fun ls hl => ?_)
            refine lv_goto (tgt := 72) hx hb dX12_passYear_131 (by decide) ?_
            exact ih72 (i72 + 1) σ72 _ _ _ (by omega) (k72_0) (by have q := hF72; simp only [M_passYear_L72, M_passYear_S72_0, if_pos c_6] at q; exact q) hw (lv_sub hl [0, 3] rfl)
          · refine lv_aload_n hx hb dX12_passYear_91 rfl (lv_at hl 3 rfl) ?_
            refine lv_iload_n hx hb dX12_passYear_92 rfl (lv_at hl 1 rfl) ?_
            refine g_callVi S hw (c_M_isClan l D cI a σ72 h (nI (i72 / 4))) gX12_passYear_X12_isClan rfl 0 rfl rfl 1 rfl (by decide +kernel) (by decide) (by decide) hl.1 rfl (Nat.le_of_ble_eq_true rfl) dX12_passYear_93 (fun H locs hw => ?_)
            refine lv_if_eq hx hb (tgt := 128) dX12_passYear_96 (by decide) (fun c_7 => ?_) (fun c_7 => ?_)
            · refine lv_iinc (v := nI (i72 + 1)) (lv' := [(1, .int (nI (i72 + 1))), (3, .int (nI (i72 % 4))), (2, .int (nI (i72 / 4))), (0, .ref (a 0))]) hx hb dX12_passYear_128 hl (k := 2) rfl (nI_1 _) (by decide) rfl (fun ls hl => ?_)
              refine lv_goto (tgt := 72) hx hb dX12_passYear_131 (by decide) ?_
              exact ih72 (i72 + 1) σ72 _ _ _ (by omega) (k72_0) (by have q := hF72; simp only [M_passYear_L72, M_passYear_S72_0, if_neg c_6, if_pos c_7] at q; exact q) hw (lv_sub hl [0, 3] rfl)
            · refine lv_aload_n hx hb dX12_passYear_99 rfl (lv_at hl 3 rfl) ?_
              refine lv_iload_n hx hb dX12_passYear_100 rfl (lv_at hl 0 rfl) ?_
              refine g_callVi S hw (c_M_isClan l D cI a σ72 h (nI (i72 % 4))) gX12_passYear_X12_isClan rfl 0 rfl rfl 1 rfl (by decide +kernel) (by decide) (by decide) hl.1 rfl (Nat.le_of_ble_eq_true rfl) dX12_passYear_101 (fun H locs hw => ?_)
              refine lv_if_eq hx hb (tgt := 128) dX12_passYear_104 (by decide) (fun c_8 => ?_) (fun c_8 => ?_)
              · refine lv_iinc (v := nI (i72 + 1)) (lv' := [(1, .int (nI (i72 + 1))), (3, .int (nI (i72 % 4))), (2, .int (nI (i72 / 4))), (0, .ref (a 0))]) hx hb dX12_passYear_128 hl (k := 2) rfl (nI_1 _) (by decide) rfl (fun ls hl => ?_)
                refine lv_goto (tgt := 72) hx hb dX12_passYear_131 (by decide) ?_
                exact ih72 (i72 + 1) σ72 _ _ _ (by omega) (k72_0) (by have q := hF72; simp only [M_passYear_L72, M_passYear_S72_0, if_neg c_6, if_neg c_7, if_pos c_8] at q; exact q) hw (lv_sub hl [0, 3] rfl)
              · refine lv_aload_n hx hb dX12_passYear_107 rfl (lv_at hl 3 rfl) ?_
                refine g_get S hw hinX12 (fs := fM a σ72 h) 0 rfl rfl 12 (by decide) lk2 (v := .ref (a 5)) rfl dX12_passYear_108 ?_
                refine lv_iload_n hx hb dX12_passYear_111 rfl (lv_at hl 2 rfl) ?_
                refine lv_dup2_11 hx hb dX12_passYear_112 rfl rfl ?_
                refine g_iald S hw (f := σ72 5) (i := i72) (x := σ72 5 i72) 5 0 rfl rfl (by omega) (by decide) rfl dX12_passYear_113 ?_
                refine lv_aload_n hx hb dX12_passYear_114 rfl (lv_at hl 3 rfl) ?_
                refine lv_iload_n hx hb dX12_passYear_115 rfl (lv_at hl 1 rfl) ?_
                refine lv_iload_n hx hb dX12_passYear_116 rfl (lv_at hl 0 rfl) ?_
                refine lv_aload_n hx hb dX12_passYear_117 rfl (lv_at hl 3 rfl) ?_
                refine g_get S hw hinX12 (fs := fM a σ72 h) 0 rfl rfl 12 (by decide) lk2 (v := .ref (a 5)) rfl dX12_passYear_118 ?_
                refine lv_iload_n hx hb dX12_passYear_121 rfl (lv_at hl 2 rfl) ?_
                refine g_iald S hw (f := σ72 5) (i := i72) (x := σ72 5 i72) 5 0 rfl rfl (by omega) (by decide) rfl dX12_passYear_122 ?_
                refine g_callVi S hw (c_M_paysNow l D cI a σ72 h (i72 / 4) (i72 % 4) (σ72 5 i72) (by omega) (by omega)) gX12_passYear_X12_paysNow rfl 0 rfl rfl 3 rfl (by decide +kernel) (by decide) (by decide) hl.1 rfl (Nat.le_of_ble_eq_true rfl) dX12_passYear_123 (fun H locs hw => ?_)
                refine lv_isub hx hb dX12_passYear_126 ?_
                refine g_iast S hw (f := (M_paysNow_s σ72 (i72 / 4) (i72 % 4) (σ72 5 i72)) 5) (i := i72) 5 0 rfl rfl (by omega) (by decide) (w2 := wM cI a (up2 (M_paysNow_s σ72 (i72 / 4) (i72 % 4) (σ72 5 i72)) 5 i72 ((σ72 5 i72) - (M_paysNow_r σ72 (i72 / 4) (i72 % 4) (σ72 5 i72)))) h) (wM_a5 _ _ _ _ _ _) dX12_passYear_127 (fun H locs hw => ?_)
                refine lv_iinc (v := nI (i72 + 1)) (lv' := [(1, .int (nI (i72 + 1))), (3, .int (nI (i72 % 4))), (2, .int (nI (i72 / 4))), (0, .ref (a 0))]) hx hb dX12_passYear_128 hl (k := 2) rfl (nI_1 _) (by decide) rfl (fun ls hl => ?_)
                refine lv_goto (tgt := 72) hx hb dX12_passYear_131 (by decide) ?_
                exact ih72 (i72 + 1) (up2 (M_paysNow_s σ72 (i72 / 4) (i72 % 4) (σ72 5 i72)) 5 i72 ((σ72 5 i72) - (M_paysNow_r σ72 (i72 / 4) (i72 % 4) (σ72 5 i72)))) _ _ _ (by omega) ((up2_n _ _ _ (by decide)).trans ((M_paysNow_s_k0 σ72 (i72 / 4) (i72 % 4) (σ72 5 i72)).trans (k72_0))) (by have q := hF72; simp only [M_passYear_L72, M_passYear_S72_0, if_neg c_6, if_neg c_7, if_neg c_8] at q; exact q) hw (lv_sub hl [0, 3] rfl)
      exact L72 16 0 (M_passYear_L2 n n 0 σ) _ _ _ (by omega) rfl rfl hw (lv_sub hl [0, 1] rfl)
    | succ n2 ih2 =>
      intro i2 σ2 H locs ls hi2 k2_0 hF2 hw hl
      refine lv_iload_n hx hb dX12_passYear_2 rfl (lv_at hl 0 rfl) ?_
      refine lv_aload_n hx hb dX12_passYear_3 rfl (lv_at hl 1 rfl) ?_
      refine g_get S hw hinX12 (fs := fM a σ2 h) 0 rfl rfl 6 (by decide) lk0 (v := .int (nI n)) (congrArg (fun z => some (Value.int z)) ((congrFun k2_0 6).trans (hn))) dX12_passYear_4 ?_
      refine ln_ge (x := i2) (y := n) hx hb (by omega) (by omega) (tgt := 70) dX12_passYear_7 (by decide) (fun c_x => absurd c_x (by omega)) (fun c_x => ?_)
      refine lv_aload_n hx hb dX12_passYear_10 rfl (lv_at hl 1 rfl) ?_
      refine g_get S hw hinX12 (fs := fM a σ2 h) 0 rfl rfl 11 (by decide) lk1 (v := .ref (a 4)) rfl dX12_passYear_11 ?_
      refine lv_iload_n hx hb dX12_passYear_14 rfl (lv_at hl 0 rfl) ?_
      refine g_iald S hw (f := σ2 4) (i := i2) (x := σ2 4 i2) 4 0 rfl rfl (by omega) (by decide) rfl dX12_passYear_15 ?_
      refine lv_aload_n hx hb dX12_passYear_16 rfl (lv_at hl 1 rfl) ?_
      refine g_get S hw hinX12 (fs := fM a σ2 h) 0 rfl rfl 11 (by decide) lk1 (v := .ref (a 4)) rfl dX12_passYear_17 ?_
      refine lv_iload_n hx hb dX12_passYear_20 rfl (lv_at hl 0 rfl) ?_
      refine g_iald S hw (f := σ2 4) (i := i2) (x := σ2 4 i2) 4 0 rfl rfl (by omega) (by decide) rfl dX12_passYear_21 ?_
      refine lv_iconst (v := 2) hx hb dX12_passYear_22 (by decide) ?_
      refine lv_idiv hx hb dX12_passYear_23 (by decide) ?_
      refine lv_iadd hx hb dX12_passYear_24 ?_
      refine lv_istore_n (lv' := [(2, .int ((σ2 4 i2) + ((σ2 4 i2) / 2))), (1, .int (nI i2)), (0, .ref (a 0))]) hx hb dX12_passYear_25 rfl hl (by decide) rfl (fun ls hl => ?_)
      refine lv_aload_n hx hb dX12_passYear_26 rfl (lv_at hl 2 rfl) ?_
      refine g_get S hw hinX12 (fs := fM a σ2 h) 0 rfl rfl 11 (by decide) lk1 (v := .ref (a 4)) rfl dX12_passYear_27 ?_
      refine lv_iload_n hx hb dX12_passYear_30 rfl (lv_at hl 1 rfl) ?_
      refine lv_aload_n hx hb dX12_passYear_31 rfl (lv_at hl 2 rfl) ?_
      refine g_get S hw hinX12 (fs := fM a σ2 h) 0 rfl rfl 11 (by decide) lk1 (v := .ref (a 4)) rfl dX12_passYear_32 ?_
      refine lv_iload_n hx hb dX12_passYear_35 rfl (lv_at hl 1 rfl) ?_
      refine g_iald S hw (f := σ2 4) (i := i2) (x := σ2 4 i2) 4 0 rfl rfl (by omega) (by decide) rfl dX12_passYear_36 ?_
      refine lv_bipush (v := 99) hx hb dX12_passYear_37 (by decide) ?_
      refine lv_icmp_le hx hb (tgt := 51) dX12_passYear_39 (by decide) (fun c_2 => ?_) (fun c_2 => ?_)
      · refine lv_iload_n hx hb dX12_passYear_51 rfl (lv_at hl 0 rfl) ?_
        refine lv_bipush (v := 99) hx hb dX12_passYear_52 (by decide) ?_
        refine lv_icmp_le hx hb (tgt := 62) dX12_passYear_54 (by decide) (fun c_3 => ?_) (fun c_3 => ?_)
        · refine lv_iload_n hx hb dX12_passYear_62 rfl (lv_at hl 0 rfl) ?_
          refine g_iast S hw (f := σ2 4) (i := i2) 4 0 rfl rfl (by omega) (by decide) (w2 := wM cI a (up2 σ2 4 i2 ((σ2 4 i2) + ((σ2 4 i2) / 2))) h) (wM_a4 _ _ _ _ _ _) dX12_passYear_63 (fun H locs hw => ?_)
          refine lv_iinc (v := nI (i2 + 1)) (lv' := [(1, .int (nI (i2 + 1))), (2, .int ((σ2 4 i2) + ((σ2 4 i2) / 2))), (0, .ref (a 0))]) hx hb dX12_passYear_64 hl (k := 1) rfl (nI_1 _) (by decide) rfl (fun ls hl => ?_)
          refine lv_goto (tgt := 2) hx hb dX12_passYear_67 (by decide) ?_
          exact ih2 (i2 + 1) (up2 σ2 4 i2 ((σ2 4 i2) + ((σ2 4 i2) / 2))) _ _ _ (by omega) ((up2_n _ _ _ (by decide)).trans (k2_0)) (by have q := hF2; simp only [M_passYear_L2, M_passYear_S2_0, if_pos c_2, if_pos c_3] at q; exact q) hw (lv_sub hl [0, 2] rfl)
        · refine lv_bipush (v := 99) hx hb dX12_passYear_57 (by decide) ?_
          refine lv_goto (tgt := 63) hx hb dX12_passYear_59 (by decide) ?_
          refine g_iast S hw (f := σ2 4) (i := i2) 4 0 rfl rfl (by omega) (by decide) (w2 := wM cI a (up2 σ2 4 i2 99) h) (wM_a4 _ _ _ _ _ _) dX12_passYear_63 (fun H locs hw => ?_)
          refine lv_iinc (v := nI (i2 + 1)) (lv' := [(1, .int (nI (i2 + 1))), (2, .int ((σ2 4 i2) + ((σ2 4 i2) / 2))), (0, .ref (a 0))]) hx hb dX12_passYear_64 hl (k := 1) rfl (nI_1 _) (by decide) rfl (fun ls hl => ?_)
          refine lv_goto (tgt := 2) hx hb dX12_passYear_67 (by decide) ?_
          exact ih2 (i2 + 1) (up2 σ2 4 i2 99) _ _ _ (by omega) ((up2_n _ _ _ (by decide)).trans (k2_0)) (by have q := hF2; simp only [M_passYear_L2, M_passYear_S2_0, if_pos c_2, if_neg c_3] at q; exact q) hw (lv_sub hl [0, 2] rfl)
      · refine lv_aload_n hx hb dX12_passYear_42 rfl (lv_at hl 2 rfl) ?_
        refine g_get S hw hinX12 (fs := fM a σ2 h) 0 rfl rfl 11 (by decide) lk1 (v := .ref (a 4)) rfl dX12_passYear_43 ?_
        refine lv_iload_n hx hb dX12_passYear_46 rfl (lv_at hl 1 rfl) ?_
        refine g_iald S hw (f := σ2 4) (i := i2) (x := σ2 4 i2) 4 0 rfl rfl (by omega) (by decide) rfl dX12_passYear_47 ?_
        refine lv_goto (tgt := 63) hx hb dX12_passYear_48 (by decide) ?_
        refine g_iast S hw (f := σ2 4) (i := i2) 4 0 rfl rfl (by omega) (by decide) (w2 := wM cI a (up2 σ2 4 i2 (σ2 4 i2)) h) (wM_a4 _ _ _ _ _ _) dX12_passYear_63 (fun H locs hw => ?_)
        refine lv_iinc (v := nI (i2 + 1)) (lv' := [(1, .int (nI (i2 + 1))), (2, .int ((σ2 4 i2) + ((σ2 4 i2) / 2))), (0, .ref (a 0))]) hx hb dX12_passYear_64 hl (k := 1) rfl (nI_1 _) (by decide) rfl (fun ls hl => ?_)
        refine lv_goto (tgt := 2) hx hb dX12_passYear_67 (by decide) ?_
        exact ih2 (i2 + 1) (up2 σ2 4 i2 (σ2 4 i2)) _ _ _ (by omega) ((up2_n _ _ _ (by decide)).trans (k2_0)) (by have q := hF2; simp only [M_passYear_L2, M_passYear_S2_0, if_neg c_2] at q; exact q) hw (lv_sub hl [0, 2] rfl)
  exact L2 n 0 σ _ _ _ (by omega) rfl rfl hw (lv_sub hl [0, 1] rfl)
