/-! ===== the next order: every order of up to four plans, by the table ===== -/
def permL : List (List (List Nat)) := [[[0, 1, 2, 3]], [[0, 1, 2, 3]], [[0, 1, 2, 3], [1, 0, 2, 3]], [[0, 1, 2, 3], [0, 2, 1, 3], [1, 0, 2, 3], [1, 2, 0, 3], [2, 0, 1, 3], [2, 1, 0, 3]], [[0, 1, 2, 3], [0, 1, 3, 2], [0, 2, 1, 3], [0, 2, 3, 1], [0, 3, 1, 2], [0, 3, 2, 1], [1, 0, 2, 3], [1, 0, 3, 2], [1, 2, 0, 3], [1, 2, 3, 0], [1, 3, 0, 2], [1, 3, 2, 0], [2, 0, 1, 3], [2, 0, 3, 1], [2, 1, 0, 3], [2, 1, 3, 0], [2, 3, 0, 1], [2, 3, 1, 0], [3, 0, 1, 2], [3, 0, 2, 1], [3, 1, 0, 2], [3, 1, 2, 0], [3, 2, 0, 1], [3, 2, 1, 0]]]
def permT (pl i k : Nat) : Nat := ((permL.getD pl []).getD i []).getD k 0
def nperm (pl : Nat) : Nat := (permL.getD pl []).length
def permRow (pl i : Nat) : Nat → Int32 := fun k => nI (permT pl i k)
theorem wX_r40 (cI cC cI2 : ClassId) (a : Nat → Nat) (κ : Nat → Nat) (σ : Nat → Nat → Int32) (g : Nat → Int32) : (wX cI cC cI2 a κ σ).set 40 (a 40, .inl (cI, 4, .inl g)) = wX cI cC cI2 a κ (row σ 40 g) := by
  unfold wX
  rw [rowsX_r (by decide) (by decide) (by decide)]
  rfl
theorem wX_r41 (cI cC cI2 : ClassId) (a : Nat → Nat) (κ : Nat → Nat) (σ : Nat → Nat → Int32) (g : Nat → Int32) : (wX cI cC cI2 a κ σ).set 41 (a 41, .inl (cI, 4, .inl g)) = wX cI cC cI2 a κ (row σ 41 g) := by
  unfold wX
  rw [rowsX_r (by decide) (by decide) (by decide)]
  rfl
theorem row4 {f g : Nat → Int32} (h0 : f 0 = g 0) (h1 : f 1 = g 1) (h2 : f 2 = g 2) (h3 : f 3 = g 3) : ∀ k, k < 4 → f k = g k := by
  intro k hk
  rcases (by omega : k = 0 ∨ k = 1 ∨ k = 2 ∨ k = 3) with rfl | rfl | rfl | rfl
  · exact h0
  · exact h1
  · exact h2
  · exact h3
theorem row_up2 (σ : Nat → Nat → Int32) (c k : Nat) (x : Int32) (g : Nat → Int32) : row (up2 σ c k x) c g = row σ c g := by
  funext c'
  unfold row
  by_cases e : c' = c
  · rw [if_pos e, if_pos e]
  · rw [if_neg e, if_neg e, up2_n _ _ _ e]
def XP_nextOrder_0_0_r (κ : Nat → Nat) (σ : Nat → Nat → Int32) : Int32 := 0
def XP_nextOrder_0_0_s (κ : Nat → Nat) (σ : Nat → Nat → Int32) : Nat → Nat → Int32 := row σ 40 (permRow 0 0)
theorem XP_nextOrder_0_0_z (κ : Nat → Nat) (σ : Nat → Nat → Int32) : XP_nextOrder_0_0_r κ σ = 0 ∨ XP_nextOrder_0_0_r κ σ = 1 := by
  unfold XP_nextOrder_0_0_r
  exact Or.inl rfl

set_option maxHeartbeats 4000000 in
set_option maxRecDepth 100000 in
theorem c_XP_nextOrder_0_0 (l : Launch) (D : va_G) (cI cC cI2 : ClassId) (a : Nat → Nat) (κ : Nat → Nat) (σ : Nat → Nat → Int32) (hp0 : σ 37 4 = nI 0) (ht0 : σ 40 0 = nI 0) (ht1 : σ 40 1 = nI 1) (ht2 : σ 40 2 = nI 2) (ht3 : σ 40 3 = nI 3) : gI l D (tysX cI cC cI2) yX5_nextOrder wsX5_nextOrder 2 [.ref (a 37)] (wX cI cC cI2 a κ σ) (XP_nextOrder_0_0_r κ σ) (wX cI cC cI2 a κ (XP_nextOrder_0_0_s κ σ)) := by
  refine g_start (cc := cX5_nextOrder) (maxL := 5) (ret := some .boolean) (Qc := gQi D (tysX cI cC cI2) (XP_nextOrder_0_0_r κ σ) (wX cI cC cI2 a κ (XP_nextOrder_0_0_s κ σ))) (by decide) rfl (Nat.le_of_ble_eq_true rfl) ?_
  intro p e s m below meth C A ls S hr hlk hw hl
  obtain ⟨hx, hb, hml, hown, hts⟩ := id S
  have hinX5 : ∀ x ∈ u_ws RX5 TX5 6, x ∈ wsX5_nextOrder := fun x h => List.mem_cons_of_mem _ (List.mem_append_right _ h)
  have lk0 : Cond.fieldLink RX5 24 "CowsOwed$Plans" "size" "I" ∈ wsX5_nextOrder := by decide +kernel
  have hl : lv_has ls 5 [(0, .ref (a 37))] := hl
  refine lv_aload_n hx hb dX5_nextOrder_0 rfl (lv_at hl 0 rfl) ?_
  refine g_get S hw hinX5 (fs := fX37 a σ) 37 rfl rfl 4 (by decide) lk0 (v := .int 0) (congrArg (fun z => some (Value.int z)) (hp0)) dX5_nextOrder_1 ?_
  refine lv_iconst (v := 2) hx hb dX5_nextOrder_4 (by decide) ?_
  refine lv_isub hx hb dX5_nextOrder_5 ?_
  refine lv_topi (fun zz ez => ?_)
  have ez : zz = (-2) := ez.trans (by decide)
  subst ez
  refine lv_istore_n (lv' := [(1, .int (-2)), (0, .ref (a 37))]) hx hb dX5_nextOrder_6 rfl hl (by decide) rfl (fun ls hl => ?_)
  refine lv_iload_n hx hb dX5_nextOrder_7 rfl (lv_at hl 0 rfl) ?_
  refine lv_if_lt hx hb (tgt := 34) dX5_nextOrder_8 (by decide) (fun c_x => ?_) (fun c_x => absurd (by decide) c_x)
  refine lv_iload_n hx hb dX5_nextOrder_34 rfl (lv_at hl 0 rfl) ?_
  refine lv_if_ge hx hb (tgt := 40) dX5_nextOrder_35 (by decide) (fun c_x => absurd c_x (by decide)) (fun c_x => ?_)
  refine lv_iconst (v := 0) hx hb dX5_nextOrder_38 (by decide) ?_
  have hw := hw.arr 40 (f := σ 40) (g := permRow 0 0) rfl (row4 (ht0) (ht1) (ht2) (ht3)) (wX_r40 _ _ _ _ _ _ _)
  exact g_zret S hr hlk hw (by decide) (by simp only [XP_nextOrder_0_0_r]) (by simp only [XP_nextOrder_0_0_s]) dX5_nextOrder_39
def XP_nextOrder_1_0_r (κ : Nat → Nat) (σ : Nat → Nat → Int32) : Int32 := 0
def XP_nextOrder_1_0_s (κ : Nat → Nat) (σ : Nat → Nat → Int32) : Nat → Nat → Int32 := row σ 40 (permRow 1 0)
theorem XP_nextOrder_1_0_z (κ : Nat → Nat) (σ : Nat → Nat → Int32) : XP_nextOrder_1_0_r κ σ = 0 ∨ XP_nextOrder_1_0_r κ σ = 1 := by
  unfold XP_nextOrder_1_0_r
  exact Or.inl rfl

set_option maxHeartbeats 4000000 in
set_option maxRecDepth 100000 in
theorem c_XP_nextOrder_1_0 (l : Launch) (D : va_G) (cI cC cI2 : ClassId) (a : Nat → Nat) (κ : Nat → Nat) (σ : Nat → Nat → Int32) (hp0 : σ 37 4 = nI 1) (ht0 : σ 40 0 = nI 0) (ht1 : σ 40 1 = nI 1) (ht2 : σ 40 2 = nI 2) (ht3 : σ 40 3 = nI 3) : gI l D (tysX cI cC cI2) yX5_nextOrder wsX5_nextOrder 2 [.ref (a 37)] (wX cI cC cI2 a κ σ) (XP_nextOrder_1_0_r κ σ) (wX cI cC cI2 a κ (XP_nextOrder_1_0_s κ σ)) := by
  refine g_start (cc := cX5_nextOrder) (maxL := 5) (ret := some .boolean) (Qc := gQi D (tysX cI cC cI2) (XP_nextOrder_1_0_r κ σ) (wX cI cC cI2 a κ (XP_nextOrder_1_0_s κ σ))) (by decide) rfl (Nat.le_of_ble_eq_true rfl) ?_
  intro p e s m below meth C A ls S hr hlk hw hl
  obtain ⟨hx, hb, hml, hown, hts⟩ := id S
  have hinX5 : ∀ x ∈ u_ws RX5 TX5 6, x ∈ wsX5_nextOrder := fun x h => List.mem_cons_of_mem _ (List.mem_append_right _ h)
  have lk0 : Cond.fieldLink RX5 24 "CowsOwed$Plans" "size" "I" ∈ wsX5_nextOrder := by decide +kernel
  have hl : lv_has ls 5 [(0, .ref (a 37))] := hl
  refine lv_aload_n hx hb dX5_nextOrder_0 rfl (lv_at hl 0 rfl) ?_
  refine g_get S hw hinX5 (fs := fX37 a σ) 37 rfl rfl 4 (by decide) lk0 (v := .int 1) (congrArg (fun z => some (Value.int z)) (hp0)) dX5_nextOrder_1 ?_
  refine lv_iconst (v := 2) hx hb dX5_nextOrder_4 (by decide) ?_
  refine lv_isub hx hb dX5_nextOrder_5 ?_
  refine lv_topi (fun zz ez => ?_)
  have ez : zz = (-1) := ez.trans (by decide)
  subst ez
  refine lv_istore_n (lv' := [(1, .int (-1)), (0, .ref (a 37))]) hx hb dX5_nextOrder_6 rfl hl (by decide) rfl (fun ls hl => ?_)
  refine lv_iload_n hx hb dX5_nextOrder_7 rfl (lv_at hl 0 rfl) ?_
  refine lv_if_lt hx hb (tgt := 34) dX5_nextOrder_8 (by decide) (fun c_x => ?_) (fun c_x => absurd (by decide) c_x)
  refine lv_iload_n hx hb dX5_nextOrder_34 rfl (lv_at hl 0 rfl) ?_
  refine lv_if_ge hx hb (tgt := 40) dX5_nextOrder_35 (by decide) (fun c_x => absurd c_x (by decide)) (fun c_x => ?_)
  refine lv_iconst (v := 0) hx hb dX5_nextOrder_38 (by decide) ?_
  have hw := hw.arr 40 (f := σ 40) (g := permRow 1 0) rfl (row4 (ht0) (ht1) (ht2) (ht3)) (wX_r40 _ _ _ _ _ _ _)
  exact g_zret S hr hlk hw (by decide) (by simp only [XP_nextOrder_1_0_r]) (by simp only [XP_nextOrder_1_0_s]) dX5_nextOrder_39
def XP_nextOrder_2_0_r (κ : Nat → Nat) (σ : Nat → Nat → Int32) : Int32 := 1
def XP_nextOrder_2_0_s (κ : Nat → Nat) (σ : Nat → Nat → Int32) : Nat → Nat → Int32 := row σ 40 (permRow 2 1)
theorem XP_nextOrder_2_0_z (κ : Nat → Nat) (σ : Nat → Nat → Int32) : XP_nextOrder_2_0_r κ σ = 0 ∨ XP_nextOrder_2_0_r κ σ = 1 := by
  unfold XP_nextOrder_2_0_r
  exact Or.inr rfl

set_option maxHeartbeats 4000000 in
set_option maxRecDepth 100000 in
theorem c_XP_nextOrder_2_0 (l : Launch) (D : va_G) (cI cC cI2 : ClassId) (a : Nat → Nat) (κ : Nat → Nat) (σ : Nat → Nat → Int32) (hp0 : σ 37 4 = nI 2) (ht0 : σ 40 0 = nI 0) (ht1 : σ 40 1 = nI 1) (ht2 : σ 40 2 = nI 2) (ht3 : σ 40 3 = nI 3) : gI l D (tysX cI cC cI2) yX5_nextOrder wsX5_nextOrder 2 [.ref (a 37)] (wX cI cC cI2 a κ σ) (XP_nextOrder_2_0_r κ σ) (wX cI cC cI2 a κ (XP_nextOrder_2_0_s κ σ)) := by
  refine g_start (cc := cX5_nextOrder) (maxL := 5) (ret := some .boolean) (Qc := gQi D (tysX cI cC cI2) (XP_nextOrder_2_0_r κ σ) (wX cI cC cI2 a κ (XP_nextOrder_2_0_s κ σ))) (by decide) rfl (Nat.le_of_ble_eq_true rfl) ?_
  intro p e s m below meth C A ls S hr hlk hw hl
  obtain ⟨hx, hb, hml, hown, hts⟩ := id S
  have hinX5 : ∀ x ∈ u_ws RX5 TX5 6, x ∈ wsX5_nextOrder := fun x h => List.mem_cons_of_mem _ (List.mem_append_right _ h)
  have lk0 : Cond.fieldLink RX5 24 "CowsOwed$Plans" "size" "I" ∈ wsX5_nextOrder := by decide +kernel
  have lk1 : Cond.fieldLink RX5 18 "CowsOwed$Plans" "tried" "[I" ∈ wsX5_nextOrder := by decide +kernel
  have hl : lv_has ls 5 [(0, .ref (a 37))] := hl
  refine lv_aload_n hx hb dX5_nextOrder_0 rfl (lv_at hl 0 rfl) ?_
  refine g_get S hw hinX5 (fs := fX37 a σ) 37 rfl rfl 4 (by decide) lk0 (v := .int 2) (congrArg (fun z => some (Value.int z)) (hp0)) dX5_nextOrder_1 ?_
  refine lv_iconst (v := 2) hx hb dX5_nextOrder_4 (by decide) ?_
  refine lv_isub hx hb dX5_nextOrder_5 ?_
  refine lv_topi (fun zz ez => ?_)
  have ez : zz = 0 := ez.trans (by decide)
  subst ez
  refine lv_istore_n (lv' := [(1, .int 0), (0, .ref (a 37))]) hx hb dX5_nextOrder_6 rfl hl (by decide) rfl (fun ls hl => ?_)
  refine lv_iload_n hx hb dX5_nextOrder_7 rfl (lv_at hl 0 rfl) ?_
  refine lv_if_lt hx hb (tgt := 34) dX5_nextOrder_8 (by decide) (fun c_x => absurd c_x (by decide)) (fun c_x => ?_)
  refine lv_aload_n hx hb dX5_nextOrder_11 rfl (lv_at hl 1 rfl) ?_
  refine g_get S hw hinX5 (fs := fX37 a σ) 37 rfl rfl 2 (by decide) lk1 (v := .ref (a 40)) rfl dX5_nextOrder_12 ?_
  refine lv_iload_n hx hb dX5_nextOrder_15 rfl (lv_at hl 0 rfl) ?_
  refine g_iald S hw (f := σ 40) (i := 0) (x := 0) 40 0 rfl rfl (by omega) (by decide) ht0 dX5_nextOrder_16 ?_
  refine lv_aload_n hx hb dX5_nextOrder_17 rfl (lv_at hl 1 rfl) ?_
  refine g_get S hw hinX5 (fs := fX37 a σ) 37 rfl rfl 2 (by decide) lk1 (v := .ref (a 40)) rfl dX5_nextOrder_18 ?_
  refine lv_iload_n hx hb dX5_nextOrder_21 rfl (lv_at hl 0 rfl) ?_
  refine lv_iconst (v := 1) hx hb dX5_nextOrder_22 (by decide) ?_
  refine lv_iadd hx hb dX5_nextOrder_23 ?_
  refine lv_topi (fun zz ez => ?_)
  have ez : zz = 1 := ez.trans (by decide)
  subst ez
  refine g_iald S hw (f := σ 40) (i := 1) (x := 1) 40 0 rfl rfl (by omega) (by decide) ht1 dX5_nextOrder_24 ?_
  refine lv_icmp_le hx hb (tgt := 34) dX5_nextOrder_25 (by decide) (fun c_x => ?_) (fun c_x => absurd (by decide) c_x)
  refine lv_iload_n hx hb dX5_nextOrder_34 rfl (lv_at hl 0 rfl) ?_
  refine lv_if_ge hx hb (tgt := 40) dX5_nextOrder_35 (by decide) (fun c_x => ?_) (fun c_x => absurd (by decide) c_x)
  refine lv_aload_n hx hb dX5_nextOrder_40 rfl (lv_at hl 1 rfl) ?_
  refine g_get S hw hinX5 (fs := fX37 a σ) 37 rfl rfl 4 (by decide) lk0 (v := .int 2) (congrArg (fun z => some (Value.int z)) (hp0)) dX5_nextOrder_41 ?_
  refine lv_iconst (v := 1) hx hb dX5_nextOrder_44 (by decide) ?_
  refine lv_isub hx hb dX5_nextOrder_45 ?_
  refine lv_topi (fun zz ez => ?_)
  have ez : zz = 1 := ez.trans (by decide)
  subst ez
  refine lv_istore_n (lv' := [(2, .int 1), (1, .int 0), (0, .ref (a 37))]) hx hb dX5_nextOrder_46 rfl hl (by decide) rfl (fun ls hl => ?_)
  refine lv_iload_n hx hb dX5_nextOrder_47 rfl (lv_at hl 0 rfl) ?_
  refine lv_iload_n hx hb dX5_nextOrder_48 rfl (lv_at hl 1 rfl) ?_
  refine lv_icmp_le hx hb (tgt := 73) dX5_nextOrder_49 (by decide) (fun c_x => absurd c_x (by decide)) (fun c_x => ?_)
  refine lv_aload_n hx hb dX5_nextOrder_52 rfl (lv_at hl 2 rfl) ?_
  refine g_get S hw hinX5 (fs := fX37 a σ) 37 rfl rfl 2 (by decide) lk1 (v := .ref (a 40)) rfl dX5_nextOrder_53 ?_
  refine lv_iload_n hx hb dX5_nextOrder_56 rfl (lv_at hl 0 rfl) ?_
  refine g_iald S hw (f := σ 40) (i := 1) (x := 1) 40 0 rfl rfl (by omega) (by decide) ht1 dX5_nextOrder_57 ?_
  refine lv_aload_n hx hb dX5_nextOrder_58 rfl (lv_at hl 2 rfl) ?_
  refine g_get S hw hinX5 (fs := fX37 a σ) 37 rfl rfl 2 (by decide) lk1 (v := .ref (a 40)) rfl dX5_nextOrder_59 ?_
  refine lv_iload_n hx hb dX5_nextOrder_62 rfl (lv_at hl 1 rfl) ?_
  refine g_iald S hw (f := σ 40) (i := 0) (x := 0) 40 0 rfl rfl (by omega) (by decide) ht0 dX5_nextOrder_63 ?_
  refine lv_icmp_ge hx hb (tgt := 73) dX5_nextOrder_64 (by decide) (fun c_x => ?_) (fun c_x => absurd (by decide) c_x)
  refine lv_aload_n hx hb dX5_nextOrder_73 rfl (lv_at hl 2 rfl) ?_
  refine lv_iload_n hx hb dX5_nextOrder_74 rfl (lv_at hl 1 rfl) ?_
  refine lv_iload_n hx hb dX5_nextOrder_75 rfl (lv_at hl 0 rfl) ?_
  refine g_callVv S hw (c_XP_swapTried l D cI cC cI2 a κ σ 0 1 (by decide) (by decide)) gX5_nextOrder_X5_swapTried rfl 37 rfl rfl 2 rfl (by decide +kernel) (by decide) (by decide) hl.1 rfl (Nat.le_of_ble_eq_true rfl) dX5_nextOrder_76 (fun H locs hw => ?_)
  have ew : XP_swapTried_s κ σ 0 1 = up2 (up2 σ 40 0 1) 40 1 0 := by
    unfold XP_swapTried_s
    rw [show σ 40 1 = 1 from ht1, show σ 40 0 = 0 from ht0]
  rw [ew] at hw
  refine lv_iload_n hx hb dX5_nextOrder_79 rfl (lv_at hl 1 rfl) ?_
  refine lv_iconst (v := 1) hx hb dX5_nextOrder_80 (by decide) ?_
  refine lv_iadd hx hb dX5_nextOrder_81 ?_
  refine lv_topi (fun zz ez => ?_)
  have ez : zz = 1 := ez.trans (by decide)
  subst ez
  refine lv_istore_n (lv' := [(3, .int 1), (2, .int 1), (1, .int 0), (0, .ref (a 37))]) hx hb dX5_nextOrder_82 rfl hl (by decide) rfl (fun ls hl => ?_)
  refine lv_aload_n hx hb dX5_nextOrder_83 rfl (lv_at hl 3 rfl) ?_
  refine g_get S hw hinX5 (fs := fX37 a (up2 (up2 σ 40 0 1) 40 1 0)) 37 rfl rfl 4 (by decide) lk0 (v := .int 2) (congrArg (fun z => some (Value.int z)) (((up2_rn (by omega)).trans (up2_rn (by omega))).trans (hp0))) dX5_nextOrder_84 ?_
  refine lv_iconst (v := 1) hx hb dX5_nextOrder_87 (by decide) ?_
  refine lv_isub hx hb dX5_nextOrder_88 ?_
  refine lv_topi (fun zz ez => ?_)
  have ez : zz = 1 := ez.trans (by decide)
  subst ez
  refine lv_istore (lv' := [(4, .int 1), (3, .int 1), (2, .int 1), (1, .int 0), (0, .ref (a 37))]) hx hb dX5_nextOrder_89 hl (by decide) rfl (fun ls hl => ?_)
  refine lv_iload_n hx hb dX5_nextOrder_91 rfl (lv_at hl 1 rfl) ?_
  refine lv_iload hx hb dX5_nextOrder_92 (lv_at hl 0 rfl) ?_
  refine lv_icmp_ge hx hb (tgt := 113) dX5_nextOrder_94 (by decide) (fun c_x => ?_) (fun c_x => absurd (by decide) c_x)
  refine lv_iconst (v := 1) hx hb dX5_nextOrder_113 (by decide) ?_
  have hw := hw.arr 40 (f := (up2 (up2 σ 40 0 1) 40 1 0) 40) (g := permRow 2 1) rfl (row4 ((up2_rp (by decide)).trans (up2_rs)) (up2_rs) (((up2_rp (by decide)).trans (up2_rp (by decide))).trans (ht2)) (((up2_rp (by decide)).trans (up2_rp (by decide))).trans (ht3))) (wX_r40 _ _ _ _ _ _ _)
  simp only [row_up2] at hw
  exact g_zret S hr hlk hw (by decide) (by simp only [XP_nextOrder_2_0_r]) (by simp only [XP_nextOrder_2_0_s]) dX5_nextOrder_114
def XP_nextOrder_2_1_r (κ : Nat → Nat) (σ : Nat → Nat → Int32) : Int32 := 0
def XP_nextOrder_2_1_s (κ : Nat → Nat) (σ : Nat → Nat → Int32) : Nat → Nat → Int32 := row σ 40 (permRow 2 1)
theorem XP_nextOrder_2_1_z (κ : Nat → Nat) (σ : Nat → Nat → Int32) : XP_nextOrder_2_1_r κ σ = 0 ∨ XP_nextOrder_2_1_r κ σ = 1 := by
  unfold XP_nextOrder_2_1_r
  exact Or.inl rfl

set_option maxHeartbeats 4000000 in
set_option maxRecDepth 100000 in
theorem c_XP_nextOrder_2_1 (l : Launch) (D : va_G) (cI cC cI2 : ClassId) (a : Nat → Nat) (κ : Nat → Nat) (σ : Nat → Nat → Int32) (hp0 : σ 37 4 = nI 2) (ht0 : σ 40 0 = nI 1) (ht1 : σ 40 1 = nI 0) (ht2 : σ 40 2 = nI 2) (ht3 : σ 40 3 = nI 3) : gI l D (tysX cI cC cI2) yX5_nextOrder wsX5_nextOrder 2 [.ref (a 37)] (wX cI cC cI2 a κ σ) (XP_nextOrder_2_1_r κ σ) (wX cI cC cI2 a κ (XP_nextOrder_2_1_s κ σ)) := by
  refine g_start (cc := cX5_nextOrder) (maxL := 5) (ret := some .boolean) (Qc := gQi D (tysX cI cC cI2) (XP_nextOrder_2_1_r κ σ) (wX cI cC cI2 a κ (XP_nextOrder_2_1_s κ σ))) (by decide) rfl (Nat.le_of_ble_eq_true rfl) ?_
  intro p e s m below meth C A ls S hr hlk hw hl
  obtain ⟨hx, hb, hml, hown, hts⟩ := id S
  have hinX5 : ∀ x ∈ u_ws RX5 TX5 6, x ∈ wsX5_nextOrder := fun x h => List.mem_cons_of_mem _ (List.mem_append_right _ h)
  have lk0 : Cond.fieldLink RX5 24 "CowsOwed$Plans" "size" "I" ∈ wsX5_nextOrder := by decide +kernel
  have lk1 : Cond.fieldLink RX5 18 "CowsOwed$Plans" "tried" "[I" ∈ wsX5_nextOrder := by decide +kernel
  have hl : lv_has ls 5 [(0, .ref (a 37))] := hl
  refine lv_aload_n hx hb dX5_nextOrder_0 rfl (lv_at hl 0 rfl) ?_
  refine g_get S hw hinX5 (fs := fX37 a σ) 37 rfl rfl 4 (by decide) lk0 (v := .int 2) (congrArg (fun z => some (Value.int z)) (hp0)) dX5_nextOrder_1 ?_
  refine lv_iconst (v := 2) hx hb dX5_nextOrder_4 (by decide) ?_
  refine lv_isub hx hb dX5_nextOrder_5 ?_
  refine lv_topi (fun zz ez => ?_)
  have ez : zz = 0 := ez.trans (by decide)
  subst ez
  refine lv_istore_n (lv' := [(1, .int 0), (0, .ref (a 37))]) hx hb dX5_nextOrder_6 rfl hl (by decide) rfl (fun ls hl => ?_)
  refine lv_iload_n hx hb dX5_nextOrder_7 rfl (lv_at hl 0 rfl) ?_
  refine lv_if_lt hx hb (tgt := 34) dX5_nextOrder_8 (by decide) (fun c_x => absurd c_x (by decide)) (fun c_x => ?_)
  refine lv_aload_n hx hb dX5_nextOrder_11 rfl (lv_at hl 1 rfl) ?_
  refine g_get S hw hinX5 (fs := fX37 a σ) 37 rfl rfl 2 (by decide) lk1 (v := .ref (a 40)) rfl dX5_nextOrder_12 ?_
  refine lv_iload_n hx hb dX5_nextOrder_15 rfl (lv_at hl 0 rfl) ?_
  refine g_iald S hw (f := σ 40) (i := 0) (x := 1) 40 0 rfl rfl (by omega) (by decide) ht0 dX5_nextOrder_16 ?_
  refine lv_aload_n hx hb dX5_nextOrder_17 rfl (lv_at hl 1 rfl) ?_
  refine g_get S hw hinX5 (fs := fX37 a σ) 37 rfl rfl 2 (by decide) lk1 (v := .ref (a 40)) rfl dX5_nextOrder_18 ?_
  refine lv_iload_n hx hb dX5_nextOrder_21 rfl (lv_at hl 0 rfl) ?_
  refine lv_iconst (v := 1) hx hb dX5_nextOrder_22 (by decide) ?_
  refine lv_iadd hx hb dX5_nextOrder_23 ?_
  refine lv_topi (fun zz ez => ?_)
  have ez : zz = 1 := ez.trans (by decide)
  subst ez
  refine g_iald S hw (f := σ 40) (i := 1) (x := 0) 40 0 rfl rfl (by omega) (by decide) ht1 dX5_nextOrder_24 ?_
  refine lv_icmp_le hx hb (tgt := 34) dX5_nextOrder_25 (by decide) (fun c_x => absurd c_x (by decide)) (fun c_x => ?_)
  refine lv_iinc (v := (-1)) (lv' := [(1, .int (-1)), (0, .ref (a 37))]) hx hb dX5_nextOrder_28 hl (k := 0) rfl (by decide) (by decide) rfl (fun ls hl => ?_)
  refine lv_goto (tgt := 7) hx hb dX5_nextOrder_31 (by decide) ?_
  refine lv_iload_n hx hb dX5_nextOrder_7 rfl (lv_at hl 0 rfl) ?_
  refine lv_if_lt hx hb (tgt := 34) dX5_nextOrder_8 (by decide) (fun c_x => ?_) (fun c_x => absurd (by decide) c_x)
  refine lv_iload_n hx hb dX5_nextOrder_34 rfl (lv_at hl 0 rfl) ?_
  refine lv_if_ge hx hb (tgt := 40) dX5_nextOrder_35 (by decide) (fun c_x => absurd c_x (by decide)) (fun c_x => ?_)
  refine lv_iconst (v := 0) hx hb dX5_nextOrder_38 (by decide) ?_
  have hw := hw.arr 40 (f := σ 40) (g := permRow 2 1) rfl (row4 (ht0) (ht1) (ht2) (ht3)) (wX_r40 _ _ _ _ _ _ _)
  exact g_zret S hr hlk hw (by decide) (by simp only [XP_nextOrder_2_1_r]) (by simp only [XP_nextOrder_2_1_s]) dX5_nextOrder_39
def XP_nextOrder_3_0_r (κ : Nat → Nat) (σ : Nat → Nat → Int32) : Int32 := 1
def XP_nextOrder_3_0_s (κ : Nat → Nat) (σ : Nat → Nat → Int32) : Nat → Nat → Int32 := row σ 40 (permRow 3 1)
theorem XP_nextOrder_3_0_z (κ : Nat → Nat) (σ : Nat → Nat → Int32) : XP_nextOrder_3_0_r κ σ = 0 ∨ XP_nextOrder_3_0_r κ σ = 1 := by
  unfold XP_nextOrder_3_0_r
  exact Or.inr rfl

set_option maxHeartbeats 4000000 in
set_option maxRecDepth 100000 in
theorem c_XP_nextOrder_3_0 (l : Launch) (D : va_G) (cI cC cI2 : ClassId) (a : Nat → Nat) (κ : Nat → Nat) (σ : Nat → Nat → Int32) (hp0 : σ 37 4 = nI 3) (ht0 : σ 40 0 = nI 0) (ht1 : σ 40 1 = nI 1) (ht2 : σ 40 2 = nI 2) (ht3 : σ 40 3 = nI 3) : gI l D (tysX cI cC cI2) yX5_nextOrder wsX5_nextOrder 2 [.ref (a 37)] (wX cI cC cI2 a κ σ) (XP_nextOrder_3_0_r κ σ) (wX cI cC cI2 a κ (XP_nextOrder_3_0_s κ σ)) := by
  refine g_start (cc := cX5_nextOrder) (maxL := 5) (ret := some .boolean) (Qc := gQi D (tysX cI cC cI2) (XP_nextOrder_3_0_r κ σ) (wX cI cC cI2 a κ (XP_nextOrder_3_0_s κ σ))) (by decide) rfl (Nat.le_of_ble_eq_true rfl) ?_
  intro p e s m below meth C A ls S hr hlk hw hl
  obtain ⟨hx, hb, hml, hown, hts⟩ := id S
  have hinX5 : ∀ x ∈ u_ws RX5 TX5 6, x ∈ wsX5_nextOrder := fun x h => List.mem_cons_of_mem _ (List.mem_append_right _ h)
  have lk0 : Cond.fieldLink RX5 24 "CowsOwed$Plans" "size" "I" ∈ wsX5_nextOrder := by decide +kernel
  have lk1 : Cond.fieldLink RX5 18 "CowsOwed$Plans" "tried" "[I" ∈ wsX5_nextOrder := by decide +kernel
  have hl : lv_has ls 5 [(0, .ref (a 37))] := hl
  refine lv_aload_n hx hb dX5_nextOrder_0 rfl (lv_at hl 0 rfl) ?_
  refine g_get S hw hinX5 (fs := fX37 a σ) 37 rfl rfl 4 (by decide) lk0 (v := .int 3) (congrArg (fun z => some (Value.int z)) (hp0)) dX5_nextOrder_1 ?_
  refine lv_iconst (v := 2) hx hb dX5_nextOrder_4 (by decide) ?_
  refine lv_isub hx hb dX5_nextOrder_5 ?_
  refine lv_topi (fun zz ez => ?_)
  have ez : zz = 1 := ez.trans (by decide)
  subst ez
  refine lv_istore_n (lv' := [(1, .int 1), (0, .ref (a 37))]) hx hb dX5_nextOrder_6 rfl hl (by decide) rfl (fun ls hl => ?_)
  refine lv_iload_n hx hb dX5_nextOrder_7 rfl (lv_at hl 0 rfl) ?_
  refine lv_if_lt hx hb (tgt := 34) dX5_nextOrder_8 (by decide) (fun c_x => absurd c_x (by decide)) (fun c_x => ?_)
  refine lv_aload_n hx hb dX5_nextOrder_11 rfl (lv_at hl 1 rfl) ?_
  refine g_get S hw hinX5 (fs := fX37 a σ) 37 rfl rfl 2 (by decide) lk1 (v := .ref (a 40)) rfl dX5_nextOrder_12 ?_
  refine lv_iload_n hx hb dX5_nextOrder_15 rfl (lv_at hl 0 rfl) ?_
  refine g_iald S hw (f := σ 40) (i := 1) (x := 1) 40 0 rfl rfl (by omega) (by decide) ht1 dX5_nextOrder_16 ?_
  refine lv_aload_n hx hb dX5_nextOrder_17 rfl (lv_at hl 1 rfl) ?_
  refine g_get S hw hinX5 (fs := fX37 a σ) 37 rfl rfl 2 (by decide) lk1 (v := .ref (a 40)) rfl dX5_nextOrder_18 ?_
  refine lv_iload_n hx hb dX5_nextOrder_21 rfl (lv_at hl 0 rfl) ?_
  refine lv_iconst (v := 1) hx hb dX5_nextOrder_22 (by decide) ?_
  refine lv_iadd hx hb dX5_nextOrder_23 ?_
  refine lv_topi (fun zz ez => ?_)
  have ez : zz = 2 := ez.trans (by decide)
  subst ez
  refine g_iald S hw (f := σ 40) (i := 2) (x := 2) 40 0 rfl rfl (by omega) (by decide) ht2 dX5_nextOrder_24 ?_
  refine lv_icmp_le hx hb (tgt := 34) dX5_nextOrder_25 (by decide) (fun c_x => ?_) (fun c_x => absurd (by decide) c_x)
  refine lv_iload_n hx hb dX5_nextOrder_34 rfl (lv_at hl 0 rfl) ?_
  refine lv_if_ge hx hb (tgt := 40) dX5_nextOrder_35 (by decide) (fun c_x => ?_) (fun c_x => absurd (by decide) c_x)
  refine lv_aload_n hx hb dX5_nextOrder_40 rfl (lv_at hl 1 rfl) ?_
  refine g_get S hw hinX5 (fs := fX37 a σ) 37 rfl rfl 4 (by decide) lk0 (v := .int 3) (congrArg (fun z => some (Value.int z)) (hp0)) dX5_nextOrder_41 ?_
  refine lv_iconst (v := 1) hx hb dX5_nextOrder_44 (by decide) ?_
  refine lv_isub hx hb dX5_nextOrder_45 ?_
  refine lv_topi (fun zz ez => ?_)
  have ez : zz = 2 := ez.trans (by decide)
  subst ez
  refine lv_istore_n (lv' := [(2, .int 2), (1, .int 1), (0, .ref (a 37))]) hx hb dX5_nextOrder_46 rfl hl (by decide) rfl (fun ls hl => ?_)
  refine lv_iload_n hx hb dX5_nextOrder_47 rfl (lv_at hl 0 rfl) ?_
  refine lv_iload_n hx hb dX5_nextOrder_48 rfl (lv_at hl 1 rfl) ?_
  refine lv_icmp_le hx hb (tgt := 73) dX5_nextOrder_49 (by decide) (fun c_x => absurd c_x (by decide)) (fun c_x => ?_)
  refine lv_aload_n hx hb dX5_nextOrder_52 rfl (lv_at hl 2 rfl) ?_
  refine g_get S hw hinX5 (fs := fX37 a σ) 37 rfl rfl 2 (by decide) lk1 (v := .ref (a 40)) rfl dX5_nextOrder_53 ?_
  refine lv_iload_n hx hb dX5_nextOrder_56 rfl (lv_at hl 0 rfl) ?_
  refine g_iald S hw (f := σ 40) (i := 2) (x := 2) 40 0 rfl rfl (by omega) (by decide) ht2 dX5_nextOrder_57 ?_
  refine lv_aload_n hx hb dX5_nextOrder_58 rfl (lv_at hl 2 rfl) ?_
  refine g_get S hw hinX5 (fs := fX37 a σ) 37 rfl rfl 2 (by decide) lk1 (v := .ref (a 40)) rfl dX5_nextOrder_59 ?_
  refine lv_iload_n hx hb dX5_nextOrder_62 rfl (lv_at hl 1 rfl) ?_
  refine g_iald S hw (f := σ 40) (i := 1) (x := 1) 40 0 rfl rfl (by omega) (by decide) ht1 dX5_nextOrder_63 ?_
  refine lv_icmp_ge hx hb (tgt := 73) dX5_nextOrder_64 (by decide) (fun c_x => ?_) (fun c_x => absurd (by decide) c_x)
  refine lv_aload_n hx hb dX5_nextOrder_73 rfl (lv_at hl 2 rfl) ?_
  refine lv_iload_n hx hb dX5_nextOrder_74 rfl (lv_at hl 1 rfl) ?_
  refine lv_iload_n hx hb dX5_nextOrder_75 rfl (lv_at hl 0 rfl) ?_
  refine g_callVv S hw (c_XP_swapTried l D cI cC cI2 a κ σ 1 2 (by decide) (by decide)) gX5_nextOrder_X5_swapTried rfl 37 rfl rfl 2 rfl (by decide +kernel) (by decide) (by decide) hl.1 rfl (Nat.le_of_ble_eq_true rfl) dX5_nextOrder_76 (fun H locs hw => ?_)
  have ew : XP_swapTried_s κ σ 1 2 = up2 (up2 σ 40 1 2) 40 2 1 := by
    unfold XP_swapTried_s
    rw [show σ 40 2 = 2 from ht2, show σ 40 1 = 1 from ht1]
  rw [ew] at hw
  refine lv_iload_n hx hb dX5_nextOrder_79 rfl (lv_at hl 1 rfl) ?_
  refine lv_iconst (v := 1) hx hb dX5_nextOrder_80 (by decide) ?_
  refine lv_iadd hx hb dX5_nextOrder_81 ?_
  refine lv_topi (fun zz ez => ?_)
  have ez : zz = 2 := ez.trans (by decide)
  subst ez
  refine lv_istore_n (lv' := [(3, .int 2), (2, .int 2), (1, .int 1), (0, .ref (a 37))]) hx hb dX5_nextOrder_82 rfl hl (by decide) rfl (fun ls hl => ?_)
  refine lv_aload_n hx hb dX5_nextOrder_83 rfl (lv_at hl 3 rfl) ?_
  refine g_get S hw hinX5 (fs := fX37 a (up2 (up2 σ 40 1 2) 40 2 1)) 37 rfl rfl 4 (by decide) lk0 (v := .int 3) (congrArg (fun z => some (Value.int z)) (((up2_rn (by omega)).trans (up2_rn (by omega))).trans (hp0))) dX5_nextOrder_84 ?_
  refine lv_iconst (v := 1) hx hb dX5_nextOrder_87 (by decide) ?_
  refine lv_isub hx hb dX5_nextOrder_88 ?_
  refine lv_topi (fun zz ez => ?_)
  have ez : zz = 2 := ez.trans (by decide)
  subst ez
  refine lv_istore (lv' := [(4, .int 2), (3, .int 2), (2, .int 2), (1, .int 1), (0, .ref (a 37))]) hx hb dX5_nextOrder_89 hl (by decide) rfl (fun ls hl => ?_)
  refine lv_iload_n hx hb dX5_nextOrder_91 rfl (lv_at hl 1 rfl) ?_
  refine lv_iload hx hb dX5_nextOrder_92 (lv_at hl 0 rfl) ?_
  refine lv_icmp_ge hx hb (tgt := 113) dX5_nextOrder_94 (by decide) (fun c_x => ?_) (fun c_x => absurd (by decide) c_x)
  refine lv_iconst (v := 1) hx hb dX5_nextOrder_113 (by decide) ?_
  have hw := hw.arr 40 (f := (up2 (up2 σ 40 1 2) 40 2 1) 40) (g := permRow 3 1) rfl (row4 (((up2_rp (by decide)).trans (up2_rp (by decide))).trans (ht0)) ((up2_rp (by decide)).trans (up2_rs)) (up2_rs) (((up2_rp (by decide)).trans (up2_rp (by decide))).trans (ht3))) (wX_r40 _ _ _ _ _ _ _)
  simp only [row_up2] at hw
  exact g_zret S hr hlk hw (by decide) (by simp only [XP_nextOrder_3_0_r]) (by simp only [XP_nextOrder_3_0_s]) dX5_nextOrder_114
def XP_nextOrder_3_1_r (κ : Nat → Nat) (σ : Nat → Nat → Int32) : Int32 := 1
def XP_nextOrder_3_1_s (κ : Nat → Nat) (σ : Nat → Nat → Int32) : Nat → Nat → Int32 := row σ 40 (permRow 3 2)
theorem XP_nextOrder_3_1_z (κ : Nat → Nat) (σ : Nat → Nat → Int32) : XP_nextOrder_3_1_r κ σ = 0 ∨ XP_nextOrder_3_1_r κ σ = 1 := by
  unfold XP_nextOrder_3_1_r
  exact Or.inr rfl

set_option maxHeartbeats 4000000 in
set_option maxRecDepth 100000 in
theorem c_XP_nextOrder_3_1 (l : Launch) (D : va_G) (cI cC cI2 : ClassId) (a : Nat → Nat) (κ : Nat → Nat) (σ : Nat → Nat → Int32) (hp0 : σ 37 4 = nI 3) (ht0 : σ 40 0 = nI 0) (ht1 : σ 40 1 = nI 2) (ht2 : σ 40 2 = nI 1) (ht3 : σ 40 3 = nI 3) : gI l D (tysX cI cC cI2) yX5_nextOrder wsX5_nextOrder 2 [.ref (a 37)] (wX cI cC cI2 a κ σ) (XP_nextOrder_3_1_r κ σ) (wX cI cC cI2 a κ (XP_nextOrder_3_1_s κ σ)) := by
  refine g_start (cc := cX5_nextOrder) (maxL := 5) (ret := some .boolean) (Qc := gQi D (tysX cI cC cI2) (XP_nextOrder_3_1_r κ σ) (wX cI cC cI2 a κ (XP_nextOrder_3_1_s κ σ))) (by decide) rfl (Nat.le_of_ble_eq_true rfl) ?_
  intro p e s m below meth C A ls S hr hlk hw hl
  obtain ⟨hx, hb, hml, hown, hts⟩ := id S
  have hinX5 : ∀ x ∈ u_ws RX5 TX5 6, x ∈ wsX5_nextOrder := fun x h => List.mem_cons_of_mem _ (List.mem_append_right _ h)
  have lk0 : Cond.fieldLink RX5 24 "CowsOwed$Plans" "size" "I" ∈ wsX5_nextOrder := by decide +kernel
  have lk1 : Cond.fieldLink RX5 18 "CowsOwed$Plans" "tried" "[I" ∈ wsX5_nextOrder := by decide +kernel
  have hl : lv_has ls 5 [(0, .ref (a 37))] := hl
  refine lv_aload_n hx hb dX5_nextOrder_0 rfl (lv_at hl 0 rfl) ?_
  refine g_get S hw hinX5 (fs := fX37 a σ) 37 rfl rfl 4 (by decide) lk0 (v := .int 3) (congrArg (fun z => some (Value.int z)) (hp0)) dX5_nextOrder_1 ?_
  refine lv_iconst (v := 2) hx hb dX5_nextOrder_4 (by decide) ?_
  refine lv_isub hx hb dX5_nextOrder_5 ?_
  refine lv_topi (fun zz ez => ?_)
  have ez : zz = 1 := ez.trans (by decide)
  subst ez
  refine lv_istore_n (lv' := [(1, .int 1), (0, .ref (a 37))]) hx hb dX5_nextOrder_6 rfl hl (by decide) rfl (fun ls hl => ?_)
  refine lv_iload_n hx hb dX5_nextOrder_7 rfl (lv_at hl 0 rfl) ?_
  refine lv_if_lt hx hb (tgt := 34) dX5_nextOrder_8 (by decide) (fun c_x => absurd c_x (by decide)) (fun c_x => ?_)
  refine lv_aload_n hx hb dX5_nextOrder_11 rfl (lv_at hl 1 rfl) ?_
  refine g_get S hw hinX5 (fs := fX37 a σ) 37 rfl rfl 2 (by decide) lk1 (v := .ref (a 40)) rfl dX5_nextOrder_12 ?_
  refine lv_iload_n hx hb dX5_nextOrder_15 rfl (lv_at hl 0 rfl) ?_
  refine g_iald S hw (f := σ 40) (i := 1) (x := 2) 40 0 rfl rfl (by omega) (by decide) ht1 dX5_nextOrder_16 ?_
  refine lv_aload_n hx hb dX5_nextOrder_17 rfl (lv_at hl 1 rfl) ?_
  refine g_get S hw hinX5 (fs := fX37 a σ) 37 rfl rfl 2 (by decide) lk1 (v := .ref (a 40)) rfl dX5_nextOrder_18 ?_
  refine lv_iload_n hx hb dX5_nextOrder_21 rfl (lv_at hl 0 rfl) ?_
  refine lv_iconst (v := 1) hx hb dX5_nextOrder_22 (by decide) ?_
  refine lv_iadd hx hb dX5_nextOrder_23 ?_
  refine lv_topi (fun zz ez => ?_)
  have ez : zz = 2 := ez.trans (by decide)
  subst ez
  refine g_iald S hw (f := σ 40) (i := 2) (x := 1) 40 0 rfl rfl (by omega) (by decide) ht2 dX5_nextOrder_24 ?_
  refine lv_icmp_le hx hb (tgt := 34) dX5_nextOrder_25 (by decide) (fun c_x => absurd c_x (by decide)) (fun c_x => ?_)
  refine lv_iinc (v := 0) (lv' := [(1, .int 0), (0, .ref (a 37))]) hx hb dX5_nextOrder_28 hl (k := 0) rfl (by decide) (by decide) rfl (fun ls hl => ?_)
  refine lv_goto (tgt := 7) hx hb dX5_nextOrder_31 (by decide) ?_
  refine lv_iload_n hx hb dX5_nextOrder_7 rfl (lv_at hl 0 rfl) ?_
  refine lv_if_lt hx hb (tgt := 34) dX5_nextOrder_8 (by decide) (fun c_x => absurd c_x (by decide)) (fun c_x => ?_)
  refine lv_aload_n hx hb dX5_nextOrder_11 rfl (lv_at hl 1 rfl) ?_
  refine g_get S hw hinX5 (fs := fX37 a σ) 37 rfl rfl 2 (by decide) lk1 (v := .ref (a 40)) rfl dX5_nextOrder_12 ?_
  refine lv_iload_n hx hb dX5_nextOrder_15 rfl (lv_at hl 0 rfl) ?_
  refine g_iald S hw (f := σ 40) (i := 0) (x := 0) 40 0 rfl rfl (by omega) (by decide) ht0 dX5_nextOrder_16 ?_
  refine lv_aload_n hx hb dX5_nextOrder_17 rfl (lv_at hl 1 rfl) ?_
  refine g_get S hw hinX5 (fs := fX37 a σ) 37 rfl rfl 2 (by decide) lk1 (v := .ref (a 40)) rfl dX5_nextOrder_18 ?_
  refine lv_iload_n hx hb dX5_nextOrder_21 rfl (lv_at hl 0 rfl) ?_
  refine lv_iconst (v := 1) hx hb dX5_nextOrder_22 (by decide) ?_
  refine lv_iadd hx hb dX5_nextOrder_23 ?_
  refine lv_topi (fun zz ez => ?_)
  have ez : zz = 1 := ez.trans (by decide)
  subst ez
  refine g_iald S hw (f := σ 40) (i := 1) (x := 2) 40 0 rfl rfl (by omega) (by decide) ht1 dX5_nextOrder_24 ?_
  refine lv_icmp_le hx hb (tgt := 34) dX5_nextOrder_25 (by decide) (fun c_x => ?_) (fun c_x => absurd (by decide) c_x)
  refine lv_iload_n hx hb dX5_nextOrder_34 rfl (lv_at hl 0 rfl) ?_
  refine lv_if_ge hx hb (tgt := 40) dX5_nextOrder_35 (by decide) (fun c_x => ?_) (fun c_x => absurd (by decide) c_x)
  refine lv_aload_n hx hb dX5_nextOrder_40 rfl (lv_at hl 1 rfl) ?_
  refine g_get S hw hinX5 (fs := fX37 a σ) 37 rfl rfl 4 (by decide) lk0 (v := .int 3) (congrArg (fun z => some (Value.int z)) (hp0)) dX5_nextOrder_41 ?_
  refine lv_iconst (v := 1) hx hb dX5_nextOrder_44 (by decide) ?_
  refine lv_isub hx hb dX5_nextOrder_45 ?_
  refine lv_topi (fun zz ez => ?_)
  have ez : zz = 2 := ez.trans (by decide)
  subst ez
  refine lv_istore_n (lv' := [(2, .int 2), (1, .int 0), (0, .ref (a 37))]) hx hb dX5_nextOrder_46 rfl hl (by decide) rfl (fun ls hl => ?_)
  refine lv_iload_n hx hb dX5_nextOrder_47 rfl (lv_at hl 0 rfl) ?_
  refine lv_iload_n hx hb dX5_nextOrder_48 rfl (lv_at hl 1 rfl) ?_
  refine lv_icmp_le hx hb (tgt := 73) dX5_nextOrder_49 (by decide) (fun c_x => absurd c_x (by decide)) (fun c_x => ?_)
  refine lv_aload_n hx hb dX5_nextOrder_52 rfl (lv_at hl 2 rfl) ?_
  refine g_get S hw hinX5 (fs := fX37 a σ) 37 rfl rfl 2 (by decide) lk1 (v := .ref (a 40)) rfl dX5_nextOrder_53 ?_
  refine lv_iload_n hx hb dX5_nextOrder_56 rfl (lv_at hl 0 rfl) ?_
  refine g_iald S hw (f := σ 40) (i := 2) (x := 1) 40 0 rfl rfl (by omega) (by decide) ht2 dX5_nextOrder_57 ?_
  refine lv_aload_n hx hb dX5_nextOrder_58 rfl (lv_at hl 2 rfl) ?_
  refine g_get S hw hinX5 (fs := fX37 a σ) 37 rfl rfl 2 (by decide) lk1 (v := .ref (a 40)) rfl dX5_nextOrder_59 ?_
  refine lv_iload_n hx hb dX5_nextOrder_62 rfl (lv_at hl 1 rfl) ?_
  refine g_iald S hw (f := σ 40) (i := 0) (x := 0) 40 0 rfl rfl (by omega) (by decide) ht0 dX5_nextOrder_63 ?_
  refine lv_icmp_ge hx hb (tgt := 73) dX5_nextOrder_64 (by decide) (fun c_x => ?_) (fun c_x => absurd (by decide) c_x)
  refine lv_aload_n hx hb dX5_nextOrder_73 rfl (lv_at hl 2 rfl) ?_
  refine lv_iload_n hx hb dX5_nextOrder_74 rfl (lv_at hl 1 rfl) ?_
  refine lv_iload_n hx hb dX5_nextOrder_75 rfl (lv_at hl 0 rfl) ?_
  refine g_callVv S hw (c_XP_swapTried l D cI cC cI2 a κ σ 0 2 (by decide) (by decide)) gX5_nextOrder_X5_swapTried rfl 37 rfl rfl 2 rfl (by decide +kernel) (by decide) (by decide) hl.1 rfl (Nat.le_of_ble_eq_true rfl) dX5_nextOrder_76 (fun H locs hw => ?_)
  have ew : XP_swapTried_s κ σ 0 2 = up2 (up2 σ 40 0 1) 40 2 0 := by
    unfold XP_swapTried_s
    rw [show σ 40 2 = 1 from ht2, show σ 40 0 = 0 from ht0]
  rw [ew] at hw
  refine lv_iload_n hx hb dX5_nextOrder_79 rfl (lv_at hl 1 rfl) ?_
  refine lv_iconst (v := 1) hx hb dX5_nextOrder_80 (by decide) ?_
  refine lv_iadd hx hb dX5_nextOrder_81 ?_
  refine lv_topi (fun zz ez => ?_)
  have ez : zz = 1 := ez.trans (by decide)
  subst ez
  refine lv_istore_n (lv' := [(3, .int 1), (2, .int 2), (1, .int 0), (0, .ref (a 37))]) hx hb dX5_nextOrder_82 rfl hl (by decide) rfl (fun ls hl => ?_)
  refine lv_aload_n hx hb dX5_nextOrder_83 rfl (lv_at hl 3 rfl) ?_
  refine g_get S hw hinX5 (fs := fX37 a (up2 (up2 σ 40 0 1) 40 2 0)) 37 rfl rfl 4 (by decide) lk0 (v := .int 3) (congrArg (fun z => some (Value.int z)) (((up2_rn (by omega)).trans (up2_rn (by omega))).trans (hp0))) dX5_nextOrder_84 ?_
  refine lv_iconst (v := 1) hx hb dX5_nextOrder_87 (by decide) ?_
  refine lv_isub hx hb dX5_nextOrder_88 ?_
  refine lv_topi (fun zz ez => ?_)
  have ez : zz = 2 := ez.trans (by decide)
  subst ez
  refine lv_istore (lv' := [(4, .int 2), (3, .int 1), (2, .int 2), (1, .int 0), (0, .ref (a 37))]) hx hb dX5_nextOrder_89 hl (by decide) rfl (fun ls hl => ?_)
  refine lv_iload_n hx hb dX5_nextOrder_91 rfl (lv_at hl 1 rfl) ?_
  refine lv_iload hx hb dX5_nextOrder_92 (lv_at hl 0 rfl) ?_
  refine lv_icmp_ge hx hb (tgt := 113) dX5_nextOrder_94 (by decide) (fun c_x => absurd c_x (by decide)) (fun c_x => ?_)
  refine lv_aload_n hx hb dX5_nextOrder_97 rfl (lv_at hl 4 rfl) ?_
  refine lv_iload_n hx hb dX5_nextOrder_98 rfl (lv_at hl 1 rfl) ?_
  refine lv_iload hx hb dX5_nextOrder_99 (lv_at hl 0 rfl) ?_
  refine g_callVv S hw (c_XP_swapTried l D cI cC cI2 a κ (up2 (up2 σ 40 0 1) 40 2 0) 1 2 (by decide) (by decide)) gX5_nextOrder_X5_swapTried rfl 37 rfl rfl 2 rfl (by decide +kernel) (by decide) (by decide) hl.1 rfl (Nat.le_of_ble_eq_true rfl) dX5_nextOrder_101 (fun H locs hw => ?_)
  have ew : XP_swapTried_s κ (up2 (up2 σ 40 0 1) 40 2 0) 1 2 = up2 (up2 (up2 (up2 σ 40 0 1) 40 2 0) 40 1 0) 40 2 2 := by
    unfold XP_swapTried_s
    rw [show (up2 (up2 σ 40 0 1) 40 2 0) 40 2 = 0 from up2_rs, show (up2 (up2 σ 40 0 1) 40 2 0) 40 1 = 2 from ((up2_rp (by decide)).trans (up2_rp (by decide))).trans (ht1)]
  rw [ew] at hw
  refine lv_iinc (v := 2) (lv' := [(3, .int 2), (4, .int 2), (2, .int 2), (1, .int 0), (0, .ref (a 37))]) hx hb dX5_nextOrder_104 hl (k := 1) rfl (by decide) (by decide) rfl (fun ls hl => ?_)
  refine lv_iinc (v := 1) (lv' := [(4, .int 1), (3, .int 2), (2, .int 2), (1, .int 0), (0, .ref (a 37))]) hx hb dX5_nextOrder_107 hl (k := 1) rfl (by decide) (by decide) rfl (fun ls hl => ?_)
  refine lv_goto (tgt := 91) hx hb dX5_nextOrder_110 (by decide) ?_
  refine lv_iload_n hx hb dX5_nextOrder_91 rfl (lv_at hl 1 rfl) ?_
  refine lv_iload hx hb dX5_nextOrder_92 (lv_at hl 0 rfl) ?_
  refine lv_icmp_ge hx hb (tgt := 113) dX5_nextOrder_94 (by decide) (fun c_x => ?_) (fun c_x => absurd (by decide) c_x)
  refine lv_iconst (v := 1) hx hb dX5_nextOrder_113 (by decide) ?_
  have hw := hw.arr 40 (f := (up2 (up2 (up2 (up2 σ 40 0 1) 40 2 0) 40 1 0) 40 2 2) 40) (g := permRow 3 2) rfl (row4 ((up2_rp (by decide)).trans ((up2_rp (by decide)).trans ((up2_rp (by decide)).trans (up2_rs)))) ((up2_rp (by decide)).trans (up2_rs)) (up2_rs) (((up2_rp (by decide)).trans ((up2_rp (by decide)).trans ((up2_rp (by decide)).trans (up2_rp (by decide))))).trans (ht3))) (wX_r40 _ _ _ _ _ _ _)
  simp only [row_up2] at hw
  exact g_zret S hr hlk hw (by decide) (by simp only [XP_nextOrder_3_1_r]) (by simp only [XP_nextOrder_3_1_s]) dX5_nextOrder_114
def XP_nextOrder_3_2_r (κ : Nat → Nat) (σ : Nat → Nat → Int32) : Int32 := 1
def XP_nextOrder_3_2_s (κ : Nat → Nat) (σ : Nat → Nat → Int32) : Nat → Nat → Int32 := row σ 40 (permRow 3 3)
theorem XP_nextOrder_3_2_z (κ : Nat → Nat) (σ : Nat → Nat → Int32) : XP_nextOrder_3_2_r κ σ = 0 ∨ XP_nextOrder_3_2_r κ σ = 1 := by
  unfold XP_nextOrder_3_2_r
  exact Or.inr rfl

set_option maxHeartbeats 4000000 in
set_option maxRecDepth 100000 in
theorem c_XP_nextOrder_3_2 (l : Launch) (D : va_G) (cI cC cI2 : ClassId) (a : Nat → Nat) (κ : Nat → Nat) (σ : Nat → Nat → Int32) (hp0 : σ 37 4 = nI 3) (ht0 : σ 40 0 = nI 1) (ht1 : σ 40 1 = nI 0) (ht2 : σ 40 2 = nI 2) (ht3 : σ 40 3 = nI 3) : gI l D (tysX cI cC cI2) yX5_nextOrder wsX5_nextOrder 2 [.ref (a 37)] (wX cI cC cI2 a κ σ) (XP_nextOrder_3_2_r κ σ) (wX cI cC cI2 a κ (XP_nextOrder_3_2_s κ σ)) := by
  refine g_start (cc := cX5_nextOrder) (maxL := 5) (ret := some .boolean) (Qc := gQi D (tysX cI cC cI2) (XP_nextOrder_3_2_r κ σ) (wX cI cC cI2 a κ (XP_nextOrder_3_2_s κ σ))) (by decide) rfl (Nat.le_of_ble_eq_true rfl) ?_
  intro p e s m below meth C A ls S hr hlk hw hl
  obtain ⟨hx, hb, hml, hown, hts⟩ := id S
  have hinX5 : ∀ x ∈ u_ws RX5 TX5 6, x ∈ wsX5_nextOrder := fun x h => List.mem_cons_of_mem _ (List.mem_append_right _ h)
  have lk0 : Cond.fieldLink RX5 24 "CowsOwed$Plans" "size" "I" ∈ wsX5_nextOrder := by decide +kernel
  have lk1 : Cond.fieldLink RX5 18 "CowsOwed$Plans" "tried" "[I" ∈ wsX5_nextOrder := by decide +kernel
  have hl : lv_has ls 5 [(0, .ref (a 37))] := hl
  refine lv_aload_n hx hb dX5_nextOrder_0 rfl (lv_at hl 0 rfl) ?_
  refine g_get S hw hinX5 (fs := fX37 a σ) 37 rfl rfl 4 (by decide) lk0 (v := .int 3) (congrArg (fun z => some (Value.int z)) (hp0)) dX5_nextOrder_1 ?_
  refine lv_iconst (v := 2) hx hb dX5_nextOrder_4 (by decide) ?_
  refine lv_isub hx hb dX5_nextOrder_5 ?_
  refine lv_topi (fun zz ez => ?_)
  have ez : zz = 1 := ez.trans (by decide)
  subst ez
  refine lv_istore_n (lv' := [(1, .int 1), (0, .ref (a 37))]) hx hb dX5_nextOrder_6 rfl hl (by decide) rfl (fun ls hl => ?_)
  refine lv_iload_n hx hb dX5_nextOrder_7 rfl (lv_at hl 0 rfl) ?_
  refine lv_if_lt hx hb (tgt := 34) dX5_nextOrder_8 (by decide) (fun c_x => absurd c_x (by decide)) (fun c_x => ?_)
  refine lv_aload_n hx hb dX5_nextOrder_11 rfl (lv_at hl 1 rfl) ?_
  refine g_get S hw hinX5 (fs := fX37 a σ) 37 rfl rfl 2 (by decide) lk1 (v := .ref (a 40)) rfl dX5_nextOrder_12 ?_
  refine lv_iload_n hx hb dX5_nextOrder_15 rfl (lv_at hl 0 rfl) ?_
  refine g_iald S hw (f := σ 40) (i := 1) (x := 0) 40 0 rfl rfl (by omega) (by decide) ht1 dX5_nextOrder_16 ?_
  refine lv_aload_n hx hb dX5_nextOrder_17 rfl (lv_at hl 1 rfl) ?_
  refine g_get S hw hinX5 (fs := fX37 a σ) 37 rfl rfl 2 (by decide) lk1 (v := .ref (a 40)) rfl dX5_nextOrder_18 ?_
  refine lv_iload_n hx hb dX5_nextOrder_21 rfl (lv_at hl 0 rfl) ?_
  refine lv_iconst (v := 1) hx hb dX5_nextOrder_22 (by decide) ?_
  refine lv_iadd hx hb dX5_nextOrder_23 ?_
  refine lv_topi (fun zz ez => ?_)
  have ez : zz = 2 := ez.trans (by decide)
  subst ez
  refine g_iald S hw (f := σ 40) (i := 2) (x := 2) 40 0 rfl rfl (by omega) (by decide) ht2 dX5_nextOrder_24 ?_
  refine lv_icmp_le hx hb (tgt := 34) dX5_nextOrder_25 (by decide) (fun c_x => ?_) (fun c_x => absurd (by decide) c_x)
  refine lv_iload_n hx hb dX5_nextOrder_34 rfl (lv_at hl 0 rfl) ?_
  refine lv_if_ge hx hb (tgt := 40) dX5_nextOrder_35 (by decide) (fun c_x => ?_) (fun c_x => absurd (by decide) c_x)
  refine lv_aload_n hx hb dX5_nextOrder_40 rfl (lv_at hl 1 rfl) ?_
  refine g_get S hw hinX5 (fs := fX37 a σ) 37 rfl rfl 4 (by decide) lk0 (v := .int 3) (congrArg (fun z => some (Value.int z)) (hp0)) dX5_nextOrder_41 ?_
  refine lv_iconst (v := 1) hx hb dX5_nextOrder_44 (by decide) ?_
  refine lv_isub hx hb dX5_nextOrder_45 ?_
  refine lv_topi (fun zz ez => ?_)
  have ez : zz = 2 := ez.trans (by decide)
  subst ez
  refine lv_istore_n (lv' := [(2, .int 2), (1, .int 1), (0, .ref (a 37))]) hx hb dX5_nextOrder_46 rfl hl (by decide) rfl (fun ls hl => ?_)
  refine lv_iload_n hx hb dX5_nextOrder_47 rfl (lv_at hl 0 rfl) ?_
  refine lv_iload_n hx hb dX5_nextOrder_48 rfl (lv_at hl 1 rfl) ?_
  refine lv_icmp_le hx hb (tgt := 73) dX5_nextOrder_49 (by decide) (fun c_x => absurd c_x (by decide)) (fun c_x => ?_)
  refine lv_aload_n hx hb dX5_nextOrder_52 rfl (lv_at hl 2 rfl) ?_
  refine g_get S hw hinX5 (fs := fX37 a σ) 37 rfl rfl 2 (by decide) lk1 (v := .ref (a 40)) rfl dX5_nextOrder_53 ?_
  refine lv_iload_n hx hb dX5_nextOrder_56 rfl (lv_at hl 0 rfl) ?_
  refine g_iald S hw (f := σ 40) (i := 2) (x := 2) 40 0 rfl rfl (by omega) (by decide) ht2 dX5_nextOrder_57 ?_
  refine lv_aload_n hx hb dX5_nextOrder_58 rfl (lv_at hl 2 rfl) ?_
  refine g_get S hw hinX5 (fs := fX37 a σ) 37 rfl rfl 2 (by decide) lk1 (v := .ref (a 40)) rfl dX5_nextOrder_59 ?_
  refine lv_iload_n hx hb dX5_nextOrder_62 rfl (lv_at hl 1 rfl) ?_
  refine g_iald S hw (f := σ 40) (i := 1) (x := 0) 40 0 rfl rfl (by omega) (by decide) ht1 dX5_nextOrder_63 ?_
  refine lv_icmp_ge hx hb (tgt := 73) dX5_nextOrder_64 (by decide) (fun c_x => ?_) (fun c_x => absurd (by decide) c_x)
  refine lv_aload_n hx hb dX5_nextOrder_73 rfl (lv_at hl 2 rfl) ?_
  refine lv_iload_n hx hb dX5_nextOrder_74 rfl (lv_at hl 1 rfl) ?_
  refine lv_iload_n hx hb dX5_nextOrder_75 rfl (lv_at hl 0 rfl) ?_
  refine g_callVv S hw (c_XP_swapTried l D cI cC cI2 a κ σ 1 2 (by decide) (by decide)) gX5_nextOrder_X5_swapTried rfl 37 rfl rfl 2 rfl (by decide +kernel) (by decide) (by decide) hl.1 rfl (Nat.le_of_ble_eq_true rfl) dX5_nextOrder_76 (fun H locs hw => ?_)
  have ew : XP_swapTried_s κ σ 1 2 = up2 (up2 σ 40 1 2) 40 2 0 := by
    unfold XP_swapTried_s
    rw [show σ 40 2 = 2 from ht2, show σ 40 1 = 0 from ht1]
  rw [ew] at hw
  refine lv_iload_n hx hb dX5_nextOrder_79 rfl (lv_at hl 1 rfl) ?_
  refine lv_iconst (v := 1) hx hb dX5_nextOrder_80 (by decide) ?_
  refine lv_iadd hx hb dX5_nextOrder_81 ?_
  refine lv_topi (fun zz ez => ?_)
  have ez : zz = 2 := ez.trans (by decide)
  subst ez
  refine lv_istore_n (lv' := [(3, .int 2), (2, .int 2), (1, .int 1), (0, .ref (a 37))]) hx hb dX5_nextOrder_82 rfl hl (by decide) rfl (fun ls hl => ?_)
  refine lv_aload_n hx hb dX5_nextOrder_83 rfl (lv_at hl 3 rfl) ?_
  refine g_get S hw hinX5 (fs := fX37 a (up2 (up2 σ 40 1 2) 40 2 0)) 37 rfl rfl 4 (by decide) lk0 (v := .int 3) (congrArg (fun z => some (Value.int z)) (((up2_rn (by omega)).trans (up2_rn (by omega))).trans (hp0))) dX5_nextOrder_84 ?_
  refine lv_iconst (v := 1) hx hb dX5_nextOrder_87 (by decide) ?_
  refine lv_isub hx hb dX5_nextOrder_88 ?_
  refine lv_topi (fun zz ez => ?_)
  have ez : zz = 2 := ez.trans (by decide)
  subst ez
  refine lv_istore (lv' := [(4, .int 2), (3, .int 2), (2, .int 2), (1, .int 1), (0, .ref (a 37))]) hx hb dX5_nextOrder_89 hl (by decide) rfl (fun ls hl => ?_)
  refine lv_iload_n hx hb dX5_nextOrder_91 rfl (lv_at hl 1 rfl) ?_
  refine lv_iload hx hb dX5_nextOrder_92 (lv_at hl 0 rfl) ?_
  refine lv_icmp_ge hx hb (tgt := 113) dX5_nextOrder_94 (by decide) (fun c_x => ?_) (fun c_x => absurd (by decide) c_x)
  refine lv_iconst (v := 1) hx hb dX5_nextOrder_113 (by decide) ?_
  have hw := hw.arr 40 (f := (up2 (up2 σ 40 1 2) 40 2 0) 40) (g := permRow 3 3) rfl (row4 (((up2_rp (by decide)).trans (up2_rp (by decide))).trans (ht0)) ((up2_rp (by decide)).trans (up2_rs)) (up2_rs) (((up2_rp (by decide)).trans (up2_rp (by decide))).trans (ht3))) (wX_r40 _ _ _ _ _ _ _)
  simp only [row_up2] at hw
  exact g_zret S hr hlk hw (by decide) (by simp only [XP_nextOrder_3_2_r]) (by simp only [XP_nextOrder_3_2_s]) dX5_nextOrder_114
def XP_nextOrder_3_3_r (κ : Nat → Nat) (σ : Nat → Nat → Int32) : Int32 := 1
def XP_nextOrder_3_3_s (κ : Nat → Nat) (σ : Nat → Nat → Int32) : Nat → Nat → Int32 := row σ 40 (permRow 3 4)
theorem XP_nextOrder_3_3_z (κ : Nat → Nat) (σ : Nat → Nat → Int32) : XP_nextOrder_3_3_r κ σ = 0 ∨ XP_nextOrder_3_3_r κ σ = 1 := by
  unfold XP_nextOrder_3_3_r
  exact Or.inr rfl

set_option maxHeartbeats 4000000 in
set_option maxRecDepth 100000 in
theorem c_XP_nextOrder_3_3 (l : Launch) (D : va_G) (cI cC cI2 : ClassId) (a : Nat → Nat) (κ : Nat → Nat) (σ : Nat → Nat → Int32) (hp0 : σ 37 4 = nI 3) (ht0 : σ 40 0 = nI 1) (ht1 : σ 40 1 = nI 2) (ht2 : σ 40 2 = nI 0) (ht3 : σ 40 3 = nI 3) : gI l D (tysX cI cC cI2) yX5_nextOrder wsX5_nextOrder 2 [.ref (a 37)] (wX cI cC cI2 a κ σ) (XP_nextOrder_3_3_r κ σ) (wX cI cC cI2 a κ (XP_nextOrder_3_3_s κ σ)) := by
  refine g_start (cc := cX5_nextOrder) (maxL := 5) (ret := some .boolean) (Qc := gQi D (tysX cI cC cI2) (XP_nextOrder_3_3_r κ σ) (wX cI cC cI2 a κ (XP_nextOrder_3_3_s κ σ))) (by decide) rfl (Nat.le_of_ble_eq_true rfl) ?_
  intro p e s m below meth C A ls S hr hlk hw hl
  obtain ⟨hx, hb, hml, hown, hts⟩ := id S
  have hinX5 : ∀ x ∈ u_ws RX5 TX5 6, x ∈ wsX5_nextOrder := fun x h => List.mem_cons_of_mem _ (List.mem_append_right _ h)
  have lk0 : Cond.fieldLink RX5 24 "CowsOwed$Plans" "size" "I" ∈ wsX5_nextOrder := by decide +kernel
  have lk1 : Cond.fieldLink RX5 18 "CowsOwed$Plans" "tried" "[I" ∈ wsX5_nextOrder := by decide +kernel
  have hl : lv_has ls 5 [(0, .ref (a 37))] := hl
  refine lv_aload_n hx hb dX5_nextOrder_0 rfl (lv_at hl 0 rfl) ?_
  refine g_get S hw hinX5 (fs := fX37 a σ) 37 rfl rfl 4 (by decide) lk0 (v := .int 3) (congrArg (fun z => some (Value.int z)) (hp0)) dX5_nextOrder_1 ?_
  refine lv_iconst (v := 2) hx hb dX5_nextOrder_4 (by decide) ?_
  refine lv_isub hx hb dX5_nextOrder_5 ?_
  refine lv_topi (fun zz ez => ?_)
  have ez : zz = 1 := ez.trans (by decide)
  subst ez
  refine lv_istore_n (lv' := [(1, .int 1), (0, .ref (a 37))]) hx hb dX5_nextOrder_6 rfl hl (by decide) rfl (fun ls hl => ?_)
  refine lv_iload_n hx hb dX5_nextOrder_7 rfl (lv_at hl 0 rfl) ?_
  refine lv_if_lt hx hb (tgt := 34) dX5_nextOrder_8 (by decide) (fun c_x => absurd c_x (by decide)) (fun c_x => ?_)
  refine lv_aload_n hx hb dX5_nextOrder_11 rfl (lv_at hl 1 rfl) ?_
  refine g_get S hw hinX5 (fs := fX37 a σ) 37 rfl rfl 2 (by decide) lk1 (v := .ref (a 40)) rfl dX5_nextOrder_12 ?_
  refine lv_iload_n hx hb dX5_nextOrder_15 rfl (lv_at hl 0 rfl) ?_
  refine g_iald S hw (f := σ 40) (i := 1) (x := 2) 40 0 rfl rfl (by omega) (by decide) ht1 dX5_nextOrder_16 ?_
  refine lv_aload_n hx hb dX5_nextOrder_17 rfl (lv_at hl 1 rfl) ?_
  refine g_get S hw hinX5 (fs := fX37 a σ) 37 rfl rfl 2 (by decide) lk1 (v := .ref (a 40)) rfl dX5_nextOrder_18 ?_
  refine lv_iload_n hx hb dX5_nextOrder_21 rfl (lv_at hl 0 rfl) ?_
  refine lv_iconst (v := 1) hx hb dX5_nextOrder_22 (by decide) ?_
  refine lv_iadd hx hb dX5_nextOrder_23 ?_
  refine lv_topi (fun zz ez => ?_)
  have ez : zz = 2 := ez.trans (by decide)
  subst ez
  refine g_iald S hw (f := σ 40) (i := 2) (x := 0) 40 0 rfl rfl (by omega) (by decide) ht2 dX5_nextOrder_24 ?_
  refine lv_icmp_le hx hb (tgt := 34) dX5_nextOrder_25 (by decide) (fun c_x => absurd c_x (by decide)) (fun c_x => ?_)
  refine lv_iinc (v := 0) (lv' := [(1, .int 0), (0, .ref (a 37))]) hx hb dX5_nextOrder_28 hl (k := 0) rfl (by decide) (by decide) rfl (fun ls hl => ?_)
  refine lv_goto (tgt := 7) hx hb dX5_nextOrder_31 (by decide) ?_
  refine lv_iload_n hx hb dX5_nextOrder_7 rfl (lv_at hl 0 rfl) ?_
  refine lv_if_lt hx hb (tgt := 34) dX5_nextOrder_8 (by decide) (fun c_x => absurd c_x (by decide)) (fun c_x => ?_)
  refine lv_aload_n hx hb dX5_nextOrder_11 rfl (lv_at hl 1 rfl) ?_
  refine g_get S hw hinX5 (fs := fX37 a σ) 37 rfl rfl 2 (by decide) lk1 (v := .ref (a 40)) rfl dX5_nextOrder_12 ?_
  refine lv_iload_n hx hb dX5_nextOrder_15 rfl (lv_at hl 0 rfl) ?_
  refine g_iald S hw (f := σ 40) (i := 0) (x := 1) 40 0 rfl rfl (by omega) (by decide) ht0 dX5_nextOrder_16 ?_
  refine lv_aload_n hx hb dX5_nextOrder_17 rfl (lv_at hl 1 rfl) ?_
  refine g_get S hw hinX5 (fs := fX37 a σ) 37 rfl rfl 2 (by decide) lk1 (v := .ref (a 40)) rfl dX5_nextOrder_18 ?_
  refine lv_iload_n hx hb dX5_nextOrder_21 rfl (lv_at hl 0 rfl) ?_
  refine lv_iconst (v := 1) hx hb dX5_nextOrder_22 (by decide) ?_
  refine lv_iadd hx hb dX5_nextOrder_23 ?_
  refine lv_topi (fun zz ez => ?_)
  have ez : zz = 1 := ez.trans (by decide)
  subst ez
  refine g_iald S hw (f := σ 40) (i := 1) (x := 2) 40 0 rfl rfl (by omega) (by decide) ht1 dX5_nextOrder_24 ?_
  refine lv_icmp_le hx hb (tgt := 34) dX5_nextOrder_25 (by decide) (fun c_x => ?_) (fun c_x => absurd (by decide) c_x)
  refine lv_iload_n hx hb dX5_nextOrder_34 rfl (lv_at hl 0 rfl) ?_
  refine lv_if_ge hx hb (tgt := 40) dX5_nextOrder_35 (by decide) (fun c_x => ?_) (fun c_x => absurd (by decide) c_x)
  refine lv_aload_n hx hb dX5_nextOrder_40 rfl (lv_at hl 1 rfl) ?_
  refine g_get S hw hinX5 (fs := fX37 a σ) 37 rfl rfl 4 (by decide) lk0 (v := .int 3) (congrArg (fun z => some (Value.int z)) (hp0)) dX5_nextOrder_41 ?_
  refine lv_iconst (v := 1) hx hb dX5_nextOrder_44 (by decide) ?_
  refine lv_isub hx hb dX5_nextOrder_45 ?_
  refine lv_topi (fun zz ez => ?_)
  have ez : zz = 2 := ez.trans (by decide)
  subst ez
  refine lv_istore_n (lv' := [(2, .int 2), (1, .int 0), (0, .ref (a 37))]) hx hb dX5_nextOrder_46 rfl hl (by decide) rfl (fun ls hl => ?_)
  refine lv_iload_n hx hb dX5_nextOrder_47 rfl (lv_at hl 0 rfl) ?_
  refine lv_iload_n hx hb dX5_nextOrder_48 rfl (lv_at hl 1 rfl) ?_
  refine lv_icmp_le hx hb (tgt := 73) dX5_nextOrder_49 (by decide) (fun c_x => absurd c_x (by decide)) (fun c_x => ?_)
  refine lv_aload_n hx hb dX5_nextOrder_52 rfl (lv_at hl 2 rfl) ?_
  refine g_get S hw hinX5 (fs := fX37 a σ) 37 rfl rfl 2 (by decide) lk1 (v := .ref (a 40)) rfl dX5_nextOrder_53 ?_
  refine lv_iload_n hx hb dX5_nextOrder_56 rfl (lv_at hl 0 rfl) ?_
  refine g_iald S hw (f := σ 40) (i := 2) (x := 0) 40 0 rfl rfl (by omega) (by decide) ht2 dX5_nextOrder_57 ?_
  refine lv_aload_n hx hb dX5_nextOrder_58 rfl (lv_at hl 2 rfl) ?_
  refine g_get S hw hinX5 (fs := fX37 a σ) 37 rfl rfl 2 (by decide) lk1 (v := .ref (a 40)) rfl dX5_nextOrder_59 ?_
  refine lv_iload_n hx hb dX5_nextOrder_62 rfl (lv_at hl 1 rfl) ?_
  refine g_iald S hw (f := σ 40) (i := 0) (x := 1) 40 0 rfl rfl (by omega) (by decide) ht0 dX5_nextOrder_63 ?_
  refine lv_icmp_ge hx hb (tgt := 73) dX5_nextOrder_64 (by decide) (fun c_x => absurd c_x (by decide)) (fun c_x => ?_)
  refine lv_iinc (v := 1) (lv' := [(2, .int 1), (1, .int 0), (0, .ref (a 37))]) hx hb dX5_nextOrder_67 hl (k := 0) rfl (by decide) (by decide) rfl (fun ls hl => ?_)
  refine lv_goto (tgt := 47) hx hb dX5_nextOrder_70 (by decide) ?_
  refine lv_iload_n hx hb dX5_nextOrder_47 rfl (lv_at hl 0 rfl) ?_
  refine lv_iload_n hx hb dX5_nextOrder_48 rfl (lv_at hl 1 rfl) ?_
  refine lv_icmp_le hx hb (tgt := 73) dX5_nextOrder_49 (by decide) (fun c_x => absurd c_x (by decide)) (fun c_x => ?_)
  refine lv_aload_n hx hb dX5_nextOrder_52 rfl (lv_at hl 2 rfl) ?_
  refine g_get S hw hinX5 (fs := fX37 a σ) 37 rfl rfl 2 (by decide) lk1 (v := .ref (a 40)) rfl dX5_nextOrder_53 ?_
  refine lv_iload_n hx hb dX5_nextOrder_56 rfl (lv_at hl 0 rfl) ?_
  refine g_iald S hw (f := σ 40) (i := 1) (x := 2) 40 0 rfl rfl (by omega) (by decide) ht1 dX5_nextOrder_57 ?_
  refine lv_aload_n hx hb dX5_nextOrder_58 rfl (lv_at hl 2 rfl) ?_
  refine g_get S hw hinX5 (fs := fX37 a σ) 37 rfl rfl 2 (by decide) lk1 (v := .ref (a 40)) rfl dX5_nextOrder_59 ?_
  refine lv_iload_n hx hb dX5_nextOrder_62 rfl (lv_at hl 1 rfl) ?_
  refine g_iald S hw (f := σ 40) (i := 0) (x := 1) 40 0 rfl rfl (by omega) (by decide) ht0 dX5_nextOrder_63 ?_
  refine lv_icmp_ge hx hb (tgt := 73) dX5_nextOrder_64 (by decide) (fun c_x => ?_) (fun c_x => absurd (by decide) c_x)
  refine lv_aload_n hx hb dX5_nextOrder_73 rfl (lv_at hl 2 rfl) ?_
  refine lv_iload_n hx hb dX5_nextOrder_74 rfl (lv_at hl 1 rfl) ?_
  refine lv_iload_n hx hb dX5_nextOrder_75 rfl (lv_at hl 0 rfl) ?_
  refine g_callVv S hw (c_XP_swapTried l D cI cC cI2 a κ σ 0 1 (by decide) (by decide)) gX5_nextOrder_X5_swapTried rfl 37 rfl rfl 2 rfl (by decide +kernel) (by decide) (by decide) hl.1 rfl (Nat.le_of_ble_eq_true rfl) dX5_nextOrder_76 (fun H locs hw => ?_)
  have ew : XP_swapTried_s κ σ 0 1 = up2 (up2 σ 40 0 2) 40 1 1 := by
    unfold XP_swapTried_s
    rw [show σ 40 1 = 2 from ht1, show σ 40 0 = 1 from ht0]
  rw [ew] at hw
  refine lv_iload_n hx hb dX5_nextOrder_79 rfl (lv_at hl 1 rfl) ?_
  refine lv_iconst (v := 1) hx hb dX5_nextOrder_80 (by decide) ?_
  refine lv_iadd hx hb dX5_nextOrder_81 ?_
  refine lv_topi (fun zz ez => ?_)
  have ez : zz = 1 := ez.trans (by decide)
  subst ez
  refine lv_istore_n (lv' := [(3, .int 1), (2, .int 1), (1, .int 0), (0, .ref (a 37))]) hx hb dX5_nextOrder_82 rfl hl (by decide) rfl (fun ls hl => ?_)
  refine lv_aload_n hx hb dX5_nextOrder_83 rfl (lv_at hl 3 rfl) ?_
  refine g_get S hw hinX5 (fs := fX37 a (up2 (up2 σ 40 0 2) 40 1 1)) 37 rfl rfl 4 (by decide) lk0 (v := .int 3) (congrArg (fun z => some (Value.int z)) (((up2_rn (by omega)).trans (up2_rn (by omega))).trans (hp0))) dX5_nextOrder_84 ?_
  refine lv_iconst (v := 1) hx hb dX5_nextOrder_87 (by decide) ?_
  refine lv_isub hx hb dX5_nextOrder_88 ?_
  refine lv_topi (fun zz ez => ?_)
  have ez : zz = 2 := ez.trans (by decide)
  subst ez
  refine lv_istore (lv' := [(4, .int 2), (3, .int 1), (2, .int 1), (1, .int 0), (0, .ref (a 37))]) hx hb dX5_nextOrder_89 hl (by decide) rfl (fun ls hl => ?_)
  refine lv_iload_n hx hb dX5_nextOrder_91 rfl (lv_at hl 1 rfl) ?_
  refine lv_iload hx hb dX5_nextOrder_92 (lv_at hl 0 rfl) ?_
  refine lv_icmp_ge hx hb (tgt := 113) dX5_nextOrder_94 (by decide) (fun c_x => absurd c_x (by decide)) (fun c_x => ?_)
  refine lv_aload_n hx hb dX5_nextOrder_97 rfl (lv_at hl 4 rfl) ?_
  refine lv_iload_n hx hb dX5_nextOrder_98 rfl (lv_at hl 1 rfl) ?_
  refine lv_iload hx hb dX5_nextOrder_99 (lv_at hl 0 rfl) ?_
  refine g_callVv S hw (c_XP_swapTried l D cI cC cI2 a κ (up2 (up2 σ 40 0 2) 40 1 1) 1 2 (by decide) (by decide)) gX5_nextOrder_X5_swapTried rfl 37 rfl rfl 2 rfl (by decide +kernel) (by decide) (by decide) hl.1 rfl (Nat.le_of_ble_eq_true rfl) dX5_nextOrder_101 (fun H locs hw => ?_)
  have ew : XP_swapTried_s κ (up2 (up2 σ 40 0 2) 40 1 1) 1 2 = up2 (up2 (up2 (up2 σ 40 0 2) 40 1 1) 40 1 0) 40 2 1 := by
    unfold XP_swapTried_s
    rw [show (up2 (up2 σ 40 0 2) 40 1 1) 40 2 = 0 from ((up2_rp (by decide)).trans (up2_rp (by decide))).trans (ht2), show (up2 (up2 σ 40 0 2) 40 1 1) 40 1 = 1 from up2_rs]
  rw [ew] at hw
  refine lv_iinc (v := 2) (lv' := [(3, .int 2), (4, .int 2), (2, .int 1), (1, .int 0), (0, .ref (a 37))]) hx hb dX5_nextOrder_104 hl (k := 1) rfl (by decide) (by decide) rfl (fun ls hl => ?_)
  refine lv_iinc (v := 1) (lv' := [(4, .int 1), (3, .int 2), (2, .int 1), (1, .int 0), (0, .ref (a 37))]) hx hb dX5_nextOrder_107 hl (k := 1) rfl (by decide) (by decide) rfl (fun ls hl => ?_)
  refine lv_goto (tgt := 91) hx hb dX5_nextOrder_110 (by decide) ?_
  refine lv_iload_n hx hb dX5_nextOrder_91 rfl (lv_at hl 1 rfl) ?_
  refine lv_iload hx hb dX5_nextOrder_92 (lv_at hl 0 rfl) ?_
  refine lv_icmp_ge hx hb (tgt := 113) dX5_nextOrder_94 (by decide) (fun c_x => ?_) (fun c_x => absurd (by decide) c_x)
  refine lv_iconst (v := 1) hx hb dX5_nextOrder_113 (by decide) ?_
  have hw := hw.arr 40 (f := (up2 (up2 (up2 (up2 σ 40 0 2) 40 1 1) 40 1 0) 40 2 1) 40) (g := permRow 3 4) rfl (row4 ((up2_rp (by decide)).trans ((up2_rp (by decide)).trans ((up2_rp (by decide)).trans (up2_rs)))) ((up2_rp (by decide)).trans (up2_rs)) (up2_rs) (((up2_rp (by decide)).trans ((up2_rp (by decide)).trans ((up2_rp (by decide)).trans (up2_rp (by decide))))).trans (ht3))) (wX_r40 _ _ _ _ _ _ _)
  simp only [row_up2] at hw
  exact g_zret S hr hlk hw (by decide) (by simp only [XP_nextOrder_3_3_r]) (by simp only [XP_nextOrder_3_3_s]) dX5_nextOrder_114
def XP_nextOrder_3_4_r (κ : Nat → Nat) (σ : Nat → Nat → Int32) : Int32 := 1
def XP_nextOrder_3_4_s (κ : Nat → Nat) (σ : Nat → Nat → Int32) : Nat → Nat → Int32 := row σ 40 (permRow 3 5)
theorem XP_nextOrder_3_4_z (κ : Nat → Nat) (σ : Nat → Nat → Int32) : XP_nextOrder_3_4_r κ σ = 0 ∨ XP_nextOrder_3_4_r κ σ = 1 := by
  unfold XP_nextOrder_3_4_r
  exact Or.inr rfl

set_option maxHeartbeats 4000000 in
set_option maxRecDepth 100000 in
theorem c_XP_nextOrder_3_4 (l : Launch) (D : va_G) (cI cC cI2 : ClassId) (a : Nat → Nat) (κ : Nat → Nat) (σ : Nat → Nat → Int32) (hp0 : σ 37 4 = nI 3) (ht0 : σ 40 0 = nI 2) (ht1 : σ 40 1 = nI 0) (ht2 : σ 40 2 = nI 1) (ht3 : σ 40 3 = nI 3) : gI l D (tysX cI cC cI2) yX5_nextOrder wsX5_nextOrder 2 [.ref (a 37)] (wX cI cC cI2 a κ σ) (XP_nextOrder_3_4_r κ σ) (wX cI cC cI2 a κ (XP_nextOrder_3_4_s κ σ)) := by
  refine g_start (cc := cX5_nextOrder) (maxL := 5) (ret := some .boolean) (Qc := gQi D (tysX cI cC cI2) (XP_nextOrder_3_4_r κ σ) (wX cI cC cI2 a κ (XP_nextOrder_3_4_s κ σ))) (by decide) rfl (Nat.le_of_ble_eq_true rfl) ?_
  intro p e s m below meth C A ls S hr hlk hw hl
  obtain ⟨hx, hb, hml, hown, hts⟩ := id S
  have hinX5 : ∀ x ∈ u_ws RX5 TX5 6, x ∈ wsX5_nextOrder := fun x h => List.mem_cons_of_mem _ (List.mem_append_right _ h)
  have lk0 : Cond.fieldLink RX5 24 "CowsOwed$Plans" "size" "I" ∈ wsX5_nextOrder := by decide +kernel
  have lk1 : Cond.fieldLink RX5 18 "CowsOwed$Plans" "tried" "[I" ∈ wsX5_nextOrder := by decide +kernel
  have hl : lv_has ls 5 [(0, .ref (a 37))] := hl
  refine lv_aload_n hx hb dX5_nextOrder_0 rfl (lv_at hl 0 rfl) ?_
  refine g_get S hw hinX5 (fs := fX37 a σ) 37 rfl rfl 4 (by decide) lk0 (v := .int 3) (congrArg (fun z => some (Value.int z)) (hp0)) dX5_nextOrder_1 ?_
  refine lv_iconst (v := 2) hx hb dX5_nextOrder_4 (by decide) ?_
  refine lv_isub hx hb dX5_nextOrder_5 ?_
  refine lv_topi (fun zz ez => ?_)
  have ez : zz = 1 := ez.trans (by decide)
  subst ez
  refine lv_istore_n (lv' := [(1, .int 1), (0, .ref (a 37))]) hx hb dX5_nextOrder_6 rfl hl (by decide) rfl (fun ls hl => ?_)
  refine lv_iload_n hx hb dX5_nextOrder_7 rfl (lv_at hl 0 rfl) ?_
  refine lv_if_lt hx hb (tgt := 34) dX5_nextOrder_8 (by decide) (fun c_x => absurd c_x (by decide)) (fun c_x => ?_)
  refine lv_aload_n hx hb dX5_nextOrder_11 rfl (lv_at hl 1 rfl) ?_
  refine g_get S hw hinX5 (fs := fX37 a σ) 37 rfl rfl 2 (by decide) lk1 (v := .ref (a 40)) rfl dX5_nextOrder_12 ?_
  refine lv_iload_n hx hb dX5_nextOrder_15 rfl (lv_at hl 0 rfl) ?_
  refine g_iald S hw (f := σ 40) (i := 1) (x := 0) 40 0 rfl rfl (by omega) (by decide) ht1 dX5_nextOrder_16 ?_
  refine lv_aload_n hx hb dX5_nextOrder_17 rfl (lv_at hl 1 rfl) ?_
  refine g_get S hw hinX5 (fs := fX37 a σ) 37 rfl rfl 2 (by decide) lk1 (v := .ref (a 40)) rfl dX5_nextOrder_18 ?_
  refine lv_iload_n hx hb dX5_nextOrder_21 rfl (lv_at hl 0 rfl) ?_
  refine lv_iconst (v := 1) hx hb dX5_nextOrder_22 (by decide) ?_
  refine lv_iadd hx hb dX5_nextOrder_23 ?_
  refine lv_topi (fun zz ez => ?_)
  have ez : zz = 2 := ez.trans (by decide)
  subst ez
  refine g_iald S hw (f := σ 40) (i := 2) (x := 1) 40 0 rfl rfl (by omega) (by decide) ht2 dX5_nextOrder_24 ?_
  refine lv_icmp_le hx hb (tgt := 34) dX5_nextOrder_25 (by decide) (fun c_x => ?_) (fun c_x => absurd (by decide) c_x)
  refine lv_iload_n hx hb dX5_nextOrder_34 rfl (lv_at hl 0 rfl) ?_
  refine lv_if_ge hx hb (tgt := 40) dX5_nextOrder_35 (by decide) (fun c_x => ?_) (fun c_x => absurd (by decide) c_x)
  refine lv_aload_n hx hb dX5_nextOrder_40 rfl (lv_at hl 1 rfl) ?_
  refine g_get S hw hinX5 (fs := fX37 a σ) 37 rfl rfl 4 (by decide) lk0 (v := .int 3) (congrArg (fun z => some (Value.int z)) (hp0)) dX5_nextOrder_41 ?_
  refine lv_iconst (v := 1) hx hb dX5_nextOrder_44 (by decide) ?_
  refine lv_isub hx hb dX5_nextOrder_45 ?_
  refine lv_topi (fun zz ez => ?_)
  have ez : zz = 2 := ez.trans (by decide)
  subst ez
  refine lv_istore_n (lv' := [(2, .int 2), (1, .int 1), (0, .ref (a 37))]) hx hb dX5_nextOrder_46 rfl hl (by decide) rfl (fun ls hl => ?_)
  refine lv_iload_n hx hb dX5_nextOrder_47 rfl (lv_at hl 0 rfl) ?_
  refine lv_iload_n hx hb dX5_nextOrder_48 rfl (lv_at hl 1 rfl) ?_
  refine lv_icmp_le hx hb (tgt := 73) dX5_nextOrder_49 (by decide) (fun c_x => absurd c_x (by decide)) (fun c_x => ?_)
  refine lv_aload_n hx hb dX5_nextOrder_52 rfl (lv_at hl 2 rfl) ?_
  refine g_get S hw hinX5 (fs := fX37 a σ) 37 rfl rfl 2 (by decide) lk1 (v := .ref (a 40)) rfl dX5_nextOrder_53 ?_
  refine lv_iload_n hx hb dX5_nextOrder_56 rfl (lv_at hl 0 rfl) ?_
  refine g_iald S hw (f := σ 40) (i := 2) (x := 1) 40 0 rfl rfl (by omega) (by decide) ht2 dX5_nextOrder_57 ?_
  refine lv_aload_n hx hb dX5_nextOrder_58 rfl (lv_at hl 2 rfl) ?_
  refine g_get S hw hinX5 (fs := fX37 a σ) 37 rfl rfl 2 (by decide) lk1 (v := .ref (a 40)) rfl dX5_nextOrder_59 ?_
  refine lv_iload_n hx hb dX5_nextOrder_62 rfl (lv_at hl 1 rfl) ?_
  refine g_iald S hw (f := σ 40) (i := 1) (x := 0) 40 0 rfl rfl (by omega) (by decide) ht1 dX5_nextOrder_63 ?_
  refine lv_icmp_ge hx hb (tgt := 73) dX5_nextOrder_64 (by decide) (fun c_x => ?_) (fun c_x => absurd (by decide) c_x)
  refine lv_aload_n hx hb dX5_nextOrder_73 rfl (lv_at hl 2 rfl) ?_
  refine lv_iload_n hx hb dX5_nextOrder_74 rfl (lv_at hl 1 rfl) ?_
  refine lv_iload_n hx hb dX5_nextOrder_75 rfl (lv_at hl 0 rfl) ?_
  refine g_callVv S hw (c_XP_swapTried l D cI cC cI2 a κ σ 1 2 (by decide) (by decide)) gX5_nextOrder_X5_swapTried rfl 37 rfl rfl 2 rfl (by decide +kernel) (by decide) (by decide) hl.1 rfl (Nat.le_of_ble_eq_true rfl) dX5_nextOrder_76 (fun H locs hw => ?_)
  have ew : XP_swapTried_s κ σ 1 2 = up2 (up2 σ 40 1 1) 40 2 0 := by
    unfold XP_swapTried_s
    rw [show σ 40 2 = 1 from ht2, show σ 40 1 = 0 from ht1]
  rw [ew] at hw
  refine lv_iload_n hx hb dX5_nextOrder_79 rfl (lv_at hl 1 rfl) ?_
  refine lv_iconst (v := 1) hx hb dX5_nextOrder_80 (by decide) ?_
  refine lv_iadd hx hb dX5_nextOrder_81 ?_
  refine lv_topi (fun zz ez => ?_)
  have ez : zz = 2 := ez.trans (by decide)
  subst ez
  refine lv_istore_n (lv' := [(3, .int 2), (2, .int 2), (1, .int 1), (0, .ref (a 37))]) hx hb dX5_nextOrder_82 rfl hl (by decide) rfl (fun ls hl => ?_)
  refine lv_aload_n hx hb dX5_nextOrder_83 rfl (lv_at hl 3 rfl) ?_
  refine g_get S hw hinX5 (fs := fX37 a (up2 (up2 σ 40 1 1) 40 2 0)) 37 rfl rfl 4 (by decide) lk0 (v := .int 3) (congrArg (fun z => some (Value.int z)) (((up2_rn (by omega)).trans (up2_rn (by omega))).trans (hp0))) dX5_nextOrder_84 ?_
  refine lv_iconst (v := 1) hx hb dX5_nextOrder_87 (by decide) ?_
  refine lv_isub hx hb dX5_nextOrder_88 ?_
  refine lv_topi (fun zz ez => ?_)
  have ez : zz = 2 := ez.trans (by decide)
  subst ez
  refine lv_istore (lv' := [(4, .int 2), (3, .int 2), (2, .int 2), (1, .int 1), (0, .ref (a 37))]) hx hb dX5_nextOrder_89 hl (by decide) rfl (fun ls hl => ?_)
  refine lv_iload_n hx hb dX5_nextOrder_91 rfl (lv_at hl 1 rfl) ?_
  refine lv_iload hx hb dX5_nextOrder_92 (lv_at hl 0 rfl) ?_
  refine lv_icmp_ge hx hb (tgt := 113) dX5_nextOrder_94 (by decide) (fun c_x => ?_) (fun c_x => absurd (by decide) c_x)
  refine lv_iconst (v := 1) hx hb dX5_nextOrder_113 (by decide) ?_
  have hw := hw.arr 40 (f := (up2 (up2 σ 40 1 1) 40 2 0) 40) (g := permRow 3 5) rfl (row4 (((up2_rp (by decide)).trans (up2_rp (by decide))).trans (ht0)) ((up2_rp (by decide)).trans (up2_rs)) (up2_rs) (((up2_rp (by decide)).trans (up2_rp (by decide))).trans (ht3))) (wX_r40 _ _ _ _ _ _ _)
  simp only [row_up2] at hw
  exact g_zret S hr hlk hw (by decide) (by simp only [XP_nextOrder_3_4_r]) (by simp only [XP_nextOrder_3_4_s]) dX5_nextOrder_114
def XP_nextOrder_3_5_r (κ : Nat → Nat) (σ : Nat → Nat → Int32) : Int32 := 0
def XP_nextOrder_3_5_s (κ : Nat → Nat) (σ : Nat → Nat → Int32) : Nat → Nat → Int32 := row σ 40 (permRow 3 5)
theorem XP_nextOrder_3_5_z (κ : Nat → Nat) (σ : Nat → Nat → Int32) : XP_nextOrder_3_5_r κ σ = 0 ∨ XP_nextOrder_3_5_r κ σ = 1 := by
  unfold XP_nextOrder_3_5_r
  exact Or.inl rfl

set_option maxHeartbeats 4000000 in
set_option maxRecDepth 100000 in
theorem c_XP_nextOrder_3_5 (l : Launch) (D : va_G) (cI cC cI2 : ClassId) (a : Nat → Nat) (κ : Nat → Nat) (σ : Nat → Nat → Int32) (hp0 : σ 37 4 = nI 3) (ht0 : σ 40 0 = nI 2) (ht1 : σ 40 1 = nI 1) (ht2 : σ 40 2 = nI 0) (ht3 : σ 40 3 = nI 3) : gI l D (tysX cI cC cI2) yX5_nextOrder wsX5_nextOrder 2 [.ref (a 37)] (wX cI cC cI2 a κ σ) (XP_nextOrder_3_5_r κ σ) (wX cI cC cI2 a κ (XP_nextOrder_3_5_s κ σ)) := by
  refine g_start (cc := cX5_nextOrder) (maxL := 5) (ret := some .boolean) (Qc := gQi D (tysX cI cC cI2) (XP_nextOrder_3_5_r κ σ) (wX cI cC cI2 a κ (XP_nextOrder_3_5_s κ σ))) (by decide) rfl (Nat.le_of_ble_eq_true rfl) ?_
  intro p e s m below meth C A ls S hr hlk hw hl
  obtain ⟨hx, hb, hml, hown, hts⟩ := id S
  have hinX5 : ∀ x ∈ u_ws RX5 TX5 6, x ∈ wsX5_nextOrder := fun x h => List.mem_cons_of_mem _ (List.mem_append_right _ h)
  have lk0 : Cond.fieldLink RX5 24 "CowsOwed$Plans" "size" "I" ∈ wsX5_nextOrder := by decide +kernel
  have lk1 : Cond.fieldLink RX5 18 "CowsOwed$Plans" "tried" "[I" ∈ wsX5_nextOrder := by decide +kernel
  have hl : lv_has ls 5 [(0, .ref (a 37))] := hl
  refine lv_aload_n hx hb dX5_nextOrder_0 rfl (lv_at hl 0 rfl) ?_
  refine g_get S hw hinX5 (fs := fX37 a σ) 37 rfl rfl 4 (by decide) lk0 (v := .int 3) (congrArg (fun z => some (Value.int z)) (hp0)) dX5_nextOrder_1 ?_
  refine lv_iconst (v := 2) hx hb dX5_nextOrder_4 (by decide) ?_
  refine lv_isub hx hb dX5_nextOrder_5 ?_
  refine lv_topi (fun zz ez => ?_)
  have ez : zz = 1 := ez.trans (by decide)
  subst ez
  refine lv_istore_n (lv' := [(1, .int 1), (0, .ref (a 37))]) hx hb dX5_nextOrder_6 rfl hl (by decide) rfl (fun ls hl => ?_)
  refine lv_iload_n hx hb dX5_nextOrder_7 rfl (lv_at hl 0 rfl) ?_
  refine lv_if_lt hx hb (tgt := 34) dX5_nextOrder_8 (by decide) (fun c_x => absurd c_x (by decide)) (fun c_x => ?_)
  refine lv_aload_n hx hb dX5_nextOrder_11 rfl (lv_at hl 1 rfl) ?_
  refine g_get S hw hinX5 (fs := fX37 a σ) 37 rfl rfl 2 (by decide) lk1 (v := .ref (a 40)) rfl dX5_nextOrder_12 ?_
  refine lv_iload_n hx hb dX5_nextOrder_15 rfl (lv_at hl 0 rfl) ?_
  refine g_iald S hw (f := σ 40) (i := 1) (x := 1) 40 0 rfl rfl (by omega) (by decide) ht1 dX5_nextOrder_16 ?_
  refine lv_aload_n hx hb dX5_nextOrder_17 rfl (lv_at hl 1 rfl) ?_
  refine g_get S hw hinX5 (fs := fX37 a σ) 37 rfl rfl 2 (by decide) lk1 (v := .ref (a 40)) rfl dX5_nextOrder_18 ?_
  refine lv_iload_n hx hb dX5_nextOrder_21 rfl (lv_at hl 0 rfl) ?_
  refine lv_iconst (v := 1) hx hb dX5_nextOrder_22 (by decide) ?_
  refine lv_iadd hx hb dX5_nextOrder_23 ?_
  refine lv_topi (fun zz ez => ?_)
  have ez : zz = 2 := ez.trans (by decide)
  subst ez
  refine g_iald S hw (f := σ 40) (i := 2) (x := 0) 40 0 rfl rfl (by omega) (by decide) ht2 dX5_nextOrder_24 ?_
  refine lv_icmp_le hx hb (tgt := 34) dX5_nextOrder_25 (by decide) (fun c_x => absurd c_x (by decide)) (fun c_x => ?_)
  refine lv_iinc (v := 0) (lv' := [(1, .int 0), (0, .ref (a 37))]) hx hb dX5_nextOrder_28 hl (k := 0) rfl (by decide) (by decide) rfl (fun ls hl => ?_)
  refine lv_goto (tgt := 7) hx hb dX5_nextOrder_31 (by decide) ?_
  refine lv_iload_n hx hb dX5_nextOrder_7 rfl (lv_at hl 0 rfl) ?_
  refine lv_if_lt hx hb (tgt := 34) dX5_nextOrder_8 (by decide) (fun c_x => absurd c_x (by decide)) (fun c_x => ?_)
  refine lv_aload_n hx hb dX5_nextOrder_11 rfl (lv_at hl 1 rfl) ?_
  refine g_get S hw hinX5 (fs := fX37 a σ) 37 rfl rfl 2 (by decide) lk1 (v := .ref (a 40)) rfl dX5_nextOrder_12 ?_
  refine lv_iload_n hx hb dX5_nextOrder_15 rfl (lv_at hl 0 rfl) ?_
  refine g_iald S hw (f := σ 40) (i := 0) (x := 2) 40 0 rfl rfl (by omega) (by decide) ht0 dX5_nextOrder_16 ?_
  refine lv_aload_n hx hb dX5_nextOrder_17 rfl (lv_at hl 1 rfl) ?_
  refine g_get S hw hinX5 (fs := fX37 a σ) 37 rfl rfl 2 (by decide) lk1 (v := .ref (a 40)) rfl dX5_nextOrder_18 ?_
  refine lv_iload_n hx hb dX5_nextOrder_21 rfl (lv_at hl 0 rfl) ?_
  refine lv_iconst (v := 1) hx hb dX5_nextOrder_22 (by decide) ?_
  refine lv_iadd hx hb dX5_nextOrder_23 ?_
  refine lv_topi (fun zz ez => ?_)
  have ez : zz = 1 := ez.trans (by decide)
  subst ez
  refine g_iald S hw (f := σ 40) (i := 1) (x := 1) 40 0 rfl rfl (by omega) (by decide) ht1 dX5_nextOrder_24 ?_
  refine lv_icmp_le hx hb (tgt := 34) dX5_nextOrder_25 (by decide) (fun c_x => absurd c_x (by decide)) (fun c_x => ?_)
  refine lv_iinc (v := (-1)) (lv' := [(1, .int (-1)), (0, .ref (a 37))]) hx hb dX5_nextOrder_28 hl (k := 0) rfl (by decide) (by decide) rfl (fun ls hl => ?_)
  refine lv_goto (tgt := 7) hx hb dX5_nextOrder_31 (by decide) ?_
  refine lv_iload_n hx hb dX5_nextOrder_7 rfl (lv_at hl 0 rfl) ?_
  refine lv_if_lt hx hb (tgt := 34) dX5_nextOrder_8 (by decide) (fun c_x => ?_) (fun c_x => absurd (by decide) c_x)
  refine lv_iload_n hx hb dX5_nextOrder_34 rfl (lv_at hl 0 rfl) ?_
  refine lv_if_ge hx hb (tgt := 40) dX5_nextOrder_35 (by decide) (fun c_x => absurd c_x (by decide)) (fun c_x => ?_)
  refine lv_iconst (v := 0) hx hb dX5_nextOrder_38 (by decide) ?_
  have hw := hw.arr 40 (f := σ 40) (g := permRow 3 5) rfl (row4 (ht0) (ht1) (ht2) (ht3)) (wX_r40 _ _ _ _ _ _ _)
  exact g_zret S hr hlk hw (by decide) (by simp only [XP_nextOrder_3_5_r]) (by simp only [XP_nextOrder_3_5_s]) dX5_nextOrder_39
def XP_nextOrder_4_0_r (κ : Nat → Nat) (σ : Nat → Nat → Int32) : Int32 := 1
def XP_nextOrder_4_0_s (κ : Nat → Nat) (σ : Nat → Nat → Int32) : Nat → Nat → Int32 := row σ 40 (permRow 4 1)
theorem XP_nextOrder_4_0_z (κ : Nat → Nat) (σ : Nat → Nat → Int32) : XP_nextOrder_4_0_r κ σ = 0 ∨ XP_nextOrder_4_0_r κ σ = 1 := by
  unfold XP_nextOrder_4_0_r
  exact Or.inr rfl

set_option maxHeartbeats 4000000 in
set_option maxRecDepth 100000 in
theorem c_XP_nextOrder_4_0 (l : Launch) (D : va_G) (cI cC cI2 : ClassId) (a : Nat → Nat) (κ : Nat → Nat) (σ : Nat → Nat → Int32) (hp0 : σ 37 4 = nI 4) (ht0 : σ 40 0 = nI 0) (ht1 : σ 40 1 = nI 1) (ht2 : σ 40 2 = nI 2) (ht3 : σ 40 3 = nI 3) : gI l D (tysX cI cC cI2) yX5_nextOrder wsX5_nextOrder 2 [.ref (a 37)] (wX cI cC cI2 a κ σ) (XP_nextOrder_4_0_r κ σ) (wX cI cC cI2 a κ (XP_nextOrder_4_0_s κ σ)) := by
  refine g_start (cc := cX5_nextOrder) (maxL := 5) (ret := some .boolean) (Qc := gQi D (tysX cI cC cI2) (XP_nextOrder_4_0_r κ σ) (wX cI cC cI2 a κ (XP_nextOrder_4_0_s κ σ))) (by decide) rfl (Nat.le_of_ble_eq_true rfl) ?_
  intro p e s m below meth C A ls S hr hlk hw hl
  obtain ⟨hx, hb, hml, hown, hts⟩ := id S
  have hinX5 : ∀ x ∈ u_ws RX5 TX5 6, x ∈ wsX5_nextOrder := fun x h => List.mem_cons_of_mem _ (List.mem_append_right _ h)
  have lk0 : Cond.fieldLink RX5 24 "CowsOwed$Plans" "size" "I" ∈ wsX5_nextOrder := by decide +kernel
  have lk1 : Cond.fieldLink RX5 18 "CowsOwed$Plans" "tried" "[I" ∈ wsX5_nextOrder := by decide +kernel
  have hl : lv_has ls 5 [(0, .ref (a 37))] := hl
  refine lv_aload_n hx hb dX5_nextOrder_0 rfl (lv_at hl 0 rfl) ?_
  refine g_get S hw hinX5 (fs := fX37 a σ) 37 rfl rfl 4 (by decide) lk0 (v := .int 4) (congrArg (fun z => some (Value.int z)) (hp0)) dX5_nextOrder_1 ?_
  refine lv_iconst (v := 2) hx hb dX5_nextOrder_4 (by decide) ?_
  refine lv_isub hx hb dX5_nextOrder_5 ?_
  refine lv_topi (fun zz ez => ?_)
  have ez : zz = 2 := ez.trans (by decide)
  subst ez
  refine lv_istore_n (lv' := [(1, .int 2), (0, .ref (a 37))]) hx hb dX5_nextOrder_6 rfl hl (by decide) rfl (fun ls hl => ?_)
  refine lv_iload_n hx hb dX5_nextOrder_7 rfl (lv_at hl 0 rfl) ?_
  refine lv_if_lt hx hb (tgt := 34) dX5_nextOrder_8 (by decide) (fun c_x => absurd c_x (by decide)) (fun c_x => ?_)
  refine lv_aload_n hx hb dX5_nextOrder_11 rfl (lv_at hl 1 rfl) ?_
  refine g_get S hw hinX5 (fs := fX37 a σ) 37 rfl rfl 2 (by decide) lk1 (v := .ref (a 40)) rfl dX5_nextOrder_12 ?_
  refine lv_iload_n hx hb dX5_nextOrder_15 rfl (lv_at hl 0 rfl) ?_
  refine g_iald S hw (f := σ 40) (i := 2) (x := 2) 40 0 rfl rfl (by omega) (by decide) ht2 dX5_nextOrder_16 ?_
  refine lv_aload_n hx hb dX5_nextOrder_17 rfl (lv_at hl 1 rfl) ?_
  refine g_get S hw hinX5 (fs := fX37 a σ) 37 rfl rfl 2 (by decide) lk1 (v := .ref (a 40)) rfl dX5_nextOrder_18 ?_
  refine lv_iload_n hx hb dX5_nextOrder_21 rfl (lv_at hl 0 rfl) ?_
  refine lv_iconst (v := 1) hx hb dX5_nextOrder_22 (by decide) ?_
  refine lv_iadd hx hb dX5_nextOrder_23 ?_
  refine lv_topi (fun zz ez => ?_)
  have ez : zz = 3 := ez.trans (by decide)
  subst ez
  refine g_iald S hw (f := σ 40) (i := 3) (x := 3) 40 0 rfl rfl (by omega) (by decide) ht3 dX5_nextOrder_24 ?_
  refine lv_icmp_le hx hb (tgt := 34) dX5_nextOrder_25 (by decide) (fun c_x => ?_) (fun c_x => absurd (by decide) c_x)
  refine lv_iload_n hx hb dX5_nextOrder_34 rfl (lv_at hl 0 rfl) ?_
  refine lv_if_ge hx hb (tgt := 40) dX5_nextOrder_35 (by decide) (fun c_x => ?_) (fun c_x => absurd (by decide) c_x)
  refine lv_aload_n hx hb dX5_nextOrder_40 rfl (lv_at hl 1 rfl) ?_
  refine g_get S hw hinX5 (fs := fX37 a σ) 37 rfl rfl 4 (by decide) lk0 (v := .int 4) (congrArg (fun z => some (Value.int z)) (hp0)) dX5_nextOrder_41 ?_
  refine lv_iconst (v := 1) hx hb dX5_nextOrder_44 (by decide) ?_
  refine lv_isub hx hb dX5_nextOrder_45 ?_
  refine lv_topi (fun zz ez => ?_)
  have ez : zz = 3 := ez.trans (by decide)
  subst ez
  refine lv_istore_n (lv' := [(2, .int 3), (1, .int 2), (0, .ref (a 37))]) hx hb dX5_nextOrder_46 rfl hl (by decide) rfl (fun ls hl => ?_)
  refine lv_iload_n hx hb dX5_nextOrder_47 rfl (lv_at hl 0 rfl) ?_
  refine lv_iload_n hx hb dX5_nextOrder_48 rfl (lv_at hl 1 rfl) ?_
  refine lv_icmp_le hx hb (tgt := 73) dX5_nextOrder_49 (by decide) (fun c_x => absurd c_x (by decide)) (fun c_x => ?_)
  refine lv_aload_n hx hb dX5_nextOrder_52 rfl (lv_at hl 2 rfl) ?_
  refine g_get S hw hinX5 (fs := fX37 a σ) 37 rfl rfl 2 (by decide) lk1 (v := .ref (a 40)) rfl dX5_nextOrder_53 ?_
  refine lv_iload_n hx hb dX5_nextOrder_56 rfl (lv_at hl 0 rfl) ?_
  refine g_iald S hw (f := σ 40) (i := 3) (x := 3) 40 0 rfl rfl (by omega) (by decide) ht3 dX5_nextOrder_57 ?_
  refine lv_aload_n hx hb dX5_nextOrder_58 rfl (lv_at hl 2 rfl) ?_
  refine g_get S hw hinX5 (fs := fX37 a σ) 37 rfl rfl 2 (by decide) lk1 (v := .ref (a 40)) rfl dX5_nextOrder_59 ?_
  refine lv_iload_n hx hb dX5_nextOrder_62 rfl (lv_at hl 1 rfl) ?_
  refine g_iald S hw (f := σ 40) (i := 2) (x := 2) 40 0 rfl rfl (by omega) (by decide) ht2 dX5_nextOrder_63 ?_
  refine lv_icmp_ge hx hb (tgt := 73) dX5_nextOrder_64 (by decide) (fun c_x => ?_) (fun c_x => absurd (by decide) c_x)
  refine lv_aload_n hx hb dX5_nextOrder_73 rfl (lv_at hl 2 rfl) ?_
  refine lv_iload_n hx hb dX5_nextOrder_74 rfl (lv_at hl 1 rfl) ?_
  refine lv_iload_n hx hb dX5_nextOrder_75 rfl (lv_at hl 0 rfl) ?_
  refine g_callVv S hw (c_XP_swapTried l D cI cC cI2 a κ σ 2 3 (by decide) (by decide)) gX5_nextOrder_X5_swapTried rfl 37 rfl rfl 2 rfl (by decide +kernel) (by decide) (by decide) hl.1 rfl (Nat.le_of_ble_eq_true rfl) dX5_nextOrder_76 (fun H locs hw => ?_)
  have ew : XP_swapTried_s κ σ 2 3 = up2 (up2 σ 40 2 3) 40 3 2 := by
    unfold XP_swapTried_s
    rw [show σ 40 3 = 3 from ht3, show σ 40 2 = 2 from ht2]
  rw [ew] at hw
  refine lv_iload_n hx hb dX5_nextOrder_79 rfl (lv_at hl 1 rfl) ?_
  refine lv_iconst (v := 1) hx hb dX5_nextOrder_80 (by decide) ?_
  refine lv_iadd hx hb dX5_nextOrder_81 ?_
  refine lv_topi (fun zz ez => ?_)
  have ez : zz = 3 := ez.trans (by decide)
  subst ez
  refine lv_istore_n (lv' := [(3, .int 3), (2, .int 3), (1, .int 2), (0, .ref (a 37))]) hx hb dX5_nextOrder_82 rfl hl (by decide) rfl (fun ls hl => ?_)
  refine lv_aload_n hx hb dX5_nextOrder_83 rfl (lv_at hl 3 rfl) ?_
  refine g_get S hw hinX5 (fs := fX37 a (up2 (up2 σ 40 2 3) 40 3 2)) 37 rfl rfl 4 (by decide) lk0 (v := .int 4) (congrArg (fun z => some (Value.int z)) (((up2_rn (by omega)).trans (up2_rn (by omega))).trans (hp0))) dX5_nextOrder_84 ?_
  refine lv_iconst (v := 1) hx hb dX5_nextOrder_87 (by decide) ?_
  refine lv_isub hx hb dX5_nextOrder_88 ?_
  refine lv_topi (fun zz ez => ?_)
  have ez : zz = 3 := ez.trans (by decide)
  subst ez
  refine lv_istore (lv' := [(4, .int 3), (3, .int 3), (2, .int 3), (1, .int 2), (0, .ref (a 37))]) hx hb dX5_nextOrder_89 hl (by decide) rfl (fun ls hl => ?_)
  refine lv_iload_n hx hb dX5_nextOrder_91 rfl (lv_at hl 1 rfl) ?_
  refine lv_iload hx hb dX5_nextOrder_92 (lv_at hl 0 rfl) ?_
  refine lv_icmp_ge hx hb (tgt := 113) dX5_nextOrder_94 (by decide) (fun c_x => ?_) (fun c_x => absurd (by decide) c_x)
  refine lv_iconst (v := 1) hx hb dX5_nextOrder_113 (by decide) ?_
  have hw := hw.arr 40 (f := (up2 (up2 σ 40 2 3) 40 3 2) 40) (g := permRow 4 1) rfl (row4 (((up2_rp (by decide)).trans (up2_rp (by decide))).trans (ht0)) (((up2_rp (by decide)).trans (up2_rp (by decide))).trans (ht1)) ((up2_rp (by decide)).trans (up2_rs)) (up2_rs)) (wX_r40 _ _ _ _ _ _ _)
  simp only [row_up2] at hw
  exact g_zret S hr hlk hw (by decide) (by simp only [XP_nextOrder_4_0_r]) (by simp only [XP_nextOrder_4_0_s]) dX5_nextOrder_114
def XP_nextOrder_4_1_r (κ : Nat → Nat) (σ : Nat → Nat → Int32) : Int32 := 1
def XP_nextOrder_4_1_s (κ : Nat → Nat) (σ : Nat → Nat → Int32) : Nat → Nat → Int32 := row σ 40 (permRow 4 2)
theorem XP_nextOrder_4_1_z (κ : Nat → Nat) (σ : Nat → Nat → Int32) : XP_nextOrder_4_1_r κ σ = 0 ∨ XP_nextOrder_4_1_r κ σ = 1 := by
  unfold XP_nextOrder_4_1_r
  exact Or.inr rfl

set_option maxHeartbeats 4000000 in
set_option maxRecDepth 100000 in
theorem c_XP_nextOrder_4_1 (l : Launch) (D : va_G) (cI cC cI2 : ClassId) (a : Nat → Nat) (κ : Nat → Nat) (σ : Nat → Nat → Int32) (hp0 : σ 37 4 = nI 4) (ht0 : σ 40 0 = nI 0) (ht1 : σ 40 1 = nI 1) (ht2 : σ 40 2 = nI 3) (ht3 : σ 40 3 = nI 2) : gI l D (tysX cI cC cI2) yX5_nextOrder wsX5_nextOrder 2 [.ref (a 37)] (wX cI cC cI2 a κ σ) (XP_nextOrder_4_1_r κ σ) (wX cI cC cI2 a κ (XP_nextOrder_4_1_s κ σ)) := by
  refine g_start (cc := cX5_nextOrder) (maxL := 5) (ret := some .boolean) (Qc := gQi D (tysX cI cC cI2) (XP_nextOrder_4_1_r κ σ) (wX cI cC cI2 a κ (XP_nextOrder_4_1_s κ σ))) (by decide) rfl (Nat.le_of_ble_eq_true rfl) ?_
  intro p e s m below meth C A ls S hr hlk hw hl
  obtain ⟨hx, hb, hml, hown, hts⟩ := id S
  have hinX5 : ∀ x ∈ u_ws RX5 TX5 6, x ∈ wsX5_nextOrder := fun x h => List.mem_cons_of_mem _ (List.mem_append_right _ h)
  have lk0 : Cond.fieldLink RX5 24 "CowsOwed$Plans" "size" "I" ∈ wsX5_nextOrder := by decide +kernel
  have lk1 : Cond.fieldLink RX5 18 "CowsOwed$Plans" "tried" "[I" ∈ wsX5_nextOrder := by decide +kernel
  have hl : lv_has ls 5 [(0, .ref (a 37))] := hl
  refine lv_aload_n hx hb dX5_nextOrder_0 rfl (lv_at hl 0 rfl) ?_
  refine g_get S hw hinX5 (fs := fX37 a σ) 37 rfl rfl 4 (by decide) lk0 (v := .int 4) (congrArg (fun z => some (Value.int z)) (hp0)) dX5_nextOrder_1 ?_
  refine lv_iconst (v := 2) hx hb dX5_nextOrder_4 (by decide) ?_
  refine lv_isub hx hb dX5_nextOrder_5 ?_
  refine lv_topi (fun zz ez => ?_)
  have ez : zz = 2 := ez.trans (by decide)
  subst ez
  refine lv_istore_n (lv' := [(1, .int 2), (0, .ref (a 37))]) hx hb dX5_nextOrder_6 rfl hl (by decide) rfl (fun ls hl => ?_)
  refine lv_iload_n hx hb dX5_nextOrder_7 rfl (lv_at hl 0 rfl) ?_
  refine lv_if_lt hx hb (tgt := 34) dX5_nextOrder_8 (by decide) (fun c_x => absurd c_x (by decide)) (fun c_x => ?_)
  refine lv_aload_n hx hb dX5_nextOrder_11 rfl (lv_at hl 1 rfl) ?_
  refine g_get S hw hinX5 (fs := fX37 a σ) 37 rfl rfl 2 (by decide) lk1 (v := .ref (a 40)) rfl dX5_nextOrder_12 ?_
  refine lv_iload_n hx hb dX5_nextOrder_15 rfl (lv_at hl 0 rfl) ?_
  refine g_iald S hw (f := σ 40) (i := 2) (x := 3) 40 0 rfl rfl (by omega) (by decide) ht2 dX5_nextOrder_16 ?_
  refine lv_aload_n hx hb dX5_nextOrder_17 rfl (lv_at hl 1 rfl) ?_
  refine g_get S hw hinX5 (fs := fX37 a σ) 37 rfl rfl 2 (by decide) lk1 (v := .ref (a 40)) rfl dX5_nextOrder_18 ?_
  refine lv_iload_n hx hb dX5_nextOrder_21 rfl (lv_at hl 0 rfl) ?_
  refine lv_iconst (v := 1) hx hb dX5_nextOrder_22 (by decide) ?_
  refine lv_iadd hx hb dX5_nextOrder_23 ?_
  refine lv_topi (fun zz ez => ?_)
  have ez : zz = 3 := ez.trans (by decide)
  subst ez
  refine g_iald S hw (f := σ 40) (i := 3) (x := 2) 40 0 rfl rfl (by omega) (by decide) ht3 dX5_nextOrder_24 ?_
  refine lv_icmp_le hx hb (tgt := 34) dX5_nextOrder_25 (by decide) (fun c_x => absurd c_x (by decide)) (fun c_x => ?_)
  refine lv_iinc (v := 1) (lv' := [(1, .int 1), (0, .ref (a 37))]) hx hb dX5_nextOrder_28 hl (k := 0) rfl (by decide) (by decide) rfl (fun ls hl => ?_)
  refine lv_goto (tgt := 7) hx hb dX5_nextOrder_31 (by decide) ?_
  refine lv_iload_n hx hb dX5_nextOrder_7 rfl (lv_at hl 0 rfl) ?_
  refine lv_if_lt hx hb (tgt := 34) dX5_nextOrder_8 (by decide) (fun c_x => absurd c_x (by decide)) (fun c_x => ?_)
  refine lv_aload_n hx hb dX5_nextOrder_11 rfl (lv_at hl 1 rfl) ?_
  refine g_get S hw hinX5 (fs := fX37 a σ) 37 rfl rfl 2 (by decide) lk1 (v := .ref (a 40)) rfl dX5_nextOrder_12 ?_
  refine lv_iload_n hx hb dX5_nextOrder_15 rfl (lv_at hl 0 rfl) ?_
  refine g_iald S hw (f := σ 40) (i := 1) (x := 1) 40 0 rfl rfl (by omega) (by decide) ht1 dX5_nextOrder_16 ?_
  refine lv_aload_n hx hb dX5_nextOrder_17 rfl (lv_at hl 1 rfl) ?_
  refine g_get S hw hinX5 (fs := fX37 a σ) 37 rfl rfl 2 (by decide) lk1 (v := .ref (a 40)) rfl dX5_nextOrder_18 ?_
  refine lv_iload_n hx hb dX5_nextOrder_21 rfl (lv_at hl 0 rfl) ?_
  refine lv_iconst (v := 1) hx hb dX5_nextOrder_22 (by decide) ?_
  refine lv_iadd hx hb dX5_nextOrder_23 ?_
  refine lv_topi (fun zz ez => ?_)
  have ez : zz = 2 := ez.trans (by decide)
  subst ez
  refine g_iald S hw (f := σ 40) (i := 2) (x := 3) 40 0 rfl rfl (by omega) (by decide) ht2 dX5_nextOrder_24 ?_
  refine lv_icmp_le hx hb (tgt := 34) dX5_nextOrder_25 (by decide) (fun c_x => ?_) (fun c_x => absurd (by decide) c_x)
  refine lv_iload_n hx hb dX5_nextOrder_34 rfl (lv_at hl 0 rfl) ?_
  refine lv_if_ge hx hb (tgt := 40) dX5_nextOrder_35 (by decide) (fun c_x => ?_) (fun c_x => absurd (by decide) c_x)
  refine lv_aload_n hx hb dX5_nextOrder_40 rfl (lv_at hl 1 rfl) ?_
  refine g_get S hw hinX5 (fs := fX37 a σ) 37 rfl rfl 4 (by decide) lk0 (v := .int 4) (congrArg (fun z => some (Value.int z)) (hp0)) dX5_nextOrder_41 ?_
  refine lv_iconst (v := 1) hx hb dX5_nextOrder_44 (by decide) ?_
  refine lv_isub hx hb dX5_nextOrder_45 ?_
  refine lv_topi (fun zz ez => ?_)
  have ez : zz = 3 := ez.trans (by decide)
  subst ez
  refine lv_istore_n (lv' := [(2, .int 3), (1, .int 1), (0, .ref (a 37))]) hx hb dX5_nextOrder_46 rfl hl (by decide) rfl (fun ls hl => ?_)
  refine lv_iload_n hx hb dX5_nextOrder_47 rfl (lv_at hl 0 rfl) ?_
  refine lv_iload_n hx hb dX5_nextOrder_48 rfl (lv_at hl 1 rfl) ?_
  refine lv_icmp_le hx hb (tgt := 73) dX5_nextOrder_49 (by decide) (fun c_x => absurd c_x (by decide)) (fun c_x => ?_)
  refine lv_aload_n hx hb dX5_nextOrder_52 rfl (lv_at hl 2 rfl) ?_
  refine g_get S hw hinX5 (fs := fX37 a σ) 37 rfl rfl 2 (by decide) lk1 (v := .ref (a 40)) rfl dX5_nextOrder_53 ?_
  refine lv_iload_n hx hb dX5_nextOrder_56 rfl (lv_at hl 0 rfl) ?_
  refine g_iald S hw (f := σ 40) (i := 3) (x := 2) 40 0 rfl rfl (by omega) (by decide) ht3 dX5_nextOrder_57 ?_
  refine lv_aload_n hx hb dX5_nextOrder_58 rfl (lv_at hl 2 rfl) ?_
  refine g_get S hw hinX5 (fs := fX37 a σ) 37 rfl rfl 2 (by decide) lk1 (v := .ref (a 40)) rfl dX5_nextOrder_59 ?_
  refine lv_iload_n hx hb dX5_nextOrder_62 rfl (lv_at hl 1 rfl) ?_
  refine g_iald S hw (f := σ 40) (i := 1) (x := 1) 40 0 rfl rfl (by omega) (by decide) ht1 dX5_nextOrder_63 ?_
  refine lv_icmp_ge hx hb (tgt := 73) dX5_nextOrder_64 (by decide) (fun c_x => ?_) (fun c_x => absurd (by decide) c_x)
  refine lv_aload_n hx hb dX5_nextOrder_73 rfl (lv_at hl 2 rfl) ?_
  refine lv_iload_n hx hb dX5_nextOrder_74 rfl (lv_at hl 1 rfl) ?_
  refine lv_iload_n hx hb dX5_nextOrder_75 rfl (lv_at hl 0 rfl) ?_
  refine g_callVv S hw (c_XP_swapTried l D cI cC cI2 a κ σ 1 3 (by decide) (by decide)) gX5_nextOrder_X5_swapTried rfl 37 rfl rfl 2 rfl (by decide +kernel) (by decide) (by decide) hl.1 rfl (Nat.le_of_ble_eq_true rfl) dX5_nextOrder_76 (fun H locs hw => ?_)
  have ew : XP_swapTried_s κ σ 1 3 = up2 (up2 σ 40 1 2) 40 3 1 := by
    unfold XP_swapTried_s
    rw [show σ 40 3 = 2 from ht3, show σ 40 1 = 1 from ht1]
  rw [ew] at hw
  refine lv_iload_n hx hb dX5_nextOrder_79 rfl (lv_at hl 1 rfl) ?_
  refine lv_iconst (v := 1) hx hb dX5_nextOrder_80 (by decide) ?_
  refine lv_iadd hx hb dX5_nextOrder_81 ?_
  refine lv_topi (fun zz ez => ?_)
  have ez : zz = 2 := ez.trans (by decide)
  subst ez
  refine lv_istore_n (lv' := [(3, .int 2), (2, .int 3), (1, .int 1), (0, .ref (a 37))]) hx hb dX5_nextOrder_82 rfl hl (by decide) rfl (fun ls hl => ?_)
  refine lv_aload_n hx hb dX5_nextOrder_83 rfl (lv_at hl 3 rfl) ?_
  refine g_get S hw hinX5 (fs := fX37 a (up2 (up2 σ 40 1 2) 40 3 1)) 37 rfl rfl 4 (by decide) lk0 (v := .int 4) (congrArg (fun z => some (Value.int z)) (((up2_rn (by omega)).trans (up2_rn (by omega))).trans (hp0))) dX5_nextOrder_84 ?_
  refine lv_iconst (v := 1) hx hb dX5_nextOrder_87 (by decide) ?_
  refine lv_isub hx hb dX5_nextOrder_88 ?_
  refine lv_topi (fun zz ez => ?_)
  have ez : zz = 3 := ez.trans (by decide)
  subst ez
  refine lv_istore (lv' := [(4, .int 3), (3, .int 2), (2, .int 3), (1, .int 1), (0, .ref (a 37))]) hx hb dX5_nextOrder_89 hl (by decide) rfl (fun ls hl => ?_)
  refine lv_iload_n hx hb dX5_nextOrder_91 rfl (lv_at hl 1 rfl) ?_
  refine lv_iload hx hb dX5_nextOrder_92 (lv_at hl 0 rfl) ?_
  refine lv_icmp_ge hx hb (tgt := 113) dX5_nextOrder_94 (by decide) (fun c_x => absurd c_x (by decide)) (fun c_x => ?_)
  refine lv_aload_n hx hb dX5_nextOrder_97 rfl (lv_at hl 4 rfl) ?_
  refine lv_iload_n hx hb dX5_nextOrder_98 rfl (lv_at hl 1 rfl) ?_
  refine lv_iload hx hb dX5_nextOrder_99 (lv_at hl 0 rfl) ?_
  refine g_callVv S hw (c_XP_swapTried l D cI cC cI2 a κ (up2 (up2 σ 40 1 2) 40 3 1) 2 3 (by decide) (by decide)) gX5_nextOrder_X5_swapTried rfl 37 rfl rfl 2 rfl (by decide +kernel) (by decide) (by decide) hl.1 rfl (Nat.le_of_ble_eq_true rfl) dX5_nextOrder_101 (fun H locs hw => ?_)
  have ew : XP_swapTried_s κ (up2 (up2 σ 40 1 2) 40 3 1) 2 3 = up2 (up2 (up2 (up2 σ 40 1 2) 40 3 1) 40 2 1) 40 3 3 := by
    unfold XP_swapTried_s
    rw [show (up2 (up2 σ 40 1 2) 40 3 1) 40 3 = 1 from up2_rs, show (up2 (up2 σ 40 1 2) 40 3 1) 40 2 = 3 from ((up2_rp (by decide)).trans (up2_rp (by decide))).trans (ht2)]
  rw [ew] at hw
  refine lv_iinc (v := 3) (lv' := [(3, .int 3), (4, .int 3), (2, .int 3), (1, .int 1), (0, .ref (a 37))]) hx hb dX5_nextOrder_104 hl (k := 1) rfl (by decide) (by decide) rfl (fun ls hl => ?_)
  refine lv_iinc (v := 2) (lv' := [(4, .int 2), (3, .int 3), (2, .int 3), (1, .int 1), (0, .ref (a 37))]) hx hb dX5_nextOrder_107 hl (k := 1) rfl (by decide) (by decide) rfl (fun ls hl => ?_)
  refine lv_goto (tgt := 91) hx hb dX5_nextOrder_110 (by decide) ?_
  refine lv_iload_n hx hb dX5_nextOrder_91 rfl (lv_at hl 1 rfl) ?_
  refine lv_iload hx hb dX5_nextOrder_92 (lv_at hl 0 rfl) ?_
  refine lv_icmp_ge hx hb (tgt := 113) dX5_nextOrder_94 (by decide) (fun c_x => ?_) (fun c_x => absurd (by decide) c_x)
  refine lv_iconst (v := 1) hx hb dX5_nextOrder_113 (by decide) ?_
  have hw := hw.arr 40 (f := (up2 (up2 (up2 (up2 σ 40 1 2) 40 3 1) 40 2 1) 40 3 3) 40) (g := permRow 4 2) rfl (row4 (((up2_rp (by decide)).trans ((up2_rp (by decide)).trans ((up2_rp (by decide)).trans (up2_rp (by decide))))).trans (ht0)) ((up2_rp (by decide)).trans ((up2_rp (by decide)).trans ((up2_rp (by decide)).trans (up2_rs)))) ((up2_rp (by decide)).trans (up2_rs)) (up2_rs)) (wX_r40 _ _ _ _ _ _ _)
  simp only [row_up2] at hw
  exact g_zret S hr hlk hw (by decide) (by simp only [XP_nextOrder_4_1_r]) (by simp only [XP_nextOrder_4_1_s]) dX5_nextOrder_114
def XP_nextOrder_4_2_r (κ : Nat → Nat) (σ : Nat → Nat → Int32) : Int32 := 1
def XP_nextOrder_4_2_s (κ : Nat → Nat) (σ : Nat → Nat → Int32) : Nat → Nat → Int32 := row σ 40 (permRow 4 3)
theorem XP_nextOrder_4_2_z (κ : Nat → Nat) (σ : Nat → Nat → Int32) : XP_nextOrder_4_2_r κ σ = 0 ∨ XP_nextOrder_4_2_r κ σ = 1 := by
  unfold XP_nextOrder_4_2_r
  exact Or.inr rfl

set_option maxHeartbeats 4000000 in
set_option maxRecDepth 100000 in
theorem c_XP_nextOrder_4_2 (l : Launch) (D : va_G) (cI cC cI2 : ClassId) (a : Nat → Nat) (κ : Nat → Nat) (σ : Nat → Nat → Int32) (hp0 : σ 37 4 = nI 4) (ht0 : σ 40 0 = nI 0) (ht1 : σ 40 1 = nI 2) (ht2 : σ 40 2 = nI 1) (ht3 : σ 40 3 = nI 3) : gI l D (tysX cI cC cI2) yX5_nextOrder wsX5_nextOrder 2 [.ref (a 37)] (wX cI cC cI2 a κ σ) (XP_nextOrder_4_2_r κ σ) (wX cI cC cI2 a κ (XP_nextOrder_4_2_s κ σ)) := by
  refine g_start (cc := cX5_nextOrder) (maxL := 5) (ret := some .boolean) (Qc := gQi D (tysX cI cC cI2) (XP_nextOrder_4_2_r κ σ) (wX cI cC cI2 a κ (XP_nextOrder_4_2_s κ σ))) (by decide) rfl (Nat.le_of_ble_eq_true rfl) ?_
  intro p e s m below meth C A ls S hr hlk hw hl
  obtain ⟨hx, hb, hml, hown, hts⟩ := id S
  have hinX5 : ∀ x ∈ u_ws RX5 TX5 6, x ∈ wsX5_nextOrder := fun x h => List.mem_cons_of_mem _ (List.mem_append_right _ h)
  have lk0 : Cond.fieldLink RX5 24 "CowsOwed$Plans" "size" "I" ∈ wsX5_nextOrder := by decide +kernel
  have lk1 : Cond.fieldLink RX5 18 "CowsOwed$Plans" "tried" "[I" ∈ wsX5_nextOrder := by decide +kernel
  have hl : lv_has ls 5 [(0, .ref (a 37))] := hl
  refine lv_aload_n hx hb dX5_nextOrder_0 rfl (lv_at hl 0 rfl) ?_
  refine g_get S hw hinX5 (fs := fX37 a σ) 37 rfl rfl 4 (by decide) lk0 (v := .int 4) (congrArg (fun z => some (Value.int z)) (hp0)) dX5_nextOrder_1 ?_
  refine lv_iconst (v := 2) hx hb dX5_nextOrder_4 (by decide) ?_
  refine lv_isub hx hb dX5_nextOrder_5 ?_
  refine lv_topi (fun zz ez => ?_)
  have ez : zz = 2 := ez.trans (by decide)
  subst ez
  refine lv_istore_n (lv' := [(1, .int 2), (0, .ref (a 37))]) hx hb dX5_nextOrder_6 rfl hl (by decide) rfl (fun ls hl => ?_)
  refine lv_iload_n hx hb dX5_nextOrder_7 rfl (lv_at hl 0 rfl) ?_
  refine lv_if_lt hx hb (tgt := 34) dX5_nextOrder_8 (by decide) (fun c_x => absurd c_x (by decide)) (fun c_x => ?_)
  refine lv_aload_n hx hb dX5_nextOrder_11 rfl (lv_at hl 1 rfl) ?_
  refine g_get S hw hinX5 (fs := fX37 a σ) 37 rfl rfl 2 (by decide) lk1 (v := .ref (a 40)) rfl dX5_nextOrder_12 ?_
  refine lv_iload_n hx hb dX5_nextOrder_15 rfl (lv_at hl 0 rfl) ?_
  refine g_iald S hw (f := σ 40) (i := 2) (x := 1) 40 0 rfl rfl (by omega) (by decide) ht2 dX5_nextOrder_16 ?_
  refine lv_aload_n hx hb dX5_nextOrder_17 rfl (lv_at hl 1 rfl) ?_
  refine g_get S hw hinX5 (fs := fX37 a σ) 37 rfl rfl 2 (by decide) lk1 (v := .ref (a 40)) rfl dX5_nextOrder_18 ?_
  refine lv_iload_n hx hb dX5_nextOrder_21 rfl (lv_at hl 0 rfl) ?_
  refine lv_iconst (v := 1) hx hb dX5_nextOrder_22 (by decide) ?_
  refine lv_iadd hx hb dX5_nextOrder_23 ?_
  refine lv_topi (fun zz ez => ?_)
  have ez : zz = 3 := ez.trans (by decide)
  subst ez
  refine g_iald S hw (f := σ 40) (i := 3) (x := 3) 40 0 rfl rfl (by omega) (by decide) ht3 dX5_nextOrder_24 ?_
  refine lv_icmp_le hx hb (tgt := 34) dX5_nextOrder_25 (by decide) (fun c_x => ?_) (fun c_x => absurd (by decide) c_x)
  refine lv_iload_n hx hb dX5_nextOrder_34 rfl (lv_at hl 0 rfl) ?_
  refine lv_if_ge hx hb (tgt := 40) dX5_nextOrder_35 (by decide) (fun c_x => ?_) (fun c_x => absurd (by decide) c_x)
  refine lv_aload_n hx hb dX5_nextOrder_40 rfl (lv_at hl 1 rfl) ?_
  refine g_get S hw hinX5 (fs := fX37 a σ) 37 rfl rfl 4 (by decide) lk0 (v := .int 4) (congrArg (fun z => some (Value.int z)) (hp0)) dX5_nextOrder_41 ?_
  refine lv_iconst (v := 1) hx hb dX5_nextOrder_44 (by decide) ?_
  refine lv_isub hx hb dX5_nextOrder_45 ?_
  refine lv_topi (fun zz ez => ?_)
  have ez : zz = 3 := ez.trans (by decide)
  subst ez
  refine lv_istore_n (lv' := [(2, .int 3), (1, .int 2), (0, .ref (a 37))]) hx hb dX5_nextOrder_46 rfl hl (by decide) rfl (fun ls hl => ?_)
  refine lv_iload_n hx hb dX5_nextOrder_47 rfl (lv_at hl 0 rfl) ?_
  refine lv_iload_n hx hb dX5_nextOrder_48 rfl (lv_at hl 1 rfl) ?_
  refine lv_icmp_le hx hb (tgt := 73) dX5_nextOrder_49 (by decide) (fun c_x => absurd c_x (by decide)) (fun c_x => ?_)
  refine lv_aload_n hx hb dX5_nextOrder_52 rfl (lv_at hl 2 rfl) ?_
  refine g_get S hw hinX5 (fs := fX37 a σ) 37 rfl rfl 2 (by decide) lk1 (v := .ref (a 40)) rfl dX5_nextOrder_53 ?_
  refine lv_iload_n hx hb dX5_nextOrder_56 rfl (lv_at hl 0 rfl) ?_
  refine g_iald S hw (f := σ 40) (i := 3) (x := 3) 40 0 rfl rfl (by omega) (by decide) ht3 dX5_nextOrder_57 ?_
  refine lv_aload_n hx hb dX5_nextOrder_58 rfl (lv_at hl 2 rfl) ?_
  refine g_get S hw hinX5 (fs := fX37 a σ) 37 rfl rfl 2 (by decide) lk1 (v := .ref (a 40)) rfl dX5_nextOrder_59 ?_
  refine lv_iload_n hx hb dX5_nextOrder_62 rfl (lv_at hl 1 rfl) ?_
  refine g_iald S hw (f := σ 40) (i := 2) (x := 1) 40 0 rfl rfl (by omega) (by decide) ht2 dX5_nextOrder_63 ?_
  refine lv_icmp_ge hx hb (tgt := 73) dX5_nextOrder_64 (by decide) (fun c_x => ?_) (fun c_x => absurd (by decide) c_x)
  refine lv_aload_n hx hb dX5_nextOrder_73 rfl (lv_at hl 2 rfl) ?_
  refine lv_iload_n hx hb dX5_nextOrder_74 rfl (lv_at hl 1 rfl) ?_
  refine lv_iload_n hx hb dX5_nextOrder_75 rfl (lv_at hl 0 rfl) ?_
  refine g_callVv S hw (c_XP_swapTried l D cI cC cI2 a κ σ 2 3 (by decide) (by decide)) gX5_nextOrder_X5_swapTried rfl 37 rfl rfl 2 rfl (by decide +kernel) (by decide) (by decide) hl.1 rfl (Nat.le_of_ble_eq_true rfl) dX5_nextOrder_76 (fun H locs hw => ?_)
  have ew : XP_swapTried_s κ σ 2 3 = up2 (up2 σ 40 2 3) 40 3 1 := by
    unfold XP_swapTried_s
    rw [show σ 40 3 = 3 from ht3, show σ 40 2 = 1 from ht2]
  rw [ew] at hw
  refine lv_iload_n hx hb dX5_nextOrder_79 rfl (lv_at hl 1 rfl) ?_
  refine lv_iconst (v := 1) hx hb dX5_nextOrder_80 (by decide) ?_
  refine lv_iadd hx hb dX5_nextOrder_81 ?_
  refine lv_topi (fun zz ez => ?_)
  have ez : zz = 3 := ez.trans (by decide)
  subst ez
  refine lv_istore_n (lv' := [(3, .int 3), (2, .int 3), (1, .int 2), (0, .ref (a 37))]) hx hb dX5_nextOrder_82 rfl hl (by decide) rfl (fun ls hl => ?_)
  refine lv_aload_n hx hb dX5_nextOrder_83 rfl (lv_at hl 3 rfl) ?_
  refine g_get S hw hinX5 (fs := fX37 a (up2 (up2 σ 40 2 3) 40 3 1)) 37 rfl rfl 4 (by decide) lk0 (v := .int 4) (congrArg (fun z => some (Value.int z)) (((up2_rn (by omega)).trans (up2_rn (by omega))).trans (hp0))) dX5_nextOrder_84 ?_
  refine lv_iconst (v := 1) hx hb dX5_nextOrder_87 (by decide) ?_
  refine lv_isub hx hb dX5_nextOrder_88 ?_
  refine lv_topi (fun zz ez => ?_)
  have ez : zz = 3 := ez.trans (by decide)
  subst ez
  refine lv_istore (lv' := [(4, .int 3), (3, .int 3), (2, .int 3), (1, .int 2), (0, .ref (a 37))]) hx hb dX5_nextOrder_89 hl (by decide) rfl (fun ls hl => ?_)
  refine lv_iload_n hx hb dX5_nextOrder_91 rfl (lv_at hl 1 rfl) ?_
  refine lv_iload hx hb dX5_nextOrder_92 (lv_at hl 0 rfl) ?_
  refine lv_icmp_ge hx hb (tgt := 113) dX5_nextOrder_94 (by decide) (fun c_x => ?_) (fun c_x => absurd (by decide) c_x)
  refine lv_iconst (v := 1) hx hb dX5_nextOrder_113 (by decide) ?_
  have hw := hw.arr 40 (f := (up2 (up2 σ 40 2 3) 40 3 1) 40) (g := permRow 4 3) rfl (row4 (((up2_rp (by decide)).trans (up2_rp (by decide))).trans (ht0)) (((up2_rp (by decide)).trans (up2_rp (by decide))).trans (ht1)) ((up2_rp (by decide)).trans (up2_rs)) (up2_rs)) (wX_r40 _ _ _ _ _ _ _)
  simp only [row_up2] at hw
  exact g_zret S hr hlk hw (by decide) (by simp only [XP_nextOrder_4_2_r]) (by simp only [XP_nextOrder_4_2_s]) dX5_nextOrder_114
def XP_nextOrder_4_3_r (κ : Nat → Nat) (σ : Nat → Nat → Int32) : Int32 := 1
def XP_nextOrder_4_3_s (κ : Nat → Nat) (σ : Nat → Nat → Int32) : Nat → Nat → Int32 := row σ 40 (permRow 4 4)
theorem XP_nextOrder_4_3_z (κ : Nat → Nat) (σ : Nat → Nat → Int32) : XP_nextOrder_4_3_r κ σ = 0 ∨ XP_nextOrder_4_3_r κ σ = 1 := by
  unfold XP_nextOrder_4_3_r
  exact Or.inr rfl

set_option maxHeartbeats 4000000 in
set_option maxRecDepth 100000 in
theorem c_XP_nextOrder_4_3 (l : Launch) (D : va_G) (cI cC cI2 : ClassId) (a : Nat → Nat) (κ : Nat → Nat) (σ : Nat → Nat → Int32) (hp0 : σ 37 4 = nI 4) (ht0 : σ 40 0 = nI 0) (ht1 : σ 40 1 = nI 2) (ht2 : σ 40 2 = nI 3) (ht3 : σ 40 3 = nI 1) : gI l D (tysX cI cC cI2) yX5_nextOrder wsX5_nextOrder 2 [.ref (a 37)] (wX cI cC cI2 a κ σ) (XP_nextOrder_4_3_r κ σ) (wX cI cC cI2 a κ (XP_nextOrder_4_3_s κ σ)) := by
  refine g_start (cc := cX5_nextOrder) (maxL := 5) (ret := some .boolean) (Qc := gQi D (tysX cI cC cI2) (XP_nextOrder_4_3_r κ σ) (wX cI cC cI2 a κ (XP_nextOrder_4_3_s κ σ))) (by decide) rfl (Nat.le_of_ble_eq_true rfl) ?_
  intro p e s m below meth C A ls S hr hlk hw hl
  obtain ⟨hx, hb, hml, hown, hts⟩ := id S
  have hinX5 : ∀ x ∈ u_ws RX5 TX5 6, x ∈ wsX5_nextOrder := fun x h => List.mem_cons_of_mem _ (List.mem_append_right _ h)
  have lk0 : Cond.fieldLink RX5 24 "CowsOwed$Plans" "size" "I" ∈ wsX5_nextOrder := by decide +kernel
  have lk1 : Cond.fieldLink RX5 18 "CowsOwed$Plans" "tried" "[I" ∈ wsX5_nextOrder := by decide +kernel
  have hl : lv_has ls 5 [(0, .ref (a 37))] := hl
  refine lv_aload_n hx hb dX5_nextOrder_0 rfl (lv_at hl 0 rfl) ?_
  refine g_get S hw hinX5 (fs := fX37 a σ) 37 rfl rfl 4 (by decide) lk0 (v := .int 4) (congrArg (fun z => some (Value.int z)) (hp0)) dX5_nextOrder_1 ?_
  refine lv_iconst (v := 2) hx hb dX5_nextOrder_4 (by decide) ?_
  refine lv_isub hx hb dX5_nextOrder_5 ?_
  refine lv_topi (fun zz ez => ?_)
  have ez : zz = 2 := ez.trans (by decide)
  subst ez
  refine lv_istore_n (lv' := [(1, .int 2), (0, .ref (a 37))]) hx hb dX5_nextOrder_6 rfl hl (by decide) rfl (fun ls hl => ?_)
  refine lv_iload_n hx hb dX5_nextOrder_7 rfl (lv_at hl 0 rfl) ?_
  refine lv_if_lt hx hb (tgt := 34) dX5_nextOrder_8 (by decide) (fun c_x => absurd c_x (by decide)) (fun c_x => ?_)
  refine lv_aload_n hx hb dX5_nextOrder_11 rfl (lv_at hl 1 rfl) ?_
  refine g_get S hw hinX5 (fs := fX37 a σ) 37 rfl rfl 2 (by decide) lk1 (v := .ref (a 40)) rfl dX5_nextOrder_12 ?_
  refine lv_iload_n hx hb dX5_nextOrder_15 rfl (lv_at hl 0 rfl) ?_
  refine g_iald S hw (f := σ 40) (i := 2) (x := 3) 40 0 rfl rfl (by omega) (by decide) ht2 dX5_nextOrder_16 ?_
  refine lv_aload_n hx hb dX5_nextOrder_17 rfl (lv_at hl 1 rfl) ?_
  refine g_get S hw hinX5 (fs := fX37 a σ) 37 rfl rfl 2 (by decide) lk1 (v := .ref (a 40)) rfl dX5_nextOrder_18 ?_
  refine lv_iload_n hx hb dX5_nextOrder_21 rfl (lv_at hl 0 rfl) ?_
  refine lv_iconst (v := 1) hx hb dX5_nextOrder_22 (by decide) ?_
  refine lv_iadd hx hb dX5_nextOrder_23 ?_
  refine lv_topi (fun zz ez => ?_)
  have ez : zz = 3 := ez.trans (by decide)
  subst ez
  refine g_iald S hw (f := σ 40) (i := 3) (x := 1) 40 0 rfl rfl (by omega) (by decide) ht3 dX5_nextOrder_24 ?_
  refine lv_icmp_le hx hb (tgt := 34) dX5_nextOrder_25 (by decide) (fun c_x => absurd c_x (by decide)) (fun c_x => ?_)
  refine lv_iinc (v := 1) (lv' := [(1, .int 1), (0, .ref (a 37))]) hx hb dX5_nextOrder_28 hl (k := 0) rfl (by decide) (by decide) rfl (fun ls hl => ?_)
  refine lv_goto (tgt := 7) hx hb dX5_nextOrder_31 (by decide) ?_
  refine lv_iload_n hx hb dX5_nextOrder_7 rfl (lv_at hl 0 rfl) ?_
  refine lv_if_lt hx hb (tgt := 34) dX5_nextOrder_8 (by decide) (fun c_x => absurd c_x (by decide)) (fun c_x => ?_)
  refine lv_aload_n hx hb dX5_nextOrder_11 rfl (lv_at hl 1 rfl) ?_
  refine g_get S hw hinX5 (fs := fX37 a σ) 37 rfl rfl 2 (by decide) lk1 (v := .ref (a 40)) rfl dX5_nextOrder_12 ?_
  refine lv_iload_n hx hb dX5_nextOrder_15 rfl (lv_at hl 0 rfl) ?_
  refine g_iald S hw (f := σ 40) (i := 1) (x := 2) 40 0 rfl rfl (by omega) (by decide) ht1 dX5_nextOrder_16 ?_
  refine lv_aload_n hx hb dX5_nextOrder_17 rfl (lv_at hl 1 rfl) ?_
  refine g_get S hw hinX5 (fs := fX37 a σ) 37 rfl rfl 2 (by decide) lk1 (v := .ref (a 40)) rfl dX5_nextOrder_18 ?_
  refine lv_iload_n hx hb dX5_nextOrder_21 rfl (lv_at hl 0 rfl) ?_
  refine lv_iconst (v := 1) hx hb dX5_nextOrder_22 (by decide) ?_
  refine lv_iadd hx hb dX5_nextOrder_23 ?_
  refine lv_topi (fun zz ez => ?_)
  have ez : zz = 2 := ez.trans (by decide)
  subst ez
  refine g_iald S hw (f := σ 40) (i := 2) (x := 3) 40 0 rfl rfl (by omega) (by decide) ht2 dX5_nextOrder_24 ?_
  refine lv_icmp_le hx hb (tgt := 34) dX5_nextOrder_25 (by decide) (fun c_x => ?_) (fun c_x => absurd (by decide) c_x)
  refine lv_iload_n hx hb dX5_nextOrder_34 rfl (lv_at hl 0 rfl) ?_
  refine lv_if_ge hx hb (tgt := 40) dX5_nextOrder_35 (by decide) (fun c_x => ?_) (fun c_x => absurd (by decide) c_x)
  refine lv_aload_n hx hb dX5_nextOrder_40 rfl (lv_at hl 1 rfl) ?_
  refine g_get S hw hinX5 (fs := fX37 a σ) 37 rfl rfl 4 (by decide) lk0 (v := .int 4) (congrArg (fun z => some (Value.int z)) (hp0)) dX5_nextOrder_41 ?_
  refine lv_iconst (v := 1) hx hb dX5_nextOrder_44 (by decide) ?_
  refine lv_isub hx hb dX5_nextOrder_45 ?_
  refine lv_topi (fun zz ez => ?_)
  have ez : zz = 3 := ez.trans (by decide)
  subst ez
  refine lv_istore_n (lv' := [(2, .int 3), (1, .int 1), (0, .ref (a 37))]) hx hb dX5_nextOrder_46 rfl hl (by decide) rfl (fun ls hl => ?_)
  refine lv_iload_n hx hb dX5_nextOrder_47 rfl (lv_at hl 0 rfl) ?_
  refine lv_iload_n hx hb dX5_nextOrder_48 rfl (lv_at hl 1 rfl) ?_
  refine lv_icmp_le hx hb (tgt := 73) dX5_nextOrder_49 (by decide) (fun c_x => absurd c_x (by decide)) (fun c_x => ?_)
  refine lv_aload_n hx hb dX5_nextOrder_52 rfl (lv_at hl 2 rfl) ?_
  refine g_get S hw hinX5 (fs := fX37 a σ) 37 rfl rfl 2 (by decide) lk1 (v := .ref (a 40)) rfl dX5_nextOrder_53 ?_
  refine lv_iload_n hx hb dX5_nextOrder_56 rfl (lv_at hl 0 rfl) ?_
  refine g_iald S hw (f := σ 40) (i := 3) (x := 1) 40 0 rfl rfl (by omega) (by decide) ht3 dX5_nextOrder_57 ?_
  refine lv_aload_n hx hb dX5_nextOrder_58 rfl (lv_at hl 2 rfl) ?_
  refine g_get S hw hinX5 (fs := fX37 a σ) 37 rfl rfl 2 (by decide) lk1 (v := .ref (a 40)) rfl dX5_nextOrder_59 ?_
  refine lv_iload_n hx hb dX5_nextOrder_62 rfl (lv_at hl 1 rfl) ?_
  refine g_iald S hw (f := σ 40) (i := 1) (x := 2) 40 0 rfl rfl (by omega) (by decide) ht1 dX5_nextOrder_63 ?_
  refine lv_icmp_ge hx hb (tgt := 73) dX5_nextOrder_64 (by decide) (fun c_x => absurd c_x (by decide)) (fun c_x => ?_)
  refine lv_iinc (v := 2) (lv' := [(2, .int 2), (1, .int 1), (0, .ref (a 37))]) hx hb dX5_nextOrder_67 hl (k := 0) rfl (by decide) (by decide) rfl (fun ls hl => ?_)
  refine lv_goto (tgt := 47) hx hb dX5_nextOrder_70 (by decide) ?_
  refine lv_iload_n hx hb dX5_nextOrder_47 rfl (lv_at hl 0 rfl) ?_
  refine lv_iload_n hx hb dX5_nextOrder_48 rfl (lv_at hl 1 rfl) ?_
  refine lv_icmp_le hx hb (tgt := 73) dX5_nextOrder_49 (by decide) (fun c_x => absurd c_x (by decide)) (fun c_x => ?_)
  refine lv_aload_n hx hb dX5_nextOrder_52 rfl (lv_at hl 2 rfl) ?_
  refine g_get S hw hinX5 (fs := fX37 a σ) 37 rfl rfl 2 (by decide) lk1 (v := .ref (a 40)) rfl dX5_nextOrder_53 ?_
  refine lv_iload_n hx hb dX5_nextOrder_56 rfl (lv_at hl 0 rfl) ?_
  refine g_iald S hw (f := σ 40) (i := 2) (x := 3) 40 0 rfl rfl (by omega) (by decide) ht2 dX5_nextOrder_57 ?_
  refine lv_aload_n hx hb dX5_nextOrder_58 rfl (lv_at hl 2 rfl) ?_
  refine g_get S hw hinX5 (fs := fX37 a σ) 37 rfl rfl 2 (by decide) lk1 (v := .ref (a 40)) rfl dX5_nextOrder_59 ?_
  refine lv_iload_n hx hb dX5_nextOrder_62 rfl (lv_at hl 1 rfl) ?_
  refine g_iald S hw (f := σ 40) (i := 1) (x := 2) 40 0 rfl rfl (by omega) (by decide) ht1 dX5_nextOrder_63 ?_
  refine lv_icmp_ge hx hb (tgt := 73) dX5_nextOrder_64 (by decide) (fun c_x => ?_) (fun c_x => absurd (by decide) c_x)
  refine lv_aload_n hx hb dX5_nextOrder_73 rfl (lv_at hl 2 rfl) ?_
  refine lv_iload_n hx hb dX5_nextOrder_74 rfl (lv_at hl 1 rfl) ?_
  refine lv_iload_n hx hb dX5_nextOrder_75 rfl (lv_at hl 0 rfl) ?_
  refine g_callVv S hw (c_XP_swapTried l D cI cC cI2 a κ σ 1 2 (by decide) (by decide)) gX5_nextOrder_X5_swapTried rfl 37 rfl rfl 2 rfl (by decide +kernel) (by decide) (by decide) hl.1 rfl (Nat.le_of_ble_eq_true rfl) dX5_nextOrder_76 (fun H locs hw => ?_)
  have ew : XP_swapTried_s κ σ 1 2 = up2 (up2 σ 40 1 3) 40 2 2 := by
    unfold XP_swapTried_s
    rw [show σ 40 2 = 3 from ht2, show σ 40 1 = 2 from ht1]
  rw [ew] at hw
  refine lv_iload_n hx hb dX5_nextOrder_79 rfl (lv_at hl 1 rfl) ?_
  refine lv_iconst (v := 1) hx hb dX5_nextOrder_80 (by decide) ?_
  refine lv_iadd hx hb dX5_nextOrder_81 ?_
  refine lv_topi (fun zz ez => ?_)
  have ez : zz = 2 := ez.trans (by decide)
  subst ez
  refine lv_istore_n (lv' := [(3, .int 2), (2, .int 2), (1, .int 1), (0, .ref (a 37))]) hx hb dX5_nextOrder_82 rfl hl (by decide) rfl (fun ls hl => ?_)
  refine lv_aload_n hx hb dX5_nextOrder_83 rfl (lv_at hl 3 rfl) ?_
  refine g_get S hw hinX5 (fs := fX37 a (up2 (up2 σ 40 1 3) 40 2 2)) 37 rfl rfl 4 (by decide) lk0 (v := .int 4) (congrArg (fun z => some (Value.int z)) (((up2_rn (by omega)).trans (up2_rn (by omega))).trans (hp0))) dX5_nextOrder_84 ?_
  refine lv_iconst (v := 1) hx hb dX5_nextOrder_87 (by decide) ?_
  refine lv_isub hx hb dX5_nextOrder_88 ?_
  refine lv_topi (fun zz ez => ?_)
  have ez : zz = 3 := ez.trans (by decide)
  subst ez
  refine lv_istore (lv' := [(4, .int 3), (3, .int 2), (2, .int 2), (1, .int 1), (0, .ref (a 37))]) hx hb dX5_nextOrder_89 hl (by decide) rfl (fun ls hl => ?_)
  refine lv_iload_n hx hb dX5_nextOrder_91 rfl (lv_at hl 1 rfl) ?_
  refine lv_iload hx hb dX5_nextOrder_92 (lv_at hl 0 rfl) ?_
  refine lv_icmp_ge hx hb (tgt := 113) dX5_nextOrder_94 (by decide) (fun c_x => absurd c_x (by decide)) (fun c_x => ?_)
  refine lv_aload_n hx hb dX5_nextOrder_97 rfl (lv_at hl 4 rfl) ?_
  refine lv_iload_n hx hb dX5_nextOrder_98 rfl (lv_at hl 1 rfl) ?_
  refine lv_iload hx hb dX5_nextOrder_99 (lv_at hl 0 rfl) ?_
  refine g_callVv S hw (c_XP_swapTried l D cI cC cI2 a κ (up2 (up2 σ 40 1 3) 40 2 2) 2 3 (by decide) (by decide)) gX5_nextOrder_X5_swapTried rfl 37 rfl rfl 2 rfl (by decide +kernel) (by decide) (by decide) hl.1 rfl (Nat.le_of_ble_eq_true rfl) dX5_nextOrder_101 (fun H locs hw => ?_)
  have ew : XP_swapTried_s κ (up2 (up2 σ 40 1 3) 40 2 2) 2 3 = up2 (up2 (up2 (up2 σ 40 1 3) 40 2 2) 40 2 1) 40 3 2 := by
    unfold XP_swapTried_s
    rw [show (up2 (up2 σ 40 1 3) 40 2 2) 40 3 = 1 from ((up2_rp (by decide)).trans (up2_rp (by decide))).trans (ht3), show (up2 (up2 σ 40 1 3) 40 2 2) 40 2 = 2 from up2_rs]
  rw [ew] at hw
  refine lv_iinc (v := 3) (lv' := [(3, .int 3), (4, .int 3), (2, .int 2), (1, .int 1), (0, .ref (a 37))]) hx hb dX5_nextOrder_104 hl (k := 1) rfl (by decide) (by decide) rfl (fun ls hl => ?_)
  refine lv_iinc (v := 2) (lv' := [(4, .int 2), (3, .int 3), (2, .int 2), (1, .int 1), (0, .ref (a 37))]) hx hb dX5_nextOrder_107 hl (k := 1) rfl (by decide) (by decide) rfl (fun ls hl => ?_)
  refine lv_goto (tgt := 91) hx hb dX5_nextOrder_110 (by decide) ?_
  refine lv_iload_n hx hb dX5_nextOrder_91 rfl (lv_at hl 1 rfl) ?_
  refine lv_iload hx hb dX5_nextOrder_92 (lv_at hl 0 rfl) ?_
  refine lv_icmp_ge hx hb (tgt := 113) dX5_nextOrder_94 (by decide) (fun c_x => ?_) (fun c_x => absurd (by decide) c_x)
  refine lv_iconst (v := 1) hx hb dX5_nextOrder_113 (by decide) ?_
  have hw := hw.arr 40 (f := (up2 (up2 (up2 (up2 σ 40 1 3) 40 2 2) 40 2 1) 40 3 2) 40) (g := permRow 4 4) rfl (row4 (((up2_rp (by decide)).trans ((up2_rp (by decide)).trans ((up2_rp (by decide)).trans (up2_rp (by decide))))).trans (ht0)) ((up2_rp (by decide)).trans ((up2_rp (by decide)).trans ((up2_rp (by decide)).trans (up2_rs)))) ((up2_rp (by decide)).trans (up2_rs)) (up2_rs)) (wX_r40 _ _ _ _ _ _ _)
  simp only [row_up2] at hw
  exact g_zret S hr hlk hw (by decide) (by simp only [XP_nextOrder_4_3_r]) (by simp only [XP_nextOrder_4_3_s]) dX5_nextOrder_114
def XP_nextOrder_4_4_r (κ : Nat → Nat) (σ : Nat → Nat → Int32) : Int32 := 1
def XP_nextOrder_4_4_s (κ : Nat → Nat) (σ : Nat → Nat → Int32) : Nat → Nat → Int32 := row σ 40 (permRow 4 5)
theorem XP_nextOrder_4_4_z (κ : Nat → Nat) (σ : Nat → Nat → Int32) : XP_nextOrder_4_4_r κ σ = 0 ∨ XP_nextOrder_4_4_r κ σ = 1 := by
  unfold XP_nextOrder_4_4_r
  exact Or.inr rfl

set_option maxHeartbeats 4000000 in
set_option maxRecDepth 100000 in
theorem c_XP_nextOrder_4_4 (l : Launch) (D : va_G) (cI cC cI2 : ClassId) (a : Nat → Nat) (κ : Nat → Nat) (σ : Nat → Nat → Int32) (hp0 : σ 37 4 = nI 4) (ht0 : σ 40 0 = nI 0) (ht1 : σ 40 1 = nI 3) (ht2 : σ 40 2 = nI 1) (ht3 : σ 40 3 = nI 2) : gI l D (tysX cI cC cI2) yX5_nextOrder wsX5_nextOrder 2 [.ref (a 37)] (wX cI cC cI2 a κ σ) (XP_nextOrder_4_4_r κ σ) (wX cI cC cI2 a κ (XP_nextOrder_4_4_s κ σ)) := by
  refine g_start (cc := cX5_nextOrder) (maxL := 5) (ret := some .boolean) (Qc := gQi D (tysX cI cC cI2) (XP_nextOrder_4_4_r κ σ) (wX cI cC cI2 a κ (XP_nextOrder_4_4_s κ σ))) (by decide) rfl (Nat.le_of_ble_eq_true rfl) ?_
  intro p e s m below meth C A ls S hr hlk hw hl
  obtain ⟨hx, hb, hml, hown, hts⟩ := id S
  have hinX5 : ∀ x ∈ u_ws RX5 TX5 6, x ∈ wsX5_nextOrder := fun x h => List.mem_cons_of_mem _ (List.mem_append_right _ h)
  have lk0 : Cond.fieldLink RX5 24 "CowsOwed$Plans" "size" "I" ∈ wsX5_nextOrder := by decide +kernel
  have lk1 : Cond.fieldLink RX5 18 "CowsOwed$Plans" "tried" "[I" ∈ wsX5_nextOrder := by decide +kernel
  have hl : lv_has ls 5 [(0, .ref (a 37))] := hl
  refine lv_aload_n hx hb dX5_nextOrder_0 rfl (lv_at hl 0 rfl) ?_
  refine g_get S hw hinX5 (fs := fX37 a σ) 37 rfl rfl 4 (by decide) lk0 (v := .int 4) (congrArg (fun z => some (Value.int z)) (hp0)) dX5_nextOrder_1 ?_
  refine lv_iconst (v := 2) hx hb dX5_nextOrder_4 (by decide) ?_
  refine lv_isub hx hb dX5_nextOrder_5 ?_
  refine lv_topi (fun zz ez => ?_)
  have ez : zz = 2 := ez.trans (by decide)
  subst ez
  refine lv_istore_n (lv' := [(1, .int 2), (0, .ref (a 37))]) hx hb dX5_nextOrder_6 rfl hl (by decide) rfl (fun ls hl => ?_)
  refine lv_iload_n hx hb dX5_nextOrder_7 rfl (lv_at hl 0 rfl) ?_
  refine lv_if_lt hx hb (tgt := 34) dX5_nextOrder_8 (by decide) (fun c_x => absurd c_x (by decide)) (fun c_x => ?_)
  refine lv_aload_n hx hb dX5_nextOrder_11 rfl (lv_at hl 1 rfl) ?_
  refine g_get S hw hinX5 (fs := fX37 a σ) 37 rfl rfl 2 (by decide) lk1 (v := .ref (a 40)) rfl dX5_nextOrder_12 ?_
  refine lv_iload_n hx hb dX5_nextOrder_15 rfl (lv_at hl 0 rfl) ?_
  refine g_iald S hw (f := σ 40) (i := 2) (x := 1) 40 0 rfl rfl (by omega) (by decide) ht2 dX5_nextOrder_16 ?_
  refine lv_aload_n hx hb dX5_nextOrder_17 rfl (lv_at hl 1 rfl) ?_
  refine g_get S hw hinX5 (fs := fX37 a σ) 37 rfl rfl 2 (by decide) lk1 (v := .ref (a 40)) rfl dX5_nextOrder_18 ?_
  refine lv_iload_n hx hb dX5_nextOrder_21 rfl (lv_at hl 0 rfl) ?_
  refine lv_iconst (v := 1) hx hb dX5_nextOrder_22 (by decide) ?_
  refine lv_iadd hx hb dX5_nextOrder_23 ?_
  refine lv_topi (fun zz ez => ?_)
  have ez : zz = 3 := ez.trans (by decide)
  subst ez
  refine g_iald S hw (f := σ 40) (i := 3) (x := 2) 40 0 rfl rfl (by omega) (by decide) ht3 dX5_nextOrder_24 ?_
  refine lv_icmp_le hx hb (tgt := 34) dX5_nextOrder_25 (by decide) (fun c_x => ?_) (fun c_x => absurd (by decide) c_x)
  refine lv_iload_n hx hb dX5_nextOrder_34 rfl (lv_at hl 0 rfl) ?_
  refine lv_if_ge hx hb (tgt := 40) dX5_nextOrder_35 (by decide) (fun c_x => ?_) (fun c_x => absurd (by decide) c_x)
  refine lv_aload_n hx hb dX5_nextOrder_40 rfl (lv_at hl 1 rfl) ?_
  refine g_get S hw hinX5 (fs := fX37 a σ) 37 rfl rfl 4 (by decide) lk0 (v := .int 4) (congrArg (fun z => some (Value.int z)) (hp0)) dX5_nextOrder_41 ?_
  refine lv_iconst (v := 1) hx hb dX5_nextOrder_44 (by decide) ?_
  refine lv_isub hx hb dX5_nextOrder_45 ?_
  refine lv_topi (fun zz ez => ?_)
  have ez : zz = 3 := ez.trans (by decide)
  subst ez
  refine lv_istore_n (lv' := [(2, .int 3), (1, .int 2), (0, .ref (a 37))]) hx hb dX5_nextOrder_46 rfl hl (by decide) rfl (fun ls hl => ?_)
  refine lv_iload_n hx hb dX5_nextOrder_47 rfl (lv_at hl 0 rfl) ?_
  refine lv_iload_n hx hb dX5_nextOrder_48 rfl (lv_at hl 1 rfl) ?_
  refine lv_icmp_le hx hb (tgt := 73) dX5_nextOrder_49 (by decide) (fun c_x => absurd c_x (by decide)) (fun c_x => ?_)
  refine lv_aload_n hx hb dX5_nextOrder_52 rfl (lv_at hl 2 rfl) ?_
  refine g_get S hw hinX5 (fs := fX37 a σ) 37 rfl rfl 2 (by decide) lk1 (v := .ref (a 40)) rfl dX5_nextOrder_53 ?_
  refine lv_iload_n hx hb dX5_nextOrder_56 rfl (lv_at hl 0 rfl) ?_
  refine g_iald S hw (f := σ 40) (i := 3) (x := 2) 40 0 rfl rfl (by omega) (by decide) ht3 dX5_nextOrder_57 ?_
  refine lv_aload_n hx hb dX5_nextOrder_58 rfl (lv_at hl 2 rfl) ?_
  refine g_get S hw hinX5 (fs := fX37 a σ) 37 rfl rfl 2 (by decide) lk1 (v := .ref (a 40)) rfl dX5_nextOrder_59 ?_
  refine lv_iload_n hx hb dX5_nextOrder_62 rfl (lv_at hl 1 rfl) ?_
  refine g_iald S hw (f := σ 40) (i := 2) (x := 1) 40 0 rfl rfl (by omega) (by decide) ht2 dX5_nextOrder_63 ?_
  refine lv_icmp_ge hx hb (tgt := 73) dX5_nextOrder_64 (by decide) (fun c_x => ?_) (fun c_x => absurd (by decide) c_x)
  refine lv_aload_n hx hb dX5_nextOrder_73 rfl (lv_at hl 2 rfl) ?_
  refine lv_iload_n hx hb dX5_nextOrder_74 rfl (lv_at hl 1 rfl) ?_
  refine lv_iload_n hx hb dX5_nextOrder_75 rfl (lv_at hl 0 rfl) ?_
  refine g_callVv S hw (c_XP_swapTried l D cI cC cI2 a κ σ 2 3 (by decide) (by decide)) gX5_nextOrder_X5_swapTried rfl 37 rfl rfl 2 rfl (by decide +kernel) (by decide) (by decide) hl.1 rfl (Nat.le_of_ble_eq_true rfl) dX5_nextOrder_76 (fun H locs hw => ?_)
  have ew : XP_swapTried_s κ σ 2 3 = up2 (up2 σ 40 2 2) 40 3 1 := by
    unfold XP_swapTried_s
    rw [show σ 40 3 = 2 from ht3, show σ 40 2 = 1 from ht2]
  rw [ew] at hw
  refine lv_iload_n hx hb dX5_nextOrder_79 rfl (lv_at hl 1 rfl) ?_
  refine lv_iconst (v := 1) hx hb dX5_nextOrder_80 (by decide) ?_
  refine lv_iadd hx hb dX5_nextOrder_81 ?_
  refine lv_topi (fun zz ez => ?_)
  have ez : zz = 3 := ez.trans (by decide)
  subst ez
  refine lv_istore_n (lv' := [(3, .int 3), (2, .int 3), (1, .int 2), (0, .ref (a 37))]) hx hb dX5_nextOrder_82 rfl hl (by decide) rfl (fun ls hl => ?_)
  refine lv_aload_n hx hb dX5_nextOrder_83 rfl (lv_at hl 3 rfl) ?_
  refine g_get S hw hinX5 (fs := fX37 a (up2 (up2 σ 40 2 2) 40 3 1)) 37 rfl rfl 4 (by decide) lk0 (v := .int 4) (congrArg (fun z => some (Value.int z)) (((up2_rn (by omega)).trans (up2_rn (by omega))).trans (hp0))) dX5_nextOrder_84 ?_
  refine lv_iconst (v := 1) hx hb dX5_nextOrder_87 (by decide) ?_
  refine lv_isub hx hb dX5_nextOrder_88 ?_
  refine lv_topi (fun zz ez => ?_)
  have ez : zz = 3 := ez.trans (by decide)
  subst ez
  refine lv_istore (lv' := [(4, .int 3), (3, .int 3), (2, .int 3), (1, .int 2), (0, .ref (a 37))]) hx hb dX5_nextOrder_89 hl (by decide) rfl (fun ls hl => ?_)
  refine lv_iload_n hx hb dX5_nextOrder_91 rfl (lv_at hl 1 rfl) ?_
  refine lv_iload hx hb dX5_nextOrder_92 (lv_at hl 0 rfl) ?_
  refine lv_icmp_ge hx hb (tgt := 113) dX5_nextOrder_94 (by decide) (fun c_x => ?_) (fun c_x => absurd (by decide) c_x)
  refine lv_iconst (v := 1) hx hb dX5_nextOrder_113 (by decide) ?_
  have hw := hw.arr 40 (f := (up2 (up2 σ 40 2 2) 40 3 1) 40) (g := permRow 4 5) rfl (row4 (((up2_rp (by decide)).trans (up2_rp (by decide))).trans (ht0)) (((up2_rp (by decide)).trans (up2_rp (by decide))).trans (ht1)) ((up2_rp (by decide)).trans (up2_rs)) (up2_rs)) (wX_r40 _ _ _ _ _ _ _)
  simp only [row_up2] at hw
  exact g_zret S hr hlk hw (by decide) (by simp only [XP_nextOrder_4_4_r]) (by simp only [XP_nextOrder_4_4_s]) dX5_nextOrder_114
def XP_nextOrder_4_5_r (κ : Nat → Nat) (σ : Nat → Nat → Int32) : Int32 := 1
def XP_nextOrder_4_5_s (κ : Nat → Nat) (σ : Nat → Nat → Int32) : Nat → Nat → Int32 := row σ 40 (permRow 4 6)
theorem XP_nextOrder_4_5_z (κ : Nat → Nat) (σ : Nat → Nat → Int32) : XP_nextOrder_4_5_r κ σ = 0 ∨ XP_nextOrder_4_5_r κ σ = 1 := by
  unfold XP_nextOrder_4_5_r
  exact Or.inr rfl

set_option maxHeartbeats 4000000 in
set_option maxRecDepth 100000 in
theorem c_XP_nextOrder_4_5 (l : Launch) (D : va_G) (cI cC cI2 : ClassId) (a : Nat → Nat) (κ : Nat → Nat) (σ : Nat → Nat → Int32) (hp0 : σ 37 4 = nI 4) (ht0 : σ 40 0 = nI 0) (ht1 : σ 40 1 = nI 3) (ht2 : σ 40 2 = nI 2) (ht3 : σ 40 3 = nI 1) : gI l D (tysX cI cC cI2) yX5_nextOrder wsX5_nextOrder 2 [.ref (a 37)] (wX cI cC cI2 a κ σ) (XP_nextOrder_4_5_r κ σ) (wX cI cC cI2 a κ (XP_nextOrder_4_5_s κ σ)) := by
  refine g_start (cc := cX5_nextOrder) (maxL := 5) (ret := some .boolean) (Qc := gQi D (tysX cI cC cI2) (XP_nextOrder_4_5_r κ σ) (wX cI cC cI2 a κ (XP_nextOrder_4_5_s κ σ))) (by decide) rfl (Nat.le_of_ble_eq_true rfl) ?_
  intro p e s m below meth C A ls S hr hlk hw hl
  obtain ⟨hx, hb, hml, hown, hts⟩ := id S
  have hinX5 : ∀ x ∈ u_ws RX5 TX5 6, x ∈ wsX5_nextOrder := fun x h => List.mem_cons_of_mem _ (List.mem_append_right _ h)
  have lk0 : Cond.fieldLink RX5 24 "CowsOwed$Plans" "size" "I" ∈ wsX5_nextOrder := by decide +kernel
  have lk1 : Cond.fieldLink RX5 18 "CowsOwed$Plans" "tried" "[I" ∈ wsX5_nextOrder := by decide +kernel
  have hl : lv_has ls 5 [(0, .ref (a 37))] := hl
  refine lv_aload_n hx hb dX5_nextOrder_0 rfl (lv_at hl 0 rfl) ?_
  refine g_get S hw hinX5 (fs := fX37 a σ) 37 rfl rfl 4 (by decide) lk0 (v := .int 4) (congrArg (fun z => some (Value.int z)) (hp0)) dX5_nextOrder_1 ?_
  refine lv_iconst (v := 2) hx hb dX5_nextOrder_4 (by decide) ?_
  refine lv_isub hx hb dX5_nextOrder_5 ?_
  refine lv_topi (fun zz ez => ?_)
  have ez : zz = 2 := ez.trans (by decide)
  subst ez
  refine lv_istore_n (lv' := [(1, .int 2), (0, .ref (a 37))]) hx hb dX5_nextOrder_6 rfl hl (by decide) rfl (fun ls hl => ?_)
  refine lv_iload_n hx hb dX5_nextOrder_7 rfl (lv_at hl 0 rfl) ?_
  refine lv_if_lt hx hb (tgt := 34) dX5_nextOrder_8 (by decide) (fun c_x => absurd c_x (by decide)) (fun c_x => ?_)
  refine lv_aload_n hx hb dX5_nextOrder_11 rfl (lv_at hl 1 rfl) ?_
  refine g_get S hw hinX5 (fs := fX37 a σ) 37 rfl rfl 2 (by decide) lk1 (v := .ref (a 40)) rfl dX5_nextOrder_12 ?_
  refine lv_iload_n hx hb dX5_nextOrder_15 rfl (lv_at hl 0 rfl) ?_
  refine g_iald S hw (f := σ 40) (i := 2) (x := 2) 40 0 rfl rfl (by omega) (by decide) ht2 dX5_nextOrder_16 ?_
  refine lv_aload_n hx hb dX5_nextOrder_17 rfl (lv_at hl 1 rfl) ?_
  refine g_get S hw hinX5 (fs := fX37 a σ) 37 rfl rfl 2 (by decide) lk1 (v := .ref (a 40)) rfl dX5_nextOrder_18 ?_
  refine lv_iload_n hx hb dX5_nextOrder_21 rfl (lv_at hl 0 rfl) ?_
  refine lv_iconst (v := 1) hx hb dX5_nextOrder_22 (by decide) ?_
  refine lv_iadd hx hb dX5_nextOrder_23 ?_
  refine lv_topi (fun zz ez => ?_)
  have ez : zz = 3 := ez.trans (by decide)
  subst ez
  refine g_iald S hw (f := σ 40) (i := 3) (x := 1) 40 0 rfl rfl (by omega) (by decide) ht3 dX5_nextOrder_24 ?_
  refine lv_icmp_le hx hb (tgt := 34) dX5_nextOrder_25 (by decide) (fun c_x => absurd c_x (by decide)) (fun c_x => ?_)
  refine lv_iinc (v := 1) (lv' := [(1, .int 1), (0, .ref (a 37))]) hx hb dX5_nextOrder_28 hl (k := 0) rfl (by decide) (by decide) rfl (fun ls hl => ?_)
  refine lv_goto (tgt := 7) hx hb dX5_nextOrder_31 (by decide) ?_
  refine lv_iload_n hx hb dX5_nextOrder_7 rfl (lv_at hl 0 rfl) ?_
  refine lv_if_lt hx hb (tgt := 34) dX5_nextOrder_8 (by decide) (fun c_x => absurd c_x (by decide)) (fun c_x => ?_)
  refine lv_aload_n hx hb dX5_nextOrder_11 rfl (lv_at hl 1 rfl) ?_
  refine g_get S hw hinX5 (fs := fX37 a σ) 37 rfl rfl 2 (by decide) lk1 (v := .ref (a 40)) rfl dX5_nextOrder_12 ?_
  refine lv_iload_n hx hb dX5_nextOrder_15 rfl (lv_at hl 0 rfl) ?_
  refine g_iald S hw (f := σ 40) (i := 1) (x := 3) 40 0 rfl rfl (by omega) (by decide) ht1 dX5_nextOrder_16 ?_
  refine lv_aload_n hx hb dX5_nextOrder_17 rfl (lv_at hl 1 rfl) ?_
  refine g_get S hw hinX5 (fs := fX37 a σ) 37 rfl rfl 2 (by decide) lk1 (v := .ref (a 40)) rfl dX5_nextOrder_18 ?_
  refine lv_iload_n hx hb dX5_nextOrder_21 rfl (lv_at hl 0 rfl) ?_
  refine lv_iconst (v := 1) hx hb dX5_nextOrder_22 (by decide) ?_
  refine lv_iadd hx hb dX5_nextOrder_23 ?_
  refine lv_topi (fun zz ez => ?_)
  have ez : zz = 2 := ez.trans (by decide)
  subst ez
  refine g_iald S hw (f := σ 40) (i := 2) (x := 2) 40 0 rfl rfl (by omega) (by decide) ht2 dX5_nextOrder_24 ?_
  refine lv_icmp_le hx hb (tgt := 34) dX5_nextOrder_25 (by decide) (fun c_x => absurd c_x (by decide)) (fun c_x => ?_)
  refine lv_iinc (v := 0) (lv' := [(1, .int 0), (0, .ref (a 37))]) hx hb dX5_nextOrder_28 hl (k := 0) rfl (by decide) (by decide) rfl (fun ls hl => ?_)
  refine lv_goto (tgt := 7) hx hb dX5_nextOrder_31 (by decide) ?_
  refine lv_iload_n hx hb dX5_nextOrder_7 rfl (lv_at hl 0 rfl) ?_
  refine lv_if_lt hx hb (tgt := 34) dX5_nextOrder_8 (by decide) (fun c_x => absurd c_x (by decide)) (fun c_x => ?_)
  refine lv_aload_n hx hb dX5_nextOrder_11 rfl (lv_at hl 1 rfl) ?_
  refine g_get S hw hinX5 (fs := fX37 a σ) 37 rfl rfl 2 (by decide) lk1 (v := .ref (a 40)) rfl dX5_nextOrder_12 ?_
  refine lv_iload_n hx hb dX5_nextOrder_15 rfl (lv_at hl 0 rfl) ?_
  refine g_iald S hw (f := σ 40) (i := 0) (x := 0) 40 0 rfl rfl (by omega) (by decide) ht0 dX5_nextOrder_16 ?_
  refine lv_aload_n hx hb dX5_nextOrder_17 rfl (lv_at hl 1 rfl) ?_
  refine g_get S hw hinX5 (fs := fX37 a σ) 37 rfl rfl 2 (by decide) lk1 (v := .ref (a 40)) rfl dX5_nextOrder_18 ?_
  refine lv_iload_n hx hb dX5_nextOrder_21 rfl (lv_at hl 0 rfl) ?_
  refine lv_iconst (v := 1) hx hb dX5_nextOrder_22 (by decide) ?_
  refine lv_iadd hx hb dX5_nextOrder_23 ?_
  refine lv_topi (fun zz ez => ?_)
  have ez : zz = 1 := ez.trans (by decide)
  subst ez
  refine g_iald S hw (f := σ 40) (i := 1) (x := 3) 40 0 rfl rfl (by omega) (by decide) ht1 dX5_nextOrder_24 ?_
  refine lv_icmp_le hx hb (tgt := 34) dX5_nextOrder_25 (by decide) (fun c_x => ?_) (fun c_x => absurd (by decide) c_x)
  refine lv_iload_n hx hb dX5_nextOrder_34 rfl (lv_at hl 0 rfl) ?_
  refine lv_if_ge hx hb (tgt := 40) dX5_nextOrder_35 (by decide) (fun c_x => ?_) (fun c_x => absurd (by decide) c_x)
  refine lv_aload_n hx hb dX5_nextOrder_40 rfl (lv_at hl 1 rfl) ?_
  refine g_get S hw hinX5 (fs := fX37 a σ) 37 rfl rfl 4 (by decide) lk0 (v := .int 4) (congrArg (fun z => some (Value.int z)) (hp0)) dX5_nextOrder_41 ?_
  refine lv_iconst (v := 1) hx hb dX5_nextOrder_44 (by decide) ?_
  refine lv_isub hx hb dX5_nextOrder_45 ?_
  refine lv_topi (fun zz ez => ?_)
  have ez : zz = 3 := ez.trans (by decide)
  subst ez
  refine lv_istore_n (lv' := [(2, .int 3), (1, .int 0), (0, .ref (a 37))]) hx hb dX5_nextOrder_46 rfl hl (by decide) rfl (fun ls hl => ?_)
  refine lv_iload_n hx hb dX5_nextOrder_47 rfl (lv_at hl 0 rfl) ?_
  refine lv_iload_n hx hb dX5_nextOrder_48 rfl (lv_at hl 1 rfl) ?_
  refine lv_icmp_le hx hb (tgt := 73) dX5_nextOrder_49 (by decide) (fun c_x => absurd c_x (by decide)) (fun c_x => ?_)
  refine lv_aload_n hx hb dX5_nextOrder_52 rfl (lv_at hl 2 rfl) ?_
  refine g_get S hw hinX5 (fs := fX37 a σ) 37 rfl rfl 2 (by decide) lk1 (v := .ref (a 40)) rfl dX5_nextOrder_53 ?_
  refine lv_iload_n hx hb dX5_nextOrder_56 rfl (lv_at hl 0 rfl) ?_
  refine g_iald S hw (f := σ 40) (i := 3) (x := 1) 40 0 rfl rfl (by omega) (by decide) ht3 dX5_nextOrder_57 ?_
  refine lv_aload_n hx hb dX5_nextOrder_58 rfl (lv_at hl 2 rfl) ?_
  refine g_get S hw hinX5 (fs := fX37 a σ) 37 rfl rfl 2 (by decide) lk1 (v := .ref (a 40)) rfl dX5_nextOrder_59 ?_
  refine lv_iload_n hx hb dX5_nextOrder_62 rfl (lv_at hl 1 rfl) ?_
  refine g_iald S hw (f := σ 40) (i := 0) (x := 0) 40 0 rfl rfl (by omega) (by decide) ht0 dX5_nextOrder_63 ?_
  refine lv_icmp_ge hx hb (tgt := 73) dX5_nextOrder_64 (by decide) (fun c_x => ?_) (fun c_x => absurd (by decide) c_x)
  refine lv_aload_n hx hb dX5_nextOrder_73 rfl (lv_at hl 2 rfl) ?_
  refine lv_iload_n hx hb dX5_nextOrder_74 rfl (lv_at hl 1 rfl) ?_
  refine lv_iload_n hx hb dX5_nextOrder_75 rfl (lv_at hl 0 rfl) ?_
  refine g_callVv S hw (c_XP_swapTried l D cI cC cI2 a κ σ 0 3 (by decide) (by decide)) gX5_nextOrder_X5_swapTried rfl 37 rfl rfl 2 rfl (by decide +kernel) (by decide) (by decide) hl.1 rfl (Nat.le_of_ble_eq_true rfl) dX5_nextOrder_76 (fun H locs hw => ?_)
  have ew : XP_swapTried_s κ σ 0 3 = up2 (up2 σ 40 0 1) 40 3 0 := by
    unfold XP_swapTried_s
    rw [show σ 40 3 = 1 from ht3, show σ 40 0 = 0 from ht0]
  rw [ew] at hw
  refine lv_iload_n hx hb dX5_nextOrder_79 rfl (lv_at hl 1 rfl) ?_
  refine lv_iconst (v := 1) hx hb dX5_nextOrder_80 (by decide) ?_
  refine lv_iadd hx hb dX5_nextOrder_81 ?_
  refine lv_topi (fun zz ez => ?_)
  have ez : zz = 1 := ez.trans (by decide)
  subst ez
  refine lv_istore_n (lv' := [(3, .int 1), (2, .int 3), (1, .int 0), (0, .ref (a 37))]) hx hb dX5_nextOrder_82 rfl hl (by decide) rfl (fun ls hl => ?_)
  refine lv_aload_n hx hb dX5_nextOrder_83 rfl (lv_at hl 3 rfl) ?_
  refine g_get S hw hinX5 (fs := fX37 a (up2 (up2 σ 40 0 1) 40 3 0)) 37 rfl rfl 4 (by decide) lk0 (v := .int 4) (congrArg (fun z => some (Value.int z)) (((up2_rn (by omega)).trans (up2_rn (by omega))).trans (hp0))) dX5_nextOrder_84 ?_
  refine lv_iconst (v := 1) hx hb dX5_nextOrder_87 (by decide) ?_
  refine lv_isub hx hb dX5_nextOrder_88 ?_
  refine lv_topi (fun zz ez => ?_)
  have ez : zz = 3 := ez.trans (by decide)
  subst ez
  refine lv_istore (lv' := [(4, .int 3), (3, .int 1), (2, .int 3), (1, .int 0), (0, .ref (a 37))]) hx hb dX5_nextOrder_89 hl (by decide) rfl (fun ls hl => ?_)
  refine lv_iload_n hx hb dX5_nextOrder_91 rfl (lv_at hl 1 rfl) ?_
  refine lv_iload hx hb dX5_nextOrder_92 (lv_at hl 0 rfl) ?_
  refine lv_icmp_ge hx hb (tgt := 113) dX5_nextOrder_94 (by decide) (fun c_x => absurd c_x (by decide)) (fun c_x => ?_)
  refine lv_aload_n hx hb dX5_nextOrder_97 rfl (lv_at hl 4 rfl) ?_
  refine lv_iload_n hx hb dX5_nextOrder_98 rfl (lv_at hl 1 rfl) ?_
  refine lv_iload hx hb dX5_nextOrder_99 (lv_at hl 0 rfl) ?_
  refine g_callVv S hw (c_XP_swapTried l D cI cC cI2 a κ (up2 (up2 σ 40 0 1) 40 3 0) 1 3 (by decide) (by decide)) gX5_nextOrder_X5_swapTried rfl 37 rfl rfl 2 rfl (by decide +kernel) (by decide) (by decide) hl.1 rfl (Nat.le_of_ble_eq_true rfl) dX5_nextOrder_101 (fun H locs hw => ?_)
  have ew : XP_swapTried_s κ (up2 (up2 σ 40 0 1) 40 3 0) 1 3 = up2 (up2 (up2 (up2 σ 40 0 1) 40 3 0) 40 1 0) 40 3 3 := by
    unfold XP_swapTried_s
    rw [show (up2 (up2 σ 40 0 1) 40 3 0) 40 3 = 0 from up2_rs, show (up2 (up2 σ 40 0 1) 40 3 0) 40 1 = 3 from ((up2_rp (by decide)).trans (up2_rp (by decide))).trans (ht1)]
  rw [ew] at hw
  refine lv_iinc (v := 2) (lv' := [(3, .int 2), (4, .int 3), (2, .int 3), (1, .int 0), (0, .ref (a 37))]) hx hb dX5_nextOrder_104 hl (k := 1) rfl (by decide) (by decide) rfl (fun ls hl => ?_)
  refine lv_iinc (v := 2) (lv' := [(4, .int 2), (3, .int 2), (2, .int 3), (1, .int 0), (0, .ref (a 37))]) hx hb dX5_nextOrder_107 hl (k := 1) rfl (by decide) (by decide) rfl (fun ls hl => ?_)
  refine lv_goto (tgt := 91) hx hb dX5_nextOrder_110 (by decide) ?_
  refine lv_iload_n hx hb dX5_nextOrder_91 rfl (lv_at hl 1 rfl) ?_
  refine lv_iload hx hb dX5_nextOrder_92 (lv_at hl 0 rfl) ?_
  refine lv_icmp_ge hx hb (tgt := 113) dX5_nextOrder_94 (by decide) (fun c_x => ?_) (fun c_x => absurd (by decide) c_x)
  refine lv_iconst (v := 1) hx hb dX5_nextOrder_113 (by decide) ?_
  have hw := hw.arr 40 (f := (up2 (up2 (up2 (up2 σ 40 0 1) 40 3 0) 40 1 0) 40 3 3) 40) (g := permRow 4 6) rfl (row4 ((up2_rp (by decide)).trans ((up2_rp (by decide)).trans ((up2_rp (by decide)).trans (up2_rs)))) ((up2_rp (by decide)).trans (up2_rs)) (((up2_rp (by decide)).trans ((up2_rp (by decide)).trans ((up2_rp (by decide)).trans (up2_rp (by decide))))).trans (ht2)) (up2_rs)) (wX_r40 _ _ _ _ _ _ _)
  simp only [row_up2] at hw
  exact g_zret S hr hlk hw (by decide) (by simp only [XP_nextOrder_4_5_r]) (by simp only [XP_nextOrder_4_5_s]) dX5_nextOrder_114
def XP_nextOrder_4_6_r (κ : Nat → Nat) (σ : Nat → Nat → Int32) : Int32 := 1
def XP_nextOrder_4_6_s (κ : Nat → Nat) (σ : Nat → Nat → Int32) : Nat → Nat → Int32 := row σ 40 (permRow 4 7)
theorem XP_nextOrder_4_6_z (κ : Nat → Nat) (σ : Nat → Nat → Int32) : XP_nextOrder_4_6_r κ σ = 0 ∨ XP_nextOrder_4_6_r κ σ = 1 := by
  unfold XP_nextOrder_4_6_r
  exact Or.inr rfl

set_option maxHeartbeats 4000000 in
set_option maxRecDepth 100000 in
theorem c_XP_nextOrder_4_6 (l : Launch) (D : va_G) (cI cC cI2 : ClassId) (a : Nat → Nat) (κ : Nat → Nat) (σ : Nat → Nat → Int32) (hp0 : σ 37 4 = nI 4) (ht0 : σ 40 0 = nI 1) (ht1 : σ 40 1 = nI 0) (ht2 : σ 40 2 = nI 2) (ht3 : σ 40 3 = nI 3) : gI l D (tysX cI cC cI2) yX5_nextOrder wsX5_nextOrder 2 [.ref (a 37)] (wX cI cC cI2 a κ σ) (XP_nextOrder_4_6_r κ σ) (wX cI cC cI2 a κ (XP_nextOrder_4_6_s κ σ)) := by
  refine g_start (cc := cX5_nextOrder) (maxL := 5) (ret := some .boolean) (Qc := gQi D (tysX cI cC cI2) (XP_nextOrder_4_6_r κ σ) (wX cI cC cI2 a κ (XP_nextOrder_4_6_s κ σ))) (by decide) rfl (Nat.le_of_ble_eq_true rfl) ?_
  intro p e s m below meth C A ls S hr hlk hw hl
  obtain ⟨hx, hb, hml, hown, hts⟩ := id S
  have hinX5 : ∀ x ∈ u_ws RX5 TX5 6, x ∈ wsX5_nextOrder := fun x h => List.mem_cons_of_mem _ (List.mem_append_right _ h)
  have lk0 : Cond.fieldLink RX5 24 "CowsOwed$Plans" "size" "I" ∈ wsX5_nextOrder := by decide +kernel
  have lk1 : Cond.fieldLink RX5 18 "CowsOwed$Plans" "tried" "[I" ∈ wsX5_nextOrder := by decide +kernel
  have hl : lv_has ls 5 [(0, .ref (a 37))] := hl
  refine lv_aload_n hx hb dX5_nextOrder_0 rfl (lv_at hl 0 rfl) ?_
  refine g_get S hw hinX5 (fs := fX37 a σ) 37 rfl rfl 4 (by decide) lk0 (v := .int 4) (congrArg (fun z => some (Value.int z)) (hp0)) dX5_nextOrder_1 ?_
  refine lv_iconst (v := 2) hx hb dX5_nextOrder_4 (by decide) ?_
  refine lv_isub hx hb dX5_nextOrder_5 ?_
  refine lv_topi (fun zz ez => ?_)
  have ez : zz = 2 := ez.trans (by decide)
  subst ez
  refine lv_istore_n (lv' := [(1, .int 2), (0, .ref (a 37))]) hx hb dX5_nextOrder_6 rfl hl (by decide) rfl (fun ls hl => ?_)
  refine lv_iload_n hx hb dX5_nextOrder_7 rfl (lv_at hl 0 rfl) ?_
  refine lv_if_lt hx hb (tgt := 34) dX5_nextOrder_8 (by decide) (fun c_x => absurd c_x (by decide)) (fun c_x => ?_)
  refine lv_aload_n hx hb dX5_nextOrder_11 rfl (lv_at hl 1 rfl) ?_
  refine g_get S hw hinX5 (fs := fX37 a σ) 37 rfl rfl 2 (by decide) lk1 (v := .ref (a 40)) rfl dX5_nextOrder_12 ?_
  refine lv_iload_n hx hb dX5_nextOrder_15 rfl (lv_at hl 0 rfl) ?_
  refine g_iald S hw (f := σ 40) (i := 2) (x := 2) 40 0 rfl rfl (by omega) (by decide) ht2 dX5_nextOrder_16 ?_
  refine lv_aload_n hx hb dX5_nextOrder_17 rfl (lv_at hl 1 rfl) ?_
  refine g_get S hw hinX5 (fs := fX37 a σ) 37 rfl rfl 2 (by decide) lk1 (v := .ref (a 40)) rfl dX5_nextOrder_18 ?_
  refine lv_iload_n hx hb dX5_nextOrder_21 rfl (lv_at hl 0 rfl) ?_
  refine lv_iconst (v := 1) hx hb dX5_nextOrder_22 (by decide) ?_
  refine lv_iadd hx hb dX5_nextOrder_23 ?_
  refine lv_topi (fun zz ez => ?_)
  have ez : zz = 3 := ez.trans (by decide)
  subst ez
  refine g_iald S hw (f := σ 40) (i := 3) (x := 3) 40 0 rfl rfl (by omega) (by decide) ht3 dX5_nextOrder_24 ?_
  refine lv_icmp_le hx hb (tgt := 34) dX5_nextOrder_25 (by decide) (fun c_x => ?_) (fun c_x => absurd (by decide) c_x)
  refine lv_iload_n hx hb dX5_nextOrder_34 rfl (lv_at hl 0 rfl) ?_
  refine lv_if_ge hx hb (tgt := 40) dX5_nextOrder_35 (by decide) (fun c_x => ?_) (fun c_x => absurd (by decide) c_x)
  refine lv_aload_n hx hb dX5_nextOrder_40 rfl (lv_at hl 1 rfl) ?_
  refine g_get S hw hinX5 (fs := fX37 a σ) 37 rfl rfl 4 (by decide) lk0 (v := .int 4) (congrArg (fun z => some (Value.int z)) (hp0)) dX5_nextOrder_41 ?_
  refine lv_iconst (v := 1) hx hb dX5_nextOrder_44 (by decide) ?_
  refine lv_isub hx hb dX5_nextOrder_45 ?_
  refine lv_topi (fun zz ez => ?_)
  have ez : zz = 3 := ez.trans (by decide)
  subst ez
  refine lv_istore_n (lv' := [(2, .int 3), (1, .int 2), (0, .ref (a 37))]) hx hb dX5_nextOrder_46 rfl hl (by decide) rfl (fun ls hl => ?_)
  refine lv_iload_n hx hb dX5_nextOrder_47 rfl (lv_at hl 0 rfl) ?_
  refine lv_iload_n hx hb dX5_nextOrder_48 rfl (lv_at hl 1 rfl) ?_
  refine lv_icmp_le hx hb (tgt := 73) dX5_nextOrder_49 (by decide) (fun c_x => absurd c_x (by decide)) (fun c_x => ?_)
  refine lv_aload_n hx hb dX5_nextOrder_52 rfl (lv_at hl 2 rfl) ?_
  refine g_get S hw hinX5 (fs := fX37 a σ) 37 rfl rfl 2 (by decide) lk1 (v := .ref (a 40)) rfl dX5_nextOrder_53 ?_
  refine lv_iload_n hx hb dX5_nextOrder_56 rfl (lv_at hl 0 rfl) ?_
  refine g_iald S hw (f := σ 40) (i := 3) (x := 3) 40 0 rfl rfl (by omega) (by decide) ht3 dX5_nextOrder_57 ?_
  refine lv_aload_n hx hb dX5_nextOrder_58 rfl (lv_at hl 2 rfl) ?_
  refine g_get S hw hinX5 (fs := fX37 a σ) 37 rfl rfl 2 (by decide) lk1 (v := .ref (a 40)) rfl dX5_nextOrder_59 ?_
  refine lv_iload_n hx hb dX5_nextOrder_62 rfl (lv_at hl 1 rfl) ?_
  refine g_iald S hw (f := σ 40) (i := 2) (x := 2) 40 0 rfl rfl (by omega) (by decide) ht2 dX5_nextOrder_63 ?_
  refine lv_icmp_ge hx hb (tgt := 73) dX5_nextOrder_64 (by decide) (fun c_x => ?_) (fun c_x => absurd (by decide) c_x)
  refine lv_aload_n hx hb dX5_nextOrder_73 rfl (lv_at hl 2 rfl) ?_
  refine lv_iload_n hx hb dX5_nextOrder_74 rfl (lv_at hl 1 rfl) ?_
  refine lv_iload_n hx hb dX5_nextOrder_75 rfl (lv_at hl 0 rfl) ?_
  refine g_callVv S hw (c_XP_swapTried l D cI cC cI2 a κ σ 2 3 (by decide) (by decide)) gX5_nextOrder_X5_swapTried rfl 37 rfl rfl 2 rfl (by decide +kernel) (by decide) (by decide) hl.1 rfl (Nat.le_of_ble_eq_true rfl) dX5_nextOrder_76 (fun H locs hw => ?_)
  have ew : XP_swapTried_s κ σ 2 3 = up2 (up2 σ 40 2 3) 40 3 2 := by
    unfold XP_swapTried_s
    rw [show σ 40 3 = 3 from ht3, show σ 40 2 = 2 from ht2]
  rw [ew] at hw
  refine lv_iload_n hx hb dX5_nextOrder_79 rfl (lv_at hl 1 rfl) ?_
  refine lv_iconst (v := 1) hx hb dX5_nextOrder_80 (by decide) ?_
  refine lv_iadd hx hb dX5_nextOrder_81 ?_
  refine lv_topi (fun zz ez => ?_)
  have ez : zz = 3 := ez.trans (by decide)
  subst ez
  refine lv_istore_n (lv' := [(3, .int 3), (2, .int 3), (1, .int 2), (0, .ref (a 37))]) hx hb dX5_nextOrder_82 rfl hl (by decide) rfl (fun ls hl => ?_)
  refine lv_aload_n hx hb dX5_nextOrder_83 rfl (lv_at hl 3 rfl) ?_
  refine g_get S hw hinX5 (fs := fX37 a (up2 (up2 σ 40 2 3) 40 3 2)) 37 rfl rfl 4 (by decide) lk0 (v := .int 4) (congrArg (fun z => some (Value.int z)) (((up2_rn (by omega)).trans (up2_rn (by omega))).trans (hp0))) dX5_nextOrder_84 ?_
  refine lv_iconst (v := 1) hx hb dX5_nextOrder_87 (by decide) ?_
  refine lv_isub hx hb dX5_nextOrder_88 ?_
  refine lv_topi (fun zz ez => ?_)
  have ez : zz = 3 := ez.trans (by decide)
  subst ez
  refine lv_istore (lv' := [(4, .int 3), (3, .int 3), (2, .int 3), (1, .int 2), (0, .ref (a 37))]) hx hb dX5_nextOrder_89 hl (by decide) rfl (fun ls hl => ?_)
  refine lv_iload_n hx hb dX5_nextOrder_91 rfl (lv_at hl 1 rfl) ?_
  refine lv_iload hx hb dX5_nextOrder_92 (lv_at hl 0 rfl) ?_
  refine lv_icmp_ge hx hb (tgt := 113) dX5_nextOrder_94 (by decide) (fun c_x => ?_) (fun c_x => absurd (by decide) c_x)
  refine lv_iconst (v := 1) hx hb dX5_nextOrder_113 (by decide) ?_
  have hw := hw.arr 40 (f := (up2 (up2 σ 40 2 3) 40 3 2) 40) (g := permRow 4 7) rfl (row4 (((up2_rp (by decide)).trans (up2_rp (by decide))).trans (ht0)) (((up2_rp (by decide)).trans (up2_rp (by decide))).trans (ht1)) ((up2_rp (by decide)).trans (up2_rs)) (up2_rs)) (wX_r40 _ _ _ _ _ _ _)
  simp only [row_up2] at hw
  exact g_zret S hr hlk hw (by decide) (by simp only [XP_nextOrder_4_6_r]) (by simp only [XP_nextOrder_4_6_s]) dX5_nextOrder_114
def XP_nextOrder_4_7_r (κ : Nat → Nat) (σ : Nat → Nat → Int32) : Int32 := 1
def XP_nextOrder_4_7_s (κ : Nat → Nat) (σ : Nat → Nat → Int32) : Nat → Nat → Int32 := row σ 40 (permRow 4 8)
theorem XP_nextOrder_4_7_z (κ : Nat → Nat) (σ : Nat → Nat → Int32) : XP_nextOrder_4_7_r κ σ = 0 ∨ XP_nextOrder_4_7_r κ σ = 1 := by
  unfold XP_nextOrder_4_7_r
  exact Or.inr rfl

set_option maxHeartbeats 4000000 in
set_option maxRecDepth 100000 in
theorem c_XP_nextOrder_4_7 (l : Launch) (D : va_G) (cI cC cI2 : ClassId) (a : Nat → Nat) (κ : Nat → Nat) (σ : Nat → Nat → Int32) (hp0 : σ 37 4 = nI 4) (ht0 : σ 40 0 = nI 1) (ht1 : σ 40 1 = nI 0) (ht2 : σ 40 2 = nI 3) (ht3 : σ 40 3 = nI 2) : gI l D (tysX cI cC cI2) yX5_nextOrder wsX5_nextOrder 2 [.ref (a 37)] (wX cI cC cI2 a κ σ) (XP_nextOrder_4_7_r κ σ) (wX cI cC cI2 a κ (XP_nextOrder_4_7_s κ σ)) := by
  refine g_start (cc := cX5_nextOrder) (maxL := 5) (ret := some .boolean) (Qc := gQi D (tysX cI cC cI2) (XP_nextOrder_4_7_r κ σ) (wX cI cC cI2 a κ (XP_nextOrder_4_7_s κ σ))) (by decide) rfl (Nat.le_of_ble_eq_true rfl) ?_
  intro p e s m below meth C A ls S hr hlk hw hl
  obtain ⟨hx, hb, hml, hown, hts⟩ := id S
  have hinX5 : ∀ x ∈ u_ws RX5 TX5 6, x ∈ wsX5_nextOrder := fun x h => List.mem_cons_of_mem _ (List.mem_append_right _ h)
  have lk0 : Cond.fieldLink RX5 24 "CowsOwed$Plans" "size" "I" ∈ wsX5_nextOrder := by decide +kernel
  have lk1 : Cond.fieldLink RX5 18 "CowsOwed$Plans" "tried" "[I" ∈ wsX5_nextOrder := by decide +kernel
  have hl : lv_has ls 5 [(0, .ref (a 37))] := hl
  refine lv_aload_n hx hb dX5_nextOrder_0 rfl (lv_at hl 0 rfl) ?_
  refine g_get S hw hinX5 (fs := fX37 a σ) 37 rfl rfl 4 (by decide) lk0 (v := .int 4) (congrArg (fun z => some (Value.int z)) (hp0)) dX5_nextOrder_1 ?_
  refine lv_iconst (v := 2) hx hb dX5_nextOrder_4 (by decide) ?_
  refine lv_isub hx hb dX5_nextOrder_5 ?_
  refine lv_topi (fun zz ez => ?_)
  have ez : zz = 2 := ez.trans (by decide)
  subst ez
  refine lv_istore_n (lv' := [(1, .int 2), (0, .ref (a 37))]) hx hb dX5_nextOrder_6 rfl hl (by decide) rfl (fun ls hl => ?_)
  refine lv_iload_n hx hb dX5_nextOrder_7 rfl (lv_at hl 0 rfl) ?_
  refine lv_if_lt hx hb (tgt := 34) dX5_nextOrder_8 (by decide) (fun c_x => absurd c_x (by decide)) (fun c_x => ?_)
  refine lv_aload_n hx hb dX5_nextOrder_11 rfl (lv_at hl 1 rfl) ?_
  refine g_get S hw hinX5 (fs := fX37 a σ) 37 rfl rfl 2 (by decide) lk1 (v := .ref (a 40)) rfl dX5_nextOrder_12 ?_
  refine lv_iload_n hx hb dX5_nextOrder_15 rfl (lv_at hl 0 rfl) ?_
  refine g_iald S hw (f := σ 40) (i := 2) (x := 3) 40 0 rfl rfl (by omega) (by decide) ht2 dX5_nextOrder_16 ?_
  refine lv_aload_n hx hb dX5_nextOrder_17 rfl (lv_at hl 1 rfl) ?_
  refine g_get S hw hinX5 (fs := fX37 a σ) 37 rfl rfl 2 (by decide) lk1 (v := .ref (a 40)) rfl dX5_nextOrder_18 ?_
  refine lv_iload_n hx hb dX5_nextOrder_21 rfl (lv_at hl 0 rfl) ?_
  refine lv_iconst (v := 1) hx hb dX5_nextOrder_22 (by decide) ?_
  refine lv_iadd hx hb dX5_nextOrder_23 ?_
  refine lv_topi (fun zz ez => ?_)
  have ez : zz = 3 := ez.trans (by decide)
  subst ez
  refine g_iald S hw (f := σ 40) (i := 3) (x := 2) 40 0 rfl rfl (by omega) (by decide) ht3 dX5_nextOrder_24 ?_
  refine lv_icmp_le hx hb (tgt := 34) dX5_nextOrder_25 (by decide) (fun c_x => absurd c_x (by decide)) (fun c_x => ?_)
  refine lv_iinc (v := 1) (lv' := [(1, .int 1), (0, .ref (a 37))]) hx hb dX5_nextOrder_28 hl (k := 0) rfl (by decide) (by decide) rfl (fun ls hl => ?_)
  refine lv_goto (tgt := 7) hx hb dX5_nextOrder_31 (by decide) ?_
  refine lv_iload_n hx hb dX5_nextOrder_7 rfl (lv_at hl 0 rfl) ?_
  refine lv_if_lt hx hb (tgt := 34) dX5_nextOrder_8 (by decide) (fun c_x => absurd c_x (by decide)) (fun c_x => ?_)
  refine lv_aload_n hx hb dX5_nextOrder_11 rfl (lv_at hl 1 rfl) ?_
  refine g_get S hw hinX5 (fs := fX37 a σ) 37 rfl rfl 2 (by decide) lk1 (v := .ref (a 40)) rfl dX5_nextOrder_12 ?_
  refine lv_iload_n hx hb dX5_nextOrder_15 rfl (lv_at hl 0 rfl) ?_
  refine g_iald S hw (f := σ 40) (i := 1) (x := 0) 40 0 rfl rfl (by omega) (by decide) ht1 dX5_nextOrder_16 ?_
  refine lv_aload_n hx hb dX5_nextOrder_17 rfl (lv_at hl 1 rfl) ?_
  refine g_get S hw hinX5 (fs := fX37 a σ) 37 rfl rfl 2 (by decide) lk1 (v := .ref (a 40)) rfl dX5_nextOrder_18 ?_
  refine lv_iload_n hx hb dX5_nextOrder_21 rfl (lv_at hl 0 rfl) ?_
  refine lv_iconst (v := 1) hx hb dX5_nextOrder_22 (by decide) ?_
  refine lv_iadd hx hb dX5_nextOrder_23 ?_
  refine lv_topi (fun zz ez => ?_)
  have ez : zz = 2 := ez.trans (by decide)
  subst ez
  refine g_iald S hw (f := σ 40) (i := 2) (x := 3) 40 0 rfl rfl (by omega) (by decide) ht2 dX5_nextOrder_24 ?_
  refine lv_icmp_le hx hb (tgt := 34) dX5_nextOrder_25 (by decide) (fun c_x => ?_) (fun c_x => absurd (by decide) c_x)
  refine lv_iload_n hx hb dX5_nextOrder_34 rfl (lv_at hl 0 rfl) ?_
  refine lv_if_ge hx hb (tgt := 40) dX5_nextOrder_35 (by decide) (fun c_x => ?_) (fun c_x => absurd (by decide) c_x)
  refine lv_aload_n hx hb dX5_nextOrder_40 rfl (lv_at hl 1 rfl) ?_
  refine g_get S hw hinX5 (fs := fX37 a σ) 37 rfl rfl 4 (by decide) lk0 (v := .int 4) (congrArg (fun z => some (Value.int z)) (hp0)) dX5_nextOrder_41 ?_
  refine lv_iconst (v := 1) hx hb dX5_nextOrder_44 (by decide) ?_
  refine lv_isub hx hb dX5_nextOrder_45 ?_
  refine lv_topi (fun zz ez => ?_)
  have ez : zz = 3 := ez.trans (by decide)
  subst ez
  refine lv_istore_n (lv' := [(2, .int 3), (1, .int 1), (0, .ref (a 37))]) hx hb dX5_nextOrder_46 rfl hl (by decide) rfl (fun ls hl => ?_)
  refine lv_iload_n hx hb dX5_nextOrder_47 rfl (lv_at hl 0 rfl) ?_
  refine lv_iload_n hx hb dX5_nextOrder_48 rfl (lv_at hl 1 rfl) ?_
  refine lv_icmp_le hx hb (tgt := 73) dX5_nextOrder_49 (by decide) (fun c_x => absurd c_x (by decide)) (fun c_x => ?_)
  refine lv_aload_n hx hb dX5_nextOrder_52 rfl (lv_at hl 2 rfl) ?_
  refine g_get S hw hinX5 (fs := fX37 a σ) 37 rfl rfl 2 (by decide) lk1 (v := .ref (a 40)) rfl dX5_nextOrder_53 ?_
  refine lv_iload_n hx hb dX5_nextOrder_56 rfl (lv_at hl 0 rfl) ?_
  refine g_iald S hw (f := σ 40) (i := 3) (x := 2) 40 0 rfl rfl (by omega) (by decide) ht3 dX5_nextOrder_57 ?_
  refine lv_aload_n hx hb dX5_nextOrder_58 rfl (lv_at hl 2 rfl) ?_
  refine g_get S hw hinX5 (fs := fX37 a σ) 37 rfl rfl 2 (by decide) lk1 (v := .ref (a 40)) rfl dX5_nextOrder_59 ?_
  refine lv_iload_n hx hb dX5_nextOrder_62 rfl (lv_at hl 1 rfl) ?_
  refine g_iald S hw (f := σ 40) (i := 1) (x := 0) 40 0 rfl rfl (by omega) (by decide) ht1 dX5_nextOrder_63 ?_
  refine lv_icmp_ge hx hb (tgt := 73) dX5_nextOrder_64 (by decide) (fun c_x => ?_) (fun c_x => absurd (by decide) c_x)
  refine lv_aload_n hx hb dX5_nextOrder_73 rfl (lv_at hl 2 rfl) ?_
  refine lv_iload_n hx hb dX5_nextOrder_74 rfl (lv_at hl 1 rfl) ?_
  refine lv_iload_n hx hb dX5_nextOrder_75 rfl (lv_at hl 0 rfl) ?_
  refine g_callVv S hw (c_XP_swapTried l D cI cC cI2 a κ σ 1 3 (by decide) (by decide)) gX5_nextOrder_X5_swapTried rfl 37 rfl rfl 2 rfl (by decide +kernel) (by decide) (by decide) hl.1 rfl (Nat.le_of_ble_eq_true rfl) dX5_nextOrder_76 (fun H locs hw => ?_)
  have ew : XP_swapTried_s κ σ 1 3 = up2 (up2 σ 40 1 2) 40 3 0 := by
    unfold XP_swapTried_s
    rw [show σ 40 3 = 2 from ht3, show σ 40 1 = 0 from ht1]
  rw [ew] at hw
  refine lv_iload_n hx hb dX5_nextOrder_79 rfl (lv_at hl 1 rfl) ?_
  refine lv_iconst (v := 1) hx hb dX5_nextOrder_80 (by decide) ?_
  refine lv_iadd hx hb dX5_nextOrder_81 ?_
  refine lv_topi (fun zz ez => ?_)
  have ez : zz = 2 := ez.trans (by decide)
  subst ez
  refine lv_istore_n (lv' := [(3, .int 2), (2, .int 3), (1, .int 1), (0, .ref (a 37))]) hx hb dX5_nextOrder_82 rfl hl (by decide) rfl (fun ls hl => ?_)
  refine lv_aload_n hx hb dX5_nextOrder_83 rfl (lv_at hl 3 rfl) ?_
  refine g_get S hw hinX5 (fs := fX37 a (up2 (up2 σ 40 1 2) 40 3 0)) 37 rfl rfl 4 (by decide) lk0 (v := .int 4) (congrArg (fun z => some (Value.int z)) (((up2_rn (by omega)).trans (up2_rn (by omega))).trans (hp0))) dX5_nextOrder_84 ?_
  refine lv_iconst (v := 1) hx hb dX5_nextOrder_87 (by decide) ?_
  refine lv_isub hx hb dX5_nextOrder_88 ?_
  refine lv_topi (fun zz ez => ?_)
  have ez : zz = 3 := ez.trans (by decide)
  subst ez
  refine lv_istore (lv' := [(4, .int 3), (3, .int 2), (2, .int 3), (1, .int 1), (0, .ref (a 37))]) hx hb dX5_nextOrder_89 hl (by decide) rfl (fun ls hl => ?_)
  refine lv_iload_n hx hb dX5_nextOrder_91 rfl (lv_at hl 1 rfl) ?_
  refine lv_iload hx hb dX5_nextOrder_92 (lv_at hl 0 rfl) ?_
  refine lv_icmp_ge hx hb (tgt := 113) dX5_nextOrder_94 (by decide) (fun c_x => absurd c_x (by decide)) (fun c_x => ?_)
  refine lv_aload_n hx hb dX5_nextOrder_97 rfl (lv_at hl 4 rfl) ?_
  refine lv_iload_n hx hb dX5_nextOrder_98 rfl (lv_at hl 1 rfl) ?_
  refine lv_iload hx hb dX5_nextOrder_99 (lv_at hl 0 rfl) ?_
  refine g_callVv S hw (c_XP_swapTried l D cI cC cI2 a κ (up2 (up2 σ 40 1 2) 40 3 0) 2 3 (by decide) (by decide)) gX5_nextOrder_X5_swapTried rfl 37 rfl rfl 2 rfl (by decide +kernel) (by decide) (by decide) hl.1 rfl (Nat.le_of_ble_eq_true rfl) dX5_nextOrder_101 (fun H locs hw => ?_)
  have ew : XP_swapTried_s κ (up2 (up2 σ 40 1 2) 40 3 0) 2 3 = up2 (up2 (up2 (up2 σ 40 1 2) 40 3 0) 40 2 0) 40 3 3 := by
    unfold XP_swapTried_s
    rw [show (up2 (up2 σ 40 1 2) 40 3 0) 40 3 = 0 from up2_rs, show (up2 (up2 σ 40 1 2) 40 3 0) 40 2 = 3 from ((up2_rp (by decide)).trans (up2_rp (by decide))).trans (ht2)]
  rw [ew] at hw
  refine lv_iinc (v := 3) (lv' := [(3, .int 3), (4, .int 3), (2, .int 3), (1, .int 1), (0, .ref (a 37))]) hx hb dX5_nextOrder_104 hl (k := 1) rfl (by decide) (by decide) rfl (fun ls hl => ?_)
  refine lv_iinc (v := 2) (lv' := [(4, .int 2), (3, .int 3), (2, .int 3), (1, .int 1), (0, .ref (a 37))]) hx hb dX5_nextOrder_107 hl (k := 1) rfl (by decide) (by decide) rfl (fun ls hl => ?_)
  refine lv_goto (tgt := 91) hx hb dX5_nextOrder_110 (by decide) ?_
  refine lv_iload_n hx hb dX5_nextOrder_91 rfl (lv_at hl 1 rfl) ?_
  refine lv_iload hx hb dX5_nextOrder_92 (lv_at hl 0 rfl) ?_
  refine lv_icmp_ge hx hb (tgt := 113) dX5_nextOrder_94 (by decide) (fun c_x => ?_) (fun c_x => absurd (by decide) c_x)
  refine lv_iconst (v := 1) hx hb dX5_nextOrder_113 (by decide) ?_
  have hw := hw.arr 40 (f := (up2 (up2 (up2 (up2 σ 40 1 2) 40 3 0) 40 2 0) 40 3 3) 40) (g := permRow 4 8) rfl (row4 (((up2_rp (by decide)).trans ((up2_rp (by decide)).trans ((up2_rp (by decide)).trans (up2_rp (by decide))))).trans (ht0)) ((up2_rp (by decide)).trans ((up2_rp (by decide)).trans ((up2_rp (by decide)).trans (up2_rs)))) ((up2_rp (by decide)).trans (up2_rs)) (up2_rs)) (wX_r40 _ _ _ _ _ _ _)
  simp only [row_up2] at hw
  exact g_zret S hr hlk hw (by decide) (by simp only [XP_nextOrder_4_7_r]) (by simp only [XP_nextOrder_4_7_s]) dX5_nextOrder_114
def XP_nextOrder_4_8_r (κ : Nat → Nat) (σ : Nat → Nat → Int32) : Int32 := 1
def XP_nextOrder_4_8_s (κ : Nat → Nat) (σ : Nat → Nat → Int32) : Nat → Nat → Int32 := row σ 40 (permRow 4 9)
theorem XP_nextOrder_4_8_z (κ : Nat → Nat) (σ : Nat → Nat → Int32) : XP_nextOrder_4_8_r κ σ = 0 ∨ XP_nextOrder_4_8_r κ σ = 1 := by
  unfold XP_nextOrder_4_8_r
  exact Or.inr rfl

set_option maxHeartbeats 4000000 in
set_option maxRecDepth 100000 in
theorem c_XP_nextOrder_4_8 (l : Launch) (D : va_G) (cI cC cI2 : ClassId) (a : Nat → Nat) (κ : Nat → Nat) (σ : Nat → Nat → Int32) (hp0 : σ 37 4 = nI 4) (ht0 : σ 40 0 = nI 1) (ht1 : σ 40 1 = nI 2) (ht2 : σ 40 2 = nI 0) (ht3 : σ 40 3 = nI 3) : gI l D (tysX cI cC cI2) yX5_nextOrder wsX5_nextOrder 2 [.ref (a 37)] (wX cI cC cI2 a κ σ) (XP_nextOrder_4_8_r κ σ) (wX cI cC cI2 a κ (XP_nextOrder_4_8_s κ σ)) := by
  refine g_start (cc := cX5_nextOrder) (maxL := 5) (ret := some .boolean) (Qc := gQi D (tysX cI cC cI2) (XP_nextOrder_4_8_r κ σ) (wX cI cC cI2 a κ (XP_nextOrder_4_8_s κ σ))) (by decide) rfl (Nat.le_of_ble_eq_true rfl) ?_
  intro p e s m below meth C A ls S hr hlk hw hl
  obtain ⟨hx, hb, hml, hown, hts⟩ := id S
  have hinX5 : ∀ x ∈ u_ws RX5 TX5 6, x ∈ wsX5_nextOrder := fun x h => List.mem_cons_of_mem _ (List.mem_append_right _ h)
  have lk0 : Cond.fieldLink RX5 24 "CowsOwed$Plans" "size" "I" ∈ wsX5_nextOrder := by decide +kernel
  have lk1 : Cond.fieldLink RX5 18 "CowsOwed$Plans" "tried" "[I" ∈ wsX5_nextOrder := by decide +kernel
  have hl : lv_has ls 5 [(0, .ref (a 37))] := hl
  refine lv_aload_n hx hb dX5_nextOrder_0 rfl (lv_at hl 0 rfl) ?_
  refine g_get S hw hinX5 (fs := fX37 a σ) 37 rfl rfl 4 (by decide) lk0 (v := .int 4) (congrArg (fun z => some (Value.int z)) (hp0)) dX5_nextOrder_1 ?_
  refine lv_iconst (v := 2) hx hb dX5_nextOrder_4 (by decide) ?_
  refine lv_isub hx hb dX5_nextOrder_5 ?_
  refine lv_topi (fun zz ez => ?_)
  have ez : zz = 2 := ez.trans (by decide)
  subst ez
  refine lv_istore_n (lv' := [(1, .int 2), (0, .ref (a 37))]) hx hb dX5_nextOrder_6 rfl hl (by decide) rfl (fun ls hl => ?_)
  refine lv_iload_n hx hb dX5_nextOrder_7 rfl (lv_at hl 0 rfl) ?_
  refine lv_if_lt hx hb (tgt := 34) dX5_nextOrder_8 (by decide) (fun c_x => absurd c_x (by decide)) (fun c_x => ?_)
  refine lv_aload_n hx hb dX5_nextOrder_11 rfl (lv_at hl 1 rfl) ?_
  refine g_get S hw hinX5 (fs := fX37 a σ) 37 rfl rfl 2 (by decide) lk1 (v := .ref (a 40)) rfl dX5_nextOrder_12 ?_
  refine lv_iload_n hx hb dX5_nextOrder_15 rfl (lv_at hl 0 rfl) ?_
  refine g_iald S hw (f := σ 40) (i := 2) (x := 0) 40 0 rfl rfl (by omega) (by decide) ht2 dX5_nextOrder_16 ?_
  refine lv_aload_n hx hb dX5_nextOrder_17 rfl (lv_at hl 1 rfl) ?_
  refine g_get S hw hinX5 (fs := fX37 a σ) 37 rfl rfl 2 (by decide) lk1 (v := .ref (a 40)) rfl dX5_nextOrder_18 ?_
  refine lv_iload_n hx hb dX5_nextOrder_21 rfl (lv_at hl 0 rfl) ?_
  refine lv_iconst (v := 1) hx hb dX5_nextOrder_22 (by decide) ?_
  refine lv_iadd hx hb dX5_nextOrder_23 ?_
  refine lv_topi (fun zz ez => ?_)
  have ez : zz = 3 := ez.trans (by decide)
  subst ez
  refine g_iald S hw (f := σ 40) (i := 3) (x := 3) 40 0 rfl rfl (by omega) (by decide) ht3 dX5_nextOrder_24 ?_
  refine lv_icmp_le hx hb (tgt := 34) dX5_nextOrder_25 (by decide) (fun c_x => ?_) (fun c_x => absurd (by decide) c_x)
  refine lv_iload_n hx hb dX5_nextOrder_34 rfl (lv_at hl 0 rfl) ?_
  refine lv_if_ge hx hb (tgt := 40) dX5_nextOrder_35 (by decide) (fun c_x => ?_) (fun c_x => absurd (by decide) c_x)
  refine lv_aload_n hx hb dX5_nextOrder_40 rfl (lv_at hl 1 rfl) ?_
  refine g_get S hw hinX5 (fs := fX37 a σ) 37 rfl rfl 4 (by decide) lk0 (v := .int 4) (congrArg (fun z => some (Value.int z)) (hp0)) dX5_nextOrder_41 ?_
  refine lv_iconst (v := 1) hx hb dX5_nextOrder_44 (by decide) ?_
  refine lv_isub hx hb dX5_nextOrder_45 ?_
  refine lv_topi (fun zz ez => ?_)
  have ez : zz = 3 := ez.trans (by decide)
  subst ez
  refine lv_istore_n (lv' := [(2, .int 3), (1, .int 2), (0, .ref (a 37))]) hx hb dX5_nextOrder_46 rfl hl (by decide) rfl (fun ls hl => ?_)
  refine lv_iload_n hx hb dX5_nextOrder_47 rfl (lv_at hl 0 rfl) ?_
  refine lv_iload_n hx hb dX5_nextOrder_48 rfl (lv_at hl 1 rfl) ?_
  refine lv_icmp_le hx hb (tgt := 73) dX5_nextOrder_49 (by decide) (fun c_x => absurd c_x (by decide)) (fun c_x => ?_)
  refine lv_aload_n hx hb dX5_nextOrder_52 rfl (lv_at hl 2 rfl) ?_
  refine g_get S hw hinX5 (fs := fX37 a σ) 37 rfl rfl 2 (by decide) lk1 (v := .ref (a 40)) rfl dX5_nextOrder_53 ?_
  refine lv_iload_n hx hb dX5_nextOrder_56 rfl (lv_at hl 0 rfl) ?_
  refine g_iald S hw (f := σ 40) (i := 3) (x := 3) 40 0 rfl rfl (by omega) (by decide) ht3 dX5_nextOrder_57 ?_
  refine lv_aload_n hx hb dX5_nextOrder_58 rfl (lv_at hl 2 rfl) ?_
  refine g_get S hw hinX5 (fs := fX37 a σ) 37 rfl rfl 2 (by decide) lk1 (v := .ref (a 40)) rfl dX5_nextOrder_59 ?_
  refine lv_iload_n hx hb dX5_nextOrder_62 rfl (lv_at hl 1 rfl) ?_
  refine g_iald S hw (f := σ 40) (i := 2) (x := 0) 40 0 rfl rfl (by omega) (by decide) ht2 dX5_nextOrder_63 ?_
  refine lv_icmp_ge hx hb (tgt := 73) dX5_nextOrder_64 (by decide) (fun c_x => ?_) (fun c_x => absurd (by decide) c_x)
  refine lv_aload_n hx hb dX5_nextOrder_73 rfl (lv_at hl 2 rfl) ?_
  refine lv_iload_n hx hb dX5_nextOrder_74 rfl (lv_at hl 1 rfl) ?_
  refine lv_iload_n hx hb dX5_nextOrder_75 rfl (lv_at hl 0 rfl) ?_
  refine g_callVv S hw (c_XP_swapTried l D cI cC cI2 a κ σ 2 3 (by decide) (by decide)) gX5_nextOrder_X5_swapTried rfl 37 rfl rfl 2 rfl (by decide +kernel) (by decide) (by decide) hl.1 rfl (Nat.le_of_ble_eq_true rfl) dX5_nextOrder_76 (fun H locs hw => ?_)
  have ew : XP_swapTried_s κ σ 2 3 = up2 (up2 σ 40 2 3) 40 3 0 := by
    unfold XP_swapTried_s
    rw [show σ 40 3 = 3 from ht3, show σ 40 2 = 0 from ht2]
  rw [ew] at hw
  refine lv_iload_n hx hb dX5_nextOrder_79 rfl (lv_at hl 1 rfl) ?_
  refine lv_iconst (v := 1) hx hb dX5_nextOrder_80 (by decide) ?_
  refine lv_iadd hx hb dX5_nextOrder_81 ?_
  refine lv_topi (fun zz ez => ?_)
  have ez : zz = 3 := ez.trans (by decide)
  subst ez
  refine lv_istore_n (lv' := [(3, .int 3), (2, .int 3), (1, .int 2), (0, .ref (a 37))]) hx hb dX5_nextOrder_82 rfl hl (by decide) rfl (fun ls hl => ?_)
  refine lv_aload_n hx hb dX5_nextOrder_83 rfl (lv_at hl 3 rfl) ?_
  refine g_get S hw hinX5 (fs := fX37 a (up2 (up2 σ 40 2 3) 40 3 0)) 37 rfl rfl 4 (by decide) lk0 (v := .int 4) (congrArg (fun z => some (Value.int z)) (((up2_rn (by omega)).trans (up2_rn (by omega))).trans (hp0))) dX5_nextOrder_84 ?_
  refine lv_iconst (v := 1) hx hb dX5_nextOrder_87 (by decide) ?_
  refine lv_isub hx hb dX5_nextOrder_88 ?_
  refine lv_topi (fun zz ez => ?_)
  have ez : zz = 3 := ez.trans (by decide)
  subst ez
  refine lv_istore (lv' := [(4, .int 3), (3, .int 3), (2, .int 3), (1, .int 2), (0, .ref (a 37))]) hx hb dX5_nextOrder_89 hl (by decide) rfl (fun ls hl => ?_)
  refine lv_iload_n hx hb dX5_nextOrder_91 rfl (lv_at hl 1 rfl) ?_
  refine lv_iload hx hb dX5_nextOrder_92 (lv_at hl 0 rfl) ?_
  refine lv_icmp_ge hx hb (tgt := 113) dX5_nextOrder_94 (by decide) (fun c_x => ?_) (fun c_x => absurd (by decide) c_x)
  refine lv_iconst (v := 1) hx hb dX5_nextOrder_113 (by decide) ?_
  have hw := hw.arr 40 (f := (up2 (up2 σ 40 2 3) 40 3 0) 40) (g := permRow 4 9) rfl (row4 (((up2_rp (by decide)).trans (up2_rp (by decide))).trans (ht0)) (((up2_rp (by decide)).trans (up2_rp (by decide))).trans (ht1)) ((up2_rp (by decide)).trans (up2_rs)) (up2_rs)) (wX_r40 _ _ _ _ _ _ _)
  simp only [row_up2] at hw
  exact g_zret S hr hlk hw (by decide) (by simp only [XP_nextOrder_4_8_r]) (by simp only [XP_nextOrder_4_8_s]) dX5_nextOrder_114
def XP_nextOrder_4_9_r (κ : Nat → Nat) (σ : Nat → Nat → Int32) : Int32 := 1
def XP_nextOrder_4_9_s (κ : Nat → Nat) (σ : Nat → Nat → Int32) : Nat → Nat → Int32 := row σ 40 (permRow 4 10)
theorem XP_nextOrder_4_9_z (κ : Nat → Nat) (σ : Nat → Nat → Int32) : XP_nextOrder_4_9_r κ σ = 0 ∨ XP_nextOrder_4_9_r κ σ = 1 := by
  unfold XP_nextOrder_4_9_r
  exact Or.inr rfl

set_option maxHeartbeats 4000000 in
set_option maxRecDepth 100000 in
theorem c_XP_nextOrder_4_9 (l : Launch) (D : va_G) (cI cC cI2 : ClassId) (a : Nat → Nat) (κ : Nat → Nat) (σ : Nat → Nat → Int32) (hp0 : σ 37 4 = nI 4) (ht0 : σ 40 0 = nI 1) (ht1 : σ 40 1 = nI 2) (ht2 : σ 40 2 = nI 3) (ht3 : σ 40 3 = nI 0) : gI l D (tysX cI cC cI2) yX5_nextOrder wsX5_nextOrder 2 [.ref (a 37)] (wX cI cC cI2 a κ σ) (XP_nextOrder_4_9_r κ σ) (wX cI cC cI2 a κ (XP_nextOrder_4_9_s κ σ)) := by
  refine g_start (cc := cX5_nextOrder) (maxL := 5) (ret := some .boolean) (Qc := gQi D (tysX cI cC cI2) (XP_nextOrder_4_9_r κ σ) (wX cI cC cI2 a κ (XP_nextOrder_4_9_s κ σ))) (by decide) rfl (Nat.le_of_ble_eq_true rfl) ?_
  intro p e s m below meth C A ls S hr hlk hw hl
  obtain ⟨hx, hb, hml, hown, hts⟩ := id S
  have hinX5 : ∀ x ∈ u_ws RX5 TX5 6, x ∈ wsX5_nextOrder := fun x h => List.mem_cons_of_mem _ (List.mem_append_right _ h)
  have lk0 : Cond.fieldLink RX5 24 "CowsOwed$Plans" "size" "I" ∈ wsX5_nextOrder := by decide +kernel
  have lk1 : Cond.fieldLink RX5 18 "CowsOwed$Plans" "tried" "[I" ∈ wsX5_nextOrder := by decide +kernel
  have hl : lv_has ls 5 [(0, .ref (a 37))] := hl
  refine lv_aload_n hx hb dX5_nextOrder_0 rfl (lv_at hl 0 rfl) ?_
  refine g_get S hw hinX5 (fs := fX37 a σ) 37 rfl rfl 4 (by decide) lk0 (v := .int 4) (congrArg (fun z => some (Value.int z)) (hp0)) dX5_nextOrder_1 ?_
  refine lv_iconst (v := 2) hx hb dX5_nextOrder_4 (by decide) ?_
  refine lv_isub hx hb dX5_nextOrder_5 ?_
  refine lv_topi (fun zz ez => ?_)
  have ez : zz = 2 := ez.trans (by decide)
  subst ez
  refine lv_istore_n (lv' := [(1, .int 2), (0, .ref (a 37))]) hx hb dX5_nextOrder_6 rfl hl (by decide) rfl (fun ls hl => ?_)
  refine lv_iload_n hx hb dX5_nextOrder_7 rfl (lv_at hl 0 rfl) ?_
  refine lv_if_lt hx hb (tgt := 34) dX5_nextOrder_8 (by decide) (fun c_x => absurd c_x (by decide)) (fun c_x => ?_)
  refine lv_aload_n hx hb dX5_nextOrder_11 rfl (lv_at hl 1 rfl) ?_
  refine g_get S hw hinX5 (fs := fX37 a σ) 37 rfl rfl 2 (by decide) lk1 (v := .ref (a 40)) rfl dX5_nextOrder_12 ?_
  refine lv_iload_n hx hb dX5_nextOrder_15 rfl (lv_at hl 0 rfl) ?_
  refine g_iald S hw (f := σ 40) (i := 2) (x := 3) 40 0 rfl rfl (by omega) (by decide) ht2 dX5_nextOrder_16 ?_
  refine lv_aload_n hx hb dX5_nextOrder_17 rfl (lv_at hl 1 rfl) ?_
  refine g_get S hw hinX5 (fs := fX37 a σ) 37 rfl rfl 2 (by decide) lk1 (v := .ref (a 40)) rfl dX5_nextOrder_18 ?_
  refine lv_iload_n hx hb dX5_nextOrder_21 rfl (lv_at hl 0 rfl) ?_
  refine lv_iconst (v := 1) hx hb dX5_nextOrder_22 (by decide) ?_
  refine lv_iadd hx hb dX5_nextOrder_23 ?_
  refine lv_topi (fun zz ez => ?_)
  have ez : zz = 3 := ez.trans (by decide)
  subst ez
  refine g_iald S hw (f := σ 40) (i := 3) (x := 0) 40 0 rfl rfl (by omega) (by decide) ht3 dX5_nextOrder_24 ?_
  refine lv_icmp_le hx hb (tgt := 34) dX5_nextOrder_25 (by decide) (fun c_x => absurd c_x (by decide)) (fun c_x => ?_)
  refine lv_iinc (v := 1) (lv' := [(1, .int 1), (0, .ref (a 37))]) hx hb dX5_nextOrder_28 hl (k := 0) rfl (by decide) (by decide) rfl (fun ls hl => ?_)
  refine lv_goto (tgt := 7) hx hb dX5_nextOrder_31 (by decide) ?_
  refine lv_iload_n hx hb dX5_nextOrder_7 rfl (lv_at hl 0 rfl) ?_
  refine lv_if_lt hx hb (tgt := 34) dX5_nextOrder_8 (by decide) (fun c_x => absurd c_x (by decide)) (fun c_x => ?_)
  refine lv_aload_n hx hb dX5_nextOrder_11 rfl (lv_at hl 1 rfl) ?_
  refine g_get S hw hinX5 (fs := fX37 a σ) 37 rfl rfl 2 (by decide) lk1 (v := .ref (a 40)) rfl dX5_nextOrder_12 ?_
  refine lv_iload_n hx hb dX5_nextOrder_15 rfl (lv_at hl 0 rfl) ?_
  refine g_iald S hw (f := σ 40) (i := 1) (x := 2) 40 0 rfl rfl (by omega) (by decide) ht1 dX5_nextOrder_16 ?_
  refine lv_aload_n hx hb dX5_nextOrder_17 rfl (lv_at hl 1 rfl) ?_
  refine g_get S hw hinX5 (fs := fX37 a σ) 37 rfl rfl 2 (by decide) lk1 (v := .ref (a 40)) rfl dX5_nextOrder_18 ?_
  refine lv_iload_n hx hb dX5_nextOrder_21 rfl (lv_at hl 0 rfl) ?_
  refine lv_iconst (v := 1) hx hb dX5_nextOrder_22 (by decide) ?_
  refine lv_iadd hx hb dX5_nextOrder_23 ?_
  refine lv_topi (fun zz ez => ?_)
  have ez : zz = 2 := ez.trans (by decide)
  subst ez
  refine g_iald S hw (f := σ 40) (i := 2) (x := 3) 40 0 rfl rfl (by omega) (by decide) ht2 dX5_nextOrder_24 ?_
  refine lv_icmp_le hx hb (tgt := 34) dX5_nextOrder_25 (by decide) (fun c_x => ?_) (fun c_x => absurd (by decide) c_x)
  refine lv_iload_n hx hb dX5_nextOrder_34 rfl (lv_at hl 0 rfl) ?_
  refine lv_if_ge hx hb (tgt := 40) dX5_nextOrder_35 (by decide) (fun c_x => ?_) (fun c_x => absurd (by decide) c_x)
  refine lv_aload_n hx hb dX5_nextOrder_40 rfl (lv_at hl 1 rfl) ?_
  refine g_get S hw hinX5 (fs := fX37 a σ) 37 rfl rfl 4 (by decide) lk0 (v := .int 4) (congrArg (fun z => some (Value.int z)) (hp0)) dX5_nextOrder_41 ?_
  refine lv_iconst (v := 1) hx hb dX5_nextOrder_44 (by decide) ?_
  refine lv_isub hx hb dX5_nextOrder_45 ?_
  refine lv_topi (fun zz ez => ?_)
  have ez : zz = 3 := ez.trans (by decide)
  subst ez
  refine lv_istore_n (lv' := [(2, .int 3), (1, .int 1), (0, .ref (a 37))]) hx hb dX5_nextOrder_46 rfl hl (by decide) rfl (fun ls hl => ?_)
  refine lv_iload_n hx hb dX5_nextOrder_47 rfl (lv_at hl 0 rfl) ?_
  refine lv_iload_n hx hb dX5_nextOrder_48 rfl (lv_at hl 1 rfl) ?_
  refine lv_icmp_le hx hb (tgt := 73) dX5_nextOrder_49 (by decide) (fun c_x => absurd c_x (by decide)) (fun c_x => ?_)
  refine lv_aload_n hx hb dX5_nextOrder_52 rfl (lv_at hl 2 rfl) ?_
  refine g_get S hw hinX5 (fs := fX37 a σ) 37 rfl rfl 2 (by decide) lk1 (v := .ref (a 40)) rfl dX5_nextOrder_53 ?_
  refine lv_iload_n hx hb dX5_nextOrder_56 rfl (lv_at hl 0 rfl) ?_
  refine g_iald S hw (f := σ 40) (i := 3) (x := 0) 40 0 rfl rfl (by omega) (by decide) ht3 dX5_nextOrder_57 ?_
  refine lv_aload_n hx hb dX5_nextOrder_58 rfl (lv_at hl 2 rfl) ?_
  refine g_get S hw hinX5 (fs := fX37 a σ) 37 rfl rfl 2 (by decide) lk1 (v := .ref (a 40)) rfl dX5_nextOrder_59 ?_
  refine lv_iload_n hx hb dX5_nextOrder_62 rfl (lv_at hl 1 rfl) ?_
  refine g_iald S hw (f := σ 40) (i := 1) (x := 2) 40 0 rfl rfl (by omega) (by decide) ht1 dX5_nextOrder_63 ?_
  refine lv_icmp_ge hx hb (tgt := 73) dX5_nextOrder_64 (by decide) (fun c_x => absurd c_x (by decide)) (fun c_x => ?_)
  refine lv_iinc (v := 2) (lv' := [(2, .int 2), (1, .int 1), (0, .ref (a 37))]) hx hb dX5_nextOrder_67 hl (k := 0) rfl (by decide) (by decide) rfl (fun ls hl => ?_)
  refine lv_goto (tgt := 47) hx hb dX5_nextOrder_70 (by decide) ?_
  refine lv_iload_n hx hb dX5_nextOrder_47 rfl (lv_at hl 0 rfl) ?_
  refine lv_iload_n hx hb dX5_nextOrder_48 rfl (lv_at hl 1 rfl) ?_
  refine lv_icmp_le hx hb (tgt := 73) dX5_nextOrder_49 (by decide) (fun c_x => absurd c_x (by decide)) (fun c_x => ?_)
  refine lv_aload_n hx hb dX5_nextOrder_52 rfl (lv_at hl 2 rfl) ?_
  refine g_get S hw hinX5 (fs := fX37 a σ) 37 rfl rfl 2 (by decide) lk1 (v := .ref (a 40)) rfl dX5_nextOrder_53 ?_
  refine lv_iload_n hx hb dX5_nextOrder_56 rfl (lv_at hl 0 rfl) ?_
  refine g_iald S hw (f := σ 40) (i := 2) (x := 3) 40 0 rfl rfl (by omega) (by decide) ht2 dX5_nextOrder_57 ?_
  refine lv_aload_n hx hb dX5_nextOrder_58 rfl (lv_at hl 2 rfl) ?_
  refine g_get S hw hinX5 (fs := fX37 a σ) 37 rfl rfl 2 (by decide) lk1 (v := .ref (a 40)) rfl dX5_nextOrder_59 ?_
  refine lv_iload_n hx hb dX5_nextOrder_62 rfl (lv_at hl 1 rfl) ?_
  refine g_iald S hw (f := σ 40) (i := 1) (x := 2) 40 0 rfl rfl (by omega) (by decide) ht1 dX5_nextOrder_63 ?_
  refine lv_icmp_ge hx hb (tgt := 73) dX5_nextOrder_64 (by decide) (fun c_x => ?_) (fun c_x => absurd (by decide) c_x)
  refine lv_aload_n hx hb dX5_nextOrder_73 rfl (lv_at hl 2 rfl) ?_
  refine lv_iload_n hx hb dX5_nextOrder_74 rfl (lv_at hl 1 rfl) ?_
  refine lv_iload_n hx hb dX5_nextOrder_75 rfl (lv_at hl 0 rfl) ?_
  refine g_callVv S hw (c_XP_swapTried l D cI cC cI2 a κ σ 1 2 (by decide) (by decide)) gX5_nextOrder_X5_swapTried rfl 37 rfl rfl 2 rfl (by decide +kernel) (by decide) (by decide) hl.1 rfl (Nat.le_of_ble_eq_true rfl) dX5_nextOrder_76 (fun H locs hw => ?_)
  have ew : XP_swapTried_s κ σ 1 2 = up2 (up2 σ 40 1 3) 40 2 2 := by
    unfold XP_swapTried_s
    rw [show σ 40 2 = 3 from ht2, show σ 40 1 = 2 from ht1]
  rw [ew] at hw
  refine lv_iload_n hx hb dX5_nextOrder_79 rfl (lv_at hl 1 rfl) ?_
  refine lv_iconst (v := 1) hx hb dX5_nextOrder_80 (by decide) ?_
  refine lv_iadd hx hb dX5_nextOrder_81 ?_
  refine lv_topi (fun zz ez => ?_)
  have ez : zz = 2 := ez.trans (by decide)
  subst ez
  refine lv_istore_n (lv' := [(3, .int 2), (2, .int 2), (1, .int 1), (0, .ref (a 37))]) hx hb dX5_nextOrder_82 rfl hl (by decide) rfl (fun ls hl => ?_)
  refine lv_aload_n hx hb dX5_nextOrder_83 rfl (lv_at hl 3 rfl) ?_
  refine g_get S hw hinX5 (fs := fX37 a (up2 (up2 σ 40 1 3) 40 2 2)) 37 rfl rfl 4 (by decide) lk0 (v := .int 4) (congrArg (fun z => some (Value.int z)) (((up2_rn (by omega)).trans (up2_rn (by omega))).trans (hp0))) dX5_nextOrder_84 ?_
  refine lv_iconst (v := 1) hx hb dX5_nextOrder_87 (by decide) ?_
  refine lv_isub hx hb dX5_nextOrder_88 ?_
  refine lv_topi (fun zz ez => ?_)
  have ez : zz = 3 := ez.trans (by decide)
  subst ez
  refine lv_istore (lv' := [(4, .int 3), (3, .int 2), (2, .int 2), (1, .int 1), (0, .ref (a 37))]) hx hb dX5_nextOrder_89 hl (by decide) rfl (fun ls hl => ?_)
  refine lv_iload_n hx hb dX5_nextOrder_91 rfl (lv_at hl 1 rfl) ?_
  refine lv_iload hx hb dX5_nextOrder_92 (lv_at hl 0 rfl) ?_
  refine lv_icmp_ge hx hb (tgt := 113) dX5_nextOrder_94 (by decide) (fun c_x => absurd c_x (by decide)) (fun c_x => ?_)
  refine lv_aload_n hx hb dX5_nextOrder_97 rfl (lv_at hl 4 rfl) ?_
  refine lv_iload_n hx hb dX5_nextOrder_98 rfl (lv_at hl 1 rfl) ?_
  refine lv_iload hx hb dX5_nextOrder_99 (lv_at hl 0 rfl) ?_
  refine g_callVv S hw (c_XP_swapTried l D cI cC cI2 a κ (up2 (up2 σ 40 1 3) 40 2 2) 2 3 (by decide) (by decide)) gX5_nextOrder_X5_swapTried rfl 37 rfl rfl 2 rfl (by decide +kernel) (by decide) (by decide) hl.1 rfl (Nat.le_of_ble_eq_true rfl) dX5_nextOrder_101 (fun H locs hw => ?_)
  have ew : XP_swapTried_s κ (up2 (up2 σ 40 1 3) 40 2 2) 2 3 = up2 (up2 (up2 (up2 σ 40 1 3) 40 2 2) 40 2 0) 40 3 2 := by
    unfold XP_swapTried_s
    rw [show (up2 (up2 σ 40 1 3) 40 2 2) 40 3 = 0 from ((up2_rp (by decide)).trans (up2_rp (by decide))).trans (ht3), show (up2 (up2 σ 40 1 3) 40 2 2) 40 2 = 2 from up2_rs]
  rw [ew] at hw
  refine lv_iinc (v := 3) (lv' := [(3, .int 3), (4, .int 3), (2, .int 2), (1, .int 1), (0, .ref (a 37))]) hx hb dX5_nextOrder_104 hl (k := 1) rfl (by decide) (by decide) rfl (fun ls hl => ?_)
  refine lv_iinc (v := 2) (lv' := [(4, .int 2), (3, .int 3), (2, .int 2), (1, .int 1), (0, .ref (a 37))]) hx hb dX5_nextOrder_107 hl (k := 1) rfl (by decide) (by decide) rfl (fun ls hl => ?_)
  refine lv_goto (tgt := 91) hx hb dX5_nextOrder_110 (by decide) ?_
  refine lv_iload_n hx hb dX5_nextOrder_91 rfl (lv_at hl 1 rfl) ?_
  refine lv_iload hx hb dX5_nextOrder_92 (lv_at hl 0 rfl) ?_
  refine lv_icmp_ge hx hb (tgt := 113) dX5_nextOrder_94 (by decide) (fun c_x => ?_) (fun c_x => absurd (by decide) c_x)
  refine lv_iconst (v := 1) hx hb dX5_nextOrder_113 (by decide) ?_
  have hw := hw.arr 40 (f := (up2 (up2 (up2 (up2 σ 40 1 3) 40 2 2) 40 2 0) 40 3 2) 40) (g := permRow 4 10) rfl (row4 (((up2_rp (by decide)).trans ((up2_rp (by decide)).trans ((up2_rp (by decide)).trans (up2_rp (by decide))))).trans (ht0)) ((up2_rp (by decide)).trans ((up2_rp (by decide)).trans ((up2_rp (by decide)).trans (up2_rs)))) ((up2_rp (by decide)).trans (up2_rs)) (up2_rs)) (wX_r40 _ _ _ _ _ _ _)
  simp only [row_up2] at hw
  exact g_zret S hr hlk hw (by decide) (by simp only [XP_nextOrder_4_9_r]) (by simp only [XP_nextOrder_4_9_s]) dX5_nextOrder_114
def XP_nextOrder_4_10_r (κ : Nat → Nat) (σ : Nat → Nat → Int32) : Int32 := 1
def XP_nextOrder_4_10_s (κ : Nat → Nat) (σ : Nat → Nat → Int32) : Nat → Nat → Int32 := row σ 40 (permRow 4 11)
theorem XP_nextOrder_4_10_z (κ : Nat → Nat) (σ : Nat → Nat → Int32) : XP_nextOrder_4_10_r κ σ = 0 ∨ XP_nextOrder_4_10_r κ σ = 1 := by
  unfold XP_nextOrder_4_10_r
  exact Or.inr rfl

set_option maxHeartbeats 4000000 in
set_option maxRecDepth 100000 in
theorem c_XP_nextOrder_4_10 (l : Launch) (D : va_G) (cI cC cI2 : ClassId) (a : Nat → Nat) (κ : Nat → Nat) (σ : Nat → Nat → Int32) (hp0 : σ 37 4 = nI 4) (ht0 : σ 40 0 = nI 1) (ht1 : σ 40 1 = nI 3) (ht2 : σ 40 2 = nI 0) (ht3 : σ 40 3 = nI 2) : gI l D (tysX cI cC cI2) yX5_nextOrder wsX5_nextOrder 2 [.ref (a 37)] (wX cI cC cI2 a κ σ) (XP_nextOrder_4_10_r κ σ) (wX cI cC cI2 a κ (XP_nextOrder_4_10_s κ σ)) := by
  refine g_start (cc := cX5_nextOrder) (maxL := 5) (ret := some .boolean) (Qc := gQi D (tysX cI cC cI2) (XP_nextOrder_4_10_r κ σ) (wX cI cC cI2 a κ (XP_nextOrder_4_10_s κ σ))) (by decide) rfl (Nat.le_of_ble_eq_true rfl) ?_
  intro p e s m below meth C A ls S hr hlk hw hl
  obtain ⟨hx, hb, hml, hown, hts⟩ := id S
  have hinX5 : ∀ x ∈ u_ws RX5 TX5 6, x ∈ wsX5_nextOrder := fun x h => List.mem_cons_of_mem _ (List.mem_append_right _ h)
  have lk0 : Cond.fieldLink RX5 24 "CowsOwed$Plans" "size" "I" ∈ wsX5_nextOrder := by decide +kernel
  have lk1 : Cond.fieldLink RX5 18 "CowsOwed$Plans" "tried" "[I" ∈ wsX5_nextOrder := by decide +kernel
  have hl : lv_has ls 5 [(0, .ref (a 37))] := hl
  refine lv_aload_n hx hb dX5_nextOrder_0 rfl (lv_at hl 0 rfl) ?_
  refine g_get S hw hinX5 (fs := fX37 a σ) 37 rfl rfl 4 (by decide) lk0 (v := .int 4) (congrArg (fun z => some (Value.int z)) (hp0)) dX5_nextOrder_1 ?_
  refine lv_iconst (v := 2) hx hb dX5_nextOrder_4 (by decide) ?_
  refine lv_isub hx hb dX5_nextOrder_5 ?_
  refine lv_topi (fun zz ez => ?_)
  have ez : zz = 2 := ez.trans (by decide)
  subst ez
  refine lv_istore_n (lv' := [(1, .int 2), (0, .ref (a 37))]) hx hb dX5_nextOrder_6 rfl hl (by decide) rfl (fun ls hl => ?_)
  refine lv_iload_n hx hb dX5_nextOrder_7 rfl (lv_at hl 0 rfl) ?_
  refine lv_if_lt hx hb (tgt := 34) dX5_nextOrder_8 (by decide) (fun c_x => absurd c_x (by decide)) (fun c_x => ?_)
  refine lv_aload_n hx hb dX5_nextOrder_11 rfl (lv_at hl 1 rfl) ?_
  refine g_get S hw hinX5 (fs := fX37 a σ) 37 rfl rfl 2 (by decide) lk1 (v := .ref (a 40)) rfl dX5_nextOrder_12 ?_
  refine lv_iload_n hx hb dX5_nextOrder_15 rfl (lv_at hl 0 rfl) ?_
  refine g_iald S hw (f := σ 40) (i := 2) (x := 0) 40 0 rfl rfl (by omega) (by decide) ht2 dX5_nextOrder_16 ?_
  refine lv_aload_n hx hb dX5_nextOrder_17 rfl (lv_at hl 1 rfl) ?_
  refine g_get S hw hinX5 (fs := fX37 a σ) 37 rfl rfl 2 (by decide) lk1 (v := .ref (a 40)) rfl dX5_nextOrder_18 ?_
  refine lv_iload_n hx hb dX5_nextOrder_21 rfl (lv_at hl 0 rfl) ?_
  refine lv_iconst (v := 1) hx hb dX5_nextOrder_22 (by decide) ?_
  refine lv_iadd hx hb dX5_nextOrder_23 ?_
  refine lv_topi (fun zz ez => ?_)
  have ez : zz = 3 := ez.trans (by decide)
  subst ez
  refine g_iald S hw (f := σ 40) (i := 3) (x := 2) 40 0 rfl rfl (by omega) (by decide) ht3 dX5_nextOrder_24 ?_
  refine lv_icmp_le hx hb (tgt := 34) dX5_nextOrder_25 (by decide) (fun c_x => ?_) (fun c_x => absurd (by decide) c_x)
  refine lv_iload_n hx hb dX5_nextOrder_34 rfl (lv_at hl 0 rfl) ?_
  refine lv_if_ge hx hb (tgt := 40) dX5_nextOrder_35 (by decide) (fun c_x => ?_) (fun c_x => absurd (by decide) c_x)
  refine lv_aload_n hx hb dX5_nextOrder_40 rfl (lv_at hl 1 rfl) ?_
  refine g_get S hw hinX5 (fs := fX37 a σ) 37 rfl rfl 4 (by decide) lk0 (v := .int 4) (congrArg (fun z => some (Value.int z)) (hp0)) dX5_nextOrder_41 ?_
  refine lv_iconst (v := 1) hx hb dX5_nextOrder_44 (by decide) ?_
  refine lv_isub hx hb dX5_nextOrder_45 ?_
  refine lv_topi (fun zz ez => ?_)
  have ez : zz = 3 := ez.trans (by decide)
  subst ez
  refine lv_istore_n (lv' := [(2, .int 3), (1, .int 2), (0, .ref (a 37))]) hx hb dX5_nextOrder_46 rfl hl (by decide) rfl (fun ls hl => ?_)
  refine lv_iload_n hx hb dX5_nextOrder_47 rfl (lv_at hl 0 rfl) ?_
  refine lv_iload_n hx hb dX5_nextOrder_48 rfl (lv_at hl 1 rfl) ?_
  refine lv_icmp_le hx hb (tgt := 73) dX5_nextOrder_49 (by decide) (fun c_x => absurd c_x (by decide)) (fun c_x => ?_)
  refine lv_aload_n hx hb dX5_nextOrder_52 rfl (lv_at hl 2 rfl) ?_
  refine g_get S hw hinX5 (fs := fX37 a σ) 37 rfl rfl 2 (by decide) lk1 (v := .ref (a 40)) rfl dX5_nextOrder_53 ?_
  refine lv_iload_n hx hb dX5_nextOrder_56 rfl (lv_at hl 0 rfl) ?_
  refine g_iald S hw (f := σ 40) (i := 3) (x := 2) 40 0 rfl rfl (by omega) (by decide) ht3 dX5_nextOrder_57 ?_
  refine lv_aload_n hx hb dX5_nextOrder_58 rfl (lv_at hl 2 rfl) ?_
  refine g_get S hw hinX5 (fs := fX37 a σ) 37 rfl rfl 2 (by decide) lk1 (v := .ref (a 40)) rfl dX5_nextOrder_59 ?_
  refine lv_iload_n hx hb dX5_nextOrder_62 rfl (lv_at hl 1 rfl) ?_
  refine g_iald S hw (f := σ 40) (i := 2) (x := 0) 40 0 rfl rfl (by omega) (by decide) ht2 dX5_nextOrder_63 ?_
  refine lv_icmp_ge hx hb (tgt := 73) dX5_nextOrder_64 (by decide) (fun c_x => ?_) (fun c_x => absurd (by decide) c_x)
  refine lv_aload_n hx hb dX5_nextOrder_73 rfl (lv_at hl 2 rfl) ?_
  refine lv_iload_n hx hb dX5_nextOrder_74 rfl (lv_at hl 1 rfl) ?_
  refine lv_iload_n hx hb dX5_nextOrder_75 rfl (lv_at hl 0 rfl) ?_
  refine g_callVv S hw (c_XP_swapTried l D cI cC cI2 a κ σ 2 3 (by decide) (by decide)) gX5_nextOrder_X5_swapTried rfl 37 rfl rfl 2 rfl (by decide +kernel) (by decide) (by decide) hl.1 rfl (Nat.le_of_ble_eq_true rfl) dX5_nextOrder_76 (fun H locs hw => ?_)
  have ew : XP_swapTried_s κ σ 2 3 = up2 (up2 σ 40 2 2) 40 3 0 := by
    unfold XP_swapTried_s
    rw [show σ 40 3 = 2 from ht3, show σ 40 2 = 0 from ht2]
  rw [ew] at hw
  refine lv_iload_n hx hb dX5_nextOrder_79 rfl (lv_at hl 1 rfl) ?_
  refine lv_iconst (v := 1) hx hb dX5_nextOrder_80 (by decide) ?_
  refine lv_iadd hx hb dX5_nextOrder_81 ?_
  refine lv_topi (fun zz ez => ?_)
  have ez : zz = 3 := ez.trans (by decide)
  subst ez
  refine lv_istore_n (lv' := [(3, .int 3), (2, .int 3), (1, .int 2), (0, .ref (a 37))]) hx hb dX5_nextOrder_82 rfl hl (by decide) rfl (fun ls hl => ?_)
  refine lv_aload_n hx hb dX5_nextOrder_83 rfl (lv_at hl 3 rfl) ?_
  refine g_get S hw hinX5 (fs := fX37 a (up2 (up2 σ 40 2 2) 40 3 0)) 37 rfl rfl 4 (by decide) lk0 (v := .int 4) (congrArg (fun z => some (Value.int z)) (((up2_rn (by omega)).trans (up2_rn (by omega))).trans (hp0))) dX5_nextOrder_84 ?_
  refine lv_iconst (v := 1) hx hb dX5_nextOrder_87 (by decide) ?_
  refine lv_isub hx hb dX5_nextOrder_88 ?_
  refine lv_topi (fun zz ez => ?_)
  have ez : zz = 3 := ez.trans (by decide)
  subst ez
  refine lv_istore (lv' := [(4, .int 3), (3, .int 3), (2, .int 3), (1, .int 2), (0, .ref (a 37))]) hx hb dX5_nextOrder_89 hl (by decide) rfl (fun ls hl => ?_)
  refine lv_iload_n hx hb dX5_nextOrder_91 rfl (lv_at hl 1 rfl) ?_
  refine lv_iload hx hb dX5_nextOrder_92 (lv_at hl 0 rfl) ?_
  refine lv_icmp_ge hx hb (tgt := 113) dX5_nextOrder_94 (by decide) (fun c_x => ?_) (fun c_x => absurd (by decide) c_x)
  refine lv_iconst (v := 1) hx hb dX5_nextOrder_113 (by decide) ?_
  have hw := hw.arr 40 (f := (up2 (up2 σ 40 2 2) 40 3 0) 40) (g := permRow 4 11) rfl (row4 (((up2_rp (by decide)).trans (up2_rp (by decide))).trans (ht0)) (((up2_rp (by decide)).trans (up2_rp (by decide))).trans (ht1)) ((up2_rp (by decide)).trans (up2_rs)) (up2_rs)) (wX_r40 _ _ _ _ _ _ _)
  simp only [row_up2] at hw
  exact g_zret S hr hlk hw (by decide) (by simp only [XP_nextOrder_4_10_r]) (by simp only [XP_nextOrder_4_10_s]) dX5_nextOrder_114
def XP_nextOrder_4_11_r (κ : Nat → Nat) (σ : Nat → Nat → Int32) : Int32 := 1
def XP_nextOrder_4_11_s (κ : Nat → Nat) (σ : Nat → Nat → Int32) : Nat → Nat → Int32 := row σ 40 (permRow 4 12)
theorem XP_nextOrder_4_11_z (κ : Nat → Nat) (σ : Nat → Nat → Int32) : XP_nextOrder_4_11_r κ σ = 0 ∨ XP_nextOrder_4_11_r κ σ = 1 := by
  unfold XP_nextOrder_4_11_r
  exact Or.inr rfl

set_option maxHeartbeats 4000000 in
set_option maxRecDepth 100000 in
theorem c_XP_nextOrder_4_11 (l : Launch) (D : va_G) (cI cC cI2 : ClassId) (a : Nat → Nat) (κ : Nat → Nat) (σ : Nat → Nat → Int32) (hp0 : σ 37 4 = nI 4) (ht0 : σ 40 0 = nI 1) (ht1 : σ 40 1 = nI 3) (ht2 : σ 40 2 = nI 2) (ht3 : σ 40 3 = nI 0) : gI l D (tysX cI cC cI2) yX5_nextOrder wsX5_nextOrder 2 [.ref (a 37)] (wX cI cC cI2 a κ σ) (XP_nextOrder_4_11_r κ σ) (wX cI cC cI2 a κ (XP_nextOrder_4_11_s κ σ)) := by
  refine g_start (cc := cX5_nextOrder) (maxL := 5) (ret := some .boolean) (Qc := gQi D (tysX cI cC cI2) (XP_nextOrder_4_11_r κ σ) (wX cI cC cI2 a κ (XP_nextOrder_4_11_s κ σ))) (by decide) rfl (Nat.le_of_ble_eq_true rfl) ?_
  intro p e s m below meth C A ls S hr hlk hw hl
  obtain ⟨hx, hb, hml, hown, hts⟩ := id S
  have hinX5 : ∀ x ∈ u_ws RX5 TX5 6, x ∈ wsX5_nextOrder := fun x h => List.mem_cons_of_mem _ (List.mem_append_right _ h)
  have lk0 : Cond.fieldLink RX5 24 "CowsOwed$Plans" "size" "I" ∈ wsX5_nextOrder := by decide +kernel
  have lk1 : Cond.fieldLink RX5 18 "CowsOwed$Plans" "tried" "[I" ∈ wsX5_nextOrder := by decide +kernel
  have hl : lv_has ls 5 [(0, .ref (a 37))] := hl
  refine lv_aload_n hx hb dX5_nextOrder_0 rfl (lv_at hl 0 rfl) ?_
  refine g_get S hw hinX5 (fs := fX37 a σ) 37 rfl rfl 4 (by decide) lk0 (v := .int 4) (congrArg (fun z => some (Value.int z)) (hp0)) dX5_nextOrder_1 ?_
  refine lv_iconst (v := 2) hx hb dX5_nextOrder_4 (by decide) ?_
  refine lv_isub hx hb dX5_nextOrder_5 ?_
  refine lv_topi (fun zz ez => ?_)
  have ez : zz = 2 := ez.trans (by decide)
  subst ez
  refine lv_istore_n (lv' := [(1, .int 2), (0, .ref (a 37))]) hx hb dX5_nextOrder_6 rfl hl (by decide) rfl (fun ls hl => ?_)
  refine lv_iload_n hx hb dX5_nextOrder_7 rfl (lv_at hl 0 rfl) ?_
  refine lv_if_lt hx hb (tgt := 34) dX5_nextOrder_8 (by decide) (fun c_x => absurd c_x (by decide)) (fun c_x => ?_)
  refine lv_aload_n hx hb dX5_nextOrder_11 rfl (lv_at hl 1 rfl) ?_
  refine g_get S hw hinX5 (fs := fX37 a σ) 37 rfl rfl 2 (by decide) lk1 (v := .ref (a 40)) rfl dX5_nextOrder_12 ?_
  refine lv_iload_n hx hb dX5_nextOrder_15 rfl (lv_at hl 0 rfl) ?_
  refine g_iald S hw (f := σ 40) (i := 2) (x := 2) 40 0 rfl rfl (by omega) (by decide) ht2 dX5_nextOrder_16 ?_
  refine lv_aload_n hx hb dX5_nextOrder_17 rfl (lv_at hl 1 rfl) ?_
  refine g_get S hw hinX5 (fs := fX37 a σ) 37 rfl rfl 2 (by decide) lk1 (v := .ref (a 40)) rfl dX5_nextOrder_18 ?_
  refine lv_iload_n hx hb dX5_nextOrder_21 rfl (lv_at hl 0 rfl) ?_
  refine lv_iconst (v := 1) hx hb dX5_nextOrder_22 (by decide) ?_
  refine lv_iadd hx hb dX5_nextOrder_23 ?_
  refine lv_topi (fun zz ez => ?_)
  have ez : zz = 3 := ez.trans (by decide)
  subst ez
  refine g_iald S hw (f := σ 40) (i := 3) (x := 0) 40 0 rfl rfl (by omega) (by decide) ht3 dX5_nextOrder_24 ?_
  refine lv_icmp_le hx hb (tgt := 34) dX5_nextOrder_25 (by decide) (fun c_x => absurd c_x (by decide)) (fun c_x => ?_)
  refine lv_iinc (v := 1) (lv' := [(1, .int 1), (0, .ref (a 37))]) hx hb dX5_nextOrder_28 hl (k := 0) rfl (by decide) (by decide) rfl (fun ls hl => ?_)
  refine lv_goto (tgt := 7) hx hb dX5_nextOrder_31 (by decide) ?_
  refine lv_iload_n hx hb dX5_nextOrder_7 rfl (lv_at hl 0 rfl) ?_
  refine lv_if_lt hx hb (tgt := 34) dX5_nextOrder_8 (by decide) (fun c_x => absurd c_x (by decide)) (fun c_x => ?_)
  refine lv_aload_n hx hb dX5_nextOrder_11 rfl (lv_at hl 1 rfl) ?_
  refine g_get S hw hinX5 (fs := fX37 a σ) 37 rfl rfl 2 (by decide) lk1 (v := .ref (a 40)) rfl dX5_nextOrder_12 ?_
  refine lv_iload_n hx hb dX5_nextOrder_15 rfl (lv_at hl 0 rfl) ?_
  refine g_iald S hw (f := σ 40) (i := 1) (x := 3) 40 0 rfl rfl (by omega) (by decide) ht1 dX5_nextOrder_16 ?_
  refine lv_aload_n hx hb dX5_nextOrder_17 rfl (lv_at hl 1 rfl) ?_
  refine g_get S hw hinX5 (fs := fX37 a σ) 37 rfl rfl 2 (by decide) lk1 (v := .ref (a 40)) rfl dX5_nextOrder_18 ?_
  refine lv_iload_n hx hb dX5_nextOrder_21 rfl (lv_at hl 0 rfl) ?_
  refine lv_iconst (v := 1) hx hb dX5_nextOrder_22 (by decide) ?_
  refine lv_iadd hx hb dX5_nextOrder_23 ?_
  refine lv_topi (fun zz ez => ?_)
  have ez : zz = 2 := ez.trans (by decide)
  subst ez
  refine g_iald S hw (f := σ 40) (i := 2) (x := 2) 40 0 rfl rfl (by omega) (by decide) ht2 dX5_nextOrder_24 ?_
  refine lv_icmp_le hx hb (tgt := 34) dX5_nextOrder_25 (by decide) (fun c_x => absurd c_x (by decide)) (fun c_x => ?_)
  refine lv_iinc (v := 0) (lv' := [(1, .int 0), (0, .ref (a 37))]) hx hb dX5_nextOrder_28 hl (k := 0) rfl (by decide) (by decide) rfl (fun ls hl => ?_)
  refine lv_goto (tgt := 7) hx hb dX5_nextOrder_31 (by decide) ?_
  refine lv_iload_n hx hb dX5_nextOrder_7 rfl (lv_at hl 0 rfl) ?_
  refine lv_if_lt hx hb (tgt := 34) dX5_nextOrder_8 (by decide) (fun c_x => absurd c_x (by decide)) (fun c_x => ?_)
  refine lv_aload_n hx hb dX5_nextOrder_11 rfl (lv_at hl 1 rfl) ?_
  refine g_get S hw hinX5 (fs := fX37 a σ) 37 rfl rfl 2 (by decide) lk1 (v := .ref (a 40)) rfl dX5_nextOrder_12 ?_
  refine lv_iload_n hx hb dX5_nextOrder_15 rfl (lv_at hl 0 rfl) ?_
  refine g_iald S hw (f := σ 40) (i := 0) (x := 1) 40 0 rfl rfl (by omega) (by decide) ht0 dX5_nextOrder_16 ?_
  refine lv_aload_n hx hb dX5_nextOrder_17 rfl (lv_at hl 1 rfl) ?_
  refine g_get S hw hinX5 (fs := fX37 a σ) 37 rfl rfl 2 (by decide) lk1 (v := .ref (a 40)) rfl dX5_nextOrder_18 ?_
  refine lv_iload_n hx hb dX5_nextOrder_21 rfl (lv_at hl 0 rfl) ?_
  refine lv_iconst (v := 1) hx hb dX5_nextOrder_22 (by decide) ?_
  refine lv_iadd hx hb dX5_nextOrder_23 ?_
  refine lv_topi (fun zz ez => ?_)
  have ez : zz = 1 := ez.trans (by decide)
  subst ez
  refine g_iald S hw (f := σ 40) (i := 1) (x := 3) 40 0 rfl rfl (by omega) (by decide) ht1 dX5_nextOrder_24 ?_
  refine lv_icmp_le hx hb (tgt := 34) dX5_nextOrder_25 (by decide) (fun c_x => ?_) (fun c_x => absurd (by decide) c_x)
  refine lv_iload_n hx hb dX5_nextOrder_34 rfl (lv_at hl 0 rfl) ?_
  refine lv_if_ge hx hb (tgt := 40) dX5_nextOrder_35 (by decide) (fun c_x => ?_) (fun c_x => absurd (by decide) c_x)
  refine lv_aload_n hx hb dX5_nextOrder_40 rfl (lv_at hl 1 rfl) ?_
  refine g_get S hw hinX5 (fs := fX37 a σ) 37 rfl rfl 4 (by decide) lk0 (v := .int 4) (congrArg (fun z => some (Value.int z)) (hp0)) dX5_nextOrder_41 ?_
  refine lv_iconst (v := 1) hx hb dX5_nextOrder_44 (by decide) ?_
  refine lv_isub hx hb dX5_nextOrder_45 ?_
  refine lv_topi (fun zz ez => ?_)
  have ez : zz = 3 := ez.trans (by decide)
  subst ez
  refine lv_istore_n (lv' := [(2, .int 3), (1, .int 0), (0, .ref (a 37))]) hx hb dX5_nextOrder_46 rfl hl (by decide) rfl (fun ls hl => ?_)
  refine lv_iload_n hx hb dX5_nextOrder_47 rfl (lv_at hl 0 rfl) ?_
  refine lv_iload_n hx hb dX5_nextOrder_48 rfl (lv_at hl 1 rfl) ?_
  refine lv_icmp_le hx hb (tgt := 73) dX5_nextOrder_49 (by decide) (fun c_x => absurd c_x (by decide)) (fun c_x => ?_)
  refine lv_aload_n hx hb dX5_nextOrder_52 rfl (lv_at hl 2 rfl) ?_
  refine g_get S hw hinX5 (fs := fX37 a σ) 37 rfl rfl 2 (by decide) lk1 (v := .ref (a 40)) rfl dX5_nextOrder_53 ?_
  refine lv_iload_n hx hb dX5_nextOrder_56 rfl (lv_at hl 0 rfl) ?_
  refine g_iald S hw (f := σ 40) (i := 3) (x := 0) 40 0 rfl rfl (by omega) (by decide) ht3 dX5_nextOrder_57 ?_
  refine lv_aload_n hx hb dX5_nextOrder_58 rfl (lv_at hl 2 rfl) ?_
  refine g_get S hw hinX5 (fs := fX37 a σ) 37 rfl rfl 2 (by decide) lk1 (v := .ref (a 40)) rfl dX5_nextOrder_59 ?_
  refine lv_iload_n hx hb dX5_nextOrder_62 rfl (lv_at hl 1 rfl) ?_
  refine g_iald S hw (f := σ 40) (i := 0) (x := 1) 40 0 rfl rfl (by omega) (by decide) ht0 dX5_nextOrder_63 ?_
  refine lv_icmp_ge hx hb (tgt := 73) dX5_nextOrder_64 (by decide) (fun c_x => absurd c_x (by decide)) (fun c_x => ?_)
  refine lv_iinc (v := 2) (lv' := [(2, .int 2), (1, .int 0), (0, .ref (a 37))]) hx hb dX5_nextOrder_67 hl (k := 0) rfl (by decide) (by decide) rfl (fun ls hl => ?_)
  refine lv_goto (tgt := 47) hx hb dX5_nextOrder_70 (by decide) ?_
  refine lv_iload_n hx hb dX5_nextOrder_47 rfl (lv_at hl 0 rfl) ?_
  refine lv_iload_n hx hb dX5_nextOrder_48 rfl (lv_at hl 1 rfl) ?_
  refine lv_icmp_le hx hb (tgt := 73) dX5_nextOrder_49 (by decide) (fun c_x => absurd c_x (by decide)) (fun c_x => ?_)
  refine lv_aload_n hx hb dX5_nextOrder_52 rfl (lv_at hl 2 rfl) ?_
  refine g_get S hw hinX5 (fs := fX37 a σ) 37 rfl rfl 2 (by decide) lk1 (v := .ref (a 40)) rfl dX5_nextOrder_53 ?_
  refine lv_iload_n hx hb dX5_nextOrder_56 rfl (lv_at hl 0 rfl) ?_
  refine g_iald S hw (f := σ 40) (i := 2) (x := 2) 40 0 rfl rfl (by omega) (by decide) ht2 dX5_nextOrder_57 ?_
  refine lv_aload_n hx hb dX5_nextOrder_58 rfl (lv_at hl 2 rfl) ?_
  refine g_get S hw hinX5 (fs := fX37 a σ) 37 rfl rfl 2 (by decide) lk1 (v := .ref (a 40)) rfl dX5_nextOrder_59 ?_
  refine lv_iload_n hx hb dX5_nextOrder_62 rfl (lv_at hl 1 rfl) ?_
  refine g_iald S hw (f := σ 40) (i := 0) (x := 1) 40 0 rfl rfl (by omega) (by decide) ht0 dX5_nextOrder_63 ?_
  refine lv_icmp_ge hx hb (tgt := 73) dX5_nextOrder_64 (by decide) (fun c_x => ?_) (fun c_x => absurd (by decide) c_x)
  refine lv_aload_n hx hb dX5_nextOrder_73 rfl (lv_at hl 2 rfl) ?_
  refine lv_iload_n hx hb dX5_nextOrder_74 rfl (lv_at hl 1 rfl) ?_
  refine lv_iload_n hx hb dX5_nextOrder_75 rfl (lv_at hl 0 rfl) ?_
  refine g_callVv S hw (c_XP_swapTried l D cI cC cI2 a κ σ 0 2 (by decide) (by decide)) gX5_nextOrder_X5_swapTried rfl 37 rfl rfl 2 rfl (by decide +kernel) (by decide) (by decide) hl.1 rfl (Nat.le_of_ble_eq_true rfl) dX5_nextOrder_76 (fun H locs hw => ?_)
  have ew : XP_swapTried_s κ σ 0 2 = up2 (up2 σ 40 0 2) 40 2 1 := by
    unfold XP_swapTried_s
    rw [show σ 40 2 = 2 from ht2, show σ 40 0 = 1 from ht0]
  rw [ew] at hw
  refine lv_iload_n hx hb dX5_nextOrder_79 rfl (lv_at hl 1 rfl) ?_
  refine lv_iconst (v := 1) hx hb dX5_nextOrder_80 (by decide) ?_
  refine lv_iadd hx hb dX5_nextOrder_81 ?_
  refine lv_topi (fun zz ez => ?_)
  have ez : zz = 1 := ez.trans (by decide)
  subst ez
  refine lv_istore_n (lv' := [(3, .int 1), (2, .int 2), (1, .int 0), (0, .ref (a 37))]) hx hb dX5_nextOrder_82 rfl hl (by decide) rfl (fun ls hl => ?_)
  refine lv_aload_n hx hb dX5_nextOrder_83 rfl (lv_at hl 3 rfl) ?_
  refine g_get S hw hinX5 (fs := fX37 a (up2 (up2 σ 40 0 2) 40 2 1)) 37 rfl rfl 4 (by decide) lk0 (v := .int 4) (congrArg (fun z => some (Value.int z)) (((up2_rn (by omega)).trans (up2_rn (by omega))).trans (hp0))) dX5_nextOrder_84 ?_
  refine lv_iconst (v := 1) hx hb dX5_nextOrder_87 (by decide) ?_
  refine lv_isub hx hb dX5_nextOrder_88 ?_
  refine lv_topi (fun zz ez => ?_)
  have ez : zz = 3 := ez.trans (by decide)
  subst ez
  refine lv_istore (lv' := [(4, .int 3), (3, .int 1), (2, .int 2), (1, .int 0), (0, .ref (a 37))]) hx hb dX5_nextOrder_89 hl (by decide) rfl (fun ls hl => ?_)
  refine lv_iload_n hx hb dX5_nextOrder_91 rfl (lv_at hl 1 rfl) ?_
  refine lv_iload hx hb dX5_nextOrder_92 (lv_at hl 0 rfl) ?_
  refine lv_icmp_ge hx hb (tgt := 113) dX5_nextOrder_94 (by decide) (fun c_x => absurd c_x (by decide)) (fun c_x => ?_)
  refine lv_aload_n hx hb dX5_nextOrder_97 rfl (lv_at hl 4 rfl) ?_
  refine lv_iload_n hx hb dX5_nextOrder_98 rfl (lv_at hl 1 rfl) ?_
  refine lv_iload hx hb dX5_nextOrder_99 (lv_at hl 0 rfl) ?_
  refine g_callVv S hw (c_XP_swapTried l D cI cC cI2 a κ (up2 (up2 σ 40 0 2) 40 2 1) 1 3 (by decide) (by decide)) gX5_nextOrder_X5_swapTried rfl 37 rfl rfl 2 rfl (by decide +kernel) (by decide) (by decide) hl.1 rfl (Nat.le_of_ble_eq_true rfl) dX5_nextOrder_101 (fun H locs hw => ?_)
  have ew : XP_swapTried_s κ (up2 (up2 σ 40 0 2) 40 2 1) 1 3 = up2 (up2 (up2 (up2 σ 40 0 2) 40 2 1) 40 1 0) 40 3 3 := by
    unfold XP_swapTried_s
    rw [show (up2 (up2 σ 40 0 2) 40 2 1) 40 3 = 0 from ((up2_rp (by decide)).trans (up2_rp (by decide))).trans (ht3), show (up2 (up2 σ 40 0 2) 40 2 1) 40 1 = 3 from ((up2_rp (by decide)).trans (up2_rp (by decide))).trans (ht1)]
  rw [ew] at hw
  refine lv_iinc (v := 2) (lv' := [(3, .int 2), (4, .int 3), (2, .int 2), (1, .int 0), (0, .ref (a 37))]) hx hb dX5_nextOrder_104 hl (k := 1) rfl (by decide) (by decide) rfl (fun ls hl => ?_)
  refine lv_iinc (v := 2) (lv' := [(4, .int 2), (3, .int 2), (2, .int 2), (1, .int 0), (0, .ref (a 37))]) hx hb dX5_nextOrder_107 hl (k := 1) rfl (by decide) (by decide) rfl (fun ls hl => ?_)
  refine lv_goto (tgt := 91) hx hb dX5_nextOrder_110 (by decide) ?_
  refine lv_iload_n hx hb dX5_nextOrder_91 rfl (lv_at hl 1 rfl) ?_
  refine lv_iload hx hb dX5_nextOrder_92 (lv_at hl 0 rfl) ?_
  refine lv_icmp_ge hx hb (tgt := 113) dX5_nextOrder_94 (by decide) (fun c_x => ?_) (fun c_x => absurd (by decide) c_x)
  refine lv_iconst (v := 1) hx hb dX5_nextOrder_113 (by decide) ?_
  have hw := hw.arr 40 (f := (up2 (up2 (up2 (up2 σ 40 0 2) 40 2 1) 40 1 0) 40 3 3) 40) (g := permRow 4 12) rfl (row4 ((up2_rp (by decide)).trans ((up2_rp (by decide)).trans ((up2_rp (by decide)).trans (up2_rs)))) ((up2_rp (by decide)).trans (up2_rs)) ((up2_rp (by decide)).trans ((up2_rp (by decide)).trans (up2_rs))) (up2_rs)) (wX_r40 _ _ _ _ _ _ _)
  simp only [row_up2] at hw
  exact g_zret S hr hlk hw (by decide) (by simp only [XP_nextOrder_4_11_r]) (by simp only [XP_nextOrder_4_11_s]) dX5_nextOrder_114
def XP_nextOrder_4_12_r (κ : Nat → Nat) (σ : Nat → Nat → Int32) : Int32 := 1
def XP_nextOrder_4_12_s (κ : Nat → Nat) (σ : Nat → Nat → Int32) : Nat → Nat → Int32 := row σ 40 (permRow 4 13)
theorem XP_nextOrder_4_12_z (κ : Nat → Nat) (σ : Nat → Nat → Int32) : XP_nextOrder_4_12_r κ σ = 0 ∨ XP_nextOrder_4_12_r κ σ = 1 := by
  unfold XP_nextOrder_4_12_r
  exact Or.inr rfl

set_option maxHeartbeats 4000000 in
set_option maxRecDepth 100000 in
theorem c_XP_nextOrder_4_12 (l : Launch) (D : va_G) (cI cC cI2 : ClassId) (a : Nat → Nat) (κ : Nat → Nat) (σ : Nat → Nat → Int32) (hp0 : σ 37 4 = nI 4) (ht0 : σ 40 0 = nI 2) (ht1 : σ 40 1 = nI 0) (ht2 : σ 40 2 = nI 1) (ht3 : σ 40 3 = nI 3) : gI l D (tysX cI cC cI2) yX5_nextOrder wsX5_nextOrder 2 [.ref (a 37)] (wX cI cC cI2 a κ σ) (XP_nextOrder_4_12_r κ σ) (wX cI cC cI2 a κ (XP_nextOrder_4_12_s κ σ)) := by
  refine g_start (cc := cX5_nextOrder) (maxL := 5) (ret := some .boolean) (Qc := gQi D (tysX cI cC cI2) (XP_nextOrder_4_12_r κ σ) (wX cI cC cI2 a κ (XP_nextOrder_4_12_s κ σ))) (by decide) rfl (Nat.le_of_ble_eq_true rfl) ?_
  intro p e s m below meth C A ls S hr hlk hw hl
  obtain ⟨hx, hb, hml, hown, hts⟩ := id S
  have hinX5 : ∀ x ∈ u_ws RX5 TX5 6, x ∈ wsX5_nextOrder := fun x h => List.mem_cons_of_mem _ (List.mem_append_right _ h)
  have lk0 : Cond.fieldLink RX5 24 "CowsOwed$Plans" "size" "I" ∈ wsX5_nextOrder := by decide +kernel
  have lk1 : Cond.fieldLink RX5 18 "CowsOwed$Plans" "tried" "[I" ∈ wsX5_nextOrder := by decide +kernel
  have hl : lv_has ls 5 [(0, .ref (a 37))] := hl
  refine lv_aload_n hx hb dX5_nextOrder_0 rfl (lv_at hl 0 rfl) ?_
  refine g_get S hw hinX5 (fs := fX37 a σ) 37 rfl rfl 4 (by decide) lk0 (v := .int 4) (congrArg (fun z => some (Value.int z)) (hp0)) dX5_nextOrder_1 ?_
  refine lv_iconst (v := 2) hx hb dX5_nextOrder_4 (by decide) ?_
  refine lv_isub hx hb dX5_nextOrder_5 ?_
  refine lv_topi (fun zz ez => ?_)
  have ez : zz = 2 := ez.trans (by decide)
  subst ez
  refine lv_istore_n (lv' := [(1, .int 2), (0, .ref (a 37))]) hx hb dX5_nextOrder_6 rfl hl (by decide) rfl (fun ls hl => ?_)
  refine lv_iload_n hx hb dX5_nextOrder_7 rfl (lv_at hl 0 rfl) ?_
  refine lv_if_lt hx hb (tgt := 34) dX5_nextOrder_8 (by decide) (fun c_x => absurd c_x (by decide)) (fun c_x => ?_)
  refine lv_aload_n hx hb dX5_nextOrder_11 rfl (lv_at hl 1 rfl) ?_
  refine g_get S hw hinX5 (fs := fX37 a σ) 37 rfl rfl 2 (by decide) lk1 (v := .ref (a 40)) rfl dX5_nextOrder_12 ?_
  refine lv_iload_n hx hb dX5_nextOrder_15 rfl (lv_at hl 0 rfl) ?_
  refine g_iald S hw (f := σ 40) (i := 2) (x := 1) 40 0 rfl rfl (by omega) (by decide) ht2 dX5_nextOrder_16 ?_
  refine lv_aload_n hx hb dX5_nextOrder_17 rfl (lv_at hl 1 rfl) ?_
  refine g_get S hw hinX5 (fs := fX37 a σ) 37 rfl rfl 2 (by decide) lk1 (v := .ref (a 40)) rfl dX5_nextOrder_18 ?_
  refine lv_iload_n hx hb dX5_nextOrder_21 rfl (lv_at hl 0 rfl) ?_
  refine lv_iconst (v := 1) hx hb dX5_nextOrder_22 (by decide) ?_
  refine lv_iadd hx hb dX5_nextOrder_23 ?_
  refine lv_topi (fun zz ez => ?_)
  have ez : zz = 3 := ez.trans (by decide)
  subst ez
  refine g_iald S hw (f := σ 40) (i := 3) (x := 3) 40 0 rfl rfl (by omega) (by decide) ht3 dX5_nextOrder_24 ?_
  refine lv_icmp_le hx hb (tgt := 34) dX5_nextOrder_25 (by decide) (fun c_x => ?_) (fun c_x => absurd (by decide) c_x)
  refine lv_iload_n hx hb dX5_nextOrder_34 rfl (lv_at hl 0 rfl) ?_
  refine lv_if_ge hx hb (tgt := 40) dX5_nextOrder_35 (by decide) (fun c_x => ?_) (fun c_x => absurd (by decide) c_x)
  refine lv_aload_n hx hb dX5_nextOrder_40 rfl (lv_at hl 1 rfl) ?_
  refine g_get S hw hinX5 (fs := fX37 a σ) 37 rfl rfl 4 (by decide) lk0 (v := .int 4) (congrArg (fun z => some (Value.int z)) (hp0)) dX5_nextOrder_41 ?_
  refine lv_iconst (v := 1) hx hb dX5_nextOrder_44 (by decide) ?_
  refine lv_isub hx hb dX5_nextOrder_45 ?_
  refine lv_topi (fun zz ez => ?_)
  have ez : zz = 3 := ez.trans (by decide)
  subst ez
  refine lv_istore_n (lv' := [(2, .int 3), (1, .int 2), (0, .ref (a 37))]) hx hb dX5_nextOrder_46 rfl hl (by decide) rfl (fun ls hl => ?_)
  refine lv_iload_n hx hb dX5_nextOrder_47 rfl (lv_at hl 0 rfl) ?_
  refine lv_iload_n hx hb dX5_nextOrder_48 rfl (lv_at hl 1 rfl) ?_
  refine lv_icmp_le hx hb (tgt := 73) dX5_nextOrder_49 (by decide) (fun c_x => absurd c_x (by decide)) (fun c_x => ?_)
  refine lv_aload_n hx hb dX5_nextOrder_52 rfl (lv_at hl 2 rfl) ?_
  refine g_get S hw hinX5 (fs := fX37 a σ) 37 rfl rfl 2 (by decide) lk1 (v := .ref (a 40)) rfl dX5_nextOrder_53 ?_
  refine lv_iload_n hx hb dX5_nextOrder_56 rfl (lv_at hl 0 rfl) ?_
  refine g_iald S hw (f := σ 40) (i := 3) (x := 3) 40 0 rfl rfl (by omega) (by decide) ht3 dX5_nextOrder_57 ?_
  refine lv_aload_n hx hb dX5_nextOrder_58 rfl (lv_at hl 2 rfl) ?_
  refine g_get S hw hinX5 (fs := fX37 a σ) 37 rfl rfl 2 (by decide) lk1 (v := .ref (a 40)) rfl dX5_nextOrder_59 ?_
  refine lv_iload_n hx hb dX5_nextOrder_62 rfl (lv_at hl 1 rfl) ?_
  refine g_iald S hw (f := σ 40) (i := 2) (x := 1) 40 0 rfl rfl (by omega) (by decide) ht2 dX5_nextOrder_63 ?_
  refine lv_icmp_ge hx hb (tgt := 73) dX5_nextOrder_64 (by decide) (fun c_x => ?_) (fun c_x => absurd (by decide) c_x)
  refine lv_aload_n hx hb dX5_nextOrder_73 rfl (lv_at hl 2 rfl) ?_
  refine lv_iload_n hx hb dX5_nextOrder_74 rfl (lv_at hl 1 rfl) ?_
  refine lv_iload_n hx hb dX5_nextOrder_75 rfl (lv_at hl 0 rfl) ?_
  refine g_callVv S hw (c_XP_swapTried l D cI cC cI2 a κ σ 2 3 (by decide) (by decide)) gX5_nextOrder_X5_swapTried rfl 37 rfl rfl 2 rfl (by decide +kernel) (by decide) (by decide) hl.1 rfl (Nat.le_of_ble_eq_true rfl) dX5_nextOrder_76 (fun H locs hw => ?_)
  have ew : XP_swapTried_s κ σ 2 3 = up2 (up2 σ 40 2 3) 40 3 1 := by
    unfold XP_swapTried_s
    rw [show σ 40 3 = 3 from ht3, show σ 40 2 = 1 from ht2]
  rw [ew] at hw
  refine lv_iload_n hx hb dX5_nextOrder_79 rfl (lv_at hl 1 rfl) ?_
  refine lv_iconst (v := 1) hx hb dX5_nextOrder_80 (by decide) ?_
  refine lv_iadd hx hb dX5_nextOrder_81 ?_
  refine lv_topi (fun zz ez => ?_)
  have ez : zz = 3 := ez.trans (by decide)
  subst ez
  refine lv_istore_n (lv' := [(3, .int 3), (2, .int 3), (1, .int 2), (0, .ref (a 37))]) hx hb dX5_nextOrder_82 rfl hl (by decide) rfl (fun ls hl => ?_)
  refine lv_aload_n hx hb dX5_nextOrder_83 rfl (lv_at hl 3 rfl) ?_
  refine g_get S hw hinX5 (fs := fX37 a (up2 (up2 σ 40 2 3) 40 3 1)) 37 rfl rfl 4 (by decide) lk0 (v := .int 4) (congrArg (fun z => some (Value.int z)) (((up2_rn (by omega)).trans (up2_rn (by omega))).trans (hp0))) dX5_nextOrder_84 ?_
  refine lv_iconst (v := 1) hx hb dX5_nextOrder_87 (by decide) ?_
  refine lv_isub hx hb dX5_nextOrder_88 ?_
  refine lv_topi (fun zz ez => ?_)
  have ez : zz = 3 := ez.trans (by decide)
  subst ez
  refine lv_istore (lv' := [(4, .int 3), (3, .int 3), (2, .int 3), (1, .int 2), (0, .ref (a 37))]) hx hb dX5_nextOrder_89 hl (by decide) rfl (fun ls hl => ?_)
  refine lv_iload_n hx hb dX5_nextOrder_91 rfl (lv_at hl 1 rfl) ?_
  refine lv_iload hx hb dX5_nextOrder_92 (lv_at hl 0 rfl) ?_
  refine lv_icmp_ge hx hb (tgt := 113) dX5_nextOrder_94 (by decide) (fun c_x => ?_) (fun c_x => absurd (by decide) c_x)
  refine lv_iconst (v := 1) hx hb dX5_nextOrder_113 (by decide) ?_
  have hw := hw.arr 40 (f := (up2 (up2 σ 40 2 3) 40 3 1) 40) (g := permRow 4 13) rfl (row4 (((up2_rp (by decide)).trans (up2_rp (by decide))).trans (ht0)) (((up2_rp (by decide)).trans (up2_rp (by decide))).trans (ht1)) ((up2_rp (by decide)).trans (up2_rs)) (up2_rs)) (wX_r40 _ _ _ _ _ _ _)
  simp only [row_up2] at hw
  exact g_zret S hr hlk hw (by decide) (by simp only [XP_nextOrder_4_12_r]) (by simp only [XP_nextOrder_4_12_s]) dX5_nextOrder_114
def XP_nextOrder_4_13_r (κ : Nat → Nat) (σ : Nat → Nat → Int32) : Int32 := 1
def XP_nextOrder_4_13_s (κ : Nat → Nat) (σ : Nat → Nat → Int32) : Nat → Nat → Int32 := row σ 40 (permRow 4 14)
theorem XP_nextOrder_4_13_z (κ : Nat → Nat) (σ : Nat → Nat → Int32) : XP_nextOrder_4_13_r κ σ = 0 ∨ XP_nextOrder_4_13_r κ σ = 1 := by
  unfold XP_nextOrder_4_13_r
  exact Or.inr rfl

set_option maxHeartbeats 4000000 in
set_option maxRecDepth 100000 in
theorem c_XP_nextOrder_4_13 (l : Launch) (D : va_G) (cI cC cI2 : ClassId) (a : Nat → Nat) (κ : Nat → Nat) (σ : Nat → Nat → Int32) (hp0 : σ 37 4 = nI 4) (ht0 : σ 40 0 = nI 2) (ht1 : σ 40 1 = nI 0) (ht2 : σ 40 2 = nI 3) (ht3 : σ 40 3 = nI 1) : gI l D (tysX cI cC cI2) yX5_nextOrder wsX5_nextOrder 2 [.ref (a 37)] (wX cI cC cI2 a κ σ) (XP_nextOrder_4_13_r κ σ) (wX cI cC cI2 a κ (XP_nextOrder_4_13_s κ σ)) := by
  refine g_start (cc := cX5_nextOrder) (maxL := 5) (ret := some .boolean) (Qc := gQi D (tysX cI cC cI2) (XP_nextOrder_4_13_r κ σ) (wX cI cC cI2 a κ (XP_nextOrder_4_13_s κ σ))) (by decide) rfl (Nat.le_of_ble_eq_true rfl) ?_
  intro p e s m below meth C A ls S hr hlk hw hl
  obtain ⟨hx, hb, hml, hown, hts⟩ := id S
  have hinX5 : ∀ x ∈ u_ws RX5 TX5 6, x ∈ wsX5_nextOrder := fun x h => List.mem_cons_of_mem _ (List.mem_append_right _ h)
  have lk0 : Cond.fieldLink RX5 24 "CowsOwed$Plans" "size" "I" ∈ wsX5_nextOrder := by decide +kernel
  have lk1 : Cond.fieldLink RX5 18 "CowsOwed$Plans" "tried" "[I" ∈ wsX5_nextOrder := by decide +kernel
  have hl : lv_has ls 5 [(0, .ref (a 37))] := hl
  refine lv_aload_n hx hb dX5_nextOrder_0 rfl (lv_at hl 0 rfl) ?_
  refine g_get S hw hinX5 (fs := fX37 a σ) 37 rfl rfl 4 (by decide) lk0 (v := .int 4) (congrArg (fun z => some (Value.int z)) (hp0)) dX5_nextOrder_1 ?_
  refine lv_iconst (v := 2) hx hb dX5_nextOrder_4 (by decide) ?_
  refine lv_isub hx hb dX5_nextOrder_5 ?_
  refine lv_topi (fun zz ez => ?_)
  have ez : zz = 2 := ez.trans (by decide)
  subst ez
  refine lv_istore_n (lv' := [(1, .int 2), (0, .ref (a 37))]) hx hb dX5_nextOrder_6 rfl hl (by decide) rfl (fun ls hl => ?_)
  refine lv_iload_n hx hb dX5_nextOrder_7 rfl (lv_at hl 0 rfl) ?_
  refine lv_if_lt hx hb (tgt := 34) dX5_nextOrder_8 (by decide) (fun c_x => absurd c_x (by decide)) (fun c_x => ?_)
  refine lv_aload_n hx hb dX5_nextOrder_11 rfl (lv_at hl 1 rfl) ?_
  refine g_get S hw hinX5 (fs := fX37 a σ) 37 rfl rfl 2 (by decide) lk1 (v := .ref (a 40)) rfl dX5_nextOrder_12 ?_
  refine lv_iload_n hx hb dX5_nextOrder_15 rfl (lv_at hl 0 rfl) ?_
  refine g_iald S hw (f := σ 40) (i := 2) (x := 3) 40 0 rfl rfl (by omega) (by decide) ht2 dX5_nextOrder_16 ?_
  refine lv_aload_n hx hb dX5_nextOrder_17 rfl (lv_at hl 1 rfl) ?_
  refine g_get S hw hinX5 (fs := fX37 a σ) 37 rfl rfl 2 (by decide) lk1 (v := .ref (a 40)) rfl dX5_nextOrder_18 ?_
  refine lv_iload_n hx hb dX5_nextOrder_21 rfl (lv_at hl 0 rfl) ?_
  refine lv_iconst (v := 1) hx hb dX5_nextOrder_22 (by decide) ?_
  refine lv_iadd hx hb dX5_nextOrder_23 ?_
  refine lv_topi (fun zz ez => ?_)
  have ez : zz = 3 := ez.trans (by decide)
  subst ez
  refine g_iald S hw (f := σ 40) (i := 3) (x := 1) 40 0 rfl rfl (by omega) (by decide) ht3 dX5_nextOrder_24 ?_
  refine lv_icmp_le hx hb (tgt := 34) dX5_nextOrder_25 (by decide) (fun c_x => absurd c_x (by decide)) (fun c_x => ?_)
  refine lv_iinc (v := 1) (lv' := [(1, .int 1), (0, .ref (a 37))]) hx hb dX5_nextOrder_28 hl (k := 0) rfl (by decide) (by decide) rfl (fun ls hl => ?_)
  refine lv_goto (tgt := 7) hx hb dX5_nextOrder_31 (by decide) ?_
  refine lv_iload_n hx hb dX5_nextOrder_7 rfl (lv_at hl 0 rfl) ?_
  refine lv_if_lt hx hb (tgt := 34) dX5_nextOrder_8 (by decide) (fun c_x => absurd c_x (by decide)) (fun c_x => ?_)
  refine lv_aload_n hx hb dX5_nextOrder_11 rfl (lv_at hl 1 rfl) ?_
  refine g_get S hw hinX5 (fs := fX37 a σ) 37 rfl rfl 2 (by decide) lk1 (v := .ref (a 40)) rfl dX5_nextOrder_12 ?_
  refine lv_iload_n hx hb dX5_nextOrder_15 rfl (lv_at hl 0 rfl) ?_
  refine g_iald S hw (f := σ 40) (i := 1) (x := 0) 40 0 rfl rfl (by omega) (by decide) ht1 dX5_nextOrder_16 ?_
  refine lv_aload_n hx hb dX5_nextOrder_17 rfl (lv_at hl 1 rfl) ?_
  refine g_get S hw hinX5 (fs := fX37 a σ) 37 rfl rfl 2 (by decide) lk1 (v := .ref (a 40)) rfl dX5_nextOrder_18 ?_
  refine lv_iload_n hx hb dX5_nextOrder_21 rfl (lv_at hl 0 rfl) ?_
  refine lv_iconst (v := 1) hx hb dX5_nextOrder_22 (by decide) ?_
  refine lv_iadd hx hb dX5_nextOrder_23 ?_
  refine lv_topi (fun zz ez => ?_)
  have ez : zz = 2 := ez.trans (by decide)
  subst ez
  refine g_iald S hw (f := σ 40) (i := 2) (x := 3) 40 0 rfl rfl (by omega) (by decide) ht2 dX5_nextOrder_24 ?_
  refine lv_icmp_le hx hb (tgt := 34) dX5_nextOrder_25 (by decide) (fun c_x => ?_) (fun c_x => absurd (by decide) c_x)
  refine lv_iload_n hx hb dX5_nextOrder_34 rfl (lv_at hl 0 rfl) ?_
  refine lv_if_ge hx hb (tgt := 40) dX5_nextOrder_35 (by decide) (fun c_x => ?_) (fun c_x => absurd (by decide) c_x)
  refine lv_aload_n hx hb dX5_nextOrder_40 rfl (lv_at hl 1 rfl) ?_
  refine g_get S hw hinX5 (fs := fX37 a σ) 37 rfl rfl 4 (by decide) lk0 (v := .int 4) (congrArg (fun z => some (Value.int z)) (hp0)) dX5_nextOrder_41 ?_
  refine lv_iconst (v := 1) hx hb dX5_nextOrder_44 (by decide) ?_
  refine lv_isub hx hb dX5_nextOrder_45 ?_
  refine lv_topi (fun zz ez => ?_)
  have ez : zz = 3 := ez.trans (by decide)
  subst ez
  refine lv_istore_n (lv' := [(2, .int 3), (1, .int 1), (0, .ref (a 37))]) hx hb dX5_nextOrder_46 rfl hl (by decide) rfl (fun ls hl => ?_)
  refine lv_iload_n hx hb dX5_nextOrder_47 rfl (lv_at hl 0 rfl) ?_
  refine lv_iload_n hx hb dX5_nextOrder_48 rfl (lv_at hl 1 rfl) ?_
  refine lv_icmp_le hx hb (tgt := 73) dX5_nextOrder_49 (by decide) (fun c_x => absurd c_x (by decide)) (fun c_x => ?_)
  refine lv_aload_n hx hb dX5_nextOrder_52 rfl (lv_at hl 2 rfl) ?_
  refine g_get S hw hinX5 (fs := fX37 a σ) 37 rfl rfl 2 (by decide) lk1 (v := .ref (a 40)) rfl dX5_nextOrder_53 ?_
  refine lv_iload_n hx hb dX5_nextOrder_56 rfl (lv_at hl 0 rfl) ?_
  refine g_iald S hw (f := σ 40) (i := 3) (x := 1) 40 0 rfl rfl (by omega) (by decide) ht3 dX5_nextOrder_57 ?_
  refine lv_aload_n hx hb dX5_nextOrder_58 rfl (lv_at hl 2 rfl) ?_
  refine g_get S hw hinX5 (fs := fX37 a σ) 37 rfl rfl 2 (by decide) lk1 (v := .ref (a 40)) rfl dX5_nextOrder_59 ?_
  refine lv_iload_n hx hb dX5_nextOrder_62 rfl (lv_at hl 1 rfl) ?_
  refine g_iald S hw (f := σ 40) (i := 1) (x := 0) 40 0 rfl rfl (by omega) (by decide) ht1 dX5_nextOrder_63 ?_
  refine lv_icmp_ge hx hb (tgt := 73) dX5_nextOrder_64 (by decide) (fun c_x => ?_) (fun c_x => absurd (by decide) c_x)
  refine lv_aload_n hx hb dX5_nextOrder_73 rfl (lv_at hl 2 rfl) ?_
  refine lv_iload_n hx hb dX5_nextOrder_74 rfl (lv_at hl 1 rfl) ?_
  refine lv_iload_n hx hb dX5_nextOrder_75 rfl (lv_at hl 0 rfl) ?_
  refine g_callVv S hw (c_XP_swapTried l D cI cC cI2 a κ σ 1 3 (by decide) (by decide)) gX5_nextOrder_X5_swapTried rfl 37 rfl rfl 2 rfl (by decide +kernel) (by decide) (by decide) hl.1 rfl (Nat.le_of_ble_eq_true rfl) dX5_nextOrder_76 (fun H locs hw => ?_)
  have ew : XP_swapTried_s κ σ 1 3 = up2 (up2 σ 40 1 1) 40 3 0 := by
    unfold XP_swapTried_s
    rw [show σ 40 3 = 1 from ht3, show σ 40 1 = 0 from ht1]
  rw [ew] at hw
  refine lv_iload_n hx hb dX5_nextOrder_79 rfl (lv_at hl 1 rfl) ?_
  refine lv_iconst (v := 1) hx hb dX5_nextOrder_80 (by decide) ?_
  refine lv_iadd hx hb dX5_nextOrder_81 ?_
  refine lv_topi (fun zz ez => ?_)
  have ez : zz = 2 := ez.trans (by decide)
  subst ez
  refine lv_istore_n (lv' := [(3, .int 2), (2, .int 3), (1, .int 1), (0, .ref (a 37))]) hx hb dX5_nextOrder_82 rfl hl (by decide) rfl (fun ls hl => ?_)
  refine lv_aload_n hx hb dX5_nextOrder_83 rfl (lv_at hl 3 rfl) ?_
  refine g_get S hw hinX5 (fs := fX37 a (up2 (up2 σ 40 1 1) 40 3 0)) 37 rfl rfl 4 (by decide) lk0 (v := .int 4) (congrArg (fun z => some (Value.int z)) (((up2_rn (by omega)).trans (up2_rn (by omega))).trans (hp0))) dX5_nextOrder_84 ?_
  refine lv_iconst (v := 1) hx hb dX5_nextOrder_87 (by decide) ?_
  refine lv_isub hx hb dX5_nextOrder_88 ?_
  refine lv_topi (fun zz ez => ?_)
  have ez : zz = 3 := ez.trans (by decide)
  subst ez
  refine lv_istore (lv' := [(4, .int 3), (3, .int 2), (2, .int 3), (1, .int 1), (0, .ref (a 37))]) hx hb dX5_nextOrder_89 hl (by decide) rfl (fun ls hl => ?_)
  refine lv_iload_n hx hb dX5_nextOrder_91 rfl (lv_at hl 1 rfl) ?_
  refine lv_iload hx hb dX5_nextOrder_92 (lv_at hl 0 rfl) ?_
  refine lv_icmp_ge hx hb (tgt := 113) dX5_nextOrder_94 (by decide) (fun c_x => absurd c_x (by decide)) (fun c_x => ?_)
  refine lv_aload_n hx hb dX5_nextOrder_97 rfl (lv_at hl 4 rfl) ?_
  refine lv_iload_n hx hb dX5_nextOrder_98 rfl (lv_at hl 1 rfl) ?_
  refine lv_iload hx hb dX5_nextOrder_99 (lv_at hl 0 rfl) ?_
  refine g_callVv S hw (c_XP_swapTried l D cI cC cI2 a κ (up2 (up2 σ 40 1 1) 40 3 0) 2 3 (by decide) (by decide)) gX5_nextOrder_X5_swapTried rfl 37 rfl rfl 2 rfl (by decide +kernel) (by decide) (by decide) hl.1 rfl (Nat.le_of_ble_eq_true rfl) dX5_nextOrder_101 (fun H locs hw => ?_)
  have ew : XP_swapTried_s κ (up2 (up2 σ 40 1 1) 40 3 0) 2 3 = up2 (up2 (up2 (up2 σ 40 1 1) 40 3 0) 40 2 0) 40 3 3 := by
    unfold XP_swapTried_s
    rw [show (up2 (up2 σ 40 1 1) 40 3 0) 40 3 = 0 from up2_rs, show (up2 (up2 σ 40 1 1) 40 3 0) 40 2 = 3 from ((up2_rp (by decide)).trans (up2_rp (by decide))).trans (ht2)]
  rw [ew] at hw
  refine lv_iinc (v := 3) (lv' := [(3, .int 3), (4, .int 3), (2, .int 3), (1, .int 1), (0, .ref (a 37))]) hx hb dX5_nextOrder_104 hl (k := 1) rfl (by decide) (by decide) rfl (fun ls hl => ?_)
  refine lv_iinc (v := 2) (lv' := [(4, .int 2), (3, .int 3), (2, .int 3), (1, .int 1), (0, .ref (a 37))]) hx hb dX5_nextOrder_107 hl (k := 1) rfl (by decide) (by decide) rfl (fun ls hl => ?_)
  refine lv_goto (tgt := 91) hx hb dX5_nextOrder_110 (by decide) ?_
  refine lv_iload_n hx hb dX5_nextOrder_91 rfl (lv_at hl 1 rfl) ?_
  refine lv_iload hx hb dX5_nextOrder_92 (lv_at hl 0 rfl) ?_
  refine lv_icmp_ge hx hb (tgt := 113) dX5_nextOrder_94 (by decide) (fun c_x => ?_) (fun c_x => absurd (by decide) c_x)
  refine lv_iconst (v := 1) hx hb dX5_nextOrder_113 (by decide) ?_
  have hw := hw.arr 40 (f := (up2 (up2 (up2 (up2 σ 40 1 1) 40 3 0) 40 2 0) 40 3 3) 40) (g := permRow 4 14) rfl (row4 (((up2_rp (by decide)).trans ((up2_rp (by decide)).trans ((up2_rp (by decide)).trans (up2_rp (by decide))))).trans (ht0)) ((up2_rp (by decide)).trans ((up2_rp (by decide)).trans ((up2_rp (by decide)).trans (up2_rs)))) ((up2_rp (by decide)).trans (up2_rs)) (up2_rs)) (wX_r40 _ _ _ _ _ _ _)
  simp only [row_up2] at hw
  exact g_zret S hr hlk hw (by decide) (by simp only [XP_nextOrder_4_13_r]) (by simp only [XP_nextOrder_4_13_s]) dX5_nextOrder_114
def XP_nextOrder_4_14_r (κ : Nat → Nat) (σ : Nat → Nat → Int32) : Int32 := 1
def XP_nextOrder_4_14_s (κ : Nat → Nat) (σ : Nat → Nat → Int32) : Nat → Nat → Int32 := row σ 40 (permRow 4 15)
theorem XP_nextOrder_4_14_z (κ : Nat → Nat) (σ : Nat → Nat → Int32) : XP_nextOrder_4_14_r κ σ = 0 ∨ XP_nextOrder_4_14_r κ σ = 1 := by
  unfold XP_nextOrder_4_14_r
  exact Or.inr rfl

set_option maxHeartbeats 4000000 in
set_option maxRecDepth 100000 in
theorem c_XP_nextOrder_4_14 (l : Launch) (D : va_G) (cI cC cI2 : ClassId) (a : Nat → Nat) (κ : Nat → Nat) (σ : Nat → Nat → Int32) (hp0 : σ 37 4 = nI 4) (ht0 : σ 40 0 = nI 2) (ht1 : σ 40 1 = nI 1) (ht2 : σ 40 2 = nI 0) (ht3 : σ 40 3 = nI 3) : gI l D (tysX cI cC cI2) yX5_nextOrder wsX5_nextOrder 2 [.ref (a 37)] (wX cI cC cI2 a κ σ) (XP_nextOrder_4_14_r κ σ) (wX cI cC cI2 a κ (XP_nextOrder_4_14_s κ σ)) := by
  refine g_start (cc := cX5_nextOrder) (maxL := 5) (ret := some .boolean) (Qc := gQi D (tysX cI cC cI2) (XP_nextOrder_4_14_r κ σ) (wX cI cC cI2 a κ (XP_nextOrder_4_14_s κ σ))) (by decide) rfl (Nat.le_of_ble_eq_true rfl) ?_
  intro p e s m below meth C A ls S hr hlk hw hl
  obtain ⟨hx, hb, hml, hown, hts⟩ := id S
  have hinX5 : ∀ x ∈ u_ws RX5 TX5 6, x ∈ wsX5_nextOrder := fun x h => List.mem_cons_of_mem _ (List.mem_append_right _ h)
  have lk0 : Cond.fieldLink RX5 24 "CowsOwed$Plans" "size" "I" ∈ wsX5_nextOrder := by decide +kernel
  have lk1 : Cond.fieldLink RX5 18 "CowsOwed$Plans" "tried" "[I" ∈ wsX5_nextOrder := by decide +kernel
  have hl : lv_has ls 5 [(0, .ref (a 37))] := hl
  refine lv_aload_n hx hb dX5_nextOrder_0 rfl (lv_at hl 0 rfl) ?_
  refine g_get S hw hinX5 (fs := fX37 a σ) 37 rfl rfl 4 (by decide) lk0 (v := .int 4) (congrArg (fun z => some (Value.int z)) (hp0)) dX5_nextOrder_1 ?_
  refine lv_iconst (v := 2) hx hb dX5_nextOrder_4 (by decide) ?_
  refine lv_isub hx hb dX5_nextOrder_5 ?_
  refine lv_topi (fun zz ez => ?_)
  have ez : zz = 2 := ez.trans (by decide)
  subst ez
  refine lv_istore_n (lv' := [(1, .int 2), (0, .ref (a 37))]) hx hb dX5_nextOrder_6 rfl hl (by decide) rfl (fun ls hl => ?_)
  refine lv_iload_n hx hb dX5_nextOrder_7 rfl (lv_at hl 0 rfl) ?_
  refine lv_if_lt hx hb (tgt := 34) dX5_nextOrder_8 (by decide) (fun c_x => absurd c_x (by decide)) (fun c_x => ?_)
  refine lv_aload_n hx hb dX5_nextOrder_11 rfl (lv_at hl 1 rfl) ?_
  refine g_get S hw hinX5 (fs := fX37 a σ) 37 rfl rfl 2 (by decide) lk1 (v := .ref (a 40)) rfl dX5_nextOrder_12 ?_
  refine lv_iload_n hx hb dX5_nextOrder_15 rfl (lv_at hl 0 rfl) ?_
  refine g_iald S hw (f := σ 40) (i := 2) (x := 0) 40 0 rfl rfl (by omega) (by decide) ht2 dX5_nextOrder_16 ?_
  refine lv_aload_n hx hb dX5_nextOrder_17 rfl (lv_at hl 1 rfl) ?_
  refine g_get S hw hinX5 (fs := fX37 a σ) 37 rfl rfl 2 (by decide) lk1 (v := .ref (a 40)) rfl dX5_nextOrder_18 ?_
  refine lv_iload_n hx hb dX5_nextOrder_21 rfl (lv_at hl 0 rfl) ?_
  refine lv_iconst (v := 1) hx hb dX5_nextOrder_22 (by decide) ?_
  refine lv_iadd hx hb dX5_nextOrder_23 ?_
  refine lv_topi (fun zz ez => ?_)
  have ez : zz = 3 := ez.trans (by decide)
  subst ez
  refine g_iald S hw (f := σ 40) (i := 3) (x := 3) 40 0 rfl rfl (by omega) (by decide) ht3 dX5_nextOrder_24 ?_
  refine lv_icmp_le hx hb (tgt := 34) dX5_nextOrder_25 (by decide) (fun c_x => ?_) (fun c_x => absurd (by decide) c_x)
  refine lv_iload_n hx hb dX5_nextOrder_34 rfl (lv_at hl 0 rfl) ?_
  refine lv_if_ge hx hb (tgt := 40) dX5_nextOrder_35 (by decide) (fun c_x => ?_) (fun c_x => absurd (by decide) c_x)
  refine lv_aload_n hx hb dX5_nextOrder_40 rfl (lv_at hl 1 rfl) ?_
  refine g_get S hw hinX5 (fs := fX37 a σ) 37 rfl rfl 4 (by decide) lk0 (v := .int 4) (congrArg (fun z => some (Value.int z)) (hp0)) dX5_nextOrder_41 ?_
  refine lv_iconst (v := 1) hx hb dX5_nextOrder_44 (by decide) ?_
  refine lv_isub hx hb dX5_nextOrder_45 ?_
  refine lv_topi (fun zz ez => ?_)
  have ez : zz = 3 := ez.trans (by decide)
  subst ez
  refine lv_istore_n (lv' := [(2, .int 3), (1, .int 2), (0, .ref (a 37))]) hx hb dX5_nextOrder_46 rfl hl (by decide) rfl (fun ls hl => ?_)
  refine lv_iload_n hx hb dX5_nextOrder_47 rfl (lv_at hl 0 rfl) ?_
  refine lv_iload_n hx hb dX5_nextOrder_48 rfl (lv_at hl 1 rfl) ?_
  refine lv_icmp_le hx hb (tgt := 73) dX5_nextOrder_49 (by decide) (fun c_x => absurd c_x (by decide)) (fun c_x => ?_)
  refine lv_aload_n hx hb dX5_nextOrder_52 rfl (lv_at hl 2 rfl) ?_
  refine g_get S hw hinX5 (fs := fX37 a σ) 37 rfl rfl 2 (by decide) lk1 (v := .ref (a 40)) rfl dX5_nextOrder_53 ?_
  refine lv_iload_n hx hb dX5_nextOrder_56 rfl (lv_at hl 0 rfl) ?_
  refine g_iald S hw (f := σ 40) (i := 3) (x := 3) 40 0 rfl rfl (by omega) (by decide) ht3 dX5_nextOrder_57 ?_
  refine lv_aload_n hx hb dX5_nextOrder_58 rfl (lv_at hl 2 rfl) ?_
  refine g_get S hw hinX5 (fs := fX37 a σ) 37 rfl rfl 2 (by decide) lk1 (v := .ref (a 40)) rfl dX5_nextOrder_59 ?_
  refine lv_iload_n hx hb dX5_nextOrder_62 rfl (lv_at hl 1 rfl) ?_
  refine g_iald S hw (f := σ 40) (i := 2) (x := 0) 40 0 rfl rfl (by omega) (by decide) ht2 dX5_nextOrder_63 ?_
  refine lv_icmp_ge hx hb (tgt := 73) dX5_nextOrder_64 (by decide) (fun c_x => ?_) (fun c_x => absurd (by decide) c_x)
  refine lv_aload_n hx hb dX5_nextOrder_73 rfl (lv_at hl 2 rfl) ?_
  refine lv_iload_n hx hb dX5_nextOrder_74 rfl (lv_at hl 1 rfl) ?_
  refine lv_iload_n hx hb dX5_nextOrder_75 rfl (lv_at hl 0 rfl) ?_
  refine g_callVv S hw (c_XP_swapTried l D cI cC cI2 a κ σ 2 3 (by decide) (by decide)) gX5_nextOrder_X5_swapTried rfl 37 rfl rfl 2 rfl (by decide +kernel) (by decide) (by decide) hl.1 rfl (Nat.le_of_ble_eq_true rfl) dX5_nextOrder_76 (fun H locs hw => ?_)
  have ew : XP_swapTried_s κ σ 2 3 = up2 (up2 σ 40 2 3) 40 3 0 := by
    unfold XP_swapTried_s
    rw [show σ 40 3 = 3 from ht3, show σ 40 2 = 0 from ht2]
  rw [ew] at hw
  refine lv_iload_n hx hb dX5_nextOrder_79 rfl (lv_at hl 1 rfl) ?_
  refine lv_iconst (v := 1) hx hb dX5_nextOrder_80 (by decide) ?_
  refine lv_iadd hx hb dX5_nextOrder_81 ?_
  refine lv_topi (fun zz ez => ?_)
  have ez : zz = 3 := ez.trans (by decide)
  subst ez
  refine lv_istore_n (lv' := [(3, .int 3), (2, .int 3), (1, .int 2), (0, .ref (a 37))]) hx hb dX5_nextOrder_82 rfl hl (by decide) rfl (fun ls hl => ?_)
  refine lv_aload_n hx hb dX5_nextOrder_83 rfl (lv_at hl 3 rfl) ?_
  refine g_get S hw hinX5 (fs := fX37 a (up2 (up2 σ 40 2 3) 40 3 0)) 37 rfl rfl 4 (by decide) lk0 (v := .int 4) (congrArg (fun z => some (Value.int z)) (((up2_rn (by omega)).trans (up2_rn (by omega))).trans (hp0))) dX5_nextOrder_84 ?_
  refine lv_iconst (v := 1) hx hb dX5_nextOrder_87 (by decide) ?_
  refine lv_isub hx hb dX5_nextOrder_88 ?_
  refine lv_topi (fun zz ez => ?_)
  have ez : zz = 3 := ez.trans (by decide)
  subst ez
  refine lv_istore (lv' := [(4, .int 3), (3, .int 3), (2, .int 3), (1, .int 2), (0, .ref (a 37))]) hx hb dX5_nextOrder_89 hl (by decide) rfl (fun ls hl => ?_)
  refine lv_iload_n hx hb dX5_nextOrder_91 rfl (lv_at hl 1 rfl) ?_
  refine lv_iload hx hb dX5_nextOrder_92 (lv_at hl 0 rfl) ?_
  refine lv_icmp_ge hx hb (tgt := 113) dX5_nextOrder_94 (by decide) (fun c_x => ?_) (fun c_x => absurd (by decide) c_x)
  refine lv_iconst (v := 1) hx hb dX5_nextOrder_113 (by decide) ?_
  have hw := hw.arr 40 (f := (up2 (up2 σ 40 2 3) 40 3 0) 40) (g := permRow 4 15) rfl (row4 (((up2_rp (by decide)).trans (up2_rp (by decide))).trans (ht0)) (((up2_rp (by decide)).trans (up2_rp (by decide))).trans (ht1)) ((up2_rp (by decide)).trans (up2_rs)) (up2_rs)) (wX_r40 _ _ _ _ _ _ _)
  simp only [row_up2] at hw
  exact g_zret S hr hlk hw (by decide) (by simp only [XP_nextOrder_4_14_r]) (by simp only [XP_nextOrder_4_14_s]) dX5_nextOrder_114
def XP_nextOrder_4_15_r (κ : Nat → Nat) (σ : Nat → Nat → Int32) : Int32 := 1
def XP_nextOrder_4_15_s (κ : Nat → Nat) (σ : Nat → Nat → Int32) : Nat → Nat → Int32 := row σ 40 (permRow 4 16)
theorem XP_nextOrder_4_15_z (κ : Nat → Nat) (σ : Nat → Nat → Int32) : XP_nextOrder_4_15_r κ σ = 0 ∨ XP_nextOrder_4_15_r κ σ = 1 := by
  unfold XP_nextOrder_4_15_r
  exact Or.inr rfl

set_option maxHeartbeats 4000000 in
set_option maxRecDepth 100000 in
theorem c_XP_nextOrder_4_15 (l : Launch) (D : va_G) (cI cC cI2 : ClassId) (a : Nat → Nat) (κ : Nat → Nat) (σ : Nat → Nat → Int32) (hp0 : σ 37 4 = nI 4) (ht0 : σ 40 0 = nI 2) (ht1 : σ 40 1 = nI 1) (ht2 : σ 40 2 = nI 3) (ht3 : σ 40 3 = nI 0) : gI l D (tysX cI cC cI2) yX5_nextOrder wsX5_nextOrder 2 [.ref (a 37)] (wX cI cC cI2 a κ σ) (XP_nextOrder_4_15_r κ σ) (wX cI cC cI2 a κ (XP_nextOrder_4_15_s κ σ)) := by
  refine g_start (cc := cX5_nextOrder) (maxL := 5) (ret := some .boolean) (Qc := gQi D (tysX cI cC cI2) (XP_nextOrder_4_15_r κ σ) (wX cI cC cI2 a κ (XP_nextOrder_4_15_s κ σ))) (by decide) rfl (Nat.le_of_ble_eq_true rfl) ?_
  intro p e s m below meth C A ls S hr hlk hw hl
  obtain ⟨hx, hb, hml, hown, hts⟩ := id S
  have hinX5 : ∀ x ∈ u_ws RX5 TX5 6, x ∈ wsX5_nextOrder := fun x h => List.mem_cons_of_mem _ (List.mem_append_right _ h)
  have lk0 : Cond.fieldLink RX5 24 "CowsOwed$Plans" "size" "I" ∈ wsX5_nextOrder := by decide +kernel
  have lk1 : Cond.fieldLink RX5 18 "CowsOwed$Plans" "tried" "[I" ∈ wsX5_nextOrder := by decide +kernel
  have hl : lv_has ls 5 [(0, .ref (a 37))] := hl
  refine lv_aload_n hx hb dX5_nextOrder_0 rfl (lv_at hl 0 rfl) ?_
  refine g_get S hw hinX5 (fs := fX37 a σ) 37 rfl rfl 4 (by decide) lk0 (v := .int 4) (congrArg (fun z => some (Value.int z)) (hp0)) dX5_nextOrder_1 ?_
  refine lv_iconst (v := 2) hx hb dX5_nextOrder_4 (by decide) ?_
  refine lv_isub hx hb dX5_nextOrder_5 ?_
  refine lv_topi (fun zz ez => ?_)
  have ez : zz = 2 := ez.trans (by decide)
  subst ez
  refine lv_istore_n (lv' := [(1, .int 2), (0, .ref (a 37))]) hx hb dX5_nextOrder_6 rfl hl (by decide) rfl (fun ls hl => ?_)
  refine lv_iload_n hx hb dX5_nextOrder_7 rfl (lv_at hl 0 rfl) ?_
  refine lv_if_lt hx hb (tgt := 34) dX5_nextOrder_8 (by decide) (fun c_x => absurd c_x (by decide)) (fun c_x => ?_)
  refine lv_aload_n hx hb dX5_nextOrder_11 rfl (lv_at hl 1 rfl) ?_
  refine g_get S hw hinX5 (fs := fX37 a σ) 37 rfl rfl 2 (by decide) lk1 (v := .ref (a 40)) rfl dX5_nextOrder_12 ?_
  refine lv_iload_n hx hb dX5_nextOrder_15 rfl (lv_at hl 0 rfl) ?_
  refine g_iald S hw (f := σ 40) (i := 2) (x := 3) 40 0 rfl rfl (by omega) (by decide) ht2 dX5_nextOrder_16 ?_
  refine lv_aload_n hx hb dX5_nextOrder_17 rfl (lv_at hl 1 rfl) ?_
  refine g_get S hw hinX5 (fs := fX37 a σ) 37 rfl rfl 2 (by decide) lk1 (v := .ref (a 40)) rfl dX5_nextOrder_18 ?_
  refine lv_iload_n hx hb dX5_nextOrder_21 rfl (lv_at hl 0 rfl) ?_
  refine lv_iconst (v := 1) hx hb dX5_nextOrder_22 (by decide) ?_
  refine lv_iadd hx hb dX5_nextOrder_23 ?_
  refine lv_topi (fun zz ez => ?_)
  have ez : zz = 3 := ez.trans (by decide)
  subst ez
  refine g_iald S hw (f := σ 40) (i := 3) (x := 0) 40 0 rfl rfl (by omega) (by decide) ht3 dX5_nextOrder_24 ?_
  refine lv_icmp_le hx hb (tgt := 34) dX5_nextOrder_25 (by decide) (fun c_x => absurd c_x (by decide)) (fun c_x => ?_)
  refine lv_iinc (v := 1) (lv' := [(1, .int 1), (0, .ref (a 37))]) hx hb dX5_nextOrder_28 hl (k := 0) rfl (by decide) (by decide) rfl (fun ls hl => ?_)
  refine lv_goto (tgt := 7) hx hb dX5_nextOrder_31 (by decide) ?_
  refine lv_iload_n hx hb dX5_nextOrder_7 rfl (lv_at hl 0 rfl) ?_
  refine lv_if_lt hx hb (tgt := 34) dX5_nextOrder_8 (by decide) (fun c_x => absurd c_x (by decide)) (fun c_x => ?_)
  refine lv_aload_n hx hb dX5_nextOrder_11 rfl (lv_at hl 1 rfl) ?_
  refine g_get S hw hinX5 (fs := fX37 a σ) 37 rfl rfl 2 (by decide) lk1 (v := .ref (a 40)) rfl dX5_nextOrder_12 ?_
  refine lv_iload_n hx hb dX5_nextOrder_15 rfl (lv_at hl 0 rfl) ?_
  refine g_iald S hw (f := σ 40) (i := 1) (x := 1) 40 0 rfl rfl (by omega) (by decide) ht1 dX5_nextOrder_16 ?_
  refine lv_aload_n hx hb dX5_nextOrder_17 rfl (lv_at hl 1 rfl) ?_
  refine g_get S hw hinX5 (fs := fX37 a σ) 37 rfl rfl 2 (by decide) lk1 (v := .ref (a 40)) rfl dX5_nextOrder_18 ?_
  refine lv_iload_n hx hb dX5_nextOrder_21 rfl (lv_at hl 0 rfl) ?_
  refine lv_iconst (v := 1) hx hb dX5_nextOrder_22 (by decide) ?_
  refine lv_iadd hx hb dX5_nextOrder_23 ?_
  refine lv_topi (fun zz ez => ?_)
  have ez : zz = 2 := ez.trans (by decide)
  subst ez
  refine g_iald S hw (f := σ 40) (i := 2) (x := 3) 40 0 rfl rfl (by omega) (by decide) ht2 dX5_nextOrder_24 ?_
  refine lv_icmp_le hx hb (tgt := 34) dX5_nextOrder_25 (by decide) (fun c_x => ?_) (fun c_x => absurd (by decide) c_x)
  refine lv_iload_n hx hb dX5_nextOrder_34 rfl (lv_at hl 0 rfl) ?_
  refine lv_if_ge hx hb (tgt := 40) dX5_nextOrder_35 (by decide) (fun c_x => ?_) (fun c_x => absurd (by decide) c_x)
  refine lv_aload_n hx hb dX5_nextOrder_40 rfl (lv_at hl 1 rfl) ?_
  refine g_get S hw hinX5 (fs := fX37 a σ) 37 rfl rfl 4 (by decide) lk0 (v := .int 4) (congrArg (fun z => some (Value.int z)) (hp0)) dX5_nextOrder_41 ?_
  refine lv_iconst (v := 1) hx hb dX5_nextOrder_44 (by decide) ?_
  refine lv_isub hx hb dX5_nextOrder_45 ?_
  refine lv_topi (fun zz ez => ?_)
  have ez : zz = 3 := ez.trans (by decide)
  subst ez
  refine lv_istore_n (lv' := [(2, .int 3), (1, .int 1), (0, .ref (a 37))]) hx hb dX5_nextOrder_46 rfl hl (by decide) rfl (fun ls hl => ?_)
  refine lv_iload_n hx hb dX5_nextOrder_47 rfl (lv_at hl 0 rfl) ?_
  refine lv_iload_n hx hb dX5_nextOrder_48 rfl (lv_at hl 1 rfl) ?_
  refine lv_icmp_le hx hb (tgt := 73) dX5_nextOrder_49 (by decide) (fun c_x => absurd c_x (by decide)) (fun c_x => ?_)
  refine lv_aload_n hx hb dX5_nextOrder_52 rfl (lv_at hl 2 rfl) ?_
  refine g_get S hw hinX5 (fs := fX37 a σ) 37 rfl rfl 2 (by decide) lk1 (v := .ref (a 40)) rfl dX5_nextOrder_53 ?_
  refine lv_iload_n hx hb dX5_nextOrder_56 rfl (lv_at hl 0 rfl) ?_
  refine g_iald S hw (f := σ 40) (i := 3) (x := 0) 40 0 rfl rfl (by omega) (by decide) ht3 dX5_nextOrder_57 ?_
  refine lv_aload_n hx hb dX5_nextOrder_58 rfl (lv_at hl 2 rfl) ?_
  refine g_get S hw hinX5 (fs := fX37 a σ) 37 rfl rfl 2 (by decide) lk1 (v := .ref (a 40)) rfl dX5_nextOrder_59 ?_
  refine lv_iload_n hx hb dX5_nextOrder_62 rfl (lv_at hl 1 rfl) ?_
  refine g_iald S hw (f := σ 40) (i := 1) (x := 1) 40 0 rfl rfl (by omega) (by decide) ht1 dX5_nextOrder_63 ?_
  refine lv_icmp_ge hx hb (tgt := 73) dX5_nextOrder_64 (by decide) (fun c_x => absurd c_x (by decide)) (fun c_x => ?_)
  refine lv_iinc (v := 2) (lv' := [(2, .int 2), (1, .int 1), (0, .ref (a 37))]) hx hb dX5_nextOrder_67 hl (k := 0) rfl (by decide) (by decide) rfl (fun ls hl => ?_)
  refine lv_goto (tgt := 47) hx hb dX5_nextOrder_70 (by decide) ?_
  refine lv_iload_n hx hb dX5_nextOrder_47 rfl (lv_at hl 0 rfl) ?_
  refine lv_iload_n hx hb dX5_nextOrder_48 rfl (lv_at hl 1 rfl) ?_
  refine lv_icmp_le hx hb (tgt := 73) dX5_nextOrder_49 (by decide) (fun c_x => absurd c_x (by decide)) (fun c_x => ?_)
  refine lv_aload_n hx hb dX5_nextOrder_52 rfl (lv_at hl 2 rfl) ?_
  refine g_get S hw hinX5 (fs := fX37 a σ) 37 rfl rfl 2 (by decide) lk1 (v := .ref (a 40)) rfl dX5_nextOrder_53 ?_
  refine lv_iload_n hx hb dX5_nextOrder_56 rfl (lv_at hl 0 rfl) ?_
  refine g_iald S hw (f := σ 40) (i := 2) (x := 3) 40 0 rfl rfl (by omega) (by decide) ht2 dX5_nextOrder_57 ?_
  refine lv_aload_n hx hb dX5_nextOrder_58 rfl (lv_at hl 2 rfl) ?_
  refine g_get S hw hinX5 (fs := fX37 a σ) 37 rfl rfl 2 (by decide) lk1 (v := .ref (a 40)) rfl dX5_nextOrder_59 ?_
  refine lv_iload_n hx hb dX5_nextOrder_62 rfl (lv_at hl 1 rfl) ?_
  refine g_iald S hw (f := σ 40) (i := 1) (x := 1) 40 0 rfl rfl (by omega) (by decide) ht1 dX5_nextOrder_63 ?_
  refine lv_icmp_ge hx hb (tgt := 73) dX5_nextOrder_64 (by decide) (fun c_x => ?_) (fun c_x => absurd (by decide) c_x)
  refine lv_aload_n hx hb dX5_nextOrder_73 rfl (lv_at hl 2 rfl) ?_
  refine lv_iload_n hx hb dX5_nextOrder_74 rfl (lv_at hl 1 rfl) ?_
  refine lv_iload_n hx hb dX5_nextOrder_75 rfl (lv_at hl 0 rfl) ?_
  refine g_callVv S hw (c_XP_swapTried l D cI cC cI2 a κ σ 1 2 (by decide) (by decide)) gX5_nextOrder_X5_swapTried rfl 37 rfl rfl 2 rfl (by decide +kernel) (by decide) (by decide) hl.1 rfl (Nat.le_of_ble_eq_true rfl) dX5_nextOrder_76 (fun H locs hw => ?_)
  have ew : XP_swapTried_s κ σ 1 2 = up2 (up2 σ 40 1 3) 40 2 1 := by
    unfold XP_swapTried_s
    rw [show σ 40 2 = 3 from ht2, show σ 40 1 = 1 from ht1]
  rw [ew] at hw
  refine lv_iload_n hx hb dX5_nextOrder_79 rfl (lv_at hl 1 rfl) ?_
  refine lv_iconst (v := 1) hx hb dX5_nextOrder_80 (by decide) ?_
  refine lv_iadd hx hb dX5_nextOrder_81 ?_
  refine lv_topi (fun zz ez => ?_)
  have ez : zz = 2 := ez.trans (by decide)
  subst ez
  refine lv_istore_n (lv' := [(3, .int 2), (2, .int 2), (1, .int 1), (0, .ref (a 37))]) hx hb dX5_nextOrder_82 rfl hl (by decide) rfl (fun ls hl => ?_)
  refine lv_aload_n hx hb dX5_nextOrder_83 rfl (lv_at hl 3 rfl) ?_
  refine g_get S hw hinX5 (fs := fX37 a (up2 (up2 σ 40 1 3) 40 2 1)) 37 rfl rfl 4 (by decide) lk0 (v := .int 4) (congrArg (fun z => some (Value.int z)) (((up2_rn (by omega)).trans (up2_rn (by omega))).trans (hp0))) dX5_nextOrder_84 ?_
  refine lv_iconst (v := 1) hx hb dX5_nextOrder_87 (by decide) ?_
  refine lv_isub hx hb dX5_nextOrder_88 ?_
  refine lv_topi (fun zz ez => ?_)
  have ez : zz = 3 := ez.trans (by decide)
  subst ez
  refine lv_istore (lv' := [(4, .int 3), (3, .int 2), (2, .int 2), (1, .int 1), (0, .ref (a 37))]) hx hb dX5_nextOrder_89 hl (by decide) rfl (fun ls hl => ?_)
  refine lv_iload_n hx hb dX5_nextOrder_91 rfl (lv_at hl 1 rfl) ?_
  refine lv_iload hx hb dX5_nextOrder_92 (lv_at hl 0 rfl) ?_
  refine lv_icmp_ge hx hb (tgt := 113) dX5_nextOrder_94 (by decide) (fun c_x => absurd c_x (by decide)) (fun c_x => ?_)
  refine lv_aload_n hx hb dX5_nextOrder_97 rfl (lv_at hl 4 rfl) ?_
  refine lv_iload_n hx hb dX5_nextOrder_98 rfl (lv_at hl 1 rfl) ?_
  refine lv_iload hx hb dX5_nextOrder_99 (lv_at hl 0 rfl) ?_
  refine g_callVv S hw (c_XP_swapTried l D cI cC cI2 a κ (up2 (up2 σ 40 1 3) 40 2 1) 2 3 (by decide) (by decide)) gX5_nextOrder_X5_swapTried rfl 37 rfl rfl 2 rfl (by decide +kernel) (by decide) (by decide) hl.1 rfl (Nat.le_of_ble_eq_true rfl) dX5_nextOrder_101 (fun H locs hw => ?_)
  have ew : XP_swapTried_s κ (up2 (up2 σ 40 1 3) 40 2 1) 2 3 = up2 (up2 (up2 (up2 σ 40 1 3) 40 2 1) 40 2 0) 40 3 1 := by
    unfold XP_swapTried_s
    rw [show (up2 (up2 σ 40 1 3) 40 2 1) 40 3 = 0 from ((up2_rp (by decide)).trans (up2_rp (by decide))).trans (ht3), show (up2 (up2 σ 40 1 3) 40 2 1) 40 2 = 1 from up2_rs]
  rw [ew] at hw
  refine lv_iinc (v := 3) (lv' := [(3, .int 3), (4, .int 3), (2, .int 2), (1, .int 1), (0, .ref (a 37))]) hx hb dX5_nextOrder_104 hl (k := 1) rfl (by decide) (by decide) rfl (fun ls hl => ?_)
  refine lv_iinc (v := 2) (lv' := [(4, .int 2), (3, .int 3), (2, .int 2), (1, .int 1), (0, .ref (a 37))]) hx hb dX5_nextOrder_107 hl (k := 1) rfl (by decide) (by decide) rfl (fun ls hl => ?_)
  refine lv_goto (tgt := 91) hx hb dX5_nextOrder_110 (by decide) ?_
  refine lv_iload_n hx hb dX5_nextOrder_91 rfl (lv_at hl 1 rfl) ?_
  refine lv_iload hx hb dX5_nextOrder_92 (lv_at hl 0 rfl) ?_
  refine lv_icmp_ge hx hb (tgt := 113) dX5_nextOrder_94 (by decide) (fun c_x => ?_) (fun c_x => absurd (by decide) c_x)
  refine lv_iconst (v := 1) hx hb dX5_nextOrder_113 (by decide) ?_
  have hw := hw.arr 40 (f := (up2 (up2 (up2 (up2 σ 40 1 3) 40 2 1) 40 2 0) 40 3 1) 40) (g := permRow 4 16) rfl (row4 (((up2_rp (by decide)).trans ((up2_rp (by decide)).trans ((up2_rp (by decide)).trans (up2_rp (by decide))))).trans (ht0)) ((up2_rp (by decide)).trans ((up2_rp (by decide)).trans ((up2_rp (by decide)).trans (up2_rs)))) ((up2_rp (by decide)).trans (up2_rs)) (up2_rs)) (wX_r40 _ _ _ _ _ _ _)
  simp only [row_up2] at hw
  exact g_zret S hr hlk hw (by decide) (by simp only [XP_nextOrder_4_15_r]) (by simp only [XP_nextOrder_4_15_s]) dX5_nextOrder_114
def XP_nextOrder_4_16_r (κ : Nat → Nat) (σ : Nat → Nat → Int32) : Int32 := 1
def XP_nextOrder_4_16_s (κ : Nat → Nat) (σ : Nat → Nat → Int32) : Nat → Nat → Int32 := row σ 40 (permRow 4 17)
theorem XP_nextOrder_4_16_z (κ : Nat → Nat) (σ : Nat → Nat → Int32) : XP_nextOrder_4_16_r κ σ = 0 ∨ XP_nextOrder_4_16_r κ σ = 1 := by
  unfold XP_nextOrder_4_16_r
  exact Or.inr rfl

set_option maxHeartbeats 4000000 in
set_option maxRecDepth 100000 in
theorem c_XP_nextOrder_4_16 (l : Launch) (D : va_G) (cI cC cI2 : ClassId) (a : Nat → Nat) (κ : Nat → Nat) (σ : Nat → Nat → Int32) (hp0 : σ 37 4 = nI 4) (ht0 : σ 40 0 = nI 2) (ht1 : σ 40 1 = nI 3) (ht2 : σ 40 2 = nI 0) (ht3 : σ 40 3 = nI 1) : gI l D (tysX cI cC cI2) yX5_nextOrder wsX5_nextOrder 2 [.ref (a 37)] (wX cI cC cI2 a κ σ) (XP_nextOrder_4_16_r κ σ) (wX cI cC cI2 a κ (XP_nextOrder_4_16_s κ σ)) := by
  refine g_start (cc := cX5_nextOrder) (maxL := 5) (ret := some .boolean) (Qc := gQi D (tysX cI cC cI2) (XP_nextOrder_4_16_r κ σ) (wX cI cC cI2 a κ (XP_nextOrder_4_16_s κ σ))) (by decide) rfl (Nat.le_of_ble_eq_true rfl) ?_
  intro p e s m below meth C A ls S hr hlk hw hl
  obtain ⟨hx, hb, hml, hown, hts⟩ := id S
  have hinX5 : ∀ x ∈ u_ws RX5 TX5 6, x ∈ wsX5_nextOrder := fun x h => List.mem_cons_of_mem _ (List.mem_append_right _ h)
  have lk0 : Cond.fieldLink RX5 24 "CowsOwed$Plans" "size" "I" ∈ wsX5_nextOrder := by decide +kernel
  have lk1 : Cond.fieldLink RX5 18 "CowsOwed$Plans" "tried" "[I" ∈ wsX5_nextOrder := by decide +kernel
  have hl : lv_has ls 5 [(0, .ref (a 37))] := hl
  refine lv_aload_n hx hb dX5_nextOrder_0 rfl (lv_at hl 0 rfl) ?_
  refine g_get S hw hinX5 (fs := fX37 a σ) 37 rfl rfl 4 (by decide) lk0 (v := .int 4) (congrArg (fun z => some (Value.int z)) (hp0)) dX5_nextOrder_1 ?_
  refine lv_iconst (v := 2) hx hb dX5_nextOrder_4 (by decide) ?_
  refine lv_isub hx hb dX5_nextOrder_5 ?_
  refine lv_topi (fun zz ez => ?_)
  have ez : zz = 2 := ez.trans (by decide)
  subst ez
  refine lv_istore_n (lv' := [(1, .int 2), (0, .ref (a 37))]) hx hb dX5_nextOrder_6 rfl hl (by decide) rfl (fun ls hl => ?_)
  refine lv_iload_n hx hb dX5_nextOrder_7 rfl (lv_at hl 0 rfl) ?_
  refine lv_if_lt hx hb (tgt := 34) dX5_nextOrder_8 (by decide) (fun c_x => absurd c_x (by decide)) (fun c_x => ?_)
  refine lv_aload_n hx hb dX5_nextOrder_11 rfl (lv_at hl 1 rfl) ?_
  refine g_get S hw hinX5 (fs := fX37 a σ) 37 rfl rfl 2 (by decide) lk1 (v := .ref (a 40)) rfl dX5_nextOrder_12 ?_
  refine lv_iload_n hx hb dX5_nextOrder_15 rfl (lv_at hl 0 rfl) ?_
  refine g_iald S hw (f := σ 40) (i := 2) (x := 0) 40 0 rfl rfl (by omega) (by decide) ht2 dX5_nextOrder_16 ?_
  refine lv_aload_n hx hb dX5_nextOrder_17 rfl (lv_at hl 1 rfl) ?_
  refine g_get S hw hinX5 (fs := fX37 a σ) 37 rfl rfl 2 (by decide) lk1 (v := .ref (a 40)) rfl dX5_nextOrder_18 ?_
  refine lv_iload_n hx hb dX5_nextOrder_21 rfl (lv_at hl 0 rfl) ?_
  refine lv_iconst (v := 1) hx hb dX5_nextOrder_22 (by decide) ?_
  refine lv_iadd hx hb dX5_nextOrder_23 ?_
  refine lv_topi (fun zz ez => ?_)
  have ez : zz = 3 := ez.trans (by decide)
  subst ez
  refine g_iald S hw (f := σ 40) (i := 3) (x := 1) 40 0 rfl rfl (by omega) (by decide) ht3 dX5_nextOrder_24 ?_
  refine lv_icmp_le hx hb (tgt := 34) dX5_nextOrder_25 (by decide) (fun c_x => ?_) (fun c_x => absurd (by decide) c_x)
  refine lv_iload_n hx hb dX5_nextOrder_34 rfl (lv_at hl 0 rfl) ?_
  refine lv_if_ge hx hb (tgt := 40) dX5_nextOrder_35 (by decide) (fun c_x => ?_) (fun c_x => absurd (by decide) c_x)
  refine lv_aload_n hx hb dX5_nextOrder_40 rfl (lv_at hl 1 rfl) ?_
  refine g_get S hw hinX5 (fs := fX37 a σ) 37 rfl rfl 4 (by decide) lk0 (v := .int 4) (congrArg (fun z => some (Value.int z)) (hp0)) dX5_nextOrder_41 ?_
  refine lv_iconst (v := 1) hx hb dX5_nextOrder_44 (by decide) ?_
  refine lv_isub hx hb dX5_nextOrder_45 ?_
  refine lv_topi (fun zz ez => ?_)
  have ez : zz = 3 := ez.trans (by decide)
  subst ez
  refine lv_istore_n (lv' := [(2, .int 3), (1, .int 2), (0, .ref (a 37))]) hx hb dX5_nextOrder_46 rfl hl (by decide) rfl (fun ls hl => ?_)
  refine lv_iload_n hx hb dX5_nextOrder_47 rfl (lv_at hl 0 rfl) ?_
  refine lv_iload_n hx hb dX5_nextOrder_48 rfl (lv_at hl 1 rfl) ?_
  refine lv_icmp_le hx hb (tgt := 73) dX5_nextOrder_49 (by decide) (fun c_x => absurd c_x (by decide)) (fun c_x => ?_)
  refine lv_aload_n hx hb dX5_nextOrder_52 rfl (lv_at hl 2 rfl) ?_
  refine g_get S hw hinX5 (fs := fX37 a σ) 37 rfl rfl 2 (by decide) lk1 (v := .ref (a 40)) rfl dX5_nextOrder_53 ?_
  refine lv_iload_n hx hb dX5_nextOrder_56 rfl (lv_at hl 0 rfl) ?_
  refine g_iald S hw (f := σ 40) (i := 3) (x := 1) 40 0 rfl rfl (by omega) (by decide) ht3 dX5_nextOrder_57 ?_
  refine lv_aload_n hx hb dX5_nextOrder_58 rfl (lv_at hl 2 rfl) ?_
  refine g_get S hw hinX5 (fs := fX37 a σ) 37 rfl rfl 2 (by decide) lk1 (v := .ref (a 40)) rfl dX5_nextOrder_59 ?_
  refine lv_iload_n hx hb dX5_nextOrder_62 rfl (lv_at hl 1 rfl) ?_
  refine g_iald S hw (f := σ 40) (i := 2) (x := 0) 40 0 rfl rfl (by omega) (by decide) ht2 dX5_nextOrder_63 ?_
  refine lv_icmp_ge hx hb (tgt := 73) dX5_nextOrder_64 (by decide) (fun c_x => ?_) (fun c_x => absurd (by decide) c_x)
  refine lv_aload_n hx hb dX5_nextOrder_73 rfl (lv_at hl 2 rfl) ?_
  refine lv_iload_n hx hb dX5_nextOrder_74 rfl (lv_at hl 1 rfl) ?_
  refine lv_iload_n hx hb dX5_nextOrder_75 rfl (lv_at hl 0 rfl) ?_
  refine g_callVv S hw (c_XP_swapTried l D cI cC cI2 a κ σ 2 3 (by decide) (by decide)) gX5_nextOrder_X5_swapTried rfl 37 rfl rfl 2 rfl (by decide +kernel) (by decide) (by decide) hl.1 rfl (Nat.le_of_ble_eq_true rfl) dX5_nextOrder_76 (fun H locs hw => ?_)
  have ew : XP_swapTried_s κ σ 2 3 = up2 (up2 σ 40 2 1) 40 3 0 := by
    unfold XP_swapTried_s
    rw [show σ 40 3 = 1 from ht3, show σ 40 2 = 0 from ht2]
  rw [ew] at hw
  refine lv_iload_n hx hb dX5_nextOrder_79 rfl (lv_at hl 1 rfl) ?_
  refine lv_iconst (v := 1) hx hb dX5_nextOrder_80 (by decide) ?_
  refine lv_iadd hx hb dX5_nextOrder_81 ?_
  refine lv_topi (fun zz ez => ?_)
  have ez : zz = 3 := ez.trans (by decide)
  subst ez
  refine lv_istore_n (lv' := [(3, .int 3), (2, .int 3), (1, .int 2), (0, .ref (a 37))]) hx hb dX5_nextOrder_82 rfl hl (by decide) rfl (fun ls hl => ?_)
  refine lv_aload_n hx hb dX5_nextOrder_83 rfl (lv_at hl 3 rfl) ?_
  refine g_get S hw hinX5 (fs := fX37 a (up2 (up2 σ 40 2 1) 40 3 0)) 37 rfl rfl 4 (by decide) lk0 (v := .int 4) (congrArg (fun z => some (Value.int z)) (((up2_rn (by omega)).trans (up2_rn (by omega))).trans (hp0))) dX5_nextOrder_84 ?_
  refine lv_iconst (v := 1) hx hb dX5_nextOrder_87 (by decide) ?_
  refine lv_isub hx hb dX5_nextOrder_88 ?_
  refine lv_topi (fun zz ez => ?_)
  have ez : zz = 3 := ez.trans (by decide)
  subst ez
  refine lv_istore (lv' := [(4, .int 3), (3, .int 3), (2, .int 3), (1, .int 2), (0, .ref (a 37))]) hx hb dX5_nextOrder_89 hl (by decide) rfl (fun ls hl => ?_)
  refine lv_iload_n hx hb dX5_nextOrder_91 rfl (lv_at hl 1 rfl) ?_
  refine lv_iload hx hb dX5_nextOrder_92 (lv_at hl 0 rfl) ?_
  refine lv_icmp_ge hx hb (tgt := 113) dX5_nextOrder_94 (by decide) (fun c_x => ?_) (fun c_x => absurd (by decide) c_x)
  refine lv_iconst (v := 1) hx hb dX5_nextOrder_113 (by decide) ?_
  have hw := hw.arr 40 (f := (up2 (up2 σ 40 2 1) 40 3 0) 40) (g := permRow 4 17) rfl (row4 (((up2_rp (by decide)).trans (up2_rp (by decide))).trans (ht0)) (((up2_rp (by decide)).trans (up2_rp (by decide))).trans (ht1)) ((up2_rp (by decide)).trans (up2_rs)) (up2_rs)) (wX_r40 _ _ _ _ _ _ _)
  simp only [row_up2] at hw
  exact g_zret S hr hlk hw (by decide) (by simp only [XP_nextOrder_4_16_r]) (by simp only [XP_nextOrder_4_16_s]) dX5_nextOrder_114
def XP_nextOrder_4_17_r (κ : Nat → Nat) (σ : Nat → Nat → Int32) : Int32 := 1
def XP_nextOrder_4_17_s (κ : Nat → Nat) (σ : Nat → Nat → Int32) : Nat → Nat → Int32 := row σ 40 (permRow 4 18)
theorem XP_nextOrder_4_17_z (κ : Nat → Nat) (σ : Nat → Nat → Int32) : XP_nextOrder_4_17_r κ σ = 0 ∨ XP_nextOrder_4_17_r κ σ = 1 := by
  unfold XP_nextOrder_4_17_r
  exact Or.inr rfl

set_option maxHeartbeats 4000000 in
set_option maxRecDepth 100000 in
theorem c_XP_nextOrder_4_17 (l : Launch) (D : va_G) (cI cC cI2 : ClassId) (a : Nat → Nat) (κ : Nat → Nat) (σ : Nat → Nat → Int32) (hp0 : σ 37 4 = nI 4) (ht0 : σ 40 0 = nI 2) (ht1 : σ 40 1 = nI 3) (ht2 : σ 40 2 = nI 1) (ht3 : σ 40 3 = nI 0) : gI l D (tysX cI cC cI2) yX5_nextOrder wsX5_nextOrder 2 [.ref (a 37)] (wX cI cC cI2 a κ σ) (XP_nextOrder_4_17_r κ σ) (wX cI cC cI2 a κ (XP_nextOrder_4_17_s κ σ)) := by
  refine g_start (cc := cX5_nextOrder) (maxL := 5) (ret := some .boolean) (Qc := gQi D (tysX cI cC cI2) (XP_nextOrder_4_17_r κ σ) (wX cI cC cI2 a κ (XP_nextOrder_4_17_s κ σ))) (by decide) rfl (Nat.le_of_ble_eq_true rfl) ?_
  intro p e s m below meth C A ls S hr hlk hw hl
  obtain ⟨hx, hb, hml, hown, hts⟩ := id S
  have hinX5 : ∀ x ∈ u_ws RX5 TX5 6, x ∈ wsX5_nextOrder := fun x h => List.mem_cons_of_mem _ (List.mem_append_right _ h)
  have lk0 : Cond.fieldLink RX5 24 "CowsOwed$Plans" "size" "I" ∈ wsX5_nextOrder := by decide +kernel
  have lk1 : Cond.fieldLink RX5 18 "CowsOwed$Plans" "tried" "[I" ∈ wsX5_nextOrder := by decide +kernel
  have hl : lv_has ls 5 [(0, .ref (a 37))] := hl
  refine lv_aload_n hx hb dX5_nextOrder_0 rfl (lv_at hl 0 rfl) ?_
  refine g_get S hw hinX5 (fs := fX37 a σ) 37 rfl rfl 4 (by decide) lk0 (v := .int 4) (congrArg (fun z => some (Value.int z)) (hp0)) dX5_nextOrder_1 ?_
  refine lv_iconst (v := 2) hx hb dX5_nextOrder_4 (by decide) ?_
  refine lv_isub hx hb dX5_nextOrder_5 ?_
  refine lv_topi (fun zz ez => ?_)
  have ez : zz = 2 := ez.trans (by decide)
  subst ez
  refine lv_istore_n (lv' := [(1, .int 2), (0, .ref (a 37))]) hx hb dX5_nextOrder_6 rfl hl (by decide) rfl (fun ls hl => ?_)
  refine lv_iload_n hx hb dX5_nextOrder_7 rfl (lv_at hl 0 rfl) ?_
  refine lv_if_lt hx hb (tgt := 34) dX5_nextOrder_8 (by decide) (fun c_x => absurd c_x (by decide)) (fun c_x => ?_)
  refine lv_aload_n hx hb dX5_nextOrder_11 rfl (lv_at hl 1 rfl) ?_
  refine g_get S hw hinX5 (fs := fX37 a σ) 37 rfl rfl 2 (by decide) lk1 (v := .ref (a 40)) rfl dX5_nextOrder_12 ?_
  refine lv_iload_n hx hb dX5_nextOrder_15 rfl (lv_at hl 0 rfl) ?_
  refine g_iald S hw (f := σ 40) (i := 2) (x := 1) 40 0 rfl rfl (by omega) (by decide) ht2 dX5_nextOrder_16 ?_
  refine lv_aload_n hx hb dX5_nextOrder_17 rfl (lv_at hl 1 rfl) ?_
  refine g_get S hw hinX5 (fs := fX37 a σ) 37 rfl rfl 2 (by decide) lk1 (v := .ref (a 40)) rfl dX5_nextOrder_18 ?_
  refine lv_iload_n hx hb dX5_nextOrder_21 rfl (lv_at hl 0 rfl) ?_
  refine lv_iconst (v := 1) hx hb dX5_nextOrder_22 (by decide) ?_
  refine lv_iadd hx hb dX5_nextOrder_23 ?_
  refine lv_topi (fun zz ez => ?_)
  have ez : zz = 3 := ez.trans (by decide)
  subst ez
  refine g_iald S hw (f := σ 40) (i := 3) (x := 0) 40 0 rfl rfl (by omega) (by decide) ht3 dX5_nextOrder_24 ?_
  refine lv_icmp_le hx hb (tgt := 34) dX5_nextOrder_25 (by decide) (fun c_x => absurd c_x (by decide)) (fun c_x => ?_)
  refine lv_iinc (v := 1) (lv' := [(1, .int 1), (0, .ref (a 37))]) hx hb dX5_nextOrder_28 hl (k := 0) rfl (by decide) (by decide) rfl (fun ls hl => ?_)
  refine lv_goto (tgt := 7) hx hb dX5_nextOrder_31 (by decide) ?_
  refine lv_iload_n hx hb dX5_nextOrder_7 rfl (lv_at hl 0 rfl) ?_
  refine lv_if_lt hx hb (tgt := 34) dX5_nextOrder_8 (by decide) (fun c_x => absurd c_x (by decide)) (fun c_x => ?_)
  refine lv_aload_n hx hb dX5_nextOrder_11 rfl (lv_at hl 1 rfl) ?_
  refine g_get S hw hinX5 (fs := fX37 a σ) 37 rfl rfl 2 (by decide) lk1 (v := .ref (a 40)) rfl dX5_nextOrder_12 ?_
  refine lv_iload_n hx hb dX5_nextOrder_15 rfl (lv_at hl 0 rfl) ?_
  refine g_iald S hw (f := σ 40) (i := 1) (x := 3) 40 0 rfl rfl (by omega) (by decide) ht1 dX5_nextOrder_16 ?_
  refine lv_aload_n hx hb dX5_nextOrder_17 rfl (lv_at hl 1 rfl) ?_
  refine g_get S hw hinX5 (fs := fX37 a σ) 37 rfl rfl 2 (by decide) lk1 (v := .ref (a 40)) rfl dX5_nextOrder_18 ?_
  refine lv_iload_n hx hb dX5_nextOrder_21 rfl (lv_at hl 0 rfl) ?_
  refine lv_iconst (v := 1) hx hb dX5_nextOrder_22 (by decide) ?_
  refine lv_iadd hx hb dX5_nextOrder_23 ?_
  refine lv_topi (fun zz ez => ?_)
  have ez : zz = 2 := ez.trans (by decide)
  subst ez
  refine g_iald S hw (f := σ 40) (i := 2) (x := 1) 40 0 rfl rfl (by omega) (by decide) ht2 dX5_nextOrder_24 ?_
  refine lv_icmp_le hx hb (tgt := 34) dX5_nextOrder_25 (by decide) (fun c_x => absurd c_x (by decide)) (fun c_x => ?_)
  refine lv_iinc (v := 0) (lv' := [(1, .int 0), (0, .ref (a 37))]) hx hb dX5_nextOrder_28 hl (k := 0) rfl (by decide) (by decide) rfl (fun ls hl => ?_)
  refine lv_goto (tgt := 7) hx hb dX5_nextOrder_31 (by decide) ?_
  refine lv_iload_n hx hb dX5_nextOrder_7 rfl (lv_at hl 0 rfl) ?_
  refine lv_if_lt hx hb (tgt := 34) dX5_nextOrder_8 (by decide) (fun c_x => absurd c_x (by decide)) (fun c_x => ?_)
  refine lv_aload_n hx hb dX5_nextOrder_11 rfl (lv_at hl 1 rfl) ?_
  refine g_get S hw hinX5 (fs := fX37 a σ) 37 rfl rfl 2 (by decide) lk1 (v := .ref (a 40)) rfl dX5_nextOrder_12 ?_
  refine lv_iload_n hx hb dX5_nextOrder_15 rfl (lv_at hl 0 rfl) ?_
  refine g_iald S hw (f := σ 40) (i := 0) (x := 2) 40 0 rfl rfl (by omega) (by decide) ht0 dX5_nextOrder_16 ?_
  refine lv_aload_n hx hb dX5_nextOrder_17 rfl (lv_at hl 1 rfl) ?_
  refine g_get S hw hinX5 (fs := fX37 a σ) 37 rfl rfl 2 (by decide) lk1 (v := .ref (a 40)) rfl dX5_nextOrder_18 ?_
  refine lv_iload_n hx hb dX5_nextOrder_21 rfl (lv_at hl 0 rfl) ?_
  refine lv_iconst (v := 1) hx hb dX5_nextOrder_22 (by decide) ?_
  refine lv_iadd hx hb dX5_nextOrder_23 ?_
  refine lv_topi (fun zz ez => ?_)
  have ez : zz = 1 := ez.trans (by decide)
  subst ez
  refine g_iald S hw (f := σ 40) (i := 1) (x := 3) 40 0 rfl rfl (by omega) (by decide) ht1 dX5_nextOrder_24 ?_
  refine lv_icmp_le hx hb (tgt := 34) dX5_nextOrder_25 (by decide) (fun c_x => ?_) (fun c_x => absurd (by decide) c_x)
  refine lv_iload_n hx hb dX5_nextOrder_34 rfl (lv_at hl 0 rfl) ?_
  refine lv_if_ge hx hb (tgt := 40) dX5_nextOrder_35 (by decide) (fun c_x => ?_) (fun c_x => absurd (by decide) c_x)
  refine lv_aload_n hx hb dX5_nextOrder_40 rfl (lv_at hl 1 rfl) ?_
  refine g_get S hw hinX5 (fs := fX37 a σ) 37 rfl rfl 4 (by decide) lk0 (v := .int 4) (congrArg (fun z => some (Value.int z)) (hp0)) dX5_nextOrder_41 ?_
  refine lv_iconst (v := 1) hx hb dX5_nextOrder_44 (by decide) ?_
  refine lv_isub hx hb dX5_nextOrder_45 ?_
  refine lv_topi (fun zz ez => ?_)
  have ez : zz = 3 := ez.trans (by decide)
  subst ez
  refine lv_istore_n (lv' := [(2, .int 3), (1, .int 0), (0, .ref (a 37))]) hx hb dX5_nextOrder_46 rfl hl (by decide) rfl (fun ls hl => ?_)
  refine lv_iload_n hx hb dX5_nextOrder_47 rfl (lv_at hl 0 rfl) ?_
  refine lv_iload_n hx hb dX5_nextOrder_48 rfl (lv_at hl 1 rfl) ?_
  refine lv_icmp_le hx hb (tgt := 73) dX5_nextOrder_49 (by decide) (fun c_x => absurd c_x (by decide)) (fun c_x => ?_)
  refine lv_aload_n hx hb dX5_nextOrder_52 rfl (lv_at hl 2 rfl) ?_
  refine g_get S hw hinX5 (fs := fX37 a σ) 37 rfl rfl 2 (by decide) lk1 (v := .ref (a 40)) rfl dX5_nextOrder_53 ?_
  refine lv_iload_n hx hb dX5_nextOrder_56 rfl (lv_at hl 0 rfl) ?_
  refine g_iald S hw (f := σ 40) (i := 3) (x := 0) 40 0 rfl rfl (by omega) (by decide) ht3 dX5_nextOrder_57 ?_
  refine lv_aload_n hx hb dX5_nextOrder_58 rfl (lv_at hl 2 rfl) ?_
  refine g_get S hw hinX5 (fs := fX37 a σ) 37 rfl rfl 2 (by decide) lk1 (v := .ref (a 40)) rfl dX5_nextOrder_59 ?_
  refine lv_iload_n hx hb dX5_nextOrder_62 rfl (lv_at hl 1 rfl) ?_
  refine g_iald S hw (f := σ 40) (i := 0) (x := 2) 40 0 rfl rfl (by omega) (by decide) ht0 dX5_nextOrder_63 ?_
  refine lv_icmp_ge hx hb (tgt := 73) dX5_nextOrder_64 (by decide) (fun c_x => absurd c_x (by decide)) (fun c_x => ?_)
  refine lv_iinc (v := 2) (lv' := [(2, .int 2), (1, .int 0), (0, .ref (a 37))]) hx hb dX5_nextOrder_67 hl (k := 0) rfl (by decide) (by decide) rfl (fun ls hl => ?_)
  refine lv_goto (tgt := 47) hx hb dX5_nextOrder_70 (by decide) ?_
  refine lv_iload_n hx hb dX5_nextOrder_47 rfl (lv_at hl 0 rfl) ?_
  refine lv_iload_n hx hb dX5_nextOrder_48 rfl (lv_at hl 1 rfl) ?_
  refine lv_icmp_le hx hb (tgt := 73) dX5_nextOrder_49 (by decide) (fun c_x => absurd c_x (by decide)) (fun c_x => ?_)
  refine lv_aload_n hx hb dX5_nextOrder_52 rfl (lv_at hl 2 rfl) ?_
  refine g_get S hw hinX5 (fs := fX37 a σ) 37 rfl rfl 2 (by decide) lk1 (v := .ref (a 40)) rfl dX5_nextOrder_53 ?_
  refine lv_iload_n hx hb dX5_nextOrder_56 rfl (lv_at hl 0 rfl) ?_
  refine g_iald S hw (f := σ 40) (i := 2) (x := 1) 40 0 rfl rfl (by omega) (by decide) ht2 dX5_nextOrder_57 ?_
  refine lv_aload_n hx hb dX5_nextOrder_58 rfl (lv_at hl 2 rfl) ?_
  refine g_get S hw hinX5 (fs := fX37 a σ) 37 rfl rfl 2 (by decide) lk1 (v := .ref (a 40)) rfl dX5_nextOrder_59 ?_
  refine lv_iload_n hx hb dX5_nextOrder_62 rfl (lv_at hl 1 rfl) ?_
  refine g_iald S hw (f := σ 40) (i := 0) (x := 2) 40 0 rfl rfl (by omega) (by decide) ht0 dX5_nextOrder_63 ?_
  refine lv_icmp_ge hx hb (tgt := 73) dX5_nextOrder_64 (by decide) (fun c_x => absurd c_x (by decide)) (fun c_x => ?_)
  refine lv_iinc (v := 1) (lv' := [(2, .int 1), (1, .int 0), (0, .ref (a 37))]) hx hb dX5_nextOrder_67 hl (k := 0) rfl (by decide) (by decide) rfl (fun ls hl => ?_)
  refine lv_goto (tgt := 47) hx hb dX5_nextOrder_70 (by decide) ?_
  refine lv_iload_n hx hb dX5_nextOrder_47 rfl (lv_at hl 0 rfl) ?_
  refine lv_iload_n hx hb dX5_nextOrder_48 rfl (lv_at hl 1 rfl) ?_
  refine lv_icmp_le hx hb (tgt := 73) dX5_nextOrder_49 (by decide) (fun c_x => absurd c_x (by decide)) (fun c_x => ?_)
  refine lv_aload_n hx hb dX5_nextOrder_52 rfl (lv_at hl 2 rfl) ?_
  refine g_get S hw hinX5 (fs := fX37 a σ) 37 rfl rfl 2 (by decide) lk1 (v := .ref (a 40)) rfl dX5_nextOrder_53 ?_
  refine lv_iload_n hx hb dX5_nextOrder_56 rfl (lv_at hl 0 rfl) ?_
  refine g_iald S hw (f := σ 40) (i := 1) (x := 3) 40 0 rfl rfl (by omega) (by decide) ht1 dX5_nextOrder_57 ?_
  refine lv_aload_n hx hb dX5_nextOrder_58 rfl (lv_at hl 2 rfl) ?_
  refine g_get S hw hinX5 (fs := fX37 a σ) 37 rfl rfl 2 (by decide) lk1 (v := .ref (a 40)) rfl dX5_nextOrder_59 ?_
  refine lv_iload_n hx hb dX5_nextOrder_62 rfl (lv_at hl 1 rfl) ?_
  refine g_iald S hw (f := σ 40) (i := 0) (x := 2) 40 0 rfl rfl (by omega) (by decide) ht0 dX5_nextOrder_63 ?_
  refine lv_icmp_ge hx hb (tgt := 73) dX5_nextOrder_64 (by decide) (fun c_x => ?_) (fun c_x => absurd (by decide) c_x)
  refine lv_aload_n hx hb dX5_nextOrder_73 rfl (lv_at hl 2 rfl) ?_
  refine lv_iload_n hx hb dX5_nextOrder_74 rfl (lv_at hl 1 rfl) ?_
  refine lv_iload_n hx hb dX5_nextOrder_75 rfl (lv_at hl 0 rfl) ?_
  refine g_callVv S hw (c_XP_swapTried l D cI cC cI2 a κ σ 0 1 (by decide) (by decide)) gX5_nextOrder_X5_swapTried rfl 37 rfl rfl 2 rfl (by decide +kernel) (by decide) (by decide) hl.1 rfl (Nat.le_of_ble_eq_true rfl) dX5_nextOrder_76 (fun H locs hw => ?_)
  have ew : XP_swapTried_s κ σ 0 1 = up2 (up2 σ 40 0 3) 40 1 2 := by
    unfold XP_swapTried_s
    rw [show σ 40 1 = 3 from ht1, show σ 40 0 = 2 from ht0]
  rw [ew] at hw
  refine lv_iload_n hx hb dX5_nextOrder_79 rfl (lv_at hl 1 rfl) ?_
  refine lv_iconst (v := 1) hx hb dX5_nextOrder_80 (by decide) ?_
  refine lv_iadd hx hb dX5_nextOrder_81 ?_
  refine lv_topi (fun zz ez => ?_)
  have ez : zz = 1 := ez.trans (by decide)
  subst ez
  refine lv_istore_n (lv' := [(3, .int 1), (2, .int 1), (1, .int 0), (0, .ref (a 37))]) hx hb dX5_nextOrder_82 rfl hl (by decide) rfl (fun ls hl => ?_)
  refine lv_aload_n hx hb dX5_nextOrder_83 rfl (lv_at hl 3 rfl) ?_
  refine g_get S hw hinX5 (fs := fX37 a (up2 (up2 σ 40 0 3) 40 1 2)) 37 rfl rfl 4 (by decide) lk0 (v := .int 4) (congrArg (fun z => some (Value.int z)) (((up2_rn (by omega)).trans (up2_rn (by omega))).trans (hp0))) dX5_nextOrder_84 ?_
  refine lv_iconst (v := 1) hx hb dX5_nextOrder_87 (by decide) ?_
  refine lv_isub hx hb dX5_nextOrder_88 ?_
  refine lv_topi (fun zz ez => ?_)
  have ez : zz = 3 := ez.trans (by decide)
  subst ez
  refine lv_istore (lv' := [(4, .int 3), (3, .int 1), (2, .int 1), (1, .int 0), (0, .ref (a 37))]) hx hb dX5_nextOrder_89 hl (by decide) rfl (fun ls hl => ?_)
  refine lv_iload_n hx hb dX5_nextOrder_91 rfl (lv_at hl 1 rfl) ?_
  refine lv_iload hx hb dX5_nextOrder_92 (lv_at hl 0 rfl) ?_
  refine lv_icmp_ge hx hb (tgt := 113) dX5_nextOrder_94 (by decide) (fun c_x => absurd c_x (by decide)) (fun c_x => ?_)
  refine lv_aload_n hx hb dX5_nextOrder_97 rfl (lv_at hl 4 rfl) ?_
  refine lv_iload_n hx hb dX5_nextOrder_98 rfl (lv_at hl 1 rfl) ?_
  refine lv_iload hx hb dX5_nextOrder_99 (lv_at hl 0 rfl) ?_
  refine g_callVv S hw (c_XP_swapTried l D cI cC cI2 a κ (up2 (up2 σ 40 0 3) 40 1 2) 1 3 (by decide) (by decide)) gX5_nextOrder_X5_swapTried rfl 37 rfl rfl 2 rfl (by decide +kernel) (by decide) (by decide) hl.1 rfl (Nat.le_of_ble_eq_true rfl) dX5_nextOrder_101 (fun H locs hw => ?_)
  have ew : XP_swapTried_s κ (up2 (up2 σ 40 0 3) 40 1 2) 1 3 = up2 (up2 (up2 (up2 σ 40 0 3) 40 1 2) 40 1 0) 40 3 2 := by
    unfold XP_swapTried_s
    rw [show (up2 (up2 σ 40 0 3) 40 1 2) 40 3 = 0 from ((up2_rp (by decide)).trans (up2_rp (by decide))).trans (ht3), show (up2 (up2 σ 40 0 3) 40 1 2) 40 1 = 2 from up2_rs]
  rw [ew] at hw
  refine lv_iinc (v := 2) (lv' := [(3, .int 2), (4, .int 3), (2, .int 1), (1, .int 0), (0, .ref (a 37))]) hx hb dX5_nextOrder_104 hl (k := 1) rfl (by decide) (by decide) rfl (fun ls hl => ?_)
  refine lv_iinc (v := 2) (lv' := [(4, .int 2), (3, .int 2), (2, .int 1), (1, .int 0), (0, .ref (a 37))]) hx hb dX5_nextOrder_107 hl (k := 1) rfl (by decide) (by decide) rfl (fun ls hl => ?_)
  refine lv_goto (tgt := 91) hx hb dX5_nextOrder_110 (by decide) ?_
  refine lv_iload_n hx hb dX5_nextOrder_91 rfl (lv_at hl 1 rfl) ?_
  refine lv_iload hx hb dX5_nextOrder_92 (lv_at hl 0 rfl) ?_
  refine lv_icmp_ge hx hb (tgt := 113) dX5_nextOrder_94 (by decide) (fun c_x => ?_) (fun c_x => absurd (by decide) c_x)
  refine lv_iconst (v := 1) hx hb dX5_nextOrder_113 (by decide) ?_
  have hw := hw.arr 40 (f := (up2 (up2 (up2 (up2 σ 40 0 3) 40 1 2) 40 1 0) 40 3 2) 40) (g := permRow 4 18) rfl (row4 ((up2_rp (by decide)).trans ((up2_rp (by decide)).trans ((up2_rp (by decide)).trans (up2_rs)))) ((up2_rp (by decide)).trans (up2_rs)) (((up2_rp (by decide)).trans ((up2_rp (by decide)).trans ((up2_rp (by decide)).trans (up2_rp (by decide))))).trans (ht2)) (up2_rs)) (wX_r40 _ _ _ _ _ _ _)
  simp only [row_up2] at hw
  exact g_zret S hr hlk hw (by decide) (by simp only [XP_nextOrder_4_17_r]) (by simp only [XP_nextOrder_4_17_s]) dX5_nextOrder_114
def XP_nextOrder_4_18_r (κ : Nat → Nat) (σ : Nat → Nat → Int32) : Int32 := 1
def XP_nextOrder_4_18_s (κ : Nat → Nat) (σ : Nat → Nat → Int32) : Nat → Nat → Int32 := row σ 40 (permRow 4 19)
theorem XP_nextOrder_4_18_z (κ : Nat → Nat) (σ : Nat → Nat → Int32) : XP_nextOrder_4_18_r κ σ = 0 ∨ XP_nextOrder_4_18_r κ σ = 1 := by
  unfold XP_nextOrder_4_18_r
  exact Or.inr rfl

set_option maxHeartbeats 4000000 in
set_option maxRecDepth 100000 in
theorem c_XP_nextOrder_4_18 (l : Launch) (D : va_G) (cI cC cI2 : ClassId) (a : Nat → Nat) (κ : Nat → Nat) (σ : Nat → Nat → Int32) (hp0 : σ 37 4 = nI 4) (ht0 : σ 40 0 = nI 3) (ht1 : σ 40 1 = nI 0) (ht2 : σ 40 2 = nI 1) (ht3 : σ 40 3 = nI 2) : gI l D (tysX cI cC cI2) yX5_nextOrder wsX5_nextOrder 2 [.ref (a 37)] (wX cI cC cI2 a κ σ) (XP_nextOrder_4_18_r κ σ) (wX cI cC cI2 a κ (XP_nextOrder_4_18_s κ σ)) := by
  refine g_start (cc := cX5_nextOrder) (maxL := 5) (ret := some .boolean) (Qc := gQi D (tysX cI cC cI2) (XP_nextOrder_4_18_r κ σ) (wX cI cC cI2 a κ (XP_nextOrder_4_18_s κ σ))) (by decide) rfl (Nat.le_of_ble_eq_true rfl) ?_
  intro p e s m below meth C A ls S hr hlk hw hl
  obtain ⟨hx, hb, hml, hown, hts⟩ := id S
  have hinX5 : ∀ x ∈ u_ws RX5 TX5 6, x ∈ wsX5_nextOrder := fun x h => List.mem_cons_of_mem _ (List.mem_append_right _ h)
  have lk0 : Cond.fieldLink RX5 24 "CowsOwed$Plans" "size" "I" ∈ wsX5_nextOrder := by decide +kernel
  have lk1 : Cond.fieldLink RX5 18 "CowsOwed$Plans" "tried" "[I" ∈ wsX5_nextOrder := by decide +kernel
  have hl : lv_has ls 5 [(0, .ref (a 37))] := hl
  refine lv_aload_n hx hb dX5_nextOrder_0 rfl (lv_at hl 0 rfl) ?_
  refine g_get S hw hinX5 (fs := fX37 a σ) 37 rfl rfl 4 (by decide) lk0 (v := .int 4) (congrArg (fun z => some (Value.int z)) (hp0)) dX5_nextOrder_1 ?_
  refine lv_iconst (v := 2) hx hb dX5_nextOrder_4 (by decide) ?_
  refine lv_isub hx hb dX5_nextOrder_5 ?_
  refine lv_topi (fun zz ez => ?_)
  have ez : zz = 2 := ez.trans (by decide)
  subst ez
  refine lv_istore_n (lv' := [(1, .int 2), (0, .ref (a 37))]) hx hb dX5_nextOrder_6 rfl hl (by decide) rfl (fun ls hl => ?_)
  refine lv_iload_n hx hb dX5_nextOrder_7 rfl (lv_at hl 0 rfl) ?_
  refine lv_if_lt hx hb (tgt := 34) dX5_nextOrder_8 (by decide) (fun c_x => absurd c_x (by decide)) (fun c_x => ?_)
  refine lv_aload_n hx hb dX5_nextOrder_11 rfl (lv_at hl 1 rfl) ?_
  refine g_get S hw hinX5 (fs := fX37 a σ) 37 rfl rfl 2 (by decide) lk1 (v := .ref (a 40)) rfl dX5_nextOrder_12 ?_
  refine lv_iload_n hx hb dX5_nextOrder_15 rfl (lv_at hl 0 rfl) ?_
  refine g_iald S hw (f := σ 40) (i := 2) (x := 1) 40 0 rfl rfl (by omega) (by decide) ht2 dX5_nextOrder_16 ?_
  refine lv_aload_n hx hb dX5_nextOrder_17 rfl (lv_at hl 1 rfl) ?_
  refine g_get S hw hinX5 (fs := fX37 a σ) 37 rfl rfl 2 (by decide) lk1 (v := .ref (a 40)) rfl dX5_nextOrder_18 ?_
  refine lv_iload_n hx hb dX5_nextOrder_21 rfl (lv_at hl 0 rfl) ?_
  refine lv_iconst (v := 1) hx hb dX5_nextOrder_22 (by decide) ?_
  refine lv_iadd hx hb dX5_nextOrder_23 ?_
  refine lv_topi (fun zz ez => ?_)
  have ez : zz = 3 := ez.trans (by decide)
  subst ez
  refine g_iald S hw (f := σ 40) (i := 3) (x := 2) 40 0 rfl rfl (by omega) (by decide) ht3 dX5_nextOrder_24 ?_
  refine lv_icmp_le hx hb (tgt := 34) dX5_nextOrder_25 (by decide) (fun c_x => ?_) (fun c_x => absurd (by decide) c_x)
  refine lv_iload_n hx hb dX5_nextOrder_34 rfl (lv_at hl 0 rfl) ?_
  refine lv_if_ge hx hb (tgt := 40) dX5_nextOrder_35 (by decide) (fun c_x => ?_) (fun c_x => absurd (by decide) c_x)
  refine lv_aload_n hx hb dX5_nextOrder_40 rfl (lv_at hl 1 rfl) ?_
  refine g_get S hw hinX5 (fs := fX37 a σ) 37 rfl rfl 4 (by decide) lk0 (v := .int 4) (congrArg (fun z => some (Value.int z)) (hp0)) dX5_nextOrder_41 ?_
  refine lv_iconst (v := 1) hx hb dX5_nextOrder_44 (by decide) ?_
  refine lv_isub hx hb dX5_nextOrder_45 ?_
  refine lv_topi (fun zz ez => ?_)
  have ez : zz = 3 := ez.trans (by decide)
  subst ez
  refine lv_istore_n (lv' := [(2, .int 3), (1, .int 2), (0, .ref (a 37))]) hx hb dX5_nextOrder_46 rfl hl (by decide) rfl (fun ls hl => ?_)
  refine lv_iload_n hx hb dX5_nextOrder_47 rfl (lv_at hl 0 rfl) ?_
  refine lv_iload_n hx hb dX5_nextOrder_48 rfl (lv_at hl 1 rfl) ?_
  refine lv_icmp_le hx hb (tgt := 73) dX5_nextOrder_49 (by decide) (fun c_x => absurd c_x (by decide)) (fun c_x => ?_)
  refine lv_aload_n hx hb dX5_nextOrder_52 rfl (lv_at hl 2 rfl) ?_
  refine g_get S hw hinX5 (fs := fX37 a σ) 37 rfl rfl 2 (by decide) lk1 (v := .ref (a 40)) rfl dX5_nextOrder_53 ?_
  refine lv_iload_n hx hb dX5_nextOrder_56 rfl (lv_at hl 0 rfl) ?_
  refine g_iald S hw (f := σ 40) (i := 3) (x := 2) 40 0 rfl rfl (by omega) (by decide) ht3 dX5_nextOrder_57 ?_
  refine lv_aload_n hx hb dX5_nextOrder_58 rfl (lv_at hl 2 rfl) ?_
  refine g_get S hw hinX5 (fs := fX37 a σ) 37 rfl rfl 2 (by decide) lk1 (v := .ref (a 40)) rfl dX5_nextOrder_59 ?_
  refine lv_iload_n hx hb dX5_nextOrder_62 rfl (lv_at hl 1 rfl) ?_
  refine g_iald S hw (f := σ 40) (i := 2) (x := 1) 40 0 rfl rfl (by omega) (by decide) ht2 dX5_nextOrder_63 ?_
  refine lv_icmp_ge hx hb (tgt := 73) dX5_nextOrder_64 (by decide) (fun c_x => ?_) (fun c_x => absurd (by decide) c_x)
  refine lv_aload_n hx hb dX5_nextOrder_73 rfl (lv_at hl 2 rfl) ?_
  refine lv_iload_n hx hb dX5_nextOrder_74 rfl (lv_at hl 1 rfl) ?_
  refine lv_iload_n hx hb dX5_nextOrder_75 rfl (lv_at hl 0 rfl) ?_
  refine g_callVv S hw (c_XP_swapTried l D cI cC cI2 a κ σ 2 3 (by decide) (by decide)) gX5_nextOrder_X5_swapTried rfl 37 rfl rfl 2 rfl (by decide +kernel) (by decide) (by decide) hl.1 rfl (Nat.le_of_ble_eq_true rfl) dX5_nextOrder_76 (fun H locs hw => ?_)
  have ew : XP_swapTried_s κ σ 2 3 = up2 (up2 σ 40 2 2) 40 3 1 := by
    unfold XP_swapTried_s
    rw [show σ 40 3 = 2 from ht3, show σ 40 2 = 1 from ht2]
  rw [ew] at hw
  refine lv_iload_n hx hb dX5_nextOrder_79 rfl (lv_at hl 1 rfl) ?_
  refine lv_iconst (v := 1) hx hb dX5_nextOrder_80 (by decide) ?_
  refine lv_iadd hx hb dX5_nextOrder_81 ?_
  refine lv_topi (fun zz ez => ?_)
  have ez : zz = 3 := ez.trans (by decide)
  subst ez
  refine lv_istore_n (lv' := [(3, .int 3), (2, .int 3), (1, .int 2), (0, .ref (a 37))]) hx hb dX5_nextOrder_82 rfl hl (by decide) rfl (fun ls hl => ?_)
  refine lv_aload_n hx hb dX5_nextOrder_83 rfl (lv_at hl 3 rfl) ?_
  refine g_get S hw hinX5 (fs := fX37 a (up2 (up2 σ 40 2 2) 40 3 1)) 37 rfl rfl 4 (by decide) lk0 (v := .int 4) (congrArg (fun z => some (Value.int z)) (((up2_rn (by omega)).trans (up2_rn (by omega))).trans (hp0))) dX5_nextOrder_84 ?_
  refine lv_iconst (v := 1) hx hb dX5_nextOrder_87 (by decide) ?_
  refine lv_isub hx hb dX5_nextOrder_88 ?_
  refine lv_topi (fun zz ez => ?_)
  have ez : zz = 3 := ez.trans (by decide)
  subst ez
  refine lv_istore (lv' := [(4, .int 3), (3, .int 3), (2, .int 3), (1, .int 2), (0, .ref (a 37))]) hx hb dX5_nextOrder_89 hl (by decide) rfl (fun ls hl => ?_)
  refine lv_iload_n hx hb dX5_nextOrder_91 rfl (lv_at hl 1 rfl) ?_
  refine lv_iload hx hb dX5_nextOrder_92 (lv_at hl 0 rfl) ?_
  refine lv_icmp_ge hx hb (tgt := 113) dX5_nextOrder_94 (by decide) (fun c_x => ?_) (fun c_x => absurd (by decide) c_x)
  refine lv_iconst (v := 1) hx hb dX5_nextOrder_113 (by decide) ?_
  have hw := hw.arr 40 (f := (up2 (up2 σ 40 2 2) 40 3 1) 40) (g := permRow 4 19) rfl (row4 (((up2_rp (by decide)).trans (up2_rp (by decide))).trans (ht0)) (((up2_rp (by decide)).trans (up2_rp (by decide))).trans (ht1)) ((up2_rp (by decide)).trans (up2_rs)) (up2_rs)) (wX_r40 _ _ _ _ _ _ _)
  simp only [row_up2] at hw
  exact g_zret S hr hlk hw (by decide) (by simp only [XP_nextOrder_4_18_r]) (by simp only [XP_nextOrder_4_18_s]) dX5_nextOrder_114
def XP_nextOrder_4_19_r (κ : Nat → Nat) (σ : Nat → Nat → Int32) : Int32 := 1
def XP_nextOrder_4_19_s (κ : Nat → Nat) (σ : Nat → Nat → Int32) : Nat → Nat → Int32 := row σ 40 (permRow 4 20)
theorem XP_nextOrder_4_19_z (κ : Nat → Nat) (σ : Nat → Nat → Int32) : XP_nextOrder_4_19_r κ σ = 0 ∨ XP_nextOrder_4_19_r κ σ = 1 := by
  unfold XP_nextOrder_4_19_r
  exact Or.inr rfl

set_option maxHeartbeats 4000000 in
set_option maxRecDepth 100000 in
theorem c_XP_nextOrder_4_19 (l : Launch) (D : va_G) (cI cC cI2 : ClassId) (a : Nat → Nat) (κ : Nat → Nat) (σ : Nat → Nat → Int32) (hp0 : σ 37 4 = nI 4) (ht0 : σ 40 0 = nI 3) (ht1 : σ 40 1 = nI 0) (ht2 : σ 40 2 = nI 2) (ht3 : σ 40 3 = nI 1) : gI l D (tysX cI cC cI2) yX5_nextOrder wsX5_nextOrder 2 [.ref (a 37)] (wX cI cC cI2 a κ σ) (XP_nextOrder_4_19_r κ σ) (wX cI cC cI2 a κ (XP_nextOrder_4_19_s κ σ)) := by
  refine g_start (cc := cX5_nextOrder) (maxL := 5) (ret := some .boolean) (Qc := gQi D (tysX cI cC cI2) (XP_nextOrder_4_19_r κ σ) (wX cI cC cI2 a κ (XP_nextOrder_4_19_s κ σ))) (by decide) rfl (Nat.le_of_ble_eq_true rfl) ?_
  intro p e s m below meth C A ls S hr hlk hw hl
  obtain ⟨hx, hb, hml, hown, hts⟩ := id S
  have hinX5 : ∀ x ∈ u_ws RX5 TX5 6, x ∈ wsX5_nextOrder := fun x h => List.mem_cons_of_mem _ (List.mem_append_right _ h)
  have lk0 : Cond.fieldLink RX5 24 "CowsOwed$Plans" "size" "I" ∈ wsX5_nextOrder := by decide +kernel
  have lk1 : Cond.fieldLink RX5 18 "CowsOwed$Plans" "tried" "[I" ∈ wsX5_nextOrder := by decide +kernel
  have hl : lv_has ls 5 [(0, .ref (a 37))] := hl
  refine lv_aload_n hx hb dX5_nextOrder_0 rfl (lv_at hl 0 rfl) ?_
  refine g_get S hw hinX5 (fs := fX37 a σ) 37 rfl rfl 4 (by decide) lk0 (v := .int 4) (congrArg (fun z => some (Value.int z)) (hp0)) dX5_nextOrder_1 ?_
  refine lv_iconst (v := 2) hx hb dX5_nextOrder_4 (by decide) ?_
  refine lv_isub hx hb dX5_nextOrder_5 ?_
  refine lv_topi (fun zz ez => ?_)
  have ez : zz = 2 := ez.trans (by decide)
  subst ez
  refine lv_istore_n (lv' := [(1, .int 2), (0, .ref (a 37))]) hx hb dX5_nextOrder_6 rfl hl (by decide) rfl (fun ls hl => ?_)
  refine lv_iload_n hx hb dX5_nextOrder_7 rfl (lv_at hl 0 rfl) ?_
  refine lv_if_lt hx hb (tgt := 34) dX5_nextOrder_8 (by decide) (fun c_x => absurd c_x (by decide)) (fun c_x => ?_)
  refine lv_aload_n hx hb dX5_nextOrder_11 rfl (lv_at hl 1 rfl) ?_
  refine g_get S hw hinX5 (fs := fX37 a σ) 37 rfl rfl 2 (by decide) lk1 (v := .ref (a 40)) rfl dX5_nextOrder_12 ?_
  refine lv_iload_n hx hb dX5_nextOrder_15 rfl (lv_at hl 0 rfl) ?_
  refine g_iald S hw (f := σ 40) (i := 2) (x := 2) 40 0 rfl rfl (by omega) (by decide) ht2 dX5_nextOrder_16 ?_
  refine lv_aload_n hx hb dX5_nextOrder_17 rfl (lv_at hl 1 rfl) ?_
  refine g_get S hw hinX5 (fs := fX37 a σ) 37 rfl rfl 2 (by decide) lk1 (v := .ref (a 40)) rfl dX5_nextOrder_18 ?_
  refine lv_iload_n hx hb dX5_nextOrder_21 rfl (lv_at hl 0 rfl) ?_
  refine lv_iconst (v := 1) hx hb dX5_nextOrder_22 (by decide) ?_
  refine lv_iadd hx hb dX5_nextOrder_23 ?_
  refine lv_topi (fun zz ez => ?_)
  have ez : zz = 3 := ez.trans (by decide)
  subst ez
  refine g_iald S hw (f := σ 40) (i := 3) (x := 1) 40 0 rfl rfl (by omega) (by decide) ht3 dX5_nextOrder_24 ?_
  refine lv_icmp_le hx hb (tgt := 34) dX5_nextOrder_25 (by decide) (fun c_x => absurd c_x (by decide)) (fun c_x => ?_)
  refine lv_iinc (v := 1) (lv' := [(1, .int 1), (0, .ref (a 37))]) hx hb dX5_nextOrder_28 hl (k := 0) rfl (by decide) (by decide) rfl (fun ls hl => ?_)
  refine lv_goto (tgt := 7) hx hb dX5_nextOrder_31 (by decide) ?_
  refine lv_iload_n hx hb dX5_nextOrder_7 rfl (lv_at hl 0 rfl) ?_
  refine lv_if_lt hx hb (tgt := 34) dX5_nextOrder_8 (by decide) (fun c_x => absurd c_x (by decide)) (fun c_x => ?_)
  refine lv_aload_n hx hb dX5_nextOrder_11 rfl (lv_at hl 1 rfl) ?_
  refine g_get S hw hinX5 (fs := fX37 a σ) 37 rfl rfl 2 (by decide) lk1 (v := .ref (a 40)) rfl dX5_nextOrder_12 ?_
  refine lv_iload_n hx hb dX5_nextOrder_15 rfl (lv_at hl 0 rfl) ?_
  refine g_iald S hw (f := σ 40) (i := 1) (x := 0) 40 0 rfl rfl (by omega) (by decide) ht1 dX5_nextOrder_16 ?_
  refine lv_aload_n hx hb dX5_nextOrder_17 rfl (lv_at hl 1 rfl) ?_
  refine g_get S hw hinX5 (fs := fX37 a σ) 37 rfl rfl 2 (by decide) lk1 (v := .ref (a 40)) rfl dX5_nextOrder_18 ?_
  refine lv_iload_n hx hb dX5_nextOrder_21 rfl (lv_at hl 0 rfl) ?_
  refine lv_iconst (v := 1) hx hb dX5_nextOrder_22 (by decide) ?_
  refine lv_iadd hx hb dX5_nextOrder_23 ?_
  refine lv_topi (fun zz ez => ?_)
  have ez : zz = 2 := ez.trans (by decide)
  subst ez
  refine g_iald S hw (f := σ 40) (i := 2) (x := 2) 40 0 rfl rfl (by omega) (by decide) ht2 dX5_nextOrder_24 ?_
  refine lv_icmp_le hx hb (tgt := 34) dX5_nextOrder_25 (by decide) (fun c_x => ?_) (fun c_x => absurd (by decide) c_x)
  refine lv_iload_n hx hb dX5_nextOrder_34 rfl (lv_at hl 0 rfl) ?_
  refine lv_if_ge hx hb (tgt := 40) dX5_nextOrder_35 (by decide) (fun c_x => ?_) (fun c_x => absurd (by decide) c_x)
  refine lv_aload_n hx hb dX5_nextOrder_40 rfl (lv_at hl 1 rfl) ?_
  refine g_get S hw hinX5 (fs := fX37 a σ) 37 rfl rfl 4 (by decide) lk0 (v := .int 4) (congrArg (fun z => some (Value.int z)) (hp0)) dX5_nextOrder_41 ?_
  refine lv_iconst (v := 1) hx hb dX5_nextOrder_44 (by decide) ?_
  refine lv_isub hx hb dX5_nextOrder_45 ?_
  refine lv_topi (fun zz ez => ?_)
  have ez : zz = 3 := ez.trans (by decide)
  subst ez
  refine lv_istore_n (lv' := [(2, .int 3), (1, .int 1), (0, .ref (a 37))]) hx hb dX5_nextOrder_46 rfl hl (by decide) rfl (fun ls hl => ?_)
  refine lv_iload_n hx hb dX5_nextOrder_47 rfl (lv_at hl 0 rfl) ?_
  refine lv_iload_n hx hb dX5_nextOrder_48 rfl (lv_at hl 1 rfl) ?_
  refine lv_icmp_le hx hb (tgt := 73) dX5_nextOrder_49 (by decide) (fun c_x => absurd c_x (by decide)) (fun c_x => ?_)
  refine lv_aload_n hx hb dX5_nextOrder_52 rfl (lv_at hl 2 rfl) ?_
  refine g_get S hw hinX5 (fs := fX37 a σ) 37 rfl rfl 2 (by decide) lk1 (v := .ref (a 40)) rfl dX5_nextOrder_53 ?_
  refine lv_iload_n hx hb dX5_nextOrder_56 rfl (lv_at hl 0 rfl) ?_
  refine g_iald S hw (f := σ 40) (i := 3) (x := 1) 40 0 rfl rfl (by omega) (by decide) ht3 dX5_nextOrder_57 ?_
  refine lv_aload_n hx hb dX5_nextOrder_58 rfl (lv_at hl 2 rfl) ?_
  refine g_get S hw hinX5 (fs := fX37 a σ) 37 rfl rfl 2 (by decide) lk1 (v := .ref (a 40)) rfl dX5_nextOrder_59 ?_
  refine lv_iload_n hx hb dX5_nextOrder_62 rfl (lv_at hl 1 rfl) ?_
  refine g_iald S hw (f := σ 40) (i := 1) (x := 0) 40 0 rfl rfl (by omega) (by decide) ht1 dX5_nextOrder_63 ?_
  refine lv_icmp_ge hx hb (tgt := 73) dX5_nextOrder_64 (by decide) (fun c_x => ?_) (fun c_x => absurd (by decide) c_x)
  refine lv_aload_n hx hb dX5_nextOrder_73 rfl (lv_at hl 2 rfl) ?_
  refine lv_iload_n hx hb dX5_nextOrder_74 rfl (lv_at hl 1 rfl) ?_
  refine lv_iload_n hx hb dX5_nextOrder_75 rfl (lv_at hl 0 rfl) ?_
  refine g_callVv S hw (c_XP_swapTried l D cI cC cI2 a κ σ 1 3 (by decide) (by decide)) gX5_nextOrder_X5_swapTried rfl 37 rfl rfl 2 rfl (by decide +kernel) (by decide) (by decide) hl.1 rfl (Nat.le_of_ble_eq_true rfl) dX5_nextOrder_76 (fun H locs hw => ?_)
  have ew : XP_swapTried_s κ σ 1 3 = up2 (up2 σ 40 1 1) 40 3 0 := by
    unfold XP_swapTried_s
    rw [show σ 40 3 = 1 from ht3, show σ 40 1 = 0 from ht1]
  rw [ew] at hw
  refine lv_iload_n hx hb dX5_nextOrder_79 rfl (lv_at hl 1 rfl) ?_
  refine lv_iconst (v := 1) hx hb dX5_nextOrder_80 (by decide) ?_
  refine lv_iadd hx hb dX5_nextOrder_81 ?_
  refine lv_topi (fun zz ez => ?_)
  have ez : zz = 2 := ez.trans (by decide)
  subst ez
  refine lv_istore_n (lv' := [(3, .int 2), (2, .int 3), (1, .int 1), (0, .ref (a 37))]) hx hb dX5_nextOrder_82 rfl hl (by decide) rfl (fun ls hl => ?_)
  refine lv_aload_n hx hb dX5_nextOrder_83 rfl (lv_at hl 3 rfl) ?_
  refine g_get S hw hinX5 (fs := fX37 a (up2 (up2 σ 40 1 1) 40 3 0)) 37 rfl rfl 4 (by decide) lk0 (v := .int 4) (congrArg (fun z => some (Value.int z)) (((up2_rn (by omega)).trans (up2_rn (by omega))).trans (hp0))) dX5_nextOrder_84 ?_
  refine lv_iconst (v := 1) hx hb dX5_nextOrder_87 (by decide) ?_
  refine lv_isub hx hb dX5_nextOrder_88 ?_
  refine lv_topi (fun zz ez => ?_)
  have ez : zz = 3 := ez.trans (by decide)
  subst ez
  refine lv_istore (lv' := [(4, .int 3), (3, .int 2), (2, .int 3), (1, .int 1), (0, .ref (a 37))]) hx hb dX5_nextOrder_89 hl (by decide) rfl (fun ls hl => ?_)
  refine lv_iload_n hx hb dX5_nextOrder_91 rfl (lv_at hl 1 rfl) ?_
  refine lv_iload hx hb dX5_nextOrder_92 (lv_at hl 0 rfl) ?_
  refine lv_icmp_ge hx hb (tgt := 113) dX5_nextOrder_94 (by decide) (fun c_x => absurd c_x (by decide)) (fun c_x => ?_)
  refine lv_aload_n hx hb dX5_nextOrder_97 rfl (lv_at hl 4 rfl) ?_
  refine lv_iload_n hx hb dX5_nextOrder_98 rfl (lv_at hl 1 rfl) ?_
  refine lv_iload hx hb dX5_nextOrder_99 (lv_at hl 0 rfl) ?_
  refine g_callVv S hw (c_XP_swapTried l D cI cC cI2 a κ (up2 (up2 σ 40 1 1) 40 3 0) 2 3 (by decide) (by decide)) gX5_nextOrder_X5_swapTried rfl 37 rfl rfl 2 rfl (by decide +kernel) (by decide) (by decide) hl.1 rfl (Nat.le_of_ble_eq_true rfl) dX5_nextOrder_101 (fun H locs hw => ?_)
  have ew : XP_swapTried_s κ (up2 (up2 σ 40 1 1) 40 3 0) 2 3 = up2 (up2 (up2 (up2 σ 40 1 1) 40 3 0) 40 2 0) 40 3 2 := by
    unfold XP_swapTried_s
    rw [show (up2 (up2 σ 40 1 1) 40 3 0) 40 3 = 0 from up2_rs, show (up2 (up2 σ 40 1 1) 40 3 0) 40 2 = 2 from ((up2_rp (by decide)).trans (up2_rp (by decide))).trans (ht2)]
  rw [ew] at hw
  refine lv_iinc (v := 3) (lv' := [(3, .int 3), (4, .int 3), (2, .int 3), (1, .int 1), (0, .ref (a 37))]) hx hb dX5_nextOrder_104 hl (k := 1) rfl (by decide) (by decide) rfl (fun ls hl => ?_)
  refine lv_iinc (v := 2) (lv' := [(4, .int 2), (3, .int 3), (2, .int 3), (1, .int 1), (0, .ref (a 37))]) hx hb dX5_nextOrder_107 hl (k := 1) rfl (by decide) (by decide) rfl (fun ls hl => ?_)
  refine lv_goto (tgt := 91) hx hb dX5_nextOrder_110 (by decide) ?_
  refine lv_iload_n hx hb dX5_nextOrder_91 rfl (lv_at hl 1 rfl) ?_
  refine lv_iload hx hb dX5_nextOrder_92 (lv_at hl 0 rfl) ?_
  refine lv_icmp_ge hx hb (tgt := 113) dX5_nextOrder_94 (by decide) (fun c_x => ?_) (fun c_x => absurd (by decide) c_x)
  refine lv_iconst (v := 1) hx hb dX5_nextOrder_113 (by decide) ?_
  have hw := hw.arr 40 (f := (up2 (up2 (up2 (up2 σ 40 1 1) 40 3 0) 40 2 0) 40 3 2) 40) (g := permRow 4 20) rfl (row4 (((up2_rp (by decide)).trans ((up2_rp (by decide)).trans ((up2_rp (by decide)).trans (up2_rp (by decide))))).trans (ht0)) ((up2_rp (by decide)).trans ((up2_rp (by decide)).trans ((up2_rp (by decide)).trans (up2_rs)))) ((up2_rp (by decide)).trans (up2_rs)) (up2_rs)) (wX_r40 _ _ _ _ _ _ _)
  simp only [row_up2] at hw
  exact g_zret S hr hlk hw (by decide) (by simp only [XP_nextOrder_4_19_r]) (by simp only [XP_nextOrder_4_19_s]) dX5_nextOrder_114
def XP_nextOrder_4_20_r (κ : Nat → Nat) (σ : Nat → Nat → Int32) : Int32 := 1
def XP_nextOrder_4_20_s (κ : Nat → Nat) (σ : Nat → Nat → Int32) : Nat → Nat → Int32 := row σ 40 (permRow 4 21)
theorem XP_nextOrder_4_20_z (κ : Nat → Nat) (σ : Nat → Nat → Int32) : XP_nextOrder_4_20_r κ σ = 0 ∨ XP_nextOrder_4_20_r κ σ = 1 := by
  unfold XP_nextOrder_4_20_r
  exact Or.inr rfl

set_option maxHeartbeats 4000000 in
set_option maxRecDepth 100000 in
theorem c_XP_nextOrder_4_20 (l : Launch) (D : va_G) (cI cC cI2 : ClassId) (a : Nat → Nat) (κ : Nat → Nat) (σ : Nat → Nat → Int32) (hp0 : σ 37 4 = nI 4) (ht0 : σ 40 0 = nI 3) (ht1 : σ 40 1 = nI 1) (ht2 : σ 40 2 = nI 0) (ht3 : σ 40 3 = nI 2) : gI l D (tysX cI cC cI2) yX5_nextOrder wsX5_nextOrder 2 [.ref (a 37)] (wX cI cC cI2 a κ σ) (XP_nextOrder_4_20_r κ σ) (wX cI cC cI2 a κ (XP_nextOrder_4_20_s κ σ)) := by
  refine g_start (cc := cX5_nextOrder) (maxL := 5) (ret := some .boolean) (Qc := gQi D (tysX cI cC cI2) (XP_nextOrder_4_20_r κ σ) (wX cI cC cI2 a κ (XP_nextOrder_4_20_s κ σ))) (by decide) rfl (Nat.le_of_ble_eq_true rfl) ?_
  intro p e s m below meth C A ls S hr hlk hw hl
  obtain ⟨hx, hb, hml, hown, hts⟩ := id S
  have hinX5 : ∀ x ∈ u_ws RX5 TX5 6, x ∈ wsX5_nextOrder := fun x h => List.mem_cons_of_mem _ (List.mem_append_right _ h)
  have lk0 : Cond.fieldLink RX5 24 "CowsOwed$Plans" "size" "I" ∈ wsX5_nextOrder := by decide +kernel
  have lk1 : Cond.fieldLink RX5 18 "CowsOwed$Plans" "tried" "[I" ∈ wsX5_nextOrder := by decide +kernel
  have hl : lv_has ls 5 [(0, .ref (a 37))] := hl
  refine lv_aload_n hx hb dX5_nextOrder_0 rfl (lv_at hl 0 rfl) ?_
  refine g_get S hw hinX5 (fs := fX37 a σ) 37 rfl rfl 4 (by decide) lk0 (v := .int 4) (congrArg (fun z => some (Value.int z)) (hp0)) dX5_nextOrder_1 ?_
  refine lv_iconst (v := 2) hx hb dX5_nextOrder_4 (by decide) ?_
  refine lv_isub hx hb dX5_nextOrder_5 ?_
  refine lv_topi (fun zz ez => ?_)
  have ez : zz = 2 := ez.trans (by decide)
  subst ez
  refine lv_istore_n (lv' := [(1, .int 2), (0, .ref (a 37))]) hx hb dX5_nextOrder_6 rfl hl (by decide) rfl (fun ls hl => ?_)
  refine lv_iload_n hx hb dX5_nextOrder_7 rfl (lv_at hl 0 rfl) ?_
  refine lv_if_lt hx hb (tgt := 34) dX5_nextOrder_8 (by decide) (fun c_x => absurd c_x (by decide)) (fun c_x => ?_)
  refine lv_aload_n hx hb dX5_nextOrder_11 rfl (lv_at hl 1 rfl) ?_
  refine g_get S hw hinX5 (fs := fX37 a σ) 37 rfl rfl 2 (by decide) lk1 (v := .ref (a 40)) rfl dX5_nextOrder_12 ?_
  refine lv_iload_n hx hb dX5_nextOrder_15 rfl (lv_at hl 0 rfl) ?_
  refine g_iald S hw (f := σ 40) (i := 2) (x := 0) 40 0 rfl rfl (by omega) (by decide) ht2 dX5_nextOrder_16 ?_
  refine lv_aload_n hx hb dX5_nextOrder_17 rfl (lv_at hl 1 rfl) ?_
  refine g_get S hw hinX5 (fs := fX37 a σ) 37 rfl rfl 2 (by decide) lk1 (v := .ref (a 40)) rfl dX5_nextOrder_18 ?_
  refine lv_iload_n hx hb dX5_nextOrder_21 rfl (lv_at hl 0 rfl) ?_
  refine lv_iconst (v := 1) hx hb dX5_nextOrder_22 (by decide) ?_
  refine lv_iadd hx hb dX5_nextOrder_23 ?_
  refine lv_topi (fun zz ez => ?_)
  have ez : zz = 3 := ez.trans (by decide)
  subst ez
  refine g_iald S hw (f := σ 40) (i := 3) (x := 2) 40 0 rfl rfl (by omega) (by decide) ht3 dX5_nextOrder_24 ?_
  refine lv_icmp_le hx hb (tgt := 34) dX5_nextOrder_25 (by decide) (fun c_x => ?_) (fun c_x => absurd (by decide) c_x)
  refine lv_iload_n hx hb dX5_nextOrder_34 rfl (lv_at hl 0 rfl) ?_
  refine lv_if_ge hx hb (tgt := 40) dX5_nextOrder_35 (by decide) (fun c_x => ?_) (fun c_x => absurd (by decide) c_x)
  refine lv_aload_n hx hb dX5_nextOrder_40 rfl (lv_at hl 1 rfl) ?_
  refine g_get S hw hinX5 (fs := fX37 a σ) 37 rfl rfl 4 (by decide) lk0 (v := .int 4) (congrArg (fun z => some (Value.int z)) (hp0)) dX5_nextOrder_41 ?_
  refine lv_iconst (v := 1) hx hb dX5_nextOrder_44 (by decide) ?_
  refine lv_isub hx hb dX5_nextOrder_45 ?_
  refine lv_topi (fun zz ez => ?_)
  have ez : zz = 3 := ez.trans (by decide)
  subst ez
  refine lv_istore_n (lv' := [(2, .int 3), (1, .int 2), (0, .ref (a 37))]) hx hb dX5_nextOrder_46 rfl hl (by decide) rfl (fun ls hl => ?_)
  refine lv_iload_n hx hb dX5_nextOrder_47 rfl (lv_at hl 0 rfl) ?_
  refine lv_iload_n hx hb dX5_nextOrder_48 rfl (lv_at hl 1 rfl) ?_
  refine lv_icmp_le hx hb (tgt := 73) dX5_nextOrder_49 (by decide) (fun c_x => absurd c_x (by decide)) (fun c_x => ?_)
  refine lv_aload_n hx hb dX5_nextOrder_52 rfl (lv_at hl 2 rfl) ?_
  refine g_get S hw hinX5 (fs := fX37 a σ) 37 rfl rfl 2 (by decide) lk1 (v := .ref (a 40)) rfl dX5_nextOrder_53 ?_
  refine lv_iload_n hx hb dX5_nextOrder_56 rfl (lv_at hl 0 rfl) ?_
  refine g_iald S hw (f := σ 40) (i := 3) (x := 2) 40 0 rfl rfl (by omega) (by decide) ht3 dX5_nextOrder_57 ?_
  refine lv_aload_n hx hb dX5_nextOrder_58 rfl (lv_at hl 2 rfl) ?_
  refine g_get S hw hinX5 (fs := fX37 a σ) 37 rfl rfl 2 (by decide) lk1 (v := .ref (a 40)) rfl dX5_nextOrder_59 ?_
  refine lv_iload_n hx hb dX5_nextOrder_62 rfl (lv_at hl 1 rfl) ?_
  refine g_iald S hw (f := σ 40) (i := 2) (x := 0) 40 0 rfl rfl (by omega) (by decide) ht2 dX5_nextOrder_63 ?_
  refine lv_icmp_ge hx hb (tgt := 73) dX5_nextOrder_64 (by decide) (fun c_x => ?_) (fun c_x => absurd (by decide) c_x)
  refine lv_aload_n hx hb dX5_nextOrder_73 rfl (lv_at hl 2 rfl) ?_
  refine lv_iload_n hx hb dX5_nextOrder_74 rfl (lv_at hl 1 rfl) ?_
  refine lv_iload_n hx hb dX5_nextOrder_75 rfl (lv_at hl 0 rfl) ?_
  refine g_callVv S hw (c_XP_swapTried l D cI cC cI2 a κ σ 2 3 (by decide) (by decide)) gX5_nextOrder_X5_swapTried rfl 37 rfl rfl 2 rfl (by decide +kernel) (by decide) (by decide) hl.1 rfl (Nat.le_of_ble_eq_true rfl) dX5_nextOrder_76 (fun H locs hw => ?_)
  have ew : XP_swapTried_s κ σ 2 3 = up2 (up2 σ 40 2 2) 40 3 0 := by
    unfold XP_swapTried_s
    rw [show σ 40 3 = 2 from ht3, show σ 40 2 = 0 from ht2]
  rw [ew] at hw
  refine lv_iload_n hx hb dX5_nextOrder_79 rfl (lv_at hl 1 rfl) ?_
  refine lv_iconst (v := 1) hx hb dX5_nextOrder_80 (by decide) ?_
  refine lv_iadd hx hb dX5_nextOrder_81 ?_
  refine lv_topi (fun zz ez => ?_)
  have ez : zz = 3 := ez.trans (by decide)
  subst ez
  refine lv_istore_n (lv' := [(3, .int 3), (2, .int 3), (1, .int 2), (0, .ref (a 37))]) hx hb dX5_nextOrder_82 rfl hl (by decide) rfl (fun ls hl => ?_)
  refine lv_aload_n hx hb dX5_nextOrder_83 rfl (lv_at hl 3 rfl) ?_
  refine g_get S hw hinX5 (fs := fX37 a (up2 (up2 σ 40 2 2) 40 3 0)) 37 rfl rfl 4 (by decide) lk0 (v := .int 4) (congrArg (fun z => some (Value.int z)) (((up2_rn (by omega)).trans (up2_rn (by omega))).trans (hp0))) dX5_nextOrder_84 ?_
  refine lv_iconst (v := 1) hx hb dX5_nextOrder_87 (by decide) ?_
  refine lv_isub hx hb dX5_nextOrder_88 ?_
  refine lv_topi (fun zz ez => ?_)
  have ez : zz = 3 := ez.trans (by decide)
  subst ez
  refine lv_istore (lv' := [(4, .int 3), (3, .int 3), (2, .int 3), (1, .int 2), (0, .ref (a 37))]) hx hb dX5_nextOrder_89 hl (by decide) rfl (fun ls hl => ?_)
  refine lv_iload_n hx hb dX5_nextOrder_91 rfl (lv_at hl 1 rfl) ?_
  refine lv_iload hx hb dX5_nextOrder_92 (lv_at hl 0 rfl) ?_
  refine lv_icmp_ge hx hb (tgt := 113) dX5_nextOrder_94 (by decide) (fun c_x => ?_) (fun c_x => absurd (by decide) c_x)
  refine lv_iconst (v := 1) hx hb dX5_nextOrder_113 (by decide) ?_
  have hw := hw.arr 40 (f := (up2 (up2 σ 40 2 2) 40 3 0) 40) (g := permRow 4 21) rfl (row4 (((up2_rp (by decide)).trans (up2_rp (by decide))).trans (ht0)) (((up2_rp (by decide)).trans (up2_rp (by decide))).trans (ht1)) ((up2_rp (by decide)).trans (up2_rs)) (up2_rs)) (wX_r40 _ _ _ _ _ _ _)
  simp only [row_up2] at hw
  exact g_zret S hr hlk hw (by decide) (by simp only [XP_nextOrder_4_20_r]) (by simp only [XP_nextOrder_4_20_s]) dX5_nextOrder_114
def XP_nextOrder_4_21_r (κ : Nat → Nat) (σ : Nat → Nat → Int32) : Int32 := 1
def XP_nextOrder_4_21_s (κ : Nat → Nat) (σ : Nat → Nat → Int32) : Nat → Nat → Int32 := row σ 40 (permRow 4 22)
theorem XP_nextOrder_4_21_z (κ : Nat → Nat) (σ : Nat → Nat → Int32) : XP_nextOrder_4_21_r κ σ = 0 ∨ XP_nextOrder_4_21_r κ σ = 1 := by
  unfold XP_nextOrder_4_21_r
  exact Or.inr rfl

set_option maxHeartbeats 4000000 in
set_option maxRecDepth 100000 in
theorem c_XP_nextOrder_4_21 (l : Launch) (D : va_G) (cI cC cI2 : ClassId) (a : Nat → Nat) (κ : Nat → Nat) (σ : Nat → Nat → Int32) (hp0 : σ 37 4 = nI 4) (ht0 : σ 40 0 = nI 3) (ht1 : σ 40 1 = nI 1) (ht2 : σ 40 2 = nI 2) (ht3 : σ 40 3 = nI 0) : gI l D (tysX cI cC cI2) yX5_nextOrder wsX5_nextOrder 2 [.ref (a 37)] (wX cI cC cI2 a κ σ) (XP_nextOrder_4_21_r κ σ) (wX cI cC cI2 a κ (XP_nextOrder_4_21_s κ σ)) := by
  refine g_start (cc := cX5_nextOrder) (maxL := 5) (ret := some .boolean) (Qc := gQi D (tysX cI cC cI2) (XP_nextOrder_4_21_r κ σ) (wX cI cC cI2 a κ (XP_nextOrder_4_21_s κ σ))) (by decide) rfl (Nat.le_of_ble_eq_true rfl) ?_
  intro p e s m below meth C A ls S hr hlk hw hl
  obtain ⟨hx, hb, hml, hown, hts⟩ := id S
  have hinX5 : ∀ x ∈ u_ws RX5 TX5 6, x ∈ wsX5_nextOrder := fun x h => List.mem_cons_of_mem _ (List.mem_append_right _ h)
  have lk0 : Cond.fieldLink RX5 24 "CowsOwed$Plans" "size" "I" ∈ wsX5_nextOrder := by decide +kernel
  have lk1 : Cond.fieldLink RX5 18 "CowsOwed$Plans" "tried" "[I" ∈ wsX5_nextOrder := by decide +kernel
  have hl : lv_has ls 5 [(0, .ref (a 37))] := hl
  refine lv_aload_n hx hb dX5_nextOrder_0 rfl (lv_at hl 0 rfl) ?_
  refine g_get S hw hinX5 (fs := fX37 a σ) 37 rfl rfl 4 (by decide) lk0 (v := .int 4) (congrArg (fun z => some (Value.int z)) (hp0)) dX5_nextOrder_1 ?_
  refine lv_iconst (v := 2) hx hb dX5_nextOrder_4 (by decide) ?_
  refine lv_isub hx hb dX5_nextOrder_5 ?_
  refine lv_topi (fun zz ez => ?_)
  have ez : zz = 2 := ez.trans (by decide)
  subst ez
  refine lv_istore_n (lv' := [(1, .int 2), (0, .ref (a 37))]) hx hb dX5_nextOrder_6 rfl hl (by decide) rfl (fun ls hl => ?_)
  refine lv_iload_n hx hb dX5_nextOrder_7 rfl (lv_at hl 0 rfl) ?_
  refine lv_if_lt hx hb (tgt := 34) dX5_nextOrder_8 (by decide) (fun c_x => absurd c_x (by decide)) (fun c_x => ?_)
  refine lv_aload_n hx hb dX5_nextOrder_11 rfl (lv_at hl 1 rfl) ?_
  refine g_get S hw hinX5 (fs := fX37 a σ) 37 rfl rfl 2 (by decide) lk1 (v := .ref (a 40)) rfl dX5_nextOrder_12 ?_
  refine lv_iload_n hx hb dX5_nextOrder_15 rfl (lv_at hl 0 rfl) ?_
  refine g_iald S hw (f := σ 40) (i := 2) (x := 2) 40 0 rfl rfl (by omega) (by decide) ht2 dX5_nextOrder_16 ?_
  refine lv_aload_n hx hb dX5_nextOrder_17 rfl (lv_at hl 1 rfl) ?_
  refine g_get S hw hinX5 (fs := fX37 a σ) 37 rfl rfl 2 (by decide) lk1 (v := .ref (a 40)) rfl dX5_nextOrder_18 ?_
  refine lv_iload_n hx hb dX5_nextOrder_21 rfl (lv_at hl 0 rfl) ?_
  refine lv_iconst (v := 1) hx hb dX5_nextOrder_22 (by decide) ?_
  refine lv_iadd hx hb dX5_nextOrder_23 ?_
  refine lv_topi (fun zz ez => ?_)
  have ez : zz = 3 := ez.trans (by decide)
  subst ez
  refine g_iald S hw (f := σ 40) (i := 3) (x := 0) 40 0 rfl rfl (by omega) (by decide) ht3 dX5_nextOrder_24 ?_
  refine lv_icmp_le hx hb (tgt := 34) dX5_nextOrder_25 (by decide) (fun c_x => absurd c_x (by decide)) (fun c_x => ?_)
  refine lv_iinc (v := 1) (lv' := [(1, .int 1), (0, .ref (a 37))]) hx hb dX5_nextOrder_28 hl (k := 0) rfl (by decide) (by decide) rfl (fun ls hl => ?_)
  refine lv_goto (tgt := 7) hx hb dX5_nextOrder_31 (by decide) ?_
  refine lv_iload_n hx hb dX5_nextOrder_7 rfl (lv_at hl 0 rfl) ?_
  refine lv_if_lt hx hb (tgt := 34) dX5_nextOrder_8 (by decide) (fun c_x => absurd c_x (by decide)) (fun c_x => ?_)
  refine lv_aload_n hx hb dX5_nextOrder_11 rfl (lv_at hl 1 rfl) ?_
  refine g_get S hw hinX5 (fs := fX37 a σ) 37 rfl rfl 2 (by decide) lk1 (v := .ref (a 40)) rfl dX5_nextOrder_12 ?_
  refine lv_iload_n hx hb dX5_nextOrder_15 rfl (lv_at hl 0 rfl) ?_
  refine g_iald S hw (f := σ 40) (i := 1) (x := 1) 40 0 rfl rfl (by omega) (by decide) ht1 dX5_nextOrder_16 ?_
  refine lv_aload_n hx hb dX5_nextOrder_17 rfl (lv_at hl 1 rfl) ?_
  refine g_get S hw hinX5 (fs := fX37 a σ) 37 rfl rfl 2 (by decide) lk1 (v := .ref (a 40)) rfl dX5_nextOrder_18 ?_
  refine lv_iload_n hx hb dX5_nextOrder_21 rfl (lv_at hl 0 rfl) ?_
  refine lv_iconst (v := 1) hx hb dX5_nextOrder_22 (by decide) ?_
  refine lv_iadd hx hb dX5_nextOrder_23 ?_
  refine lv_topi (fun zz ez => ?_)
  have ez : zz = 2 := ez.trans (by decide)
  subst ez
  refine g_iald S hw (f := σ 40) (i := 2) (x := 2) 40 0 rfl rfl (by omega) (by decide) ht2 dX5_nextOrder_24 ?_
  refine lv_icmp_le hx hb (tgt := 34) dX5_nextOrder_25 (by decide) (fun c_x => ?_) (fun c_x => absurd (by decide) c_x)
  refine lv_iload_n hx hb dX5_nextOrder_34 rfl (lv_at hl 0 rfl) ?_
  refine lv_if_ge hx hb (tgt := 40) dX5_nextOrder_35 (by decide) (fun c_x => ?_) (fun c_x => absurd (by decide) c_x)
  refine lv_aload_n hx hb dX5_nextOrder_40 rfl (lv_at hl 1 rfl) ?_
  refine g_get S hw hinX5 (fs := fX37 a σ) 37 rfl rfl 4 (by decide) lk0 (v := .int 4) (congrArg (fun z => some (Value.int z)) (hp0)) dX5_nextOrder_41 ?_
  refine lv_iconst (v := 1) hx hb dX5_nextOrder_44 (by decide) ?_
  refine lv_isub hx hb dX5_nextOrder_45 ?_
  refine lv_topi (fun zz ez => ?_)
  have ez : zz = 3 := ez.trans (by decide)
  subst ez
  refine lv_istore_n (lv' := [(2, .int 3), (1, .int 1), (0, .ref (a 37))]) hx hb dX5_nextOrder_46 rfl hl (by decide) rfl (fun ls hl => ?_)
  refine lv_iload_n hx hb dX5_nextOrder_47 rfl (lv_at hl 0 rfl) ?_
  refine lv_iload_n hx hb dX5_nextOrder_48 rfl (lv_at hl 1 rfl) ?_
  refine lv_icmp_le hx hb (tgt := 73) dX5_nextOrder_49 (by decide) (fun c_x => absurd c_x (by decide)) (fun c_x => ?_)
  refine lv_aload_n hx hb dX5_nextOrder_52 rfl (lv_at hl 2 rfl) ?_
  refine g_get S hw hinX5 (fs := fX37 a σ) 37 rfl rfl 2 (by decide) lk1 (v := .ref (a 40)) rfl dX5_nextOrder_53 ?_
  refine lv_iload_n hx hb dX5_nextOrder_56 rfl (lv_at hl 0 rfl) ?_
  refine g_iald S hw (f := σ 40) (i := 3) (x := 0) 40 0 rfl rfl (by omega) (by decide) ht3 dX5_nextOrder_57 ?_
  refine lv_aload_n hx hb dX5_nextOrder_58 rfl (lv_at hl 2 rfl) ?_
  refine g_get S hw hinX5 (fs := fX37 a σ) 37 rfl rfl 2 (by decide) lk1 (v := .ref (a 40)) rfl dX5_nextOrder_59 ?_
  refine lv_iload_n hx hb dX5_nextOrder_62 rfl (lv_at hl 1 rfl) ?_
  refine g_iald S hw (f := σ 40) (i := 1) (x := 1) 40 0 rfl rfl (by omega) (by decide) ht1 dX5_nextOrder_63 ?_
  refine lv_icmp_ge hx hb (tgt := 73) dX5_nextOrder_64 (by decide) (fun c_x => absurd c_x (by decide)) (fun c_x => ?_)
  refine lv_iinc (v := 2) (lv' := [(2, .int 2), (1, .int 1), (0, .ref (a 37))]) hx hb dX5_nextOrder_67 hl (k := 0) rfl (by decide) (by decide) rfl (fun ls hl => ?_)
  refine lv_goto (tgt := 47) hx hb dX5_nextOrder_70 (by decide) ?_
  refine lv_iload_n hx hb dX5_nextOrder_47 rfl (lv_at hl 0 rfl) ?_
  refine lv_iload_n hx hb dX5_nextOrder_48 rfl (lv_at hl 1 rfl) ?_
  refine lv_icmp_le hx hb (tgt := 73) dX5_nextOrder_49 (by decide) (fun c_x => absurd c_x (by decide)) (fun c_x => ?_)
  refine lv_aload_n hx hb dX5_nextOrder_52 rfl (lv_at hl 2 rfl) ?_
  refine g_get S hw hinX5 (fs := fX37 a σ) 37 rfl rfl 2 (by decide) lk1 (v := .ref (a 40)) rfl dX5_nextOrder_53 ?_
  refine lv_iload_n hx hb dX5_nextOrder_56 rfl (lv_at hl 0 rfl) ?_
  refine g_iald S hw (f := σ 40) (i := 2) (x := 2) 40 0 rfl rfl (by omega) (by decide) ht2 dX5_nextOrder_57 ?_
  refine lv_aload_n hx hb dX5_nextOrder_58 rfl (lv_at hl 2 rfl) ?_
  refine g_get S hw hinX5 (fs := fX37 a σ) 37 rfl rfl 2 (by decide) lk1 (v := .ref (a 40)) rfl dX5_nextOrder_59 ?_
  refine lv_iload_n hx hb dX5_nextOrder_62 rfl (lv_at hl 1 rfl) ?_
  refine g_iald S hw (f := σ 40) (i := 1) (x := 1) 40 0 rfl rfl (by omega) (by decide) ht1 dX5_nextOrder_63 ?_
  refine lv_icmp_ge hx hb (tgt := 73) dX5_nextOrder_64 (by decide) (fun c_x => ?_) (fun c_x => absurd (by decide) c_x)
  refine lv_aload_n hx hb dX5_nextOrder_73 rfl (lv_at hl 2 rfl) ?_
  refine lv_iload_n hx hb dX5_nextOrder_74 rfl (lv_at hl 1 rfl) ?_
  refine lv_iload_n hx hb dX5_nextOrder_75 rfl (lv_at hl 0 rfl) ?_
  refine g_callVv S hw (c_XP_swapTried l D cI cC cI2 a κ σ 1 2 (by decide) (by decide)) gX5_nextOrder_X5_swapTried rfl 37 rfl rfl 2 rfl (by decide +kernel) (by decide) (by decide) hl.1 rfl (Nat.le_of_ble_eq_true rfl) dX5_nextOrder_76 (fun H locs hw => ?_)
  have ew : XP_swapTried_s κ σ 1 2 = up2 (up2 σ 40 1 2) 40 2 1 := by
    unfold XP_swapTried_s
    rw [show σ 40 2 = 2 from ht2, show σ 40 1 = 1 from ht1]
  rw [ew] at hw
  refine lv_iload_n hx hb dX5_nextOrder_79 rfl (lv_at hl 1 rfl) ?_
  refine lv_iconst (v := 1) hx hb dX5_nextOrder_80 (by decide) ?_
  refine lv_iadd hx hb dX5_nextOrder_81 ?_
  refine lv_topi (fun zz ez => ?_)
  have ez : zz = 2 := ez.trans (by decide)
  subst ez
  refine lv_istore_n (lv' := [(3, .int 2), (2, .int 2), (1, .int 1), (0, .ref (a 37))]) hx hb dX5_nextOrder_82 rfl hl (by decide) rfl (fun ls hl => ?_)
  refine lv_aload_n hx hb dX5_nextOrder_83 rfl (lv_at hl 3 rfl) ?_
  refine g_get S hw hinX5 (fs := fX37 a (up2 (up2 σ 40 1 2) 40 2 1)) 37 rfl rfl 4 (by decide) lk0 (v := .int 4) (congrArg (fun z => some (Value.int z)) (((up2_rn (by omega)).trans (up2_rn (by omega))).trans (hp0))) dX5_nextOrder_84 ?_
  refine lv_iconst (v := 1) hx hb dX5_nextOrder_87 (by decide) ?_
  refine lv_isub hx hb dX5_nextOrder_88 ?_
  refine lv_topi (fun zz ez => ?_)
  have ez : zz = 3 := ez.trans (by decide)
  subst ez
  refine lv_istore (lv' := [(4, .int 3), (3, .int 2), (2, .int 2), (1, .int 1), (0, .ref (a 37))]) hx hb dX5_nextOrder_89 hl (by decide) rfl (fun ls hl => ?_)
  refine lv_iload_n hx hb dX5_nextOrder_91 rfl (lv_at hl 1 rfl) ?_
  refine lv_iload hx hb dX5_nextOrder_92 (lv_at hl 0 rfl) ?_
  refine lv_icmp_ge hx hb (tgt := 113) dX5_nextOrder_94 (by decide) (fun c_x => absurd c_x (by decide)) (fun c_x => ?_)
  refine lv_aload_n hx hb dX5_nextOrder_97 rfl (lv_at hl 4 rfl) ?_
  refine lv_iload_n hx hb dX5_nextOrder_98 rfl (lv_at hl 1 rfl) ?_
  refine lv_iload hx hb dX5_nextOrder_99 (lv_at hl 0 rfl) ?_
  refine g_callVv S hw (c_XP_swapTried l D cI cC cI2 a κ (up2 (up2 σ 40 1 2) 40 2 1) 2 3 (by decide) (by decide)) gX5_nextOrder_X5_swapTried rfl 37 rfl rfl 2 rfl (by decide +kernel) (by decide) (by decide) hl.1 rfl (Nat.le_of_ble_eq_true rfl) dX5_nextOrder_101 (fun H locs hw => ?_)
  have ew : XP_swapTried_s κ (up2 (up2 σ 40 1 2) 40 2 1) 2 3 = up2 (up2 (up2 (up2 σ 40 1 2) 40 2 1) 40 2 0) 40 3 1 := by
    unfold XP_swapTried_s
    rw [show (up2 (up2 σ 40 1 2) 40 2 1) 40 3 = 0 from ((up2_rp (by decide)).trans (up2_rp (by decide))).trans (ht3), show (up2 (up2 σ 40 1 2) 40 2 1) 40 2 = 1 from up2_rs]
  rw [ew] at hw
  refine lv_iinc (v := 3) (lv' := [(3, .int 3), (4, .int 3), (2, .int 2), (1, .int 1), (0, .ref (a 37))]) hx hb dX5_nextOrder_104 hl (k := 1) rfl (by decide) (by decide) rfl (fun ls hl => ?_)
  refine lv_iinc (v := 2) (lv' := [(4, .int 2), (3, .int 3), (2, .int 2), (1, .int 1), (0, .ref (a 37))]) hx hb dX5_nextOrder_107 hl (k := 1) rfl (by decide) (by decide) rfl (fun ls hl => ?_)
  refine lv_goto (tgt := 91) hx hb dX5_nextOrder_110 (by decide) ?_
  refine lv_iload_n hx hb dX5_nextOrder_91 rfl (lv_at hl 1 rfl) ?_
  refine lv_iload hx hb dX5_nextOrder_92 (lv_at hl 0 rfl) ?_
  refine lv_icmp_ge hx hb (tgt := 113) dX5_nextOrder_94 (by decide) (fun c_x => ?_) (fun c_x => absurd (by decide) c_x)
  refine lv_iconst (v := 1) hx hb dX5_nextOrder_113 (by decide) ?_
  have hw := hw.arr 40 (f := (up2 (up2 (up2 (up2 σ 40 1 2) 40 2 1) 40 2 0) 40 3 1) 40) (g := permRow 4 22) rfl (row4 (((up2_rp (by decide)).trans ((up2_rp (by decide)).trans ((up2_rp (by decide)).trans (up2_rp (by decide))))).trans (ht0)) ((up2_rp (by decide)).trans ((up2_rp (by decide)).trans ((up2_rp (by decide)).trans (up2_rs)))) ((up2_rp (by decide)).trans (up2_rs)) (up2_rs)) (wX_r40 _ _ _ _ _ _ _)
  simp only [row_up2] at hw
  exact g_zret S hr hlk hw (by decide) (by simp only [XP_nextOrder_4_21_r]) (by simp only [XP_nextOrder_4_21_s]) dX5_nextOrder_114
def XP_nextOrder_4_22_r (κ : Nat → Nat) (σ : Nat → Nat → Int32) : Int32 := 1
def XP_nextOrder_4_22_s (κ : Nat → Nat) (σ : Nat → Nat → Int32) : Nat → Nat → Int32 := row σ 40 (permRow 4 23)
theorem XP_nextOrder_4_22_z (κ : Nat → Nat) (σ : Nat → Nat → Int32) : XP_nextOrder_4_22_r κ σ = 0 ∨ XP_nextOrder_4_22_r κ σ = 1 := by
  unfold XP_nextOrder_4_22_r
  exact Or.inr rfl

set_option maxHeartbeats 4000000 in
set_option maxRecDepth 100000 in
theorem c_XP_nextOrder_4_22 (l : Launch) (D : va_G) (cI cC cI2 : ClassId) (a : Nat → Nat) (κ : Nat → Nat) (σ : Nat → Nat → Int32) (hp0 : σ 37 4 = nI 4) (ht0 : σ 40 0 = nI 3) (ht1 : σ 40 1 = nI 2) (ht2 : σ 40 2 = nI 0) (ht3 : σ 40 3 = nI 1) : gI l D (tysX cI cC cI2) yX5_nextOrder wsX5_nextOrder 2 [.ref (a 37)] (wX cI cC cI2 a κ σ) (XP_nextOrder_4_22_r κ σ) (wX cI cC cI2 a κ (XP_nextOrder_4_22_s κ σ)) := by
  refine g_start (cc := cX5_nextOrder) (maxL := 5) (ret := some .boolean) (Qc := gQi D (tysX cI cC cI2) (XP_nextOrder_4_22_r κ σ) (wX cI cC cI2 a κ (XP_nextOrder_4_22_s κ σ))) (by decide) rfl (Nat.le_of_ble_eq_true rfl) ?_
  intro p e s m below meth C A ls S hr hlk hw hl
  obtain ⟨hx, hb, hml, hown, hts⟩ := id S
  have hinX5 : ∀ x ∈ u_ws RX5 TX5 6, x ∈ wsX5_nextOrder := fun x h => List.mem_cons_of_mem _ (List.mem_append_right _ h)
  have lk0 : Cond.fieldLink RX5 24 "CowsOwed$Plans" "size" "I" ∈ wsX5_nextOrder := by decide +kernel
  have lk1 : Cond.fieldLink RX5 18 "CowsOwed$Plans" "tried" "[I" ∈ wsX5_nextOrder := by decide +kernel
  have hl : lv_has ls 5 [(0, .ref (a 37))] := hl
  refine lv_aload_n hx hb dX5_nextOrder_0 rfl (lv_at hl 0 rfl) ?_
  refine g_get S hw hinX5 (fs := fX37 a σ) 37 rfl rfl 4 (by decide) lk0 (v := .int 4) (congrArg (fun z => some (Value.int z)) (hp0)) dX5_nextOrder_1 ?_
  refine lv_iconst (v := 2) hx hb dX5_nextOrder_4 (by decide) ?_
  refine lv_isub hx hb dX5_nextOrder_5 ?_
  refine lv_topi (fun zz ez => ?_)
  have ez : zz = 2 := ez.trans (by decide)
  subst ez
  refine lv_istore_n (lv' := [(1, .int 2), (0, .ref (a 37))]) hx hb dX5_nextOrder_6 rfl hl (by decide) rfl (fun ls hl => ?_)
  refine lv_iload_n hx hb dX5_nextOrder_7 rfl (lv_at hl 0 rfl) ?_
  refine lv_if_lt hx hb (tgt := 34) dX5_nextOrder_8 (by decide) (fun c_x => absurd c_x (by decide)) (fun c_x => ?_)
  refine lv_aload_n hx hb dX5_nextOrder_11 rfl (lv_at hl 1 rfl) ?_
  refine g_get S hw hinX5 (fs := fX37 a σ) 37 rfl rfl 2 (by decide) lk1 (v := .ref (a 40)) rfl dX5_nextOrder_12 ?_
  refine lv_iload_n hx hb dX5_nextOrder_15 rfl (lv_at hl 0 rfl) ?_
  refine g_iald S hw (f := σ 40) (i := 2) (x := 0) 40 0 rfl rfl (by omega) (by decide) ht2 dX5_nextOrder_16 ?_
  refine lv_aload_n hx hb dX5_nextOrder_17 rfl (lv_at hl 1 rfl) ?_
  refine g_get S hw hinX5 (fs := fX37 a σ) 37 rfl rfl 2 (by decide) lk1 (v := .ref (a 40)) rfl dX5_nextOrder_18 ?_
  refine lv_iload_n hx hb dX5_nextOrder_21 rfl (lv_at hl 0 rfl) ?_
  refine lv_iconst (v := 1) hx hb dX5_nextOrder_22 (by decide) ?_
  refine lv_iadd hx hb dX5_nextOrder_23 ?_
  refine lv_topi (fun zz ez => ?_)
  have ez : zz = 3 := ez.trans (by decide)
  subst ez
  refine g_iald S hw (f := σ 40) (i := 3) (x := 1) 40 0 rfl rfl (by omega) (by decide) ht3 dX5_nextOrder_24 ?_
  refine lv_icmp_le hx hb (tgt := 34) dX5_nextOrder_25 (by decide) (fun c_x => ?_) (fun c_x => absurd (by decide) c_x)
  refine lv_iload_n hx hb dX5_nextOrder_34 rfl (lv_at hl 0 rfl) ?_
  refine lv_if_ge hx hb (tgt := 40) dX5_nextOrder_35 (by decide) (fun c_x => ?_) (fun c_x => absurd (by decide) c_x)
  refine lv_aload_n hx hb dX5_nextOrder_40 rfl (lv_at hl 1 rfl) ?_
  refine g_get S hw hinX5 (fs := fX37 a σ) 37 rfl rfl 4 (by decide) lk0 (v := .int 4) (congrArg (fun z => some (Value.int z)) (hp0)) dX5_nextOrder_41 ?_
  refine lv_iconst (v := 1) hx hb dX5_nextOrder_44 (by decide) ?_
  refine lv_isub hx hb dX5_nextOrder_45 ?_
  refine lv_topi (fun zz ez => ?_)
  have ez : zz = 3 := ez.trans (by decide)
  subst ez
  refine lv_istore_n (lv' := [(2, .int 3), (1, .int 2), (0, .ref (a 37))]) hx hb dX5_nextOrder_46 rfl hl (by decide) rfl (fun ls hl => ?_)
  refine lv_iload_n hx hb dX5_nextOrder_47 rfl (lv_at hl 0 rfl) ?_
  refine lv_iload_n hx hb dX5_nextOrder_48 rfl (lv_at hl 1 rfl) ?_
  refine lv_icmp_le hx hb (tgt := 73) dX5_nextOrder_49 (by decide) (fun c_x => absurd c_x (by decide)) (fun c_x => ?_)
  refine lv_aload_n hx hb dX5_nextOrder_52 rfl (lv_at hl 2 rfl) ?_
  refine g_get S hw hinX5 (fs := fX37 a σ) 37 rfl rfl 2 (by decide) lk1 (v := .ref (a 40)) rfl dX5_nextOrder_53 ?_
  refine lv_iload_n hx hb dX5_nextOrder_56 rfl (lv_at hl 0 rfl) ?_
  refine g_iald S hw (f := σ 40) (i := 3) (x := 1) 40 0 rfl rfl (by omega) (by decide) ht3 dX5_nextOrder_57 ?_
  refine lv_aload_n hx hb dX5_nextOrder_58 rfl (lv_at hl 2 rfl) ?_
  refine g_get S hw hinX5 (fs := fX37 a σ) 37 rfl rfl 2 (by decide) lk1 (v := .ref (a 40)) rfl dX5_nextOrder_59 ?_
  refine lv_iload_n hx hb dX5_nextOrder_62 rfl (lv_at hl 1 rfl) ?_
  refine g_iald S hw (f := σ 40) (i := 2) (x := 0) 40 0 rfl rfl (by omega) (by decide) ht2 dX5_nextOrder_63 ?_
  refine lv_icmp_ge hx hb (tgt := 73) dX5_nextOrder_64 (by decide) (fun c_x => ?_) (fun c_x => absurd (by decide) c_x)
  refine lv_aload_n hx hb dX5_nextOrder_73 rfl (lv_at hl 2 rfl) ?_
  refine lv_iload_n hx hb dX5_nextOrder_74 rfl (lv_at hl 1 rfl) ?_
  refine lv_iload_n hx hb dX5_nextOrder_75 rfl (lv_at hl 0 rfl) ?_
  refine g_callVv S hw (c_XP_swapTried l D cI cC cI2 a κ σ 2 3 (by decide) (by decide)) gX5_nextOrder_X5_swapTried rfl 37 rfl rfl 2 rfl (by decide +kernel) (by decide) (by decide) hl.1 rfl (Nat.le_of_ble_eq_true rfl) dX5_nextOrder_76 (fun H locs hw => ?_)
  have ew : XP_swapTried_s κ σ 2 3 = up2 (up2 σ 40 2 1) 40 3 0 := by
    unfold XP_swapTried_s
    rw [show σ 40 3 = 1 from ht3, show σ 40 2 = 0 from ht2]
  rw [ew] at hw
  refine lv_iload_n hx hb dX5_nextOrder_79 rfl (lv_at hl 1 rfl) ?_
  refine lv_iconst (v := 1) hx hb dX5_nextOrder_80 (by decide) ?_
  refine lv_iadd hx hb dX5_nextOrder_81 ?_
  refine lv_topi (fun zz ez => ?_)
  have ez : zz = 3 := ez.trans (by decide)
  subst ez
  refine lv_istore_n (lv' := [(3, .int 3), (2, .int 3), (1, .int 2), (0, .ref (a 37))]) hx hb dX5_nextOrder_82 rfl hl (by decide) rfl (fun ls hl => ?_)
  refine lv_aload_n hx hb dX5_nextOrder_83 rfl (lv_at hl 3 rfl) ?_
  refine g_get S hw hinX5 (fs := fX37 a (up2 (up2 σ 40 2 1) 40 3 0)) 37 rfl rfl 4 (by decide) lk0 (v := .int 4) (congrArg (fun z => some (Value.int z)) (((up2_rn (by omega)).trans (up2_rn (by omega))).trans (hp0))) dX5_nextOrder_84 ?_
  refine lv_iconst (v := 1) hx hb dX5_nextOrder_87 (by decide) ?_
  refine lv_isub hx hb dX5_nextOrder_88 ?_
  refine lv_topi (fun zz ez => ?_)
  have ez : zz = 3 := ez.trans (by decide)
  subst ez
  refine lv_istore (lv' := [(4, .int 3), (3, .int 3), (2, .int 3), (1, .int 2), (0, .ref (a 37))]) hx hb dX5_nextOrder_89 hl (by decide) rfl (fun ls hl => ?_)
  refine lv_iload_n hx hb dX5_nextOrder_91 rfl (lv_at hl 1 rfl) ?_
  refine lv_iload hx hb dX5_nextOrder_92 (lv_at hl 0 rfl) ?_
  refine lv_icmp_ge hx hb (tgt := 113) dX5_nextOrder_94 (by decide) (fun c_x => ?_) (fun c_x => absurd (by decide) c_x)
  refine lv_iconst (v := 1) hx hb dX5_nextOrder_113 (by decide) ?_
  have hw := hw.arr 40 (f := (up2 (up2 σ 40 2 1) 40 3 0) 40) (g := permRow 4 23) rfl (row4 (((up2_rp (by decide)).trans (up2_rp (by decide))).trans (ht0)) (((up2_rp (by decide)).trans (up2_rp (by decide))).trans (ht1)) ((up2_rp (by decide)).trans (up2_rs)) (up2_rs)) (wX_r40 _ _ _ _ _ _ _)
  simp only [row_up2] at hw
  exact g_zret S hr hlk hw (by decide) (by simp only [XP_nextOrder_4_22_r]) (by simp only [XP_nextOrder_4_22_s]) dX5_nextOrder_114
def XP_nextOrder_4_23_r (κ : Nat → Nat) (σ : Nat → Nat → Int32) : Int32 := 0
def XP_nextOrder_4_23_s (κ : Nat → Nat) (σ : Nat → Nat → Int32) : Nat → Nat → Int32 := row σ 40 (permRow 4 23)
theorem XP_nextOrder_4_23_z (κ : Nat → Nat) (σ : Nat → Nat → Int32) : XP_nextOrder_4_23_r κ σ = 0 ∨ XP_nextOrder_4_23_r κ σ = 1 := by
  unfold XP_nextOrder_4_23_r
  exact Or.inl rfl

set_option maxHeartbeats 4000000 in
set_option maxRecDepth 100000 in
theorem c_XP_nextOrder_4_23 (l : Launch) (D : va_G) (cI cC cI2 : ClassId) (a : Nat → Nat) (κ : Nat → Nat) (σ : Nat → Nat → Int32) (hp0 : σ 37 4 = nI 4) (ht0 : σ 40 0 = nI 3) (ht1 : σ 40 1 = nI 2) (ht2 : σ 40 2 = nI 1) (ht3 : σ 40 3 = nI 0) : gI l D (tysX cI cC cI2) yX5_nextOrder wsX5_nextOrder 2 [.ref (a 37)] (wX cI cC cI2 a κ σ) (XP_nextOrder_4_23_r κ σ) (wX cI cC cI2 a κ (XP_nextOrder_4_23_s κ σ)) := by
  refine g_start (cc := cX5_nextOrder) (maxL := 5) (ret := some .boolean) (Qc := gQi D (tysX cI cC cI2) (XP_nextOrder_4_23_r κ σ) (wX cI cC cI2 a κ (XP_nextOrder_4_23_s κ σ))) (by decide) rfl (Nat.le_of_ble_eq_true rfl) ?_
  intro p e s m below meth C A ls S hr hlk hw hl
  obtain ⟨hx, hb, hml, hown, hts⟩ := id S
  have hinX5 : ∀ x ∈ u_ws RX5 TX5 6, x ∈ wsX5_nextOrder := fun x h => List.mem_cons_of_mem _ (List.mem_append_right _ h)
  have lk0 : Cond.fieldLink RX5 24 "CowsOwed$Plans" "size" "I" ∈ wsX5_nextOrder := by decide +kernel
  have lk1 : Cond.fieldLink RX5 18 "CowsOwed$Plans" "tried" "[I" ∈ wsX5_nextOrder := by decide +kernel
  have hl : lv_has ls 5 [(0, .ref (a 37))] := hl
  refine lv_aload_n hx hb dX5_nextOrder_0 rfl (lv_at hl 0 rfl) ?_
  refine g_get S hw hinX5 (fs := fX37 a σ) 37 rfl rfl 4 (by decide) lk0 (v := .int 4) (congrArg (fun z => some (Value.int z)) (hp0)) dX5_nextOrder_1 ?_
  refine lv_iconst (v := 2) hx hb dX5_nextOrder_4 (by decide) ?_
  refine lv_isub hx hb dX5_nextOrder_5 ?_
  refine lv_topi (fun zz ez => ?_)
  have ez : zz = 2 := ez.trans (by decide)
  subst ez
  refine lv_istore_n (lv' := [(1, .int 2), (0, .ref (a 37))]) hx hb dX5_nextOrder_6 rfl hl (by decide) rfl (fun ls hl => ?_)
  refine lv_iload_n hx hb dX5_nextOrder_7 rfl (lv_at hl 0 rfl) ?_
  refine lv_if_lt hx hb (tgt := 34) dX5_nextOrder_8 (by decide) (fun c_x => absurd c_x (by decide)) (fun c_x => ?_)
  refine lv_aload_n hx hb dX5_nextOrder_11 rfl (lv_at hl 1 rfl) ?_
  refine g_get S hw hinX5 (fs := fX37 a σ) 37 rfl rfl 2 (by decide) lk1 (v := .ref (a 40)) rfl dX5_nextOrder_12 ?_
  refine lv_iload_n hx hb dX5_nextOrder_15 rfl (lv_at hl 0 rfl) ?_
  refine g_iald S hw (f := σ 40) (i := 2) (x := 1) 40 0 rfl rfl (by omega) (by decide) ht2 dX5_nextOrder_16 ?_
  refine lv_aload_n hx hb dX5_nextOrder_17 rfl (lv_at hl 1 rfl) ?_
  refine g_get S hw hinX5 (fs := fX37 a σ) 37 rfl rfl 2 (by decide) lk1 (v := .ref (a 40)) rfl dX5_nextOrder_18 ?_
  refine lv_iload_n hx hb dX5_nextOrder_21 rfl (lv_at hl 0 rfl) ?_
  refine lv_iconst (v := 1) hx hb dX5_nextOrder_22 (by decide) ?_
  refine lv_iadd hx hb dX5_nextOrder_23 ?_
  refine lv_topi (fun zz ez => ?_)
  have ez : zz = 3 := ez.trans (by decide)
  subst ez
  refine g_iald S hw (f := σ 40) (i := 3) (x := 0) 40 0 rfl rfl (by omega) (by decide) ht3 dX5_nextOrder_24 ?_
  refine lv_icmp_le hx hb (tgt := 34) dX5_nextOrder_25 (by decide) (fun c_x => absurd c_x (by decide)) (fun c_x => ?_)
  refine lv_iinc (v := 1) (lv' := [(1, .int 1), (0, .ref (a 37))]) hx hb dX5_nextOrder_28 hl (k := 0) rfl (by decide) (by decide) rfl (fun ls hl => ?_)
  refine lv_goto (tgt := 7) hx hb dX5_nextOrder_31 (by decide) ?_
  refine lv_iload_n hx hb dX5_nextOrder_7 rfl (lv_at hl 0 rfl) ?_
  refine lv_if_lt hx hb (tgt := 34) dX5_nextOrder_8 (by decide) (fun c_x => absurd c_x (by decide)) (fun c_x => ?_)
  refine lv_aload_n hx hb dX5_nextOrder_11 rfl (lv_at hl 1 rfl) ?_
  refine g_get S hw hinX5 (fs := fX37 a σ) 37 rfl rfl 2 (by decide) lk1 (v := .ref (a 40)) rfl dX5_nextOrder_12 ?_
  refine lv_iload_n hx hb dX5_nextOrder_15 rfl (lv_at hl 0 rfl) ?_
  refine g_iald S hw (f := σ 40) (i := 1) (x := 2) 40 0 rfl rfl (by omega) (by decide) ht1 dX5_nextOrder_16 ?_
  refine lv_aload_n hx hb dX5_nextOrder_17 rfl (lv_at hl 1 rfl) ?_
  refine g_get S hw hinX5 (fs := fX37 a σ) 37 rfl rfl 2 (by decide) lk1 (v := .ref (a 40)) rfl dX5_nextOrder_18 ?_
  refine lv_iload_n hx hb dX5_nextOrder_21 rfl (lv_at hl 0 rfl) ?_
  refine lv_iconst (v := 1) hx hb dX5_nextOrder_22 (by decide) ?_
  refine lv_iadd hx hb dX5_nextOrder_23 ?_
  refine lv_topi (fun zz ez => ?_)
  have ez : zz = 2 := ez.trans (by decide)
  subst ez
  refine g_iald S hw (f := σ 40) (i := 2) (x := 1) 40 0 rfl rfl (by omega) (by decide) ht2 dX5_nextOrder_24 ?_
  refine lv_icmp_le hx hb (tgt := 34) dX5_nextOrder_25 (by decide) (fun c_x => absurd c_x (by decide)) (fun c_x => ?_)
  refine lv_iinc (v := 0) (lv' := [(1, .int 0), (0, .ref (a 37))]) hx hb dX5_nextOrder_28 hl (k := 0) rfl (by decide) (by decide) rfl (fun ls hl => ?_)
  refine lv_goto (tgt := 7) hx hb dX5_nextOrder_31 (by decide) ?_
  refine lv_iload_n hx hb dX5_nextOrder_7 rfl (lv_at hl 0 rfl) ?_
  refine lv_if_lt hx hb (tgt := 34) dX5_nextOrder_8 (by decide) (fun c_x => absurd c_x (by decide)) (fun c_x => ?_)
  refine lv_aload_n hx hb dX5_nextOrder_11 rfl (lv_at hl 1 rfl) ?_
  refine g_get S hw hinX5 (fs := fX37 a σ) 37 rfl rfl 2 (by decide) lk1 (v := .ref (a 40)) rfl dX5_nextOrder_12 ?_
  refine lv_iload_n hx hb dX5_nextOrder_15 rfl (lv_at hl 0 rfl) ?_
  refine g_iald S hw (f := σ 40) (i := 0) (x := 3) 40 0 rfl rfl (by omega) (by decide) ht0 dX5_nextOrder_16 ?_
  refine lv_aload_n hx hb dX5_nextOrder_17 rfl (lv_at hl 1 rfl) ?_
  refine g_get S hw hinX5 (fs := fX37 a σ) 37 rfl rfl 2 (by decide) lk1 (v := .ref (a 40)) rfl dX5_nextOrder_18 ?_
  refine lv_iload_n hx hb dX5_nextOrder_21 rfl (lv_at hl 0 rfl) ?_
  refine lv_iconst (v := 1) hx hb dX5_nextOrder_22 (by decide) ?_
  refine lv_iadd hx hb dX5_nextOrder_23 ?_
  refine lv_topi (fun zz ez => ?_)
  have ez : zz = 1 := ez.trans (by decide)
  subst ez
  refine g_iald S hw (f := σ 40) (i := 1) (x := 2) 40 0 rfl rfl (by omega) (by decide) ht1 dX5_nextOrder_24 ?_
  refine lv_icmp_le hx hb (tgt := 34) dX5_nextOrder_25 (by decide) (fun c_x => absurd c_x (by decide)) (fun c_x => ?_)
  refine lv_iinc (v := (-1)) (lv' := [(1, .int (-1)), (0, .ref (a 37))]) hx hb dX5_nextOrder_28 hl (k := 0) rfl (by decide) (by decide) rfl (fun ls hl => ?_)
  refine lv_goto (tgt := 7) hx hb dX5_nextOrder_31 (by decide) ?_
  refine lv_iload_n hx hb dX5_nextOrder_7 rfl (lv_at hl 0 rfl) ?_
  refine lv_if_lt hx hb (tgt := 34) dX5_nextOrder_8 (by decide) (fun c_x => ?_) (fun c_x => absurd (by decide) c_x)
  refine lv_iload_n hx hb dX5_nextOrder_34 rfl (lv_at hl 0 rfl) ?_
  refine lv_if_ge hx hb (tgt := 40) dX5_nextOrder_35 (by decide) (fun c_x => absurd c_x (by decide)) (fun c_x => ?_)
  refine lv_iconst (v := 0) hx hb dX5_nextOrder_38 (by decide) ?_
  have hw := hw.arr 40 (f := σ 40) (g := permRow 4 23) rfl (row4 (ht0) (ht1) (ht2) (ht3)) (wX_r40 _ _ _ _ _ _ _)
  exact g_zret S hr hlk hw (by decide) (by simp only [XP_nextOrder_4_23_r]) (by simp only [XP_nextOrder_4_23_s]) dX5_nextOrder_39
