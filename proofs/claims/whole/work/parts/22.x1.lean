def XH_grown_r (h : Int32) : Int32 := if h < (if (h + (h / 2)) < 99 then h + (h / 2) else 99) then if (h + (h / 2)) < 99 then h + (h / 2) else 99 else h
set_option maxHeartbeats 4000000 in
set_option maxRecDepth 100000 in
theorem c_XH_grown (l : Launch) (D : va_G) (tys : List (ClassId × FieldType)) (w0 : va_W) (h : Int32) : gI l D tys yX2_grown wsX2_grown 1 [.int h] w0 (XH_grown_r h) w0 := by
  refine g_start (cc := cX2_grown) (maxL := 1) (ret := some .int) (Qc := gQi D tys (XH_grown_r h) w0) (by decide) rfl (Nat.le_of_ble_eq_true rfl) ?_
  intro p e s m below meth C A ls S hr hlk hw hl
  obtain ⟨hx, hb, hml, hown, hts⟩ := id S
  have lk0 : Cond.methodLink RX2 48 Lib.Math.min.name ∈ wsX2_grown := by decide +kernel
  have lk1 : Cond.static Lib.Math.min.name ∈ wsX2_grown := by decide +kernel
  have lk2 : Cond.initialized "java/lang/Math" ∈ wsX2_grown := by decide +kernel
  have lk3 : Cond.code Lib.Math.min.name Lib.Math.min.code 2 (some .int) ∈ wsX2_grown := by decide +kernel
  have lk4 : Cond.methodLink RX2 61 Lib.Math.max.name ∈ wsX2_grown := by decide +kernel
  have lk5 : Cond.static Lib.Math.max.name ∈ wsX2_grown := by decide +kernel
  have lk6 : Cond.code Lib.Math.max.name Lib.Math.max.code 2 (some .int) ∈ wsX2_grown := by decide +kernel
  have hl : lv_has ls 1 [(0, .int h)] := hl
  refine lv_iload_n hx hb dX2_grown_0 rfl (lv_at hl 0 rfl) ?_
  refine lv_bipush (v := 99) hx hb dX2_grown_1 (by decide) ?_
  refine lv_iload_n hx hb dX2_grown_3 rfl (lv_at hl 0 rfl) ?_
  refine lv_iload_n hx hb dX2_grown_4 rfl (lv_at hl 0 rfl) ?_
  refine lv_iconst (v := 2) hx hb dX2_grown_5 (by decide) ?_
  refine lv_idiv hx hb dX2_grown_6 (by decide) ?_
  refine lv_iadd hx hb dX2_grown_7 ?_
  refine va_mmin hx hb (hml.trans hl.1.symm) hown (hts _ lk0) (hts _ lk1) (hts _ lk2) (hts _ lk3) (by decide) (Nat.le_of_ble_eq_true rfl) (Nat.zero_le _) (Nat.zero_le _) dX2_grown_8 ?_
  refine va_mmax hx hb (hml.trans hl.1.symm) hown (hts _ lk4) (hts _ lk5) (hts _ lk2) (hts _ lk6) (by decide) (Nat.le_of_ble_eq_true rfl) (Nat.zero_le _) (Nat.zero_le _) dX2_grown_11 ?_
  exact g_iret S hr hlk hw (by simp only [XH_grown_r]) rfl dX2_grown_14
def XH_nextSeed_r (sd : Int32) : Int32 := (((1103515245 * sd.toInt64) + 12345) - ((1103515245 * sd.toInt64) + 12345) / 2147483648 * 2147483648).toInt32
set_option maxHeartbeats 4000000 in
set_option maxRecDepth 100000 in
theorem c_XH_nextSeed (l : Launch) (D : va_G) (tys : List (ClassId × FieldType)) (w0 : va_W) (sd : Int32) : gI l D tys yX2_nextSeed wsX2_nextSeed 1 [.int sd] w0 (XH_nextSeed_r sd) w0 := by
  refine g_start (cc := cX2_nextSeed) (maxL := 1) (ret := some .int) (Qc := gQi D tys (XH_nextSeed_r sd) w0) (by decide) rfl (Nat.le_of_ble_eq_true rfl) ?_
  intro p e s m below meth C A ls S hr hlk hw hl
  obtain ⟨hx, hb, hml, hown, hts⟩ := id S
  have lk0 : Cond.constantLong RX2 86 (1103515245) ∈ wsX2_nextSeed := by decide +kernel
  have lk1 : Cond.constantLong RX2 88 (12345) ∈ wsX2_nextSeed := by decide +kernel
  have lk2 : Cond.constantLong RX2 90 (2147483648) ∈ wsX2_nextSeed := by decide +kernel
  have hl : lv_has ls 1 [(0, .int sd)] := hl
  refine lv_ldc2 (v := 1103515245) hx hb hown (hts _ lk0) dX2_nextSeed_0 ?_
  refine lv_iload_n hx hb dX2_nextSeed_3 rfl (lv_at hl 0 rfl) ?_
  refine lv_i2l hx hb dX2_nextSeed_4 rfl ?_
  refine lv_lmul hx hb dX2_nextSeed_5 ?_
  refine lv_ldc2 (v := 12345) hx hb hown (hts _ lk1) dX2_nextSeed_6 ?_
  refine lv_ladd hx hb dX2_nextSeed_9 ?_
  refine lv_ldc2 (v := 2147483648) hx hb hown (hts _ lk2) dX2_nextSeed_10 ?_
  refine lv_lrem hx hb dX2_nextSeed_13 (by decide) ?_
  refine lv_l2i hx hb dX2_nextSeed_14 rfl ?_
  exact g_iret S hr hlk hw (by simp only [XH_nextSeed_r]) rfl dX2_nextSeed_15
def XH_knows_r (b : Nat) (κ : Nat → Nat) (σ : Nat → Nat → Int32) (c : Int32) : Int32 := if c < 0 then 0 else (if (σ b 3) ≤ c then 0 else 1)
theorem XH_knows_z (b : Nat) (κ : Nat → Nat) (σ : Nat → Nat → Int32) (c : Int32) : XH_knows_r b κ σ c = 0 ∨ XH_knows_r b κ σ c = 1 := by
  unfold XH_knows_r
  by_cases z1 : c < 0
  · rw [if_pos z1]
    exact Or.inl rfl
  · rw [if_neg z1]
    by_cases z2 : (σ b 3) ≤ c
    · rw [if_pos z2]
      exact Or.inl rfl
    · rw [if_neg z2]
      exact Or.inr rfl
set_option maxHeartbeats 4000000 in
set_option maxRecDepth 100000 in
theorem c_XH_knows_10 (l : Launch) (D : va_G) (cI cC cI2 : ClassId) (a : Nat → Nat) (κ : Nat → Nat) (σ : Nat → Nat → Int32) (c : Int32) : gI l D (tysX cI cC cI2) yX2_knows wsX2_knows 1 [.ref (a 10), .int c] (wX cI cC cI2 a κ σ) (XH_knows_r 10 κ σ c) (wX cI cC cI2 a κ σ) := by
  refine g_start (cc := cX2_knows) (maxL := 2) (ret := some .boolean) (Qc := gQi D (tysX cI cC cI2) (XH_knows_r 10 κ σ c) (wX cI cC cI2 a κ σ)) (by decide) rfl (Nat.le_of_ble_eq_true rfl) ?_
  intro p e s m below meth C A ls S hr hlk hw hl
  obtain ⟨hx, hb, hml, hown, hts⟩ := id S
  have hinX2 : ∀ x ∈ u_ws RX2 TX2 5, x ∈ wsX2_knows := fun x h => List.mem_cons_of_mem _ (List.mem_append_right _ h)
  have lk0 : Cond.fieldLink RX2 20 "CowsOwed$Herds" "size" "I" ∈ wsX2_knows := by decide +kernel
  have hl : lv_has ls 2 [(0, .ref (a 10)), (1, .int c)] := hl
  refine lv_iload_n hx hb dX2_knows_0 rfl (lv_at hl 1 rfl) ?_
  refine lv_if_lt hx hb (tgt := 16) dX2_knows_1 (by decide) (fun c_1 => ?_) (fun c_1 => ?_)
  · refine lv_iconst (v := 0) hx hb dX2_knows_16 (by decide) ?_
    exact g_zret S hr hlk hw (by decide) (by simp only [XH_knows_r, Nat.reduceAdd, if_pos c_1]) rfl dX2_knows_17
  · refine lv_iload_n hx hb dX2_knows_4 rfl (lv_at hl 1 rfl) ?_
    refine lv_aload_n hx hb dX2_knows_5 rfl (lv_at hl 0 rfl) ?_
    refine g_get S hw hinX2 (fs := fX10 a σ) 10 rfl rfl 3 (by decide) lk0 (v := .int (σ 10 3)) rfl dX2_knows_6 ?_
    refine lv_icmp_ge hx hb (tgt := 16) dX2_knows_9 (by decide) (fun c_2 => ?_) (fun c_2 => ?_)
    · refine lv_iconst (v := 0) hx hb dX2_knows_16 (by decide) ?_
      exact g_zret S hr hlk hw (by decide) (by simp only [XH_knows_r, Nat.reduceAdd, if_neg c_1, if_pos c_2]) rfl dX2_knows_17
    · refine lv_iconst (v := 1) hx hb dX2_knows_12 (by decide) ?_
      refine lv_goto (tgt := 17) hx hb dX2_knows_13 (by decide) ?_
      exact g_zret S hr hlk hw (by decide) (by simp only [XH_knows_r, Nat.reduceAdd, if_neg c_1, if_neg c_2]) rfl dX2_knows_17
set_option maxHeartbeats 4000000 in
set_option maxRecDepth 100000 in
theorem c_XH_knows_24 (l : Launch) (D : va_G) (cI cC cI2 : ClassId) (a : Nat → Nat) (κ : Nat → Nat) (σ : Nat → Nat → Int32) (c : Int32) : gI l D (tysX cI cC cI2) yX2_knows wsX2_knows 1 [.ref (a 24), .int c] (wX cI cC cI2 a κ σ) (XH_knows_r 24 κ σ c) (wX cI cC cI2 a κ σ) := by
  refine g_start (cc := cX2_knows) (maxL := 2) (ret := some .boolean) (Qc := gQi D (tysX cI cC cI2) (XH_knows_r 24 κ σ c) (wX cI cC cI2 a κ σ)) (by decide) rfl (Nat.le_of_ble_eq_true rfl) ?_
  intro p e s m below meth C A ls S hr hlk hw hl
  obtain ⟨hx, hb, hml, hown, hts⟩ := id S
  have hinX2 : ∀ x ∈ u_ws RX2 TX2 5, x ∈ wsX2_knows := fun x h => List.mem_cons_of_mem _ (List.mem_append_right _ h)
  have lk0 : Cond.fieldLink RX2 20 "CowsOwed$Herds" "size" "I" ∈ wsX2_knows := by decide +kernel
  have hl : lv_has ls 2 [(0, .ref (a 24)), (1, .int c)] := hl
  refine lv_iload_n hx hb dX2_knows_0 rfl (lv_at hl 1 rfl) ?_
  refine lv_if_lt hx hb (tgt := 16) dX2_knows_1 (by decide) (fun c_1 => ?_) (fun c_1 => ?_)
  · refine lv_iconst (v := 0) hx hb dX2_knows_16 (by decide) ?_
    exact g_zret S hr hlk hw (by decide) (by simp only [XH_knows_r, Nat.reduceAdd, if_pos c_1]) rfl dX2_knows_17
  · refine lv_iload_n hx hb dX2_knows_4 rfl (lv_at hl 1 rfl) ?_
    refine lv_aload_n hx hb dX2_knows_5 rfl (lv_at hl 0 rfl) ?_
    refine g_get S hw hinX2 (fs := fX24 a σ) 24 rfl rfl 3 (by decide) lk0 (v := .int (σ 24 3)) rfl dX2_knows_6 ?_
    refine lv_icmp_ge hx hb (tgt := 16) dX2_knows_9 (by decide) (fun c_2 => ?_) (fun c_2 => ?_)
    · refine lv_iconst (v := 0) hx hb dX2_knows_16 (by decide) ?_
      exact g_zret S hr hlk hw (by decide) (by simp only [XH_knows_r, Nat.reduceAdd, if_neg c_1, if_pos c_2]) rfl dX2_knows_17
    · refine lv_iconst (v := 1) hx hb dX2_knows_12 (by decide) ?_
      refine lv_goto (tgt := 17) hx hb dX2_knows_13 (by decide) ?_
      exact g_zret S hr hlk hw (by decide) (by simp only [XH_knows_r, Nat.reduceAdd, if_neg c_1, if_neg c_2]) rfl dX2_knows_17
def XH_knowsCouple_r (b : Nat) (κ : Nat → Nat) (σ : Nat → Nat → Int32) (c : Int32) (d : Int32) : Int32 := if (XH_knows_r b κ σ c) = 0 then 0 else (if (XH_knows_r b κ σ d) = 0 then 0 else (if c = d then 0 else 1))
theorem XH_knowsCouple_z (b : Nat) (κ : Nat → Nat) (σ : Nat → Nat → Int32) (c : Int32) (d : Int32) : XH_knowsCouple_r b κ σ c d = 0 ∨ XH_knowsCouple_r b κ σ c d = 1 := by
  unfold XH_knowsCouple_r
  by_cases z1 : (XH_knows_r b κ σ c) = 0
  · rw [if_pos z1]
    exact Or.inl rfl
  · rw [if_neg z1]
    by_cases z2 : (XH_knows_r b κ σ d) = 0
    · rw [if_pos z2]
      exact Or.inl rfl
    · rw [if_neg z2]
      by_cases z3 : c = d
      · rw [if_pos z3]
        exact Or.inl rfl
      · rw [if_neg z3]
        exact Or.inr rfl
set_option maxHeartbeats 4000000 in
set_option maxRecDepth 100000 in
theorem c_XH_knowsCouple_10 (l : Launch) (D : va_G) (cI cC cI2 : ClassId) (a : Nat → Nat) (κ : Nat → Nat) (σ : Nat → Nat → Int32) (c : Int32) (d : Int32) : gI l D (tysX cI cC cI2) yX2_knowsCouple wsX2_knowsCouple 2 [.ref (a 10), .int c, .int d] (wX cI cC cI2 a κ σ) (XH_knowsCouple_r 10 κ σ c d) (wX cI cC cI2 a κ σ) := by
  refine g_start (cc := cX2_knowsCouple) (maxL := 3) (ret := some .boolean) (Qc := gQi D (tysX cI cC cI2) (XH_knowsCouple_r 10 κ σ c d) (wX cI cC cI2 a κ σ)) (by decide) rfl (Nat.le_of_ble_eq_true rfl) ?_
  intro p e s m below meth C A ls S hr hlk hw hl
  obtain ⟨hx, hb, hml, hown, hts⟩ := id S
  have hl : lv_has ls 3 [(0, .ref (a 10)), (1, .int c), (2, .int d)] := hl
  refine lv_aload_n hx hb dX2_knowsCouple_0 rfl (lv_at hl 0 rfl) ?_
  refine lv_iload_n hx hb dX2_knowsCouple_1 rfl (lv_at hl 1 rfl) ?_
  refine g_callVi S hw (c_XH_knows_10 l D cI cC cI2 a κ σ c) gX2_knowsCouple_X2_knows rfl 10 rfl rfl 1 rfl (by decide +kernel) (by decide) (by decide) hl.1 rfl (Nat.le_of_ble_eq_true rfl) dX2_knowsCouple_2 (fun H locs hw => ?_)
  refine lv_if_eq hx hb (tgt := 25) dX2_knowsCouple_5 (by decide) (fun c_1 => ?_) (fun c_1 => ?_)
  · refine lv_iconst (v := 0) hx hb dX2_knowsCouple_25 (by decide) ?_
    exact g_zret S hr hlk hw (by decide) (by simp only [XH_knowsCouple_r, Nat.reduceAdd, if_pos c_1]) rfl dX2_knowsCouple_26
  · refine lv_aload_n hx hb dX2_knowsCouple_8 rfl (lv_at hl 0 rfl) ?_
    refine lv_iload_n hx hb dX2_knowsCouple_9 rfl (lv_at hl 2 rfl) ?_
    refine g_callVi S hw (c_XH_knows_10 l D cI cC cI2 a κ σ d) gX2_knowsCouple_X2_knows rfl 10 rfl rfl 1 rfl (by decide +kernel) (by decide) (by decide) hl.1 rfl (Nat.le_of_ble_eq_true rfl) dX2_knowsCouple_10 (fun H locs hw => ?_)
    refine lv_if_eq hx hb (tgt := 25) dX2_knowsCouple_13 (by decide) (fun c_2 => ?_) (fun c_2 => ?_)
    · refine lv_iconst (v := 0) hx hb dX2_knowsCouple_25 (by decide) ?_
      exact g_zret S hr hlk hw (by decide) (by simp only [XH_knowsCouple_r, Nat.reduceAdd, if_neg c_1, if_pos c_2]) rfl dX2_knowsCouple_26
    · refine lv_iload_n hx hb dX2_knowsCouple_16 rfl (lv_at hl 1 rfl) ?_
      refine lv_iload_n hx hb dX2_knowsCouple_17 rfl (lv_at hl 2 rfl) ?_
      refine lv_icmp_eq hx hb (tgt := 25) dX2_knowsCouple_18 (by decide) (fun c_3 => ?_) (fun c_3 => ?_)
      · refine lv_iconst (v := 0) hx hb dX2_knowsCouple_25 (by decide) ?_
        exact g_zret S hr hlk hw (by decide) (by simp only [XH_knowsCouple_r, Nat.reduceAdd, if_neg c_1, if_neg c_2, if_pos c_3]) rfl dX2_knowsCouple_26
      · refine lv_iconst (v := 1) hx hb dX2_knowsCouple_21 (by decide) ?_
        refine lv_goto (tgt := 26) hx hb dX2_knowsCouple_22 (by decide) ?_
        exact g_zret S hr hlk hw (by decide) (by simp only [XH_knowsCouple_r, Nat.reduceAdd, if_neg c_1, if_neg c_2, if_neg c_3]) rfl dX2_knowsCouple_26
set_option maxHeartbeats 4000000 in
set_option maxRecDepth 100000 in
theorem c_XH_knowsCouple_24 (l : Launch) (D : va_G) (cI cC cI2 : ClassId) (a : Nat → Nat) (κ : Nat → Nat) (σ : Nat → Nat → Int32) (c : Int32) (d : Int32) : gI l D (tysX cI cC cI2) yX2_knowsCouple wsX2_knowsCouple 2 [.ref (a 24), .int c, .int d] (wX cI cC cI2 a κ σ) (XH_knowsCouple_r 24 κ σ c d) (wX cI cC cI2 a κ σ) := by
  refine g_start (cc := cX2_knowsCouple) (maxL := 3) (ret := some .boolean) (Qc := gQi D (tysX cI cC cI2) (XH_knowsCouple_r 24 κ σ c d) (wX cI cC cI2 a κ σ)) (by decide) rfl (Nat.le_of_ble_eq_true rfl) ?_
  intro p e s m below meth C A ls S hr hlk hw hl
  obtain ⟨hx, hb, hml, hown, hts⟩ := id S
  have hl : lv_has ls 3 [(0, .ref (a 24)), (1, .int c), (2, .int d)] := hl
  refine lv_aload_n hx hb dX2_knowsCouple_0 rfl (lv_at hl 0 rfl) ?_
  refine lv_iload_n hx hb dX2_knowsCouple_1 rfl (lv_at hl 1 rfl) ?_
  refine g_callVi S hw (c_XH_knows_24 l D cI cC cI2 a κ σ c) gX2_knowsCouple_X2_knows rfl 24 rfl rfl 1 rfl (by decide +kernel) (by decide) (by decide) hl.1 rfl (Nat.le_of_ble_eq_true rfl) dX2_knowsCouple_2 (fun H locs hw => ?_)
  refine lv_if_eq hx hb (tgt := 25) dX2_knowsCouple_5 (by decide) (fun c_1 => ?_) (fun c_1 => ?_)
  · refine lv_iconst (v := 0) hx hb dX2_knowsCouple_25 (by decide) ?_
    exact g_zret S hr hlk hw (by decide) (by simp only [XH_knowsCouple_r, Nat.reduceAdd, if_pos c_1]) rfl dX2_knowsCouple_26
  · refine lv_aload_n hx hb dX2_knowsCouple_8 rfl (lv_at hl 0 rfl) ?_
    refine lv_iload_n hx hb dX2_knowsCouple_9 rfl (lv_at hl 2 rfl) ?_
    refine g_callVi S hw (c_XH_knows_24 l D cI cC cI2 a κ σ d) gX2_knowsCouple_X2_knows rfl 24 rfl rfl 1 rfl (by decide +kernel) (by decide) (by decide) hl.1 rfl (Nat.le_of_ble_eq_true rfl) dX2_knowsCouple_10 (fun H locs hw => ?_)
    refine lv_if_eq hx hb (tgt := 25) dX2_knowsCouple_13 (by decide) (fun c_2 => ?_) (fun c_2 => ?_)
    · refine lv_iconst (v := 0) hx hb dX2_knowsCouple_25 (by decide) ?_
      exact g_zret S hr hlk hw (by decide) (by simp only [XH_knowsCouple_r, Nat.reduceAdd, if_neg c_1, if_pos c_2]) rfl dX2_knowsCouple_26
    · refine lv_iload_n hx hb dX2_knowsCouple_16 rfl (lv_at hl 1 rfl) ?_
      refine lv_iload_n hx hb dX2_knowsCouple_17 rfl (lv_at hl 2 rfl) ?_
      refine lv_icmp_eq hx hb (tgt := 25) dX2_knowsCouple_18 (by decide) (fun c_3 => ?_) (fun c_3 => ?_)
      · refine lv_iconst (v := 0) hx hb dX2_knowsCouple_25 (by decide) ?_
        exact g_zret S hr hlk hw (by decide) (by simp only [XH_knowsCouple_r, Nat.reduceAdd, if_neg c_1, if_neg c_2, if_pos c_3]) rfl dX2_knowsCouple_26
      · refine lv_iconst (v := 1) hx hb dX2_knowsCouple_21 (by decide) ?_
        refine lv_goto (tgt := 26) hx hb dX2_knowsCouple_22 (by decide) ?_
        exact g_zret S hr hlk hw (by decide) (by simp only [XH_knowsCouple_r, Nat.reduceAdd, if_neg c_1, if_neg c_2, if_neg c_3]) rfl dX2_knowsCouple_26
def XH_askedBy_r (b : Nat) (κ : Nat → Nat) (σ : Nat → Nat → Int32) (c : Nat) : Int32 := X_asks (κ c) (σ b 4)
set_option maxHeartbeats 4000000 in
set_option maxRecDepth 100000 in
theorem c_XH_askedBy_10 (l : Launch) (D : va_G) (cI cC cI2 : ClassId) (a : Nat → Nat) (κ : Nat → Nat) (σ : Nat → Nat → Int32) (c : Nat) (hc : c < 4) (hk : ∀ i, i < 4 → κ i < 5) : gI l D (tysX cI cC cI2) yX2_askedBy wsX2_askedBy 3 [.ref (a 10), .int (nI c)] (wX cI cC cI2 a κ σ) (XH_askedBy_r 10 κ σ c) (wX cI cC cI2 a κ σ) := by
  refine g_start (cc := cX2_askedBy) (maxL := 2) (ret := some .int) (Qc := gQi D (tysX cI cC cI2) (XH_askedBy_r 10 κ σ c) (wX cI cC cI2 a κ σ)) (by decide) rfl (Nat.le_of_ble_eq_true rfl) ?_
  intro p e s m below meth C A ls S hr hlk hw hl
  obtain ⟨hx, hb, hml, hown, hts⟩ := id S
  have hinX2 : ∀ x ∈ u_ws RX2 TX2 5, x ∈ wsX2_askedBy := fun x h => List.mem_cons_of_mem _ (List.mem_append_right _ h)
  have lk0 : Cond.fieldLink RX2 27 "CowsOwed$Herds" "clans" "[LCowsOwed$Clan;" ∈ wsX2_askedBy := by decide +kernel
  have lk1 : Cond.fieldLink RX2 24 "CowsOwed$Herds" "price" "I" ∈ wsX2_askedBy := by decide +kernel
  have lk2 : Cond.code ⟨"CowsOwed$Clan", "asks", "(I)I"⟩ cX1_asks 2 (some .int) ∈ wsX2_askedBy := by decide +kernel
  have hl : lv_has ls 2 [(0, .ref (a 10)), (1, .int (nI c))] := hl
  refine lv_aload_n hx hb dX2_askedBy_0 rfl (lv_at hl 0 rfl) ?_
  refine g_get S hw hinX2 (fs := fX10 a σ) 10 rfl rfl 0 (by decide) lk0 (v := .ref (a 2)) rfl dX2_askedBy_1 ?_
  refine lv_iload_n hx hb dX2_askedBy_4 rfl (lv_at hl 1 rfl) ?_
  refine g_aald S hw (f := fun i => some (a (3 + κ i))) (i := c) (v := a (3 + κ c)) 2 1 rfl rfl rfl (by omega) (by decide) rfl dX2_askedBy_5 ?_
  refine lv_aload_n hx hb dX2_askedBy_6 rfl (lv_at hl 0 rfl) ?_
  refine g_get S hw hinX2 (fs := fX10 a σ) 10 rfl rfl 4 (by decide) lk1 (v := .int (σ 10 4)) rfl dX2_askedBy_7 ?_
  refine g_kind5 (k := κ c) (hk _ (by omega)) (G := fun j => ∀ (H : Heap) (locs : List Loc), gw D (tysX cI cC cI2) A s H locs (wX cI cC cI2 a κ σ) → W p l e (gR 3) s m ([.ref (a 10), .int (nI c)] : List Value).toArray below meth C H locs 0 0 (MQ below (gQi D (tysX cI cC cI2) (XH_askedBy_r 10 κ σ c) (wX cI cC cI2 a κ σ) A) ([.ref (a 10), .int (nI c)] : List Value).toArray s 0 0 A) (F0 m 13 ls (.int (X_asks j (σ 10 4)) :: []))) (P := fun j => W p l e (gR 3) s m ([.ref (a 10), .int (nI c)] : List Value).toArray below meth C _ _ 0 0 (MQ below (gQi D (tysX cI cC cI2) (XH_askedBy_r 10 κ σ c) (wX cI cC cI2 a κ σ) A) ([.ref (a 10), .int (nI c)] : List Value).toArray s 0 0 A) (F0 m 10 ls (.int (σ 10 4) :: .ref (a (3 + j)) :: []))) (fun kk => g_callVi S hw (c_X1_asks l D (tysX cI cC cI2) (wX cI cC cI2 a κ σ) (a 3) (σ 10 4)) gX2_askedBy_X1_asks rfl 3 rfl rfl 1 rfl (by decide +kernel) (by decide) (by decide) hl.1 rfl (Nat.le_of_ble_eq_true rfl) dX2_askedBy_10 kk) (fun kk => g_callUi S hw (c_X7_asks l D (tysX cI cC cI2) (wX cI cC cI2 a κ σ) (a 4) (σ 10 4)) (va_cwO 1 hts gX2_askedBy_X7_asks_u35X7 rfl rfl rfl lk2 (by decide +kernel) (g_hR (by decide) (by decide))) 4 rfl rfl hl.1 rfl (Nat.le_of_ble_eq_true rfl) dX2_askedBy_10 kk) (fun kk => g_callUi S hw (c_X6_asks l D (tysX cI cC cI2) (wX cI cC cI2 a κ σ) (a 5) (σ 10 4)) (va_cwO 1 hts gX2_askedBy_X6_asks_u35X6 rfl rfl rfl lk2 (by decide +kernel) (g_hR (by decide) (by decide))) 5 rfl rfl hl.1 rfl (Nat.le_of_ble_eq_true rfl) dX2_askedBy_10 kk) (fun kk => g_callUi S hw (c_X1_asks l D (tysX cI cC cI2) (wX cI cC cI2 a κ σ) (a 6) (σ 10 4)) (va_cwU 1 hts gX2_askedBy_X1_asks_u35X0 rfl rfl rfl rfl (by decide +kernel) (g_hR (by decide) (by decide))) 6 rfl rfl hl.1 rfl (Nat.le_of_ble_eq_true rfl) dX2_askedBy_10 kk) (fun kk => g_callUi S hw (c_X3_asks l D cI cC cI2 a κ σ (σ 10 4)) (va_cwO 1 hts gX2_askedBy_X3_asks_u35X3 rfl rfl rfl lk2 (by decide +kernel) (g_hR (by decide) (by decide))) 7 rfl rfl hl.1 rfl (Nat.le_of_ble_eq_true rfl) dX2_askedBy_10 kk) ?_
  intro H locs hw
  exact g_iret S hr hlk hw (by simp only [XH_askedBy_r, Nat.reduceAdd]) rfl dX2_askedBy_13
def XH_sparedBy_r (b : Nat) (κ : Nat → Nat) (σ : Nat → Nat → Int32) (c : Nat) : Int32 := X_spares (κ c) (σ (b + 1) c)
set_option maxHeartbeats 4000000 in
set_option maxRecDepth 100000 in
theorem c_XH_sparedBy_10 (l : Launch) (D : va_G) (cI cC cI2 : ClassId) (a : Nat → Nat) (κ : Nat → Nat) (σ : Nat → Nat → Int32) (c : Nat) (hc : c < 4) (hk : ∀ i, i < 4 → κ i < 5) : gI l D (tysX cI cC cI2) yX2_sparedBy wsX2_sparedBy 3 [.ref (a 10), .int (nI c)] (wX cI cC cI2 a κ σ) (XH_sparedBy_r 10 κ σ c) (wX cI cC cI2 a κ σ) := by
  refine g_start (cc := cX2_sparedBy) (maxL := 2) (ret := some .int) (Qc := gQi D (tysX cI cC cI2) (XH_sparedBy_r 10 κ σ c) (wX cI cC cI2 a κ σ)) (by decide) rfl (Nat.le_of_ble_eq_true rfl) ?_
  intro p e s m below meth C A ls S hr hlk hw hl
  obtain ⟨hx, hb, hml, hown, hts⟩ := id S
  have hinX2 : ∀ x ∈ u_ws RX2 TX2 5, x ∈ wsX2_sparedBy := fun x h => List.mem_cons_of_mem _ (List.mem_append_right _ h)
  have lk0 : Cond.fieldLink RX2 27 "CowsOwed$Herds" "clans" "[LCowsOwed$Clan;" ∈ wsX2_sparedBy := by decide +kernel
  have lk1 : Cond.fieldLink RX2 9 "CowsOwed$Herds" "cows" "[I" ∈ wsX2_sparedBy := by decide +kernel
  have lk2 : Cond.code ⟨"CowsOwed$Clan", "spares", "(I)I"⟩ cX1_spares 2 (some .int) ∈ wsX2_sparedBy := by decide +kernel
  have hl : lv_has ls 2 [(0, .ref (a 10)), (1, .int (nI c))] := hl
  refine lv_aload_n hx hb dX2_sparedBy_0 rfl (lv_at hl 0 rfl) ?_
  refine g_get S hw hinX2 (fs := fX10 a σ) 10 rfl rfl 0 (by decide) lk0 (v := .ref (a 2)) rfl dX2_sparedBy_1 ?_
  refine lv_iload_n hx hb dX2_sparedBy_4 rfl (lv_at hl 1 rfl) ?_
  refine g_aald S hw (f := fun i => some (a (3 + κ i))) (i := c) (v := a (3 + κ c)) 2 1 rfl rfl rfl (by omega) (by decide) rfl dX2_sparedBy_5 ?_
  refine lv_aload_n hx hb dX2_sparedBy_6 rfl (lv_at hl 0 rfl) ?_
  refine g_get S hw hinX2 (fs := fX10 a σ) 10 rfl rfl 1 (by decide) lk1 (v := .ref (a 11)) rfl dX2_sparedBy_7 ?_
  refine lv_iload_n hx hb dX2_sparedBy_10 rfl (lv_at hl 1 rfl) ?_
  refine g_iald S hw (f := σ 11) (i := c) (x := σ 11 c) 11 0 rfl rfl (by omega) (by decide) rfl dX2_sparedBy_11 ?_
  refine g_kind5 (k := κ c) (hk _ (by omega)) (G := fun j => ∀ (H : Heap) (locs : List Loc), gw D (tysX cI cC cI2) A s H locs (wX cI cC cI2 a κ σ) → W p l e (gR 3) s m ([.ref (a 10), .int (nI c)] : List Value).toArray below meth C H locs 0 0 (MQ below (gQi D (tysX cI cC cI2) (XH_sparedBy_r 10 κ σ c) (wX cI cC cI2 a κ σ) A) ([.ref (a 10), .int (nI c)] : List Value).toArray s 0 0 A) (F0 m 15 ls (.int (X_spares j (σ 11 c)) :: []))) (P := fun j => W p l e (gR 3) s m ([.ref (a 10), .int (nI c)] : List Value).toArray below meth C _ _ 0 0 (MQ below (gQi D (tysX cI cC cI2) (XH_sparedBy_r 10 κ σ c) (wX cI cC cI2 a κ σ) A) ([.ref (a 10), .int (nI c)] : List Value).toArray s 0 0 A) (F0 m 12 ls (.int (σ 11 c) :: .ref (a (3 + j)) :: []))) (fun kk => g_callVi S hw (c_X1_spares l D (tysX cI cC cI2) (wX cI cC cI2 a κ σ) (a 3) (σ 11 c)) gX2_sparedBy_X1_spares rfl 3 rfl rfl 1 rfl (by decide +kernel) (by decide) (by decide) hl.1 rfl (Nat.le_of_ble_eq_true rfl) dX2_sparedBy_12 kk) (fun kk => g_callUi S hw (c_X1_spares l D (tysX cI cC cI2) (wX cI cC cI2 a κ σ) (a 4) (σ 11 c)) (va_cwU 1 hts gX2_sparedBy_X1_spares_u41X7 rfl rfl rfl rfl (by decide +kernel) (g_hR (by decide) (by decide))) 4 rfl rfl hl.1 rfl (Nat.le_of_ble_eq_true rfl) dX2_sparedBy_12 kk) (fun kk => g_callUi S hw (c_X1_spares l D (tysX cI cC cI2) (wX cI cC cI2 a κ σ) (a 5) (σ 11 c)) (va_cwU 1 hts gX2_sparedBy_X1_spares_u41X6 rfl rfl rfl rfl (by decide +kernel) (g_hR (by decide) (by decide))) 5 rfl rfl hl.1 rfl (Nat.le_of_ble_eq_true rfl) dX2_sparedBy_12 kk) (fun kk => g_callUi S hw (c_X0_spares l D (tysX cI cC cI2) (wX cI cC cI2 a κ σ) (a 6) (σ 11 c)) (va_cwO 1 hts gX2_sparedBy_X0_spares_u41X0 rfl rfl rfl lk2 (by decide +kernel) (g_hR (by decide) (by decide))) 6 rfl rfl hl.1 rfl (Nat.le_of_ble_eq_true rfl) dX2_sparedBy_12 kk) (fun kk => g_callUi S hw (c_X1_spares l D (tysX cI cC cI2) (wX cI cC cI2 a κ σ) (a 7) (σ 11 c)) (va_cwU 1 hts gX2_sparedBy_X1_spares_u41X3 rfl rfl rfl rfl (by decide +kernel) (g_hR (by decide) (by decide))) 7 rfl rfl hl.1 rfl (Nat.le_of_ble_eq_true rfl) dX2_sparedBy_12 kk) ?_
  intro H locs hw
  exact g_iret S hr hlk hw (by simp only [XH_sparedBy_r, Nat.reduceAdd]) rfl dX2_sparedBy_15
def XH_pay_r (b : Nat) (κ : Nat → Nat) (σ : Nat → Nat → Int32) (c : Nat) (d : Nat) (due : Int32) : Int32 := if due < (X_spares (κ c) (σ (b + 1) c)) then due else X_spares (κ c) (σ (b + 1) c)
def XH_pay_s (b : Nat) (κ : Nat → Nat) (σ : Nat → Nat → Int32) (c : Nat) (d : Nat) (due : Int32) : Nat → Nat → Int32 := up2 (up2 (up2 σ (b + 1) c ((σ (b + 1) c) - (if due < (X_spares (κ c) (σ (b + 1) c)) then due else X_spares (κ c) (σ (b + 1) c)))) (b + 1) d (((upd (σ (b + 1)) c ((σ (b + 1) c) - (if due < (X_spares (κ c) (σ (b + 1) c)) then due else X_spares (κ c) (σ (b + 1) c)))) d) + (if due < (X_spares (κ c) (σ (b + 1) c)) then due else X_spares (κ c) (σ (b + 1) c)))) (b + 2) (4 * c + d) ((σ (b + 2) (4 * c + d)) + (due - (if due < (X_spares (κ c) (σ (b + 1) c)) then due else X_spares (κ c) (σ (b + 1) c))))
theorem XH_pay_s_k (b : Nat) (κ : Nat → Nat) (σ : Nat → Nat → Int32) (c : Nat) (d : Nat) (due : Int32) (c9 : Nat) (q0 : c9 ≠ (b + 1)) (q1 : c9 ≠ (b + 2)) : XH_pay_s b κ σ c d due c9 = σ c9 := by
  unfold XH_pay_s
  exact (up2_n _ _ _ q1).trans ((up2_n _ _ _ q0).trans (up2_n _ _ _ q0))
set_option maxHeartbeats 4000000 in
set_option maxRecDepth 100000 in
theorem c_XH_pay_10 (l : Launch) (D : va_G) (cI cC cI2 : ClassId) (a : Nat → Nat) (κ : Nat → Nat) (σ : Nat → Nat → Int32) (c : Nat) (d : Nat) (due : Int32) (hc : c < 4) (hd : d < 4) (hk : ∀ i, i < 4 → κ i < 5) : gI l D (tysX cI cC cI2) yX2_pay wsX2_pay 3 [.ref (a 10), .int (nI c), .int (nI d), .int due] (wX cI cC cI2 a κ σ) (XH_pay_r 10 κ σ c d due) (wX cI cC cI2 a κ (XH_pay_s 10 κ σ c d due)) := by
  refine g_start (cc := cX2_pay) (maxL := 5) (ret := some .int) (Qc := gQi D (tysX cI cC cI2) (XH_pay_r 10 κ σ c d due) (wX cI cC cI2 a κ (XH_pay_s 10 κ σ c d due))) (by decide) rfl (Nat.le_of_ble_eq_true rfl) ?_
  intro p e s m below meth C A ls S hr hlk hw hl
  obtain ⟨hx, hb, hml, hown, hts⟩ := id S
  have hinX2 : ∀ x ∈ u_ws RX2 TX2 5, x ∈ wsX2_pay := fun x h => List.mem_cons_of_mem _ (List.mem_append_right _ h)
  have lk0 : Cond.fieldLink RX2 27 "CowsOwed$Herds" "clans" "[LCowsOwed$Clan;" ∈ wsX2_pay := by decide +kernel
  have lk1 : Cond.fieldLink RX2 9 "CowsOwed$Herds" "cows" "[I" ∈ wsX2_pay := by decide +kernel
  have lk2 : Cond.code ⟨"CowsOwed$Clan", "spares", "(I)I"⟩ cX1_spares 2 (some .int) ∈ wsX2_pay := by decide +kernel
  have lk3 : Cond.methodLink RX2 48 Lib.Math.min.name ∈ wsX2_pay := by decide +kernel
  have lk4 : Cond.static Lib.Math.min.name ∈ wsX2_pay := by decide +kernel
  have lk5 : Cond.initialized "java/lang/Math" ∈ wsX2_pay := by decide +kernel
  have lk6 : Cond.code Lib.Math.min.name Lib.Math.min.code 2 (some .int) ∈ wsX2_pay := by decide +kernel
  have lk7 : Cond.fieldLink RX2 17 "CowsOwed$Herds" "debts" "[[I" ∈ wsX2_pay := by decide +kernel
  have hl : lv_has ls 5 [(0, .ref (a 10)), (1, .int (nI c)), (2, .int (nI d)), (3, .int due)] := hl
  refine lv_aload_n hx hb dX2_pay_0 rfl (lv_at hl 0 rfl) ?_
  refine g_get S hw hinX2 (fs := fX10 a σ) 10 rfl rfl 0 (by decide) lk0 (v := .ref (a 2)) rfl dX2_pay_1 ?_
  refine lv_iload_n hx hb dX2_pay_4 rfl (lv_at hl 1 rfl) ?_
  refine g_aald S hw (f := fun i => some (a (3 + κ i))) (i := c) (v := a (3 + κ c)) 2 1 rfl rfl rfl (by omega) (by decide) rfl dX2_pay_5 ?_
  refine lv_aload_n hx hb dX2_pay_6 rfl (lv_at hl 0 rfl) ?_
  refine g_get S hw hinX2 (fs := fX10 a σ) 10 rfl rfl 1 (by decide) lk1 (v := .ref (a 11)) rfl dX2_pay_7 ?_
  refine lv_iload_n hx hb dX2_pay_10 rfl (lv_at hl 1 rfl) ?_
  refine g_iald S hw (f := σ 11) (i := c) (x := σ 11 c) 11 0 rfl rfl (by omega) (by decide) rfl dX2_pay_11 ?_
  refine g_kind5 (k := κ c) (hk _ (by omega)) (G := fun j => ∀ (H : Heap) (locs : List Loc), gw D (tysX cI cC cI2) A s H locs (wX cI cC cI2 a κ σ) → W p l e (gR 3) s m ([.ref (a 10), .int (nI c), .int (nI d), .int due] : List Value).toArray below meth C H locs 0 0 (MQ below (gQi D (tysX cI cC cI2) (XH_pay_r 10 κ σ c d due) (wX cI cC cI2 a κ (XH_pay_s 10 κ σ c d due)) A) ([.ref (a 10), .int (nI c), .int (nI d), .int due] : List Value).toArray s 0 0 A) (F0 m 15 ls (.int (X_spares j (σ 11 c)) :: []))) (P := fun j => W p l e (gR 3) s m ([.ref (a 10), .int (nI c), .int (nI d), .int due] : List Value).toArray below meth C _ _ 0 0 (MQ below (gQi D (tysX cI cC cI2) (XH_pay_r 10 κ σ c d due) (wX cI cC cI2 a κ (XH_pay_s 10 κ σ c d due)) A) ([.ref (a 10), .int (nI c), .int (nI d), .int due] : List Value).toArray s 0 0 A) (F0 m 12 ls (.int (σ 11 c) :: .ref (a (3 + j)) :: []))) (fun kk => g_callVi S hw (c_X1_spares l D (tysX cI cC cI2) (wX cI cC cI2 a κ σ) (a 3) (σ 11 c)) gX2_pay_X1_spares rfl 3 rfl rfl 1 rfl (by decide +kernel) (by decide) (by decide) hl.1 rfl (Nat.le_of_ble_eq_true rfl) dX2_pay_12 kk) (fun kk => g_callUi S hw (c_X1_spares l D (tysX cI cC cI2) (wX cI cC cI2 a κ σ) (a 4) (σ 11 c)) (va_cwU 1 hts gX2_pay_X1_spares_u41X7 rfl rfl rfl rfl (by decide +kernel) (g_hR (by decide) (by decide))) 4 rfl rfl hl.1 rfl (Nat.le_of_ble_eq_true rfl) dX2_pay_12 kk) (fun kk => g_callUi S hw (c_X1_spares l D (tysX cI cC cI2) (wX cI cC cI2 a κ σ) (a 5) (σ 11 c)) (va_cwU 1 hts gX2_pay_X1_spares_u41X6 rfl rfl rfl rfl (by decide +kernel) (g_hR (by decide) (by decide))) 5 rfl rfl hl.1 rfl (Nat.le_of_ble_eq_true rfl) dX2_pay_12 kk) (fun kk => g_callUi S hw (c_X0_spares l D (tysX cI cC cI2) (wX cI cC cI2 a κ σ) (a 6) (σ 11 c)) (va_cwO 1 hts gX2_pay_X0_spares_u41X0 rfl rfl rfl lk2 (by decide +kernel) (g_hR (by decide) (by decide))) 6 rfl rfl hl.1 rfl (Nat.le_of_ble_eq_true rfl) dX2_pay_12 kk) (fun kk => g_callUi S hw (c_X1_spares l D (tysX cI cC cI2) (wX cI cC cI2 a κ σ) (a 7) (σ 11 c)) (va_cwU 1 hts gX2_pay_X1_spares_u41X3 rfl rfl rfl rfl (by decide +kernel) (g_hR (by decide) (by decide))) 7 rfl rfl hl.1 rfl (Nat.le_of_ble_eq_true rfl) dX2_pay_12 kk) ?_
  intro H locs hw
  refine lv_iload_n hx hb dX2_pay_15 rfl (lv_at hl 3 rfl) ?_
  refine va_mmin hx hb (hml.trans hl.1.symm) hown (hts _ lk3) (hts _ lk4) (hts _ lk5) (hts _ lk6) (by decide) (Nat.le_of_ble_eq_true rfl) (Nat.zero_le _) (Nat.zero_le _) dX2_pay_16 ?_
  refine lv_istore (lv' := [(4, .int (if due < (X_spares (κ c) (σ 11 c)) then due else X_spares (κ c) (σ 11 c))), (0, .ref (a 10)), (1, .int (nI c)), (2, .int (nI d)), (3, .int due)]) hx hb dX2_pay_19 hl (by decide) rfl (fun ls hl => ?_)
  refine lv_aload_n hx hb dX2_pay_21 rfl (lv_at hl 1 rfl) ?_
  refine g_get S hw hinX2 (fs := fX10 a σ) 10 rfl rfl 1 (by decide) lk1 (v := .ref (a 11)) rfl dX2_pay_22 ?_
  refine lv_iload_n hx hb dX2_pay_25 rfl (lv_at hl 2 rfl) ?_
  refine lv_dup2_11 hx hb dX2_pay_26 rfl rfl ?_
  refine g_iald S hw (f := σ 11) (i := c) (x := σ 11 c) 11 0 rfl rfl (by omega) (by decide) rfl dX2_pay_27 ?_
  refine lv_iload hx hb dX2_pay_28 (lv_at hl 0 rfl) ?_
  refine lv_isub hx hb dX2_pay_30 ?_
  refine g_iast S hw (f := σ 11) (i := c) 11 0 rfl rfl (by omega) (by decide) (w2 := wX cI cC cI2 a κ (up2 σ 11 c ((σ 11 c) - (if due < (X_spares (κ c) (σ 11 c)) then due else X_spares (κ c) (σ 11 c))))) (wX_a11 _ _ _ _ _ _ _ _) dX2_pay_31 (fun H locs hw => ?_)
  refine lv_aload_n hx hb dX2_pay_32 rfl (lv_at hl 1 rfl) ?_
  refine g_get S hw hinX2 (fs := fX10 a (up2 σ 11 c ((σ 11 c) - (if due < (X_spares (κ c) (σ 11 c)) then due else X_spares (κ c) (σ 11 c))))) 10 rfl rfl 1 (by decide) lk1 (v := .ref (a 11)) rfl dX2_pay_33 ?_
  refine lv_iload_n hx hb dX2_pay_36 rfl (lv_at hl 3 rfl) ?_
  refine lv_dup2_11 hx hb dX2_pay_37 rfl rfl ?_
  refine g_iald S hw (f := (up2 σ 11 c ((σ 11 c) - (if due < (X_spares (κ c) (σ 11 c)) then due else X_spares (κ c) (σ 11 c)))) 11) (i := d) (x := (upd (σ 11) c ((σ 11 c) - (if due < (X_spares (κ c) (σ 11 c)) then due else X_spares (κ c) (σ 11 c)))) d) 11 0 rfl rfl (by omega) (by decide) (congrFun (up2_s _ _ _ _) d) dX2_pay_38 ?_
  refine lv_iload hx hb dX2_pay_39 (lv_at hl 0 rfl) ?_
  refine lv_iadd hx hb dX2_pay_41 ?_
  refine g_iast S hw (f := (up2 σ 11 c ((σ 11 c) - (if due < (X_spares (κ c) (σ 11 c)) then due else X_spares (κ c) (σ 11 c)))) 11) (i := d) 11 0 rfl rfl (by omega) (by decide) (w2 := wX cI cC cI2 a κ (up2 (up2 σ 11 c ((σ 11 c) - (if due < (X_spares (κ c) (σ 11 c)) then due else X_spares (κ c) (σ 11 c)))) 11 d (((upd (σ 11) c ((σ 11 c) - (if due < (X_spares (κ c) (σ 11 c)) then due else X_spares (κ c) (σ 11 c)))) d) + (if due < (X_spares (κ c) (σ 11 c)) then due else X_spares (κ c) (σ 11 c))))) (wX_a11 _ _ _ _ _ _ _ _) dX2_pay_42 (fun H locs hw => ?_)
  refine lv_aload_n hx hb dX2_pay_43 rfl (lv_at hl 1 rfl) ?_
  refine g_get S hw hinX2 (fs := fX10 a (up2 (up2 σ 11 c ((σ 11 c) - (if due < (X_spares (κ c) (σ 11 c)) then due else X_spares (κ c) (σ 11 c)))) 11 d (((upd (σ 11) c ((σ 11 c) - (if due < (X_spares (κ c) (σ 11 c)) then due else X_spares (κ c) (σ 11 c)))) d) + (if due < (X_spares (κ c) (σ 11 c)) then due else X_spares (κ c) (σ 11 c))))) 10 rfl rfl 2 (by decide) lk7 (v := .ref (a 12)) rfl dX2_pay_44 ?_
  refine lv_iload_n hx hb dX2_pay_47 rfl (lv_at hl 2 rfl) ?_
  refine g_aald S hw (f := fun i => some (a (13 + i))) (i := c) (v := a (13 + c)) 12 2 rfl rfl rfl (by omega) (by decide) rfl dX2_pay_48 ?_
  refine lv_iload_n hx hb dX2_pay_49 rfl (lv_at hl 3 rfl) ?_
  refine lv_dup2_11 hx hb dX2_pay_50 rfl rfl ?_
  refine g_iald S hw (f := dRow ((up2 (up2 σ 11 c ((σ 11 c) - (if due < (X_spares (κ c) (σ 11 c)) then due else X_spares (κ c) (σ 11 c)))) 11 d (((upd (σ 11) c ((σ 11 c) - (if due < (X_spares (κ c) (σ 11 c)) then due else X_spares (κ c) (σ 11 c)))) d) + (if due < (X_spares (κ c) (σ 11 c)) then due else X_spares (κ c) (σ 11 c)))) 12) c) (i := d) (x := σ 12 (4 * c + d)) (13 + c) 0 (wX_dg10 _ _ _ _ _ _ (by omega)) rfl (by omega) (by decide) ((dRow_lt (by omega)).trans ((up2_rn (by omega)).trans (up2_rn (by omega)))) dX2_pay_51 ?_
  refine lv_iload_n hx hb dX2_pay_52 rfl (lv_at hl 4 rfl) ?_
  refine lv_iload hx hb dX2_pay_53 (lv_at hl 0 rfl) ?_
  refine lv_isub hx hb dX2_pay_55 ?_
  refine lv_iadd hx hb dX2_pay_56 ?_
  refine g_iast S hw (f := dRow ((up2 (up2 σ 11 c ((σ 11 c) - (if due < (X_spares (κ c) (σ 11 c)) then due else X_spares (κ c) (σ 11 c)))) 11 d (((upd (σ 11) c ((σ 11 c) - (if due < (X_spares (κ c) (σ 11 c)) then due else X_spares (κ c) (σ 11 c)))) d) + (if due < (X_spares (κ c) (σ 11 c)) then due else X_spares (κ c) (σ 11 c)))) 12) c) (i := d) (13 + c) 0 (wX_dg10 _ _ _ _ _ _ (by omega)) rfl (by omega) (by decide) (w2 := wX cI cC cI2 a κ (up2 (up2 (up2 σ 11 c ((σ 11 c) - (if due < (X_spares (κ c) (σ 11 c)) then due else X_spares (κ c) (σ 11 c)))) 11 d (((upd (σ 11) c ((σ 11 c) - (if due < (X_spares (κ c) (σ 11 c)) then due else X_spares (κ c) (σ 11 c)))) d) + (if due < (X_spares (κ c) (σ 11 c)) then due else X_spares (κ c) (σ 11 c)))) 12 (4 * c + d) ((σ 12 (4 * c + d)) + (due - (if due < (X_spares (κ c) (σ 11 c)) then due else X_spares (κ c) (σ 11 c)))))) (wX_ds10 _ _ _ _ _ _ _ (by omega) (by omega)) dX2_pay_57 (fun H locs hw => ?_)
  refine lv_iload hx hb dX2_pay_58 (lv_at hl 0 rfl) ?_
  exact g_iret S hr hlk hw (by simp only [XH_pay_r, Nat.reduceAdd]) (by simp only [XH_pay_s, Nat.reduceAdd]) dX2_pay_60
set_option maxHeartbeats 4000000 in
set_option maxRecDepth 100000 in
theorem c_XH_pay_24 (l : Launch) (D : va_G) (cI cC cI2 : ClassId) (a : Nat → Nat) (κ : Nat → Nat) (σ : Nat → Nat → Int32) (c : Nat) (d : Nat) (due : Int32) (hc : c < 4) (hd : d < 4) (hk : ∀ i, i < 4 → κ i < 5) : gI l D (tysX cI cC cI2) yX2_pay wsX2_pay 3 [.ref (a 24), .int (nI c), .int (nI d), .int due] (wX cI cC cI2 a κ σ) (XH_pay_r 24 κ σ c d due) (wX cI cC cI2 a κ (XH_pay_s 24 κ σ c d due)) := by
  refine g_start (cc := cX2_pay) (maxL := 5) (ret := some .int) (Qc := gQi D (tysX cI cC cI2) (XH_pay_r 24 κ σ c d due) (wX cI cC cI2 a κ (XH_pay_s 24 κ σ c d due))) (by decide) rfl (Nat.le_of_ble_eq_true rfl) ?_
  intro p e s m below meth C A ls S hr hlk hw hl
  obtain ⟨hx, hb, hml, hown, hts⟩ := id S
  have hinX2 : ∀ x ∈ u_ws RX2 TX2 5, x ∈ wsX2_pay := fun x h => List.mem_cons_of_mem _ (List.mem_append_right _ h)
  have lk0 : Cond.fieldLink RX2 27 "CowsOwed$Herds" "clans" "[LCowsOwed$Clan;" ∈ wsX2_pay := by decide +kernel
  have lk1 : Cond.fieldLink RX2 9 "CowsOwed$Herds" "cows" "[I" ∈ wsX2_pay := by decide +kernel
  have lk2 : Cond.code ⟨"CowsOwed$Clan", "spares", "(I)I"⟩ cX1_spares 2 (some .int) ∈ wsX2_pay := by decide +kernel
  have lk3 : Cond.methodLink RX2 48 Lib.Math.min.name ∈ wsX2_pay := by decide +kernel
  have lk4 : Cond.static Lib.Math.min.name ∈ wsX2_pay := by decide +kernel
  have lk5 : Cond.initialized "java/lang/Math" ∈ wsX2_pay := by decide +kernel
  have lk6 : Cond.code Lib.Math.min.name Lib.Math.min.code 2 (some .int) ∈ wsX2_pay := by decide +kernel
  have lk7 : Cond.fieldLink RX2 17 "CowsOwed$Herds" "debts" "[[I" ∈ wsX2_pay := by decide +kernel
  have hl : lv_has ls 5 [(0, .ref (a 24)), (1, .int (nI c)), (2, .int (nI d)), (3, .int due)] := hl
  refine lv_aload_n hx hb dX2_pay_0 rfl (lv_at hl 0 rfl) ?_
  refine g_get S hw hinX2 (fs := fX24 a σ) 24 rfl rfl 0 (by decide) lk0 (v := .ref (a 2)) rfl dX2_pay_1 ?_
  refine lv_iload_n hx hb dX2_pay_4 rfl (lv_at hl 1 rfl) ?_
  refine g_aald S hw (f := fun i => some (a (3 + κ i))) (i := c) (v := a (3 + κ c)) 2 1 rfl rfl rfl (by omega) (by decide) rfl dX2_pay_5 ?_
  refine lv_aload_n hx hb dX2_pay_6 rfl (lv_at hl 0 rfl) ?_
  refine g_get S hw hinX2 (fs := fX24 a σ) 24 rfl rfl 1 (by decide) lk1 (v := .ref (a 25)) rfl dX2_pay_7 ?_
  refine lv_iload_n hx hb dX2_pay_10 rfl (lv_at hl 1 rfl) ?_
  refine g_iald S hw (f := σ 25) (i := c) (x := σ 25 c) 25 0 rfl rfl (by omega) (by decide) rfl dX2_pay_11 ?_
  refine g_kind5 (k := κ c) (hk _ (by omega)) (G := fun j => ∀ (H : Heap) (locs : List Loc), gw D (tysX cI cC cI2) A s H locs (wX cI cC cI2 a κ σ) → W p l e (gR 3) s m ([.ref (a 24), .int (nI c), .int (nI d), .int due] : List Value).toArray below meth C H locs 0 0 (MQ below (gQi D (tysX cI cC cI2) (XH_pay_r 24 κ σ c d due) (wX cI cC cI2 a κ (XH_pay_s 24 κ σ c d due)) A) ([.ref (a 24), .int (nI c), .int (nI d), .int due] : List Value).toArray s 0 0 A) (F0 m 15 ls (.int (X_spares j (σ 25 c)) :: []))) (P := fun j => W p l e (gR 3) s m ([.ref (a 24), .int (nI c), .int (nI d), .int due] : List Value).toArray below meth C _ _ 0 0 (MQ below (gQi D (tysX cI cC cI2) (XH_pay_r 24 κ σ c d due) (wX cI cC cI2 a κ (XH_pay_s 24 κ σ c d due)) A) ([.ref (a 24), .int (nI c), .int (nI d), .int due] : List Value).toArray s 0 0 A) (F0 m 12 ls (.int (σ 25 c) :: .ref (a (3 + j)) :: []))) (fun kk => g_callVi S hw (c_X1_spares l D (tysX cI cC cI2) (wX cI cC cI2 a κ σ) (a 3) (σ 25 c)) gX2_pay_X1_spares rfl 3 rfl rfl 1 rfl (by decide +kernel) (by decide) (by decide) hl.1 rfl (Nat.le_of_ble_eq_true rfl) dX2_pay_12 kk) (fun kk => g_callUi S hw (c_X1_spares l D (tysX cI cC cI2) (wX cI cC cI2 a κ σ) (a 4) (σ 25 c)) (va_cwU 1 hts gX2_pay_X1_spares_u41X7 rfl rfl rfl rfl (by decide +kernel) (g_hR (by decide) (by decide))) 4 rfl rfl hl.1 rfl (Nat.le_of_ble_eq_true rfl) dX2_pay_12 kk) (fun kk => g_callUi S hw (c_X1_spares l D (tysX cI cC cI2) (wX cI cC cI2 a κ σ) (a 5) (σ 25 c)) (va_cwU 1 hts gX2_pay_X1_spares_u41X6 rfl rfl rfl rfl (by decide +kernel) (g_hR (by decide) (by decide))) 5 rfl rfl hl.1 rfl (Nat.le_of_ble_eq_true rfl) dX2_pay_12 kk) (fun kk => g_callUi S hw (c_X0_spares l D (tysX cI cC cI2) (wX cI cC cI2 a κ σ) (a 6) (σ 25 c)) (va_cwO 1 hts gX2_pay_X0_spares_u41X0 rfl rfl rfl lk2 (by decide +kernel) (g_hR (by decide) (by decide))) 6 rfl rfl hl.1 rfl (Nat.le_of_ble_eq_true rfl) dX2_pay_12 kk) (fun kk => g_callUi S hw (c_X1_spares l D (tysX cI cC cI2) (wX cI cC cI2 a κ σ) (a 7) (σ 25 c)) (va_cwU 1 hts gX2_pay_X1_spares_u41X3 rfl rfl rfl rfl (by decide +kernel) (g_hR (by decide) (by decide))) 7 rfl rfl hl.1 rfl (Nat.le_of_ble_eq_true rfl) dX2_pay_12 kk) ?_
  intro H locs hw
  refine lv_iload_n hx hb dX2_pay_15 rfl (lv_at hl 3 rfl) ?_
  refine va_mmin hx hb (hml.trans hl.1.symm) hown (hts _ lk3) (hts _ lk4) (hts _ lk5) (hts _ lk6) (by decide) (Nat.le_of_ble_eq_true rfl) (Nat.zero_le _) (Nat.zero_le _) dX2_pay_16 ?_
  refine lv_istore (lv' := [(4, .int (if due < (X_spares (κ c) (σ 25 c)) then due else X_spares (κ c) (σ 25 c))), (0, .ref (a 24)), (1, .int (nI c)), (2, .int (nI d)), (3, .int due)]) hx hb dX2_pay_19 hl (by decide) rfl (fun ls hl => ?_)
  refine lv_aload_n hx hb dX2_pay_21 rfl (lv_at hl 1 rfl) ?_
  refine g_get S hw hinX2 (fs := fX24 a σ) 24 rfl rfl 1 (by decide) lk1 (v := .ref (a 25)) rfl dX2_pay_22 ?_
  refine lv_iload_n hx hb dX2_pay_25 rfl (lv_at hl 2 rfl) ?_
  refine lv_dup2_11 hx hb dX2_pay_26 rfl rfl ?_
  refine g_iald S hw (f := σ 25) (i := c) (x := σ 25 c) 25 0 rfl rfl (by omega) (by decide) rfl dX2_pay_27 ?_
  refine lv_iload hx hb dX2_pay_28 (lv_at hl 0 rfl) ?_
  refine lv_isub hx hb dX2_pay_30 ?_
  refine g_iast S hw (f := σ 25) (i := c) 25 0 rfl rfl (by omega) (by decide) (w2 := wX cI cC cI2 a κ (up2 σ 25 c ((σ 25 c) - (if due < (X_spares (κ c) (σ 25 c)) then due else X_spares (κ c) (σ 25 c))))) (wX_a25 _ _ _ _ _ _ _ _) dX2_pay_31 (fun H locs hw => ?_)
  refine lv_aload_n hx hb dX2_pay_32 rfl (lv_at hl 1 rfl) ?_
  refine g_get S hw hinX2 (fs := fX24 a (up2 σ 25 c ((σ 25 c) - (if due < (X_spares (κ c) (σ 25 c)) then due else X_spares (κ c) (σ 25 c))))) 24 rfl rfl 1 (by decide) lk1 (v := .ref (a 25)) rfl dX2_pay_33 ?_
  refine lv_iload_n hx hb dX2_pay_36 rfl (lv_at hl 3 rfl) ?_
  refine lv_dup2_11 hx hb dX2_pay_37 rfl rfl ?_
  refine g_iald S hw (f := (up2 σ 25 c ((σ 25 c) - (if due < (X_spares (κ c) (σ 25 c)) then due else X_spares (κ c) (σ 25 c)))) 25) (i := d) (x := (upd (σ 25) c ((σ 25 c) - (if due < (X_spares (κ c) (σ 25 c)) then due else X_spares (κ c) (σ 25 c)))) d) 25 0 rfl rfl (by omega) (by decide) (congrFun (up2_s _ _ _ _) d) dX2_pay_38 ?_
  refine lv_iload hx hb dX2_pay_39 (lv_at hl 0 rfl) ?_
  refine lv_iadd hx hb dX2_pay_41 ?_
  refine g_iast S hw (f := (up2 σ 25 c ((σ 25 c) - (if due < (X_spares (κ c) (σ 25 c)) then due else X_spares (κ c) (σ 25 c)))) 25) (i := d) 25 0 rfl rfl (by omega) (by decide) (w2 := wX cI cC cI2 a κ (up2 (up2 σ 25 c ((σ 25 c) - (if due < (X_spares (κ c) (σ 25 c)) then due else X_spares (κ c) (σ 25 c)))) 25 d (((upd (σ 25) c ((σ 25 c) - (if due < (X_spares (κ c) (σ 25 c)) then due else X_spares (κ c) (σ 25 c)))) d) + (if due < (X_spares (κ c) (σ 25 c)) then due else X_spares (κ c) (σ 25 c))))) (wX_a25 _ _ _ _ _ _ _ _) dX2_pay_42 (fun H locs hw => ?_)
  refine lv_aload_n hx hb dX2_pay_43 rfl (lv_at hl 1 rfl) ?_
  refine g_get S hw hinX2 (fs := fX24 a (up2 (up2 σ 25 c ((σ 25 c) - (if due < (X_spares (κ c) (σ 25 c)) then due else X_spares (κ c) (σ 25 c)))) 25 d (((upd (σ 25) c ((σ 25 c) - (if due < (X_spares (κ c) (σ 25 c)) then due else X_spares (κ c) (σ 25 c)))) d) + (if due < (X_spares (κ c) (σ 25 c)) then due else X_spares (κ c) (σ 25 c))))) 24 rfl rfl 2 (by decide) lk7 (v := .ref (a 26)) rfl dX2_pay_44 ?_
  refine lv_iload_n hx hb dX2_pay_47 rfl (lv_at hl 2 rfl) ?_
  refine g_aald S hw (f := fun i => some (a (27 + i))) (i := c) (v := a (27 + c)) 26 2 rfl rfl rfl (by omega) (by decide) rfl dX2_pay_48 ?_
  refine lv_iload_n hx hb dX2_pay_49 rfl (lv_at hl 3 rfl) ?_
  refine lv_dup2_11 hx hb dX2_pay_50 rfl rfl ?_
  refine g_iald S hw (f := dRow ((up2 (up2 σ 25 c ((σ 25 c) - (if due < (X_spares (κ c) (σ 25 c)) then due else X_spares (κ c) (σ 25 c)))) 25 d (((upd (σ 25) c ((σ 25 c) - (if due < (X_spares (κ c) (σ 25 c)) then due else X_spares (κ c) (σ 25 c)))) d) + (if due < (X_spares (κ c) (σ 25 c)) then due else X_spares (κ c) (σ 25 c)))) 26) c) (i := d) (x := σ 26 (4 * c + d)) (27 + c) 0 (wX_dg24 _ _ _ _ _ _ (by omega)) rfl (by omega) (by decide) ((dRow_lt (by omega)).trans ((up2_rn (by omega)).trans (up2_rn (by omega)))) dX2_pay_51 ?_
  refine lv_iload_n hx hb dX2_pay_52 rfl (lv_at hl 4 rfl) ?_
  refine lv_iload hx hb dX2_pay_53 (lv_at hl 0 rfl) ?_
  refine lv_isub hx hb dX2_pay_55 ?_
  refine lv_iadd hx hb dX2_pay_56 ?_
  refine g_iast S hw (f := dRow ((up2 (up2 σ 25 c ((σ 25 c) - (if due < (X_spares (κ c) (σ 25 c)) then due else X_spares (κ c) (σ 25 c)))) 25 d (((upd (σ 25) c ((σ 25 c) - (if due < (X_spares (κ c) (σ 25 c)) then due else X_spares (κ c) (σ 25 c)))) d) + (if due < (X_spares (κ c) (σ 25 c)) then due else X_spares (κ c) (σ 25 c)))) 26) c) (i := d) (27 + c) 0 (wX_dg24 _ _ _ _ _ _ (by omega)) rfl (by omega) (by decide) (w2 := wX cI cC cI2 a κ (up2 (up2 (up2 σ 25 c ((σ 25 c) - (if due < (X_spares (κ c) (σ 25 c)) then due else X_spares (κ c) (σ 25 c)))) 25 d (((upd (σ 25) c ((σ 25 c) - (if due < (X_spares (κ c) (σ 25 c)) then due else X_spares (κ c) (σ 25 c)))) d) + (if due < (X_spares (κ c) (σ 25 c)) then due else X_spares (κ c) (σ 25 c)))) 26 (4 * c + d) ((σ 26 (4 * c + d)) + (due - (if due < (X_spares (κ c) (σ 25 c)) then due else X_spares (κ c) (σ 25 c)))))) (wX_ds24 _ _ _ _ _ _ _ (by omega) (by omega)) dX2_pay_57 (fun H locs hw => ?_)
  refine lv_iload hx hb dX2_pay_58 (lv_at hl 0 rfl) ?_
  exact g_iret S hr hlk hw (by simp only [XH_pay_r, Nat.reduceAdd]) (by simp only [XH_pay_s, Nat.reduceAdd]) dX2_pay_60
def XH_marry_r (b : Nat) (κ : Nat → Nat) (σ : Nat → Nat → Int32) (c : Nat) (d : Nat) : Int32 := X_asks (κ d) (σ b 4)
def XH_marry_s (b : Nat) (κ : Nat → Nat) (σ : Nat → Nat → Int32) (c : Nat) (d : Nat) : Nat → Nat → Int32 := XH_pay_s b κ σ c d (X_asks (κ d) (σ b 4))
theorem XH_marry_s_k (b : Nat) (κ : Nat → Nat) (σ : Nat → Nat → Int32) (c : Nat) (d : Nat) (c9 : Nat) (q0 : c9 ≠ (b + 1)) (q1 : c9 ≠ (b + 2)) : XH_marry_s b κ σ c d c9 = σ c9 := by
  unfold XH_marry_s
  exact XH_pay_s_k b κ σ c d (X_asks (κ d) (σ b 4)) c9 q0 q1
set_option maxHeartbeats 4000000 in
set_option maxRecDepth 100000 in
theorem c_XH_marry_10 (l : Launch) (D : va_G) (cI cC cI2 : ClassId) (a : Nat → Nat) (κ : Nat → Nat) (σ : Nat → Nat → Int32) (c : Nat) (d : Nat) (hc : c < 4) (hd : d < 4) (hk : ∀ i, i < 4 → κ i < 5) : gI l D (tysX cI cC cI2) yX2_marry wsX2_marry 4 [.ref (a 10), .int (nI c), .int (nI d)] (wX cI cC cI2 a κ σ) (XH_marry_r 10 κ σ c d) (wX cI cC cI2 a κ (XH_marry_s 10 κ σ c d)) := by
  refine g_start (cc := cX2_marry) (maxL := 4) (ret := some .int) (Qc := gQi D (tysX cI cC cI2) (XH_marry_r 10 κ σ c d) (wX cI cC cI2 a κ (XH_marry_s 10 κ σ c d))) (by decide) rfl (Nat.le_of_ble_eq_true rfl) ?_
  intro p e s m below meth C A ls S hr hlk hw hl
  obtain ⟨hx, hb, hml, hown, hts⟩ := id S
  have hinX2 : ∀ x ∈ u_ws RX2 TX2 5, x ∈ wsX2_marry := fun x h => List.mem_cons_of_mem _ (List.mem_append_right _ h)
  have lk0 : Cond.fieldLink RX2 27 "CowsOwed$Herds" "clans" "[LCowsOwed$Clan;" ∈ wsX2_marry := by decide +kernel
  have lk1 : Cond.fieldLink RX2 24 "CowsOwed$Herds" "price" "I" ∈ wsX2_marry := by decide +kernel
  have lk2 : Cond.code ⟨"CowsOwed$Clan", "asks", "(I)I"⟩ cX1_asks 2 (some .int) ∈ wsX2_marry := by decide +kernel
  have hl : lv_has ls 4 [(0, .ref (a 10)), (1, .int (nI c)), (2, .int (nI d))] := hl
  refine lv_aload_n hx hb dX2_marry_0 rfl (lv_at hl 0 rfl) ?_
  refine g_get S hw hinX2 (fs := fX10 a σ) 10 rfl rfl 0 (by decide) lk0 (v := .ref (a 2)) rfl dX2_marry_1 ?_
  refine lv_iload_n hx hb dX2_marry_4 rfl (lv_at hl 2 rfl) ?_
  refine g_aald S hw (f := fun i => some (a (3 + κ i))) (i := d) (v := a (3 + κ d)) 2 1 rfl rfl rfl (by omega) (by decide) rfl dX2_marry_5 ?_
  refine lv_aload_n hx hb dX2_marry_6 rfl (lv_at hl 0 rfl) ?_
  refine g_get S hw hinX2 (fs := fX10 a σ) 10 rfl rfl 4 (by decide) lk1 (v := .int (σ 10 4)) rfl dX2_marry_7 ?_
  refine g_kind5 (k := κ d) (hk _ (by omega)) (G := fun j => ∀ (H : Heap) (locs : List Loc), gw D (tysX cI cC cI2) A s H locs (wX cI cC cI2 a κ σ) → W p l e (gR 4) s m ([.ref (a 10), .int (nI c), .int (nI d)] : List Value).toArray below meth C H locs 0 0 (MQ below (gQi D (tysX cI cC cI2) (XH_marry_r 10 κ σ c d) (wX cI cC cI2 a κ (XH_marry_s 10 κ σ c d)) A) ([.ref (a 10), .int (nI c), .int (nI d)] : List Value).toArray s 0 0 A) (F0 m 13 ls (.int (X_asks j (σ 10 4)) :: []))) (P := fun j => W p l e (gR 4) s m ([.ref (a 10), .int (nI c), .int (nI d)] : List Value).toArray below meth C _ _ 0 0 (MQ below (gQi D (tysX cI cC cI2) (XH_marry_r 10 κ σ c d) (wX cI cC cI2 a κ (XH_marry_s 10 κ σ c d)) A) ([.ref (a 10), .int (nI c), .int (nI d)] : List Value).toArray s 0 0 A) (F0 m 10 ls (.int (σ 10 4) :: .ref (a (3 + j)) :: []))) (fun kk => g_callVi S hw (c_X1_asks l D (tysX cI cC cI2) (wX cI cC cI2 a κ σ) (a 3) (σ 10 4)) gX2_marry_X1_asks rfl 3 rfl rfl 1 rfl (by decide +kernel) (by decide) (by decide) hl.1 rfl (Nat.le_of_ble_eq_true rfl) dX2_marry_10 kk) (fun kk => g_callUi S hw (c_X7_asks l D (tysX cI cC cI2) (wX cI cC cI2 a κ σ) (a 4) (σ 10 4)) (va_cwO 1 hts gX2_marry_X7_asks_u35X7 rfl rfl rfl lk2 (by decide +kernel) (g_hR (by decide) (by decide))) 4 rfl rfl hl.1 rfl (Nat.le_of_ble_eq_true rfl) dX2_marry_10 kk) (fun kk => g_callUi S hw (c_X6_asks l D (tysX cI cC cI2) (wX cI cC cI2 a κ σ) (a 5) (σ 10 4)) (va_cwO 1 hts gX2_marry_X6_asks_u35X6 rfl rfl rfl lk2 (by decide +kernel) (g_hR (by decide) (by decide))) 5 rfl rfl hl.1 rfl (Nat.le_of_ble_eq_true rfl) dX2_marry_10 kk) (fun kk => g_callUi S hw (c_X1_asks l D (tysX cI cC cI2) (wX cI cC cI2 a κ σ) (a 6) (σ 10 4)) (va_cwU 1 hts gX2_marry_X1_asks_u35X0 rfl rfl rfl rfl (by decide +kernel) (g_hR (by decide) (by decide))) 6 rfl rfl hl.1 rfl (Nat.le_of_ble_eq_true rfl) dX2_marry_10 kk) (fun kk => g_callUi S hw (c_X3_asks l D cI cC cI2 a κ σ (σ 10 4)) (va_cwO 1 hts gX2_marry_X3_asks_u35X3 rfl rfl rfl lk2 (by decide +kernel) (g_hR (by decide) (by decide))) 7 rfl rfl hl.1 rfl (Nat.le_of_ble_eq_true rfl) dX2_marry_10 kk) ?_
  intro H locs hw
  refine lv_istore_n (lv' := [(3, .int (X_asks (κ d) (σ 10 4))), (0, .ref (a 10)), (1, .int (nI c)), (2, .int (nI d))]) hx hb dX2_marry_13 rfl hl (by decide) rfl (fun ls hl => ?_)
  refine lv_aload_n hx hb dX2_marry_14 rfl (lv_at hl 1 rfl) ?_
  refine lv_iload_n hx hb dX2_marry_15 rfl (lv_at hl 2 rfl) ?_
  refine lv_iload_n hx hb dX2_marry_16 rfl (lv_at hl 3 rfl) ?_
  refine lv_iload_n hx hb dX2_marry_17 rfl (lv_at hl 0 rfl) ?_
  refine g_callVi S hw (c_XH_pay_10 l D cI cC cI2 a κ σ c d (X_asks (κ d) (σ 10 4)) (by omega) (by omega) hk) gX2_marry_X2_pay rfl 10 rfl rfl 3 rfl (by decide +kernel) (by decide) (by decide) hl.1 rfl (Nat.le_of_ble_eq_true rfl) dX2_marry_18 (fun H locs hw => ?_)
  refine lv_pop hx hb dX2_marry_21 rfl ?_
  refine lv_iload_n hx hb dX2_marry_22 rfl (lv_at hl 0 rfl) ?_
  exact g_iret S hr hlk hw (by simp only [XH_marry_r, Nat.reduceAdd]) (by simp only [XH_marry_s, Nat.reduceAdd]) dX2_marry_23
set_option maxHeartbeats 4000000 in
set_option maxRecDepth 100000 in
theorem c_XH_marry_24 (l : Launch) (D : va_G) (cI cC cI2 : ClassId) (a : Nat → Nat) (κ : Nat → Nat) (σ : Nat → Nat → Int32) (c : Nat) (d : Nat) (hc : c < 4) (hd : d < 4) (hk : ∀ i, i < 4 → κ i < 5) : gI l D (tysX cI cC cI2) yX2_marry wsX2_marry 4 [.ref (a 24), .int (nI c), .int (nI d)] (wX cI cC cI2 a κ σ) (XH_marry_r 24 κ σ c d) (wX cI cC cI2 a κ (XH_marry_s 24 κ σ c d)) := by
  refine g_start (cc := cX2_marry) (maxL := 4) (ret := some .int) (Qc := gQi D (tysX cI cC cI2) (XH_marry_r 24 κ σ c d) (wX cI cC cI2 a κ (XH_marry_s 24 κ σ c d))) (by decide) rfl (Nat.le_of_ble_eq_true rfl) ?_
  intro p e s m below meth C A ls S hr hlk hw hl
  obtain ⟨hx, hb, hml, hown, hts⟩ := id S
  have hinX2 : ∀ x ∈ u_ws RX2 TX2 5, x ∈ wsX2_marry := fun x h => List.mem_cons_of_mem _ (List.mem_append_right _ h)
  have lk0 : Cond.fieldLink RX2 27 "CowsOwed$Herds" "clans" "[LCowsOwed$Clan;" ∈ wsX2_marry := by decide +kernel
  have lk1 : Cond.fieldLink RX2 24 "CowsOwed$Herds" "price" "I" ∈ wsX2_marry := by decide +kernel
  have lk2 : Cond.code ⟨"CowsOwed$Clan", "asks", "(I)I"⟩ cX1_asks 2 (some .int) ∈ wsX2_marry := by decide +kernel
  have hl : lv_has ls 4 [(0, .ref (a 24)), (1, .int (nI c)), (2, .int (nI d))] := hl
  refine lv_aload_n hx hb dX2_marry_0 rfl (lv_at hl 0 rfl) ?_
  refine g_get S hw hinX2 (fs := fX24 a σ) 24 rfl rfl 0 (by decide) lk0 (v := .ref (a 2)) rfl dX2_marry_1 ?_
  refine lv_iload_n hx hb dX2_marry_4 rfl (lv_at hl 2 rfl) ?_
  refine g_aald S hw (f := fun i => some (a (3 + κ i))) (i := d) (v := a (3 + κ d)) 2 1 rfl rfl rfl (by omega) (by decide) rfl dX2_marry_5 ?_
  refine lv_aload_n hx hb dX2_marry_6 rfl (lv_at hl 0 rfl) ?_
  refine g_get S hw hinX2 (fs := fX24 a σ) 24 rfl rfl 4 (by decide) lk1 (v := .int (σ 24 4)) rfl dX2_marry_7 ?_
  refine g_kind5 (k := κ d) (hk _ (by omega)) (G := fun j => ∀ (H : Heap) (locs : List Loc), gw D (tysX cI cC cI2) A s H locs (wX cI cC cI2 a κ σ) → W p l e (gR 4) s m ([.ref (a 24), .int (nI c), .int (nI d)] : List Value).toArray below meth C H locs 0 0 (MQ below (gQi D (tysX cI cC cI2) (XH_marry_r 24 κ σ c d) (wX cI cC cI2 a κ (XH_marry_s 24 κ σ c d)) A) ([.ref (a 24), .int (nI c), .int (nI d)] : List Value).toArray s 0 0 A) (F0 m 13 ls (.int (X_asks j (σ 24 4)) :: []))) (P := fun j => W p l e (gR 4) s m ([.ref (a 24), .int (nI c), .int (nI d)] : List Value).toArray below meth C _ _ 0 0 (MQ below (gQi D (tysX cI cC cI2) (XH_marry_r 24 κ σ c d) (wX cI cC cI2 a κ (XH_marry_s 24 κ σ c d)) A) ([.ref (a 24), .int (nI c), .int (nI d)] : List Value).toArray s 0 0 A) (F0 m 10 ls (.int (σ 24 4) :: .ref (a (3 + j)) :: []))) (fun kk => g_callVi S hw (c_X1_asks l D (tysX cI cC cI2) (wX cI cC cI2 a κ σ) (a 3) (σ 24 4)) gX2_marry_X1_asks rfl 3 rfl rfl 1 rfl (by decide +kernel) (by decide) (by decide) hl.1 rfl (Nat.le_of_ble_eq_true rfl) dX2_marry_10 kk) (fun kk => g_callUi S hw (c_X7_asks l D (tysX cI cC cI2) (wX cI cC cI2 a κ σ) (a 4) (σ 24 4)) (va_cwO 1 hts gX2_marry_X7_asks_u35X7 rfl rfl rfl lk2 (by decide +kernel) (g_hR (by decide) (by decide))) 4 rfl rfl hl.1 rfl (Nat.le_of_ble_eq_true rfl) dX2_marry_10 kk) (fun kk => g_callUi S hw (c_X6_asks l D (tysX cI cC cI2) (wX cI cC cI2 a κ σ) (a 5) (σ 24 4)) (va_cwO 1 hts gX2_marry_X6_asks_u35X6 rfl rfl rfl lk2 (by decide +kernel) (g_hR (by decide) (by decide))) 5 rfl rfl hl.1 rfl (Nat.le_of_ble_eq_true rfl) dX2_marry_10 kk) (fun kk => g_callUi S hw (c_X1_asks l D (tysX cI cC cI2) (wX cI cC cI2 a κ σ) (a 6) (σ 24 4)) (va_cwU 1 hts gX2_marry_X1_asks_u35X0 rfl rfl rfl rfl (by decide +kernel) (g_hR (by decide) (by decide))) 6 rfl rfl hl.1 rfl (Nat.le_of_ble_eq_true rfl) dX2_marry_10 kk) (fun kk => g_callUi S hw (c_X3_asks l D cI cC cI2 a κ σ (σ 24 4)) (va_cwO 1 hts gX2_marry_X3_asks_u35X3 rfl rfl rfl lk2 (by decide +kernel) (g_hR (by decide) (by decide))) 7 rfl rfl hl.1 rfl (Nat.le_of_ble_eq_true rfl) dX2_marry_10 kk) ?_
  intro H locs hw
  refine lv_istore_n (lv' := [(3, .int (X_asks (κ d) (σ 24 4))), (0, .ref (a 24)), (1, .int (nI c)), (2, .int (nI d))]) hx hb dX2_marry_13 rfl hl (by decide) rfl (fun ls hl => ?_)
  refine lv_aload_n hx hb dX2_marry_14 rfl (lv_at hl 1 rfl) ?_
  refine lv_iload_n hx hb dX2_marry_15 rfl (lv_at hl 2 rfl) ?_
  refine lv_iload_n hx hb dX2_marry_16 rfl (lv_at hl 3 rfl) ?_
  refine lv_iload_n hx hb dX2_marry_17 rfl (lv_at hl 0 rfl) ?_
  refine g_callVi S hw (c_XH_pay_24 l D cI cC cI2 a κ σ c d (X_asks (κ d) (σ 24 4)) (by omega) (by omega) hk) gX2_marry_X2_pay rfl 24 rfl rfl 3 rfl (by decide +kernel) (by decide) (by decide) hl.1 rfl (Nat.le_of_ble_eq_true rfl) dX2_marry_18 (fun H locs hw => ?_)
  refine lv_pop hx hb dX2_marry_21 rfl ?_
  refine lv_iload_n hx hb dX2_marry_22 rfl (lv_at hl 0 rfl) ?_
  exact g_iret S hr hlk hw (by simp only [XH_marry_r, Nat.reduceAdd]) (by simp only [XH_marry_s, Nat.reduceAdd]) dX2_marry_23
def XH_payDebt_s (b : Nat) (κ : Nat → Nat) (σ : Nat → Nat → Int32) (c : Nat) (d : Nat) : Nat → Nat → Int32 := XH_pay_s b κ (up2 σ (b + 2) (4 * c + d) 0) c d (σ (b + 2) (4 * c + d))
theorem XH_payDebt_s_k (b : Nat) (κ : Nat → Nat) (σ : Nat → Nat → Int32) (c : Nat) (d : Nat) (c9 : Nat) (q0 : c9 ≠ (b + 1)) (q1 : c9 ≠ (b + 2)) : XH_payDebt_s b κ σ c d c9 = σ c9 := by
  unfold XH_payDebt_s
  exact (XH_pay_s_k b κ (up2 σ (b + 2) (4 * c + d) 0) c d (σ (b + 2) (4 * c + d)) c9 q0 q1).trans (up2_n _ _ _ q1)
set_option maxHeartbeats 4000000 in
set_option maxRecDepth 100000 in
theorem c_XH_payDebt_10 (l : Launch) (D : va_G) (cI cC cI2 : ClassId) (a : Nat → Nat) (κ : Nat → Nat) (σ : Nat → Nat → Int32) (c : Nat) (d : Nat) (hc : c < 4) (hd : d < 4) (hk : ∀ i, i < 4 → κ i < 5) : gV l D (tysX cI cC cI2) yX2_payDebt wsX2_payDebt 4 [.ref (a 10), .int (nI c), .int (nI d)] (wX cI cC cI2 a κ σ)  (wX cI cC cI2 a κ (XH_payDebt_s 10 κ σ c d)) := by
  refine g_start (cc := cX2_payDebt) (maxL := 4) (ret := none) (Qc := gQv D (tysX cI cC cI2) (wX cI cC cI2 a κ (XH_payDebt_s 10 κ σ c d))) (by decide) rfl (Nat.le_of_ble_eq_true rfl) ?_
  intro p e s m below meth C A ls S hr hlk hw hl
  obtain ⟨hx, hb, hml, hown, hts⟩ := id S
  have hinX2 : ∀ x ∈ u_ws RX2 TX2 5, x ∈ wsX2_payDebt := fun x h => List.mem_cons_of_mem _ (List.mem_append_right _ h)
  have lk0 : Cond.fieldLink RX2 17 "CowsOwed$Herds" "debts" "[[I" ∈ wsX2_payDebt := by decide +kernel
  have hl : lv_has ls 4 [(0, .ref (a 10)), (1, .int (nI c)), (2, .int (nI d))] := hl
  refine lv_aload_n hx hb dX2_payDebt_0 rfl (lv_at hl 0 rfl) ?_
  refine g_get S hw hinX2 (fs := fX10 a σ) 10 rfl rfl 2 (by decide) lk0 (v := .ref (a 12)) rfl dX2_payDebt_1 ?_
  refine lv_iload_n hx hb dX2_payDebt_4 rfl (lv_at hl 1 rfl) ?_
  refine g_aald S hw (f := fun i => some (a (13 + i))) (i := c) (v := a (13 + c)) 12 2 rfl rfl rfl (by omega) (by decide) rfl dX2_payDebt_5 ?_
  refine lv_iload_n hx hb dX2_payDebt_6 rfl (lv_at hl 2 rfl) ?_
  refine g_iald S hw (f := dRow (σ 12) c) (i := d) (x := σ 12 (4 * c + d)) (13 + c) 0 (wX_dg10 _ _ _ _ _ _ (by omega)) rfl (by omega) (by decide) (dRow_lt (by omega)) dX2_payDebt_7 ?_
  refine lv_istore_n (lv' := [(3, .int (σ 12 (4 * c + d))), (0, .ref (a 10)), (1, .int (nI c)), (2, .int (nI d))]) hx hb dX2_payDebt_8 rfl hl (by decide) rfl (fun ls hl => ?_)
  refine lv_aload_n hx hb dX2_payDebt_9 rfl (lv_at hl 1 rfl) ?_
  refine g_get S hw hinX2 (fs := fX10 a σ) 10 rfl rfl 2 (by decide) lk0 (v := .ref (a 12)) rfl dX2_payDebt_10 ?_
  refine lv_iload_n hx hb dX2_payDebt_13 rfl (lv_at hl 2 rfl) ?_
  refine g_aald S hw (f := fun i => some (a (13 + i))) (i := c) (v := a (13 + c)) 12 2 rfl rfl rfl (by omega) (by decide) rfl dX2_payDebt_14 ?_
  refine lv_iload_n hx hb dX2_payDebt_15 rfl (lv_at hl 3 rfl) ?_
  refine lv_iconst (v := 0) hx hb dX2_payDebt_16 (by decide) ?_
  refine g_iast S hw (f := dRow (σ 12) c) (i := d) (13 + c) 0 (wX_dg10 _ _ _ _ _ _ (by omega)) rfl (by omega) (by decide) (w2 := wX cI cC cI2 a κ (up2 σ 12 (4 * c + d) 0)) (wX_ds10 _ _ _ _ _ _ _ (by omega) (by omega)) dX2_payDebt_17 (fun H locs hw => ?_)
  refine lv_aload_n hx hb dX2_payDebt_18 rfl (lv_at hl 1 rfl) ?_
  refine lv_iload_n hx hb dX2_payDebt_19 rfl (lv_at hl 2 rfl) ?_
  refine lv_iload_n hx hb dX2_payDebt_20 rfl (lv_at hl 3 rfl) ?_
  refine lv_iload_n hx hb dX2_payDebt_21 rfl (lv_at hl 0 rfl) ?_
  refine g_callVi S hw (c_XH_pay_10 l D cI cC cI2 a κ (up2 σ 12 (4 * c + d) 0) c d (σ 12 (4 * c + d)) (by omega) (by omega) hk) gX2_payDebt_X2_pay rfl 10 rfl rfl 3 rfl (by decide +kernel) (by decide) (by decide) hl.1 rfl (Nat.le_of_ble_eq_true rfl) dX2_payDebt_22 (fun H locs hw => ?_)
  refine lv_pop hx hb dX2_payDebt_25 rfl ?_
  exact g_vret S hr hlk hw (by simp only [XH_payDebt_s, Nat.reduceAdd]) dX2_payDebt_26
set_option maxHeartbeats 4000000 in
set_option maxRecDepth 100000 in
theorem c_XH_payDebt_24 (l : Launch) (D : va_G) (cI cC cI2 : ClassId) (a : Nat → Nat) (κ : Nat → Nat) (σ : Nat → Nat → Int32) (c : Nat) (d : Nat) (hc : c < 4) (hd : d < 4) (hk : ∀ i, i < 4 → κ i < 5) : gV l D (tysX cI cC cI2) yX2_payDebt wsX2_payDebt 4 [.ref (a 24), .int (nI c), .int (nI d)] (wX cI cC cI2 a κ σ)  (wX cI cC cI2 a κ (XH_payDebt_s 24 κ σ c d)) := by
  refine g_start (cc := cX2_payDebt) (maxL := 4) (ret := none) (Qc := gQv D (tysX cI cC cI2) (wX cI cC cI2 a κ (XH_payDebt_s 24 κ σ c d))) (by decide) rfl (Nat.le_of_ble_eq_true rfl) ?_
  intro p e s m below meth C A ls S hr hlk hw hl
  obtain ⟨hx, hb, hml, hown, hts⟩ := id S
  have hinX2 : ∀ x ∈ u_ws RX2 TX2 5, x ∈ wsX2_payDebt := fun x h => List.mem_cons_of_mem _ (List.mem_append_right _ h)
  have lk0 : Cond.fieldLink RX2 17 "CowsOwed$Herds" "debts" "[[I" ∈ wsX2_payDebt := by decide +kernel
  have hl : lv_has ls 4 [(0, .ref (a 24)), (1, .int (nI c)), (2, .int (nI d))] := hl
  refine lv_aload_n hx hb dX2_payDebt_0 rfl (lv_at hl 0 rfl) ?_
  refine g_get S hw hinX2 (fs := fX24 a σ) 24 rfl rfl 2 (by decide) lk0 (v := .ref (a 26)) rfl dX2_payDebt_1 ?_
  refine lv_iload_n hx hb dX2_payDebt_4 rfl (lv_at hl 1 rfl) ?_
  refine g_aald S hw (f := fun i => some (a (27 + i))) (i := c) (v := a (27 + c)) 26 2 rfl rfl rfl (by omega) (by decide) rfl dX2_payDebt_5 ?_
  refine lv_iload_n hx hb dX2_payDebt_6 rfl (lv_at hl 2 rfl) ?_
  refine g_iald S hw (f := dRow (σ 26) c) (i := d) (x := σ 26 (4 * c + d)) (27 + c) 0 (wX_dg24 _ _ _ _ _ _ (by omega)) rfl (by omega) (by decide) (dRow_lt (by omega)) dX2_payDebt_7 ?_
  refine lv_istore_n (lv' := [(3, .int (σ 26 (4 * c + d))), (0, .ref (a 24)), (1, .int (nI c)), (2, .int (nI d))]) hx hb dX2_payDebt_8 rfl hl (by decide) rfl (fun ls hl => ?_)
  refine lv_aload_n hx hb dX2_payDebt_9 rfl (lv_at hl 1 rfl) ?_
  refine g_get S hw hinX2 (fs := fX24 a σ) 24 rfl rfl 2 (by decide) lk0 (v := .ref (a 26)) rfl dX2_payDebt_10 ?_
  refine lv_iload_n hx hb dX2_payDebt_13 rfl (lv_at hl 2 rfl) ?_
  refine g_aald S hw (f := fun i => some (a (27 + i))) (i := c) (v := a (27 + c)) 26 2 rfl rfl rfl (by omega) (by decide) rfl dX2_payDebt_14 ?_
  refine lv_iload_n hx hb dX2_payDebt_15 rfl (lv_at hl 3 rfl) ?_
  refine lv_iconst (v := 0) hx hb dX2_payDebt_16 (by decide) ?_
  refine g_iast S hw (f := dRow (σ 26) c) (i := d) (27 + c) 0 (wX_dg24 _ _ _ _ _ _ (by omega)) rfl (by omega) (by decide) (w2 := wX cI cC cI2 a κ (up2 σ 26 (4 * c + d) 0)) (wX_ds24 _ _ _ _ _ _ _ (by omega) (by omega)) dX2_payDebt_17 (fun H locs hw => ?_)
  refine lv_aload_n hx hb dX2_payDebt_18 rfl (lv_at hl 1 rfl) ?_
  refine lv_iload_n hx hb dX2_payDebt_19 rfl (lv_at hl 2 rfl) ?_
  refine lv_iload_n hx hb dX2_payDebt_20 rfl (lv_at hl 3 rfl) ?_
  refine lv_iload_n hx hb dX2_payDebt_21 rfl (lv_at hl 0 rfl) ?_
  refine g_callVi S hw (c_XH_pay_24 l D cI cC cI2 a κ (up2 σ 26 (4 * c + d) 0) c d (σ 26 (4 * c + d)) (by omega) (by omega) hk) gX2_payDebt_X2_pay rfl 24 rfl rfl 3 rfl (by decide +kernel) (by decide) (by decide) hl.1 rfl (Nat.le_of_ble_eq_true rfl) dX2_payDebt_22 (fun H locs hw => ?_)
  refine lv_pop hx hb dX2_payDebt_25 rfl ?_
  exact g_vret S hr hlk hw (by simp only [XH_payDebt_s, Nat.reduceAdd]) dX2_payDebt_26
def XH_passYear_S2_0 (b : Nat) (κ : Nat → Nat) (n : Nat) (i2 : Nat) (σ2 : Nat → Nat → Int32) : Nat → Nat → Int32 := up2 σ2 (b + 1) i2 (XH_grown_r (σ2 (b + 1) i2))
def XH_passYear_L2 (b : Nat) (κ : Nat → Nat) (n : Nat) : Nat → Nat → (Nat → Nat → Int32) → (Nat → Nat → Int32)
  | 0, _, σ2 => σ2
  | n2 + 1, i2, σ2 => XH_passYear_L2 b κ n n2 (i2 + 1) (XH_passYear_S2_0 b κ n i2 σ2)
theorem XH_passYear_S2_k (b : Nat) (κ : Nat → Nat) (n : Nat) (c9 : Nat) (q0 : c9 ≠ (b + 1)) (i2 : Nat) (σ2 : Nat → Nat → Int32) : XH_passYear_S2_0 b κ n i2 σ2 c9 = σ2 c9 := by
  unfold XH_passYear_S2_0
  exact up2_n _ _ _ q0
theorem XH_passYear_L2_k (b : Nat) (κ : Nat → Nat) (n : Nat) (c9 : Nat) (q0 : c9 ≠ (b + 1)) : ∀ (n2 i2 : Nat) (σ2 : Nat → Nat → Int32), (XH_passYear_L2 b κ n n2 i2 σ2) c9 = σ2 c9 := by
  intro n2
  induction n2 with
  | zero => intros; rfl
  | succ n2 ih => intro i2 σ2; exact (ih (i2 + 1) (XH_passYear_S2_0 b κ n i2 σ2)).trans (XH_passYear_S2_k b κ n c9 q0 i2 σ2)
def XH_passYear_S43_0 (b : Nat) (κ : Nat → Nat) (n : Nat) (i33 : Nat) (i43 : Nat) (σ43 : Nat → Nat → Int32) : Nat → Nat → Int32 := XH_payDebt_s b κ σ43 i33 i43
def XH_passYear_L43 (b : Nat) (κ : Nat → Nat) (n : Nat) (i33 : Nat) : Nat → Nat → (Nat → Nat → Int32) → (Nat → Nat → Int32)
  | 0, _, σ43 => σ43
  | n43 + 1, i43, σ43 => XH_passYear_L43 b κ n i33 n43 (i43 + 1) (XH_passYear_S43_0 b κ n i33 i43 σ43)
theorem XH_passYear_S43_k (b : Nat) (κ : Nat → Nat) (n : Nat) (i33 : Nat) (c9 : Nat) (q0 : c9 ≠ (b + 1)) (q1 : c9 ≠ (b + 2)) (i43 : Nat) (σ43 : Nat → Nat → Int32) : XH_passYear_S43_0 b κ n i33 i43 σ43 c9 = σ43 c9 := by
  unfold XH_passYear_S43_0
  exact XH_payDebt_s_k b κ σ43 i33 i43 c9 q0 q1
theorem XH_passYear_L43_k (b : Nat) (κ : Nat → Nat) (n : Nat) (i33 : Nat) (c9 : Nat) (q0 : c9 ≠ (b + 1)) (q1 : c9 ≠ (b + 2)) : ∀ (n43 i43 : Nat) (σ43 : Nat → Nat → Int32), (XH_passYear_L43 b κ n i33 n43 i43 σ43) c9 = σ43 c9 := by
  intro n43
  induction n43 with
  | zero => intros; rfl
  | succ n43 ih => intro i43 σ43; exact (ih (i43 + 1) (XH_passYear_S43_0 b κ n i33 i43 σ43)).trans (XH_passYear_S43_k b κ n i33 c9 q0 q1 i43 σ43)
def XH_passYear_S33_0 (b : Nat) (κ : Nat → Nat) (n : Nat) (i33 : Nat) (σ33 : Nat → Nat → Int32) : Nat → Nat → Int32 := (XH_passYear_L43 b κ n i33 n 0 σ33)
def XH_passYear_L33 (b : Nat) (κ : Nat → Nat) (n : Nat) : Nat → Nat → (Nat → Nat → Int32) → (Nat → Nat → Int32)
  | 0, _, σ33 => σ33
  | n33 + 1, i33, σ33 => XH_passYear_L33 b κ n n33 (i33 + 1) (XH_passYear_S33_0 b κ n i33 σ33)
theorem XH_passYear_S33_k (b : Nat) (κ : Nat → Nat) (n : Nat) (c9 : Nat) (q0 : c9 ≠ (b + 1)) (q1 : c9 ≠ (b + 2)) (i33 : Nat) (σ33 : Nat → Nat → Int32) : XH_passYear_S33_0 b κ n i33 σ33 c9 = σ33 c9 := by
  unfold XH_passYear_S33_0
  exact XH_passYear_L43_k b κ n i33 c9 q0 q1 n 0 σ33
theorem XH_passYear_L33_k (b : Nat) (κ : Nat → Nat) (n : Nat) (c9 : Nat) (q0 : c9 ≠ (b + 1)) (q1 : c9 ≠ (b + 2)) : ∀ (n33 i33 : Nat) (σ33 : Nat → Nat → Int32), (XH_passYear_L33 b κ n n33 i33 σ33) c9 = σ33 c9 := by
  intro n33
  induction n33 with
  | zero => intros; rfl
  | succ n33 ih => intro i33 σ33; exact (ih (i33 + 1) (XH_passYear_S33_0 b κ n i33 σ33)).trans (XH_passYear_S33_k b κ n c9 q0 q1 i33 σ33)
def XH_passYear_s (b : Nat) (κ : Nat → Nat) (σ : Nat → Nat → Int32) (n : Nat) : Nat → Nat → Int32 := (XH_passYear_L33 b κ n n 0 (XH_passYear_L2 b κ n n 0 σ))
theorem XH_passYear_s_k (b : Nat) (κ : Nat → Nat) (σ : Nat → Nat → Int32) (n : Nat) (c9 : Nat) (q0 : c9 ≠ (b + 1)) (q1 : c9 ≠ (b + 2)) : XH_passYear_s b κ σ n c9 = σ c9 := by
  unfold XH_passYear_s
  exact (XH_passYear_L33_k b κ n c9 q0 q1 n 0 (XH_passYear_L2 b κ n n 0 σ)).trans (XH_passYear_L2_k b κ n c9 q0 n 0 σ)
set_option maxHeartbeats 4000000 in
set_option maxRecDepth 100000 in
theorem c_XH_passYear_10 (l : Launch) (D : va_G) (cI cC cI2 : ClassId) (a : Nat → Nat) (κ : Nat → Nat) (σ : Nat → Nat → Int32) (n : Nat) (hn : σ 10 3 = nI n) (hnb : n ≤ 4) (hk : ∀ i, i < 4 → κ i < 5) : gV l D (tysX cI cC cI2) yX2_passYear wsX2_passYear 5 [.ref (a 10)] (wX cI cC cI2 a κ σ)  (wX cI cC cI2 a κ (XH_passYear_s 10 κ σ n)) := by
  refine g_start (cc := cX2_passYear) (maxL := 3) (ret := none) (Qc := gQv D (tysX cI cC cI2) (wX cI cC cI2 a κ (XH_passYear_s 10 κ σ n))) (by decide) rfl (Nat.le_of_ble_eq_true rfl) ?_
  intro p e s m below meth C A ls S hr hlk hw hl
  obtain ⟨hx, hb, hml, hown, hts⟩ := id S
  have hinX2 : ∀ x ∈ u_ws RX2 TX2 5, x ∈ wsX2_passYear := fun x h => List.mem_cons_of_mem _ (List.mem_append_right _ h)
  have lk0 : Cond.fieldLink RX2 20 "CowsOwed$Herds" "size" "I" ∈ wsX2_passYear := by decide +kernel
  have lk1 : Cond.fieldLink RX2 9 "CowsOwed$Herds" "cows" "[I" ∈ wsX2_passYear := by decide +kernel
  have hl : lv_has ls 3 [(0, .ref (a 10))] := hl
  refine lv_iconst (v := 0) hx hb dX2_passYear_0 (by decide) ?_
  refine lv_istore_n (lv' := [(1, .int 0), (0, .ref (a 10))]) hx hb dX2_passYear_1 rfl hl (by decide) rfl (fun ls hl => ?_)
  have L2 : ∀ (n2 i2 : Nat) (σ2 : Nat → Nat → Int32) (H : Heap) (locs : List Loc) (ls : Array Slot), i2 + n2 = n → σ2 10 = σ 10 → XH_passYear_L2 10 κ n n2 i2 σ2 = XH_passYear_L2 10 κ n n 0 σ → gw D (tysX cI cC cI2) A s H locs (wX cI cC cI2 a κ σ2) → lv_has ls 3 [(1, .int (nI i2)), (0, .ref (a 10))] → W p l e (gR 5) s m ([.ref (a 10)] : List Value).toArray below meth C H locs 0 0 (MQ below (gQv D (tysX cI cC cI2) (wX cI cC cI2 a κ (XH_passYear_s 10 κ σ n)) A) ([.ref (a 10)] : List Value).toArray s 0 0 A) (F0 m 2 ls []) := by
    intro n2
    induction n2 with
    | zero =>
      intro i2 σ2 H locs ls hi2 k2_0 hF2 hw hl
      refine lv_iload_n hx hb dX2_passYear_2 rfl (lv_at hl 0 rfl) ?_
      refine lv_aload_n hx hb dX2_passYear_3 rfl (lv_at hl 1 rfl) ?_
      refine g_get S hw hinX2 (fs := fX10 a σ2) 10 rfl rfl 3 (by decide) lk0 (v := .int (nI n)) (congrArg (fun z => some (Value.int z)) ((congrFun k2_0 3).trans (hn))) dX2_passYear_4 ?_
      refine ln_ge (x := i2) (y := n) hx hb (by omega) (by omega) (tgt := 31) dX2_passYear_7 (by decide) (fun c_x => ?_) (fun c_x => absurd (by omega) c_x)
      have hz2 : n = i2 := by omega
      subst hz2
      have e2_0 : (XH_passYear_L2 10 κ n n 0 σ) = σ2 := hF2.symm
      subst e2_0
      refine lv_iconst (v := 0) hx hb dX2_passYear_31 (by decide) ?_
      refine lv_istore_n (lv' := [(1, .int 0), (0, .ref (a 10))]) hx hb dX2_passYear_32 rfl hl (by decide) rfl (fun ls hl => ?_)
      have L33 : ∀ (n33 i33 : Nat) (σ33 : Nat → Nat → Int32) (H : Heap) (locs : List Loc) (ls : Array Slot), i33 + n33 = n → σ33 10 = (XH_passYear_L2 10 κ n n 0 σ) 10 → XH_passYear_L33 10 κ n n33 i33 σ33 = XH_passYear_L33 10 κ n n 0 (XH_passYear_L2 10 κ n n 0 σ) → gw D (tysX cI cC cI2) A s H locs (wX cI cC cI2 a κ σ33) → lv_has ls 3 [(1, .int (nI i33)), (0, .ref (a 10))] → W p l e (gR 5) s m ([.ref (a 10)] : List Value).toArray below meth C H locs 0 0 (MQ below (gQv D (tysX cI cC cI2) (wX cI cC cI2 a κ (XH_passYear_s 10 κ σ n)) A) ([.ref (a 10)] : List Value).toArray s 0 0 A) (F0 m 33 ls []) := by
        intro n33
        induction n33 with
        | zero =>
          intro i33 σ33 H locs ls hi33 k33_0 hF33 hw hl
          refine lv_iload_n hx hb dX2_passYear_33 rfl (lv_at hl 0 rfl) ?_
          refine lv_aload_n hx hb dX2_passYear_34 rfl (lv_at hl 1 rfl) ?_
          refine g_get S hw hinX2 (fs := fX10 a σ33) 10 rfl rfl 3 (by decide) lk0 (v := .int (nI n)) (congrArg (fun z => some (Value.int z)) ((congrFun k33_0 3).trans ((congrFun (XH_passYear_L2_k 10 κ n 10 (by omega) n 0 σ) 3).trans (hn)))) dX2_passYear_35 ?_
          refine ln_ge (x := i33) (y := n) hx hb (by omega) (by omega) (tgt := 69) dX2_passYear_38 (by decide) (fun c_x => ?_) (fun c_x => absurd (by omega) c_x)
          have hz33 : n = i33 := by omega
          subst hz33
          have e33_0 : (XH_passYear_L33 10 κ n n 0 (XH_passYear_L2 10 κ n n 0 σ)) = σ33 := hF33.symm
          subst e33_0
          exact g_vret S hr hlk hw (by simp only [XH_passYear_s, Nat.reduceAdd]) dX2_passYear_69
        | succ n33 ih33 =>
          intro i33 σ33 H locs ls hi33 k33_0 hF33 hw hl
          refine lv_iload_n hx hb dX2_passYear_33 rfl (lv_at hl 0 rfl) ?_
          refine lv_aload_n hx hb dX2_passYear_34 rfl (lv_at hl 1 rfl) ?_
          refine g_get S hw hinX2 (fs := fX10 a σ33) 10 rfl rfl 3 (by decide) lk0 (v := .int (nI n)) (congrArg (fun z => some (Value.int z)) ((congrFun k33_0 3).trans ((congrFun (XH_passYear_L2_k 10 κ n 10 (by omega) n 0 σ) 3).trans (hn)))) dX2_passYear_35 ?_
          refine ln_ge (x := i33) (y := n) hx hb (by omega) (by omega) (tgt := 69) dX2_passYear_38 (by decide) (fun c_x => absurd c_x (by omega)) (fun c_x => ?_)
          refine lv_iconst (v := 0) hx hb dX2_passYear_41 (by decide) ?_
          refine lv_istore_n (lv' := [(2, .int 0), (1, .int (nI i33)), (0, .ref (a 10))]) hx hb dX2_passYear_42 rfl hl (by decide) rfl (fun ls hl => ?_)
          have L43 : ∀ (n43 i43 : Nat) (σ43 : Nat → Nat → Int32) (H : Heap) (locs : List Loc) (ls : Array Slot), i43 + n43 = n → σ43 10 = σ33 10 → XH_passYear_L43 10 κ n i33 n43 i43 σ43 = XH_passYear_L43 10 κ n i33 n 0 σ33 → gw D (tysX cI cC cI2) A s H locs (wX cI cC cI2 a κ σ43) → lv_has ls 3 [(2, .int (nI i43)), (1, .int (nI i33)), (0, .ref (a 10))] → W p l e (gR 5) s m ([.ref (a 10)] : List Value).toArray below meth C H locs 0 0 (MQ below (gQv D (tysX cI cC cI2) (wX cI cC cI2 a κ (XH_passYear_s 10 κ σ n)) A) ([.ref (a 10)] : List Value).toArray s 0 0 A) (F0 m 43 ls []) := by
            intro n43
            induction n43 with
            | zero =>
              intro i43 σ43 H locs ls hi43 k43_0 hF43 hw hl
              refine lv_iload_n hx hb dX2_passYear_43 rfl (lv_at hl 0 rfl) ?_
              refine lv_aload_n hx hb dX2_passYear_44 rfl (lv_at hl 2 rfl) ?_
              refine g_get S hw hinX2 (fs := fX10 a σ43) 10 rfl rfl 3 (by decide) lk0 (v := .int (nI n)) (congrArg (fun z => some (Value.int z)) ((congrFun k43_0 3).trans ((congrFun k33_0 3).trans ((congrFun (XH_passYear_L2_k 10 κ n 10 (by omega) n 0 σ) 3).trans (hn))))) dX2_passYear_45 ?_
              refine ln_ge (x := i43) (y := n) hx hb (by omega) (by omega) (tgt := 63) dX2_passYear_48 (by decide) (fun c_x => ?_) (fun c_x => absurd (by omega) c_x)
              have hz43 : n = i43 := by omega
              subst hz43
              have e43_0 : (XH_passYear_L43 10 κ n i33 n 0 σ33) = σ43 := hF43.symm
              subst e43_0
              refine lv_iinc (v := nI (i33 + 1)) (lv' := [(1, .int (nI (i33 + 1))), (2, .int (nI n)), (0, .ref (a 10))]) hx hb dX2_passYear_63 hl (k := 1) rfl (nI_1 _) (by decide) rfl (fun ls hl => ?_)
              refine lv_goto (tgt := 33) hx hb dX2_passYear_66 (by decide) ?_
              exact ih33 (i33 + 1) (XH_passYear_L43 10 κ n i33 n 0 σ33) _ _ _ (by omega) ((XH_passYear_L43_k 10 κ n i33 10 (by omega) (by omega) n 0 σ33).trans (k33_0)) hF33 hw (lv_sub hl [0, 2] rfl)
            | succ n43 ih43 =>
              intro i43 σ43 H locs ls hi43 k43_0 hF43 hw hl
              refine lv_iload_n hx hb dX2_passYear_43 rfl (lv_at hl 0 rfl) ?_
              refine lv_aload_n hx hb dX2_passYear_44 rfl (lv_at hl 2 rfl) ?_
              refine g_get S hw hinX2 (fs := fX10 a σ43) 10 rfl rfl 3 (by decide) lk0 (v := .int (nI n)) (congrArg (fun z => some (Value.int z)) ((congrFun k43_0 3).trans ((congrFun k33_0 3).trans ((congrFun (XH_passYear_L2_k 10 κ n 10 (by omega) n 0 σ) 3).trans (hn))))) dX2_passYear_45 ?_
              refine ln_ge (x := i43) (y := n) hx hb (by omega) (by omega) (tgt := 63) dX2_passYear_48 (by decide) (fun c_x => absurd c_x (by omega)) (fun c_x => ?_)
              refine lv_aload_n hx hb dX2_passYear_51 rfl (lv_at hl 2 rfl) ?_
              refine lv_iload_n hx hb dX2_passYear_52 rfl (lv_at hl 1 rfl) ?_
              refine lv_iload_n hx hb dX2_passYear_53 rfl (lv_at hl 0 rfl) ?_
              refine g_callVv S hw (c_XH_payDebt_10 l D cI cC cI2 a κ σ43 i33 i43 (by omega) (by omega) hk) gX2_passYear_X2_payDebt rfl 10 rfl rfl 2 rfl (by decide +kernel) (by decide) (by decide) hl.1 rfl (Nat.le_of_ble_eq_true rfl) dX2_passYear_54 (fun H locs hw => ?_)
              refine lv_iinc (v := nI (i43 + 1)) (lv' := [(2, .int (nI (i43 + 1))), (1, .int (nI i33)), (0, .ref (a 10))]) hx hb dX2_passYear_57 hl (k := 0) rfl (nI_1 _) (by decide) rfl (fun ls hl => ?_)
              refine lv_goto (tgt := 43) hx hb dX2_passYear_60 (by decide) ?_
              exact ih43 (i43 + 1) (XH_payDebt_s 10 κ σ43 i33 i43) _ _ _ (by omega) ((XH_payDebt_s_k 10 κ σ43 i33 i43 10 (by omega) (by omega)).trans (k43_0)) hF43 hw (lv_sub hl [0, 1, 2] rfl)
          exact L43 n 0 σ33 _ _ _ (by omega) rfl rfl hw (lv_sub hl [0, 1, 2] rfl)
      exact L33 n 0 (XH_passYear_L2 10 κ n n 0 σ) _ _ _ (by omega) rfl rfl hw (lv_sub hl [0, 1] rfl)
    | succ n2 ih2 =>
      intro i2 σ2 H locs ls hi2 k2_0 hF2 hw hl
      refine lv_iload_n hx hb dX2_passYear_2 rfl (lv_at hl 0 rfl) ?_
      refine lv_aload_n hx hb dX2_passYear_3 rfl (lv_at hl 1 rfl) ?_
      refine g_get S hw hinX2 (fs := fX10 a σ2) 10 rfl rfl 3 (by decide) lk0 (v := .int (nI n)) (congrArg (fun z => some (Value.int z)) ((congrFun k2_0 3).trans (hn))) dX2_passYear_4 ?_
      refine ln_ge (x := i2) (y := n) hx hb (by omega) (by omega) (tgt := 31) dX2_passYear_7 (by decide) (fun c_x => absurd c_x (by omega)) (fun c_x => ?_)
      refine lv_aload_n hx hb dX2_passYear_10 rfl (lv_at hl 1 rfl) ?_
      refine g_get S hw hinX2 (fs := fX10 a σ2) 10 rfl rfl 1 (by decide) lk1 (v := .ref (a 11)) rfl dX2_passYear_11 ?_
      refine lv_iload_n hx hb dX2_passYear_14 rfl (lv_at hl 0 rfl) ?_
      refine lv_aload_n hx hb dX2_passYear_15 rfl (lv_at hl 1 rfl) ?_
      refine g_get S hw hinX2 (fs := fX10 a σ2) 10 rfl rfl 1 (by decide) lk1 (v := .ref (a 11)) rfl dX2_passYear_16 ?_
      refine lv_iload_n hx hb dX2_passYear_19 rfl (lv_at hl 0 rfl) ?_
      refine g_iald S hw (f := σ2 11) (i := i2) (x := σ2 11 i2) 11 0 rfl rfl (by omega) (by decide) rfl dX2_passYear_20 ?_
      refine g_callSi S hw (c_XH_grown l D (tysX cI cC cI2) (wX cI cC cI2 a κ σ2) (σ2 11 i2)) gX2_passYear_X2_grown rfl 1 rfl (by decide +kernel) (by decide) (by decide) hl.1 rfl (Nat.le_of_ble_eq_true rfl) dX2_passYear_21 (fun H locs hw => ?_)
      refine g_iast S hw (f := σ2 11) (i := i2) 11 0 rfl rfl (by omega) (by decide) (w2 := wX cI cC cI2 a κ (up2 σ2 11 i2 (XH_grown_r (σ2 11 i2)))) (wX_a11 _ _ _ _ _ _ _ _) dX2_passYear_24 (fun H locs hw => ?_)
      refine lv_iinc (v := nI (i2 + 1)) (lv' := [(1, .int (nI (i2 + 1))), (0, .ref (a 10))]) hx hb dX2_passYear_25 hl (k := 0) rfl (nI_1 _) (by decide) rfl (fun ls hl => ?_)
      refine lv_goto (tgt := 2) hx hb dX2_passYear_28 (by decide) ?_
      exact ih2 (i2 + 1) (up2 σ2 11 i2 (XH_grown_r (σ2 11 i2))) _ _ _ (by omega) ((up2_n _ _ _ (by omega)).trans (k2_0)) hF2 hw (lv_sub hl [0, 1] rfl)
  exact L2 n 0 σ _ _ _ (by omega) rfl rfl hw (lv_sub hl [0, 1] rfl)
set_option maxHeartbeats 4000000 in
set_option maxRecDepth 100000 in
theorem c_XH_passYear_24 (l : Launch) (D : va_G) (cI cC cI2 : ClassId) (a : Nat → Nat) (κ : Nat → Nat) (σ : Nat → Nat → Int32) (n : Nat) (hn : σ 24 3 = nI n) (hnb : n ≤ 4) (hk : ∀ i, i < 4 → κ i < 5) : gV l D (tysX cI cC cI2) yX2_passYear wsX2_passYear 5 [.ref (a 24)] (wX cI cC cI2 a κ σ)  (wX cI cC cI2 a κ (XH_passYear_s 24 κ σ n)) := by
  refine g_start (cc := cX2_passYear) (maxL := 3) (ret := none) (Qc := gQv D (tysX cI cC cI2) (wX cI cC cI2 a κ (XH_passYear_s 24 κ σ n))) (by decide) rfl (Nat.le_of_ble_eq_true rfl) ?_
  intro p e s m below meth C A ls S hr hlk hw hl
  obtain ⟨hx, hb, hml, hown, hts⟩ := id S
  have hinX2 : ∀ x ∈ u_ws RX2 TX2 5, x ∈ wsX2_passYear := fun x h => List.mem_cons_of_mem _ (List.mem_append_right _ h)
  have lk0 : Cond.fieldLink RX2 20 "CowsOwed$Herds" "size" "I" ∈ wsX2_passYear := by decide +kernel
  have lk1 : Cond.fieldLink RX2 9 "CowsOwed$Herds" "cows" "[I" ∈ wsX2_passYear := by decide +kernel
  have hl : lv_has ls 3 [(0, .ref (a 24))] := hl
  refine lv_iconst (v := 0) hx hb dX2_passYear_0 (by decide) ?_
  refine lv_istore_n (lv' := [(1, .int 0), (0, .ref (a 24))]) hx hb dX2_passYear_1 rfl hl (by decide) rfl (fun ls hl => ?_)
  have L2 : ∀ (n2 i2 : Nat) (σ2 : Nat → Nat → Int32) (H : Heap) (locs : List Loc) (ls : Array Slot), i2 + n2 = n → σ2 24 = σ 24 → XH_passYear_L2 24 κ n n2 i2 σ2 = XH_passYear_L2 24 κ n n 0 σ → gw D (tysX cI cC cI2) A s H locs (wX cI cC cI2 a κ σ2) → lv_has ls 3 [(1, .int (nI i2)), (0, .ref (a 24))] → W p l e (gR 5) s m ([.ref (a 24)] : List Value).toArray below meth C H locs 0 0 (MQ below (gQv D (tysX cI cC cI2) (wX cI cC cI2 a κ (XH_passYear_s 24 κ σ n)) A) ([.ref (a 24)] : List Value).toArray s 0 0 A) (F0 m 2 ls []) := by
    intro n2
    induction n2 with
    | zero =>
      intro i2 σ2 H locs ls hi2 k2_0 hF2 hw hl
      refine lv_iload_n hx hb dX2_passYear_2 rfl (lv_at hl 0 rfl) ?_
      refine lv_aload_n hx hb dX2_passYear_3 rfl (lv_at hl 1 rfl) ?_
      refine g_get S hw hinX2 (fs := fX24 a σ2) 24 rfl rfl 3 (by decide) lk0 (v := .int (nI n)) (congrArg (fun z => some (Value.int z)) ((congrFun k2_0 3).trans (hn))) dX2_passYear_4 ?_
      refine ln_ge (x := i2) (y := n) hx hb (by omega) (by omega) (tgt := 31) dX2_passYear_7 (by decide) (fun c_x => ?_) (fun c_x => absurd (by omega) c_x)
      have hz2 : n = i2 := by omega
      subst hz2
      have e2_0 : (XH_passYear_L2 24 κ n n 0 σ) = σ2 := hF2.symm
      subst e2_0
      refine lv_iconst (v := 0) hx hb dX2_passYear_31 (by decide) ?_
      refine lv_istore_n (lv' := [(1, .int 0), (0, .ref (a 24))]) hx hb dX2_passYear_32 rfl hl (by decide) rfl (fun ls hl => ?_)
      have L33 : ∀ (n33 i33 : Nat) (σ33 : Nat → Nat → Int32) (H : Heap) (locs : List Loc) (ls : Array Slot), i33 + n33 = n → σ33 24 = (XH_passYear_L2 24 κ n n 0 σ) 24 → XH_passYear_L33 24 κ n n33 i33 σ33 = XH_passYear_L33 24 κ n n 0 (XH_passYear_L2 24 κ n n 0 σ) → gw D (tysX cI cC cI2) A s H locs (wX cI cC cI2 a κ σ33) → lv_has ls 3 [(1, .int (nI i33)), (0, .ref (a 24))] → W p l e (gR 5) s m ([.ref (a 24)] : List Value).toArray below meth C H locs 0 0 (MQ below (gQv D (tysX cI cC cI2) (wX cI cC cI2 a κ (XH_passYear_s 24 κ σ n)) A) ([.ref (a 24)] : List Value).toArray s 0 0 A) (F0 m 33 ls []) := by
        intro n33
        induction n33 with
        | zero =>
          intro i33 σ33 H locs ls hi33 k33_0 hF33 hw hl
          refine lv_iload_n hx hb dX2_passYear_33 rfl (lv_at hl 0 rfl) ?_
          refine lv_aload_n hx hb dX2_passYear_34 rfl (lv_at hl 1 rfl) ?_
          refine g_get S hw hinX2 (fs := fX24 a σ33) 24 rfl rfl 3 (by decide) lk0 (v := .int (nI n)) (congrArg (fun z => some (Value.int z)) ((congrFun k33_0 3).trans ((congrFun (XH_passYear_L2_k 24 κ n 24 (by omega) n 0 σ) 3).trans (hn)))) dX2_passYear_35 ?_
          refine ln_ge (x := i33) (y := n) hx hb (by omega) (by omega) (tgt := 69) dX2_passYear_38 (by decide) (fun c_x => ?_) (fun c_x => absurd (by omega) c_x)
          have hz33 : n = i33 := by omega
          subst hz33
          have e33_0 : (XH_passYear_L33 24 κ n n 0 (XH_passYear_L2 24 κ n n 0 σ)) = σ33 := hF33.symm
          subst e33_0
          exact g_vret S hr hlk hw (by simp only [XH_passYear_s, Nat.reduceAdd]) dX2_passYear_69
        | succ n33 ih33 =>
          intro i33 σ33 H locs ls hi33 k33_0 hF33 hw hl
          refine lv_iload_n hx hb dX2_passYear_33 rfl (lv_at hl 0 rfl) ?_
          refine lv_aload_n hx hb dX2_passYear_34 rfl (lv_at hl 1 rfl) ?_
          refine g_get S hw hinX2 (fs := fX24 a σ33) 24 rfl rfl 3 (by decide) lk0 (v := .int (nI n)) (congrArg (fun z => some (Value.int z)) ((congrFun k33_0 3).trans ((congrFun (XH_passYear_L2_k 24 κ n 24 (by omega) n 0 σ) 3).trans (hn)))) dX2_passYear_35 ?_
          refine ln_ge (x := i33) (y := n) hx hb (by omega) (by omega) (tgt := 69) dX2_passYear_38 (by decide) (fun c_x => absurd c_x (by omega)) (fun c_x => ?_)
          refine lv_iconst (v := 0) hx hb dX2_passYear_41 (by decide) ?_
          refine lv_istore_n (lv' := [(2, .int 0), (1, .int (nI i33)), (0, .ref (a 24))]) hx hb dX2_passYear_42 rfl hl (by decide) rfl (fun ls hl => ?_)
          have L43 : ∀ (n43 i43 : Nat) (σ43 : Nat → Nat → Int32) (H : Heap) (locs : List Loc) (ls : Array Slot), i43 + n43 = n → σ43 24 = σ33 24 → XH_passYear_L43 24 κ n i33 n43 i43 σ43 = XH_passYear_L43 24 κ n i33 n 0 σ33 → gw D (tysX cI cC cI2) A s H locs (wX cI cC cI2 a κ σ43) → lv_has ls 3 [(2, .int (nI i43)), (1, .int (nI i33)), (0, .ref (a 24))] → W p l e (gR 5) s m ([.ref (a 24)] : List Value).toArray below meth C H locs 0 0 (MQ below (gQv D (tysX cI cC cI2) (wX cI cC cI2 a κ (XH_passYear_s 24 κ σ n)) A) ([.ref (a 24)] : List Value).toArray s 0 0 A) (F0 m 43 ls []) := by
            intro n43
            induction n43 with
            | zero =>
              intro i43 σ43 H locs ls hi43 k43_0 hF43 hw hl
              refine lv_iload_n hx hb dX2_passYear_43 rfl (lv_at hl 0 rfl) ?_
              refine lv_aload_n hx hb dX2_passYear_44 rfl (lv_at hl 2 rfl) ?_
              refine g_get S hw hinX2 (fs := fX24 a σ43) 24 rfl rfl 3 (by decide) lk0 (v := .int (nI n)) (congrArg (fun z => some (Value.int z)) ((congrFun k43_0 3).trans ((congrFun k33_0 3).trans ((congrFun (XH_passYear_L2_k 24 κ n 24 (by omega) n 0 σ) 3).trans (hn))))) dX2_passYear_45 ?_
              refine ln_ge (x := i43) (y := n) hx hb (by omega) (by omega) (tgt := 63) dX2_passYear_48 (by decide) (fun c_x => ?_) (fun c_x => absurd (by omega) c_x)
              have hz43 : n = i43 := by omega
              subst hz43
              have e43_0 : (XH_passYear_L43 24 κ n i33 n 0 σ33) = σ43 := hF43.symm
              subst e43_0
              refine lv_iinc (v := nI (i33 + 1)) (lv' := [(1, .int (nI (i33 + 1))), (2, .int (nI n)), (0, .ref (a 24))]) hx hb dX2_passYear_63 hl (k := 1) rfl (nI_1 _) (by decide) rfl (fun ls hl => ?_)
              refine lv_goto (tgt := 33) hx hb dX2_passYear_66 (by decide) ?_
              exact ih33 (i33 + 1) (XH_passYear_L43 24 κ n i33 n 0 σ33) _ _ _ (by omega) ((XH_passYear_L43_k 24 κ n i33 24 (by omega) (by omega) n 0 σ33).trans (k33_0)) hF33 hw (lv_sub hl [0, 2] rfl)
            | succ n43 ih43 =>
              intro i43 σ43 H locs ls hi43 k43_0 hF43 hw hl
              refine lv_iload_n hx hb dX2_passYear_43 rfl (lv_at hl 0 rfl) ?_
              refine lv_aload_n hx hb dX2_passYear_44 rfl (lv_at hl 2 rfl) ?_
              refine g_get S hw hinX2 (fs := fX24 a σ43) 24 rfl rfl 3 (by decide) lk0 (v := .int (nI n)) (congrArg (fun z => some (Value.int z)) ((congrFun k43_0 3).trans ((congrFun k33_0 3).trans ((congrFun (XH_passYear_L2_k 24 κ n 24 (by omega) n 0 σ) 3).trans (hn))))) dX2_passYear_45 ?_
              refine ln_ge (x := i43) (y := n) hx hb (by omega) (by omega) (tgt := 63) dX2_passYear_48 (by decide) (fun c_x => absurd c_x (by omega)) (fun c_x => ?_)
              refine lv_aload_n hx hb dX2_passYear_51 rfl (lv_at hl 2 rfl) ?_
              refine lv_iload_n hx hb dX2_passYear_52 rfl (lv_at hl 1 rfl) ?_
              refine lv_iload_n hx hb dX2_passYear_53 rfl (lv_at hl 0 rfl) ?_
              refine g_callVv S hw (c_XH_payDebt_24 l D cI cC cI2 a κ σ43 i33 i43 (by omega) (by omega) hk) gX2_passYear_X2_payDebt rfl 24 rfl rfl 2 rfl (by decide +kernel) (by decide) (by decide) hl.1 rfl (Nat.le_of_ble_eq_true rfl) dX2_passYear_54 (fun H locs hw => ?_)
              refine lv_iinc (v := nI (i43 + 1)) (lv' := [(2, .int (nI (i43 + 1))), (1, .int (nI i33)), (0, .ref (a 24))]) hx hb dX2_passYear_57 hl (k := 0) rfl (nI_1 _) (by decide) rfl (fun ls hl => ?_)
              refine lv_goto (tgt := 43) hx hb dX2_passYear_60 (by decide) ?_
              exact ih43 (i43 + 1) (XH_payDebt_s 24 κ σ43 i33 i43) _ _ _ (by omega) ((XH_payDebt_s_k 24 κ σ43 i33 i43 24 (by omega) (by omega)).trans (k43_0)) hF43 hw (lv_sub hl [0, 1, 2] rfl)
          exact L43 n 0 σ33 _ _ _ (by omega) rfl rfl hw (lv_sub hl [0, 1, 2] rfl)
      exact L33 n 0 (XH_passYear_L2 24 κ n n 0 σ) _ _ _ (by omega) rfl rfl hw (lv_sub hl [0, 1] rfl)
    | succ n2 ih2 =>
      intro i2 σ2 H locs ls hi2 k2_0 hF2 hw hl
      refine lv_iload_n hx hb dX2_passYear_2 rfl (lv_at hl 0 rfl) ?_
      refine lv_aload_n hx hb dX2_passYear_3 rfl (lv_at hl 1 rfl) ?_
      refine g_get S hw hinX2 (fs := fX24 a σ2) 24 rfl rfl 3 (by decide) lk0 (v := .int (nI n)) (congrArg (fun z => some (Value.int z)) ((congrFun k2_0 3).trans (hn))) dX2_passYear_4 ?_
      refine ln_ge (x := i2) (y := n) hx hb (by omega) (by omega) (tgt := 31) dX2_passYear_7 (by decide) (fun c_x => absurd c_x (by omega)) (fun c_x => ?_)
      refine lv_aload_n hx hb dX2_passYear_10 rfl (lv_at hl 1 rfl) ?_
      refine g_get S hw hinX2 (fs := fX24 a σ2) 24 rfl rfl 1 (by decide) lk1 (v := .ref (a 25)) rfl dX2_passYear_11 ?_
      refine lv_iload_n hx hb dX2_passYear_14 rfl (lv_at hl 0 rfl) ?_
      refine lv_aload_n hx hb dX2_passYear_15 rfl (lv_at hl 1 rfl) ?_
      refine g_get S hw hinX2 (fs := fX24 a σ2) 24 rfl rfl 1 (by decide) lk1 (v := .ref (a 25)) rfl dX2_passYear_16 ?_
      refine lv_iload_n hx hb dX2_passYear_19 rfl (lv_at hl 0 rfl) ?_
      refine g_iald S hw (f := σ2 25) (i := i2) (x := σ2 25 i2) 25 0 rfl rfl (by omega) (by decide) rfl dX2_passYear_20 ?_
      refine g_callSi S hw (c_XH_grown l D (tysX cI cC cI2) (wX cI cC cI2 a κ σ2) (σ2 25 i2)) gX2_passYear_X2_grown rfl 1 rfl (by decide +kernel) (by decide) (by decide) hl.1 rfl (Nat.le_of_ble_eq_true rfl) dX2_passYear_21 (fun H locs hw => ?_)
      refine g_iast S hw (f := σ2 25) (i := i2) 25 0 rfl rfl (by omega) (by decide) (w2 := wX cI cC cI2 a κ (up2 σ2 25 i2 (XH_grown_r (σ2 25 i2)))) (wX_a25 _ _ _ _ _ _ _ _) dX2_passYear_24 (fun H locs hw => ?_)
      refine lv_iinc (v := nI (i2 + 1)) (lv' := [(1, .int (nI (i2 + 1))), (0, .ref (a 24))]) hx hb dX2_passYear_25 hl (k := 0) rfl (nI_1 _) (by decide) rfl (fun ls hl => ?_)
      refine lv_goto (tgt := 2) hx hb dX2_passYear_28 (by decide) ?_
      exact ih2 (i2 + 1) (up2 σ2 25 i2 (XH_grown_r (σ2 25 i2))) _ _ _ (by omega) ((up2_n _ _ _ (by omega)).trans (k2_0)) hF2 hw (lv_sub hl [0, 1] rfl)
  exact L2 n 0 σ _ _ _ (by omega) rfl rfl hw (lv_sub hl [0, 1] rfl)
def XH_owedBy_S4_0 (b : Nat) (κ : Nat → Nat) (σ : Nat → Nat → Int32) (n : Nat) (c : Nat) (i4 : Nat) (x4_2 : Int32) : Int32 := x4_2 + (σ (b + 2) (4 * c + i4))
def XH_owedBy_L4 (b : Nat) (κ : Nat → Nat) (σ : Nat → Nat → Int32) (n : Nat) (c : Nat) : Nat → Nat → (Int32) → (Int32)
  | 0, _, x4_2 => x4_2
  | n4 + 1, i4, x4_2 => XH_owedBy_L4 b κ σ n c n4 (i4 + 1) (XH_owedBy_S4_0 b κ σ n c i4 x4_2)
def XH_owedBy_r (b : Nat) (κ : Nat → Nat) (σ : Nat → Nat → Int32) (n : Nat) (c : Nat) : Int32 := (XH_owedBy_L4 b κ σ n c n 0 0)
set_option maxHeartbeats 4000000 in
set_option maxRecDepth 100000 in
theorem c_XH_owedBy_10 (l : Launch) (D : va_G) (cI cC cI2 : ClassId) (a : Nat → Nat) (κ : Nat → Nat) (σ : Nat → Nat → Int32) (n : Nat) (c : Nat) (hc : c < 4) (hn : σ 10 3 = nI n) (hnb : n ≤ 4) : gI l D (tysX cI cC cI2) yX2_owedBy wsX2_owedBy 1 [.ref (a 10), .int (nI c)] (wX cI cC cI2 a κ σ) (XH_owedBy_r 10 κ σ n c) (wX cI cC cI2 a κ σ) := by
  refine g_start (cc := cX2_owedBy) (maxL := 4) (ret := some .int) (Qc := gQi D (tysX cI cC cI2) (XH_owedBy_r 10 κ σ n c) (wX cI cC cI2 a κ σ)) (by decide) rfl (Nat.le_of_ble_eq_true rfl) ?_
  intro p e s m below meth C A ls S hr hlk hw hl
  obtain ⟨hx, hb, hml, hown, hts⟩ := id S
  have hinX2 : ∀ x ∈ u_ws RX2 TX2 5, x ∈ wsX2_owedBy := fun x h => List.mem_cons_of_mem _ (List.mem_append_right _ h)
  have lk0 : Cond.fieldLink RX2 20 "CowsOwed$Herds" "size" "I" ∈ wsX2_owedBy := by decide +kernel
  have lk1 : Cond.fieldLink RX2 17 "CowsOwed$Herds" "debts" "[[I" ∈ wsX2_owedBy := by decide +kernel
  have hl : lv_has ls 4 [(0, .ref (a 10)), (1, .int (nI c))] := hl
  refine lv_iconst (v := 0) hx hb dX2_owedBy_0 (by decide) ?_
  refine lv_istore_n (lv' := [(2, .int 0), (0, .ref (a 10)), (1, .int (nI c))]) hx hb dX2_owedBy_1 rfl hl (by decide) rfl (fun ls hl => ?_)
  refine lv_iconst (v := 0) hx hb dX2_owedBy_2 (by decide) ?_
  refine lv_istore_n (lv' := [(3, .int 0), (2, .int 0), (0, .ref (a 10)), (1, .int (nI c))]) hx hb dX2_owedBy_3 rfl hl (by decide) rfl (fun ls hl => ?_)
  have L4 : ∀ (n4 i4 : Nat) (x4_2 : Int32) (H : Heap) (locs : List Loc) (ls : Array Slot), i4 + n4 = n → XH_owedBy_L4 10 κ σ n c n4 i4 x4_2 = XH_owedBy_L4 10 κ σ n c n 0 0 → gw D (tysX cI cC cI2) A s H locs (wX cI cC cI2 a κ σ) → lv_has ls 4 [(3, .int (nI i4)), (2, .int x4_2), (0, .ref (a 10)), (1, .int (nI c))] → W p l e (gR 1) s m ([.ref (a 10), .int (nI c)] : List Value).toArray below meth C H locs 0 0 (MQ below (gQi D (tysX cI cC cI2) (XH_owedBy_r 10 κ σ n c) (wX cI cC cI2 a κ σ) A) ([.ref (a 10), .int (nI c)] : List Value).toArray s 0 0 A) (F0 m 4 ls []) := by
    intro n4
    induction n4 with
    | zero =>
      intro i4 x4_2 H locs ls hi4 hF4 hw hl
      refine lv_iload_n hx hb dX2_owedBy_4 rfl (lv_at hl 0 rfl) ?_
      refine lv_aload_n hx hb dX2_owedBy_5 rfl (lv_at hl 2 rfl) ?_
      refine g_get S hw hinX2 (fs := fX10 a σ) 10 rfl rfl 3 (by decide) lk0 (v := .int (nI n)) (congrArg (fun z => some (Value.int z)) (hn)) dX2_owedBy_6 ?_
      refine ln_ge (x := i4) (y := n) hx hb (by omega) (by omega) (tgt := 29) dX2_owedBy_9 (by decide) (fun c_x => ?_) (fun c_x => absurd (by omega) c_x)
      have hz4 : n = i4 := by omega
      subst hz4
      have e4_0 : (XH_owedBy_L4 10 κ σ n c n 0 0) = x4_2 := hF4.symm
      subst e4_0
      refine lv_iload_n hx hb dX2_owedBy_29 rfl (lv_at hl 1 rfl) ?_
      exact g_iret S hr hlk hw (by simp only [XH_owedBy_r, Nat.reduceAdd]) rfl dX2_owedBy_30
    | succ n4 ih4 =>
      intro i4 x4_2 H locs ls hi4 hF4 hw hl
      refine lv_iload_n hx hb dX2_owedBy_4 rfl (lv_at hl 0 rfl) ?_
      refine lv_aload_n hx hb dX2_owedBy_5 rfl (lv_at hl 2 rfl) ?_
      refine g_get S hw hinX2 (fs := fX10 a σ) 10 rfl rfl 3 (by decide) lk0 (v := .int (nI n)) (congrArg (fun z => some (Value.int z)) (hn)) dX2_owedBy_6 ?_
      refine ln_ge (x := i4) (y := n) hx hb (by omega) (by omega) (tgt := 29) dX2_owedBy_9 (by decide) (fun c_x => absurd c_x (by omega)) (fun c_x => ?_)
      refine lv_iload_n hx hb dX2_owedBy_12 rfl (lv_at hl 1 rfl) ?_
      refine lv_aload_n hx hb dX2_owedBy_13 rfl (lv_at hl 2 rfl) ?_
      refine g_get S hw hinX2 (fs := fX10 a σ) 10 rfl rfl 2 (by decide) lk1 (v := .ref (a 12)) rfl dX2_owedBy_14 ?_
      refine lv_iload_n hx hb dX2_owedBy_17 rfl (lv_at hl 3 rfl) ?_
      refine g_aald S hw (f := fun i => some (a (13 + i))) (i := c) (v := a (13 + c)) 12 2 rfl rfl rfl (by omega) (by decide) rfl dX2_owedBy_18 ?_
      refine lv_iload_n hx hb dX2_owedBy_19 rfl (lv_at hl 0 rfl) ?_
      refine g_iald S hw (f := dRow (σ 12) c) (i := i4) (x := σ 12 (4 * c + i4)) (13 + c) 0 (wX_dg10 _ _ _ _ _ _ (by omega)) rfl (by omega) (by decide) (dRow_lt (by omega)) dX2_owedBy_20 ?_
      refine lv_iadd hx hb dX2_owedBy_21 ?_
      refine lv_istore_n (lv' := [(2, .int (x4_2 + (σ 12 (4 * c + i4)))), (3, .int (nI i4)), (0, .ref (a 10)), (1, .int (nI c))]) hx hb dX2_owedBy_22 rfl hl (by decide) rfl (fun ls hl => ?_)
      refine lv_iinc (v := nI (i4 + 1)) (lv' := [(3, .int (nI (i4 + 1))), (2, .int (x4_2 + (σ 12 (4 * c + i4)))), (0, .ref (a 10)), (1, .int (nI c))]) hx hb dX2_owedBy_23 hl (k := 1) rfl (nI_1 _) (by decide) rfl (fun ls hl => ?_)
      refine lv_goto (tgt := 4) hx hb dX2_owedBy_26 (by decide) ?_
      exact ih4 (i4 + 1) (x4_2 + (σ 12 (4 * c + i4))) _ _ _ (by omega) hF4 hw (lv_sub hl [0, 1, 2, 3] rfl)
  exact L4 n 0 0 _ _ _ (by omega) rfl hw (lv_sub hl [0, 1, 2, 3] rfl)
set_option maxHeartbeats 4000000 in
set_option maxRecDepth 100000 in
theorem c_XH_owedBy_24 (l : Launch) (D : va_G) (cI cC cI2 : ClassId) (a : Nat → Nat) (κ : Nat → Nat) (σ : Nat → Nat → Int32) (n : Nat) (c : Nat) (hc : c < 4) (hn : σ 24 3 = nI n) (hnb : n ≤ 4) : gI l D (tysX cI cC cI2) yX2_owedBy wsX2_owedBy 1 [.ref (a 24), .int (nI c)] (wX cI cC cI2 a κ σ) (XH_owedBy_r 24 κ σ n c) (wX cI cC cI2 a κ σ) := by
  refine g_start (cc := cX2_owedBy) (maxL := 4) (ret := some .int) (Qc := gQi D (tysX cI cC cI2) (XH_owedBy_r 24 κ σ n c) (wX cI cC cI2 a κ σ)) (by decide) rfl (Nat.le_of_ble_eq_true rfl) ?_
  intro p e s m below meth C A ls S hr hlk hw hl
  obtain ⟨hx, hb, hml, hown, hts⟩ := id S
  have hinX2 : ∀ x ∈ u_ws RX2 TX2 5, x ∈ wsX2_owedBy := fun x h => List.mem_cons_of_mem _ (List.mem_append_right _ h)
  have lk0 : Cond.fieldLink RX2 20 "CowsOwed$Herds" "size" "I" ∈ wsX2_owedBy := by decide +kernel
  have lk1 : Cond.fieldLink RX2 17 "CowsOwed$Herds" "debts" "[[I" ∈ wsX2_owedBy := by decide +kernel
  have hl : lv_has ls 4 [(0, .ref (a 24)), (1, .int (nI c))] := hl
  refine lv_iconst (v := 0) hx hb dX2_owedBy_0 (by decide) ?_
  refine lv_istore_n (lv' := [(2, .int 0), (0, .ref (a 24)), (1, .int (nI c))]) hx hb dX2_owedBy_1 rfl hl (by decide) rfl (fun ls hl => ?_)
  refine lv_iconst (v := 0) hx hb dX2_owedBy_2 (by decide) ?_
  refine lv_istore_n (lv' := [(3, .int 0), (2, .int 0), (0, .ref (a 24)), (1, .int (nI c))]) hx hb dX2_owedBy_3 rfl hl (by decide) rfl (fun ls hl => ?_)
  have L4 : ∀ (n4 i4 : Nat) (x4_2 : Int32) (H : Heap) (locs : List Loc) (ls : Array Slot), i4 + n4 = n → XH_owedBy_L4 24 κ σ n c n4 i4 x4_2 = XH_owedBy_L4 24 κ σ n c n 0 0 → gw D (tysX cI cC cI2) A s H locs (wX cI cC cI2 a κ σ) → lv_has ls 4 [(3, .int (nI i4)), (2, .int x4_2), (0, .ref (a 24)), (1, .int (nI c))] → W p l e (gR 1) s m ([.ref (a 24), .int (nI c)] : List Value).toArray below meth C H locs 0 0 (MQ below (gQi D (tysX cI cC cI2) (XH_owedBy_r 24 κ σ n c) (wX cI cC cI2 a κ σ) A) ([.ref (a 24), .int (nI c)] : List Value).toArray s 0 0 A) (F0 m 4 ls []) := by
    intro n4
    induction n4 with
    | zero =>
      intro i4 x4_2 H locs ls hi4 hF4 hw hl
      refine lv_iload_n hx hb dX2_owedBy_4 rfl (lv_at hl 0 rfl) ?_
      refine lv_aload_n hx hb dX2_owedBy_5 rfl (lv_at hl 2 rfl) ?_
      refine g_get S hw hinX2 (fs := fX24 a σ) 24 rfl rfl 3 (by decide) lk0 (v := .int (nI n)) (congrArg (fun z => some (Value.int z)) (hn)) dX2_owedBy_6 ?_
      refine ln_ge (x := i4) (y := n) hx hb (by omega) (by omega) (tgt := 29) dX2_owedBy_9 (by decide) (fun c_x => ?_) (fun c_x => absurd (by omega) c_x)
      have hz4 : n = i4 := by omega
      subst hz4
      have e4_0 : (XH_owedBy_L4 24 κ σ n c n 0 0) = x4_2 := hF4.symm
      subst e4_0
      refine lv_iload_n hx hb dX2_owedBy_29 rfl (lv_at hl 1 rfl) ?_
      exact g_iret S hr hlk hw (by simp only [XH_owedBy_r, Nat.reduceAdd]) rfl dX2_owedBy_30
    | succ n4 ih4 =>
      intro i4 x4_2 H locs ls hi4 hF4 hw hl
      refine lv_iload_n hx hb dX2_owedBy_4 rfl (lv_at hl 0 rfl) ?_
      refine lv_aload_n hx hb dX2_owedBy_5 rfl (lv_at hl 2 rfl) ?_
      refine g_get S hw hinX2 (fs := fX24 a σ) 24 rfl rfl 3 (by decide) lk0 (v := .int (nI n)) (congrArg (fun z => some (Value.int z)) (hn)) dX2_owedBy_6 ?_
      refine ln_ge (x := i4) (y := n) hx hb (by omega) (by omega) (tgt := 29) dX2_owedBy_9 (by decide) (fun c_x => absurd c_x (by omega)) (fun c_x => ?_)
      refine lv_iload_n hx hb dX2_owedBy_12 rfl (lv_at hl 1 rfl) ?_
      refine lv_aload_n hx hb dX2_owedBy_13 rfl (lv_at hl 2 rfl) ?_
      refine g_get S hw hinX2 (fs := fX24 a σ) 24 rfl rfl 2 (by decide) lk1 (v := .ref (a 26)) rfl dX2_owedBy_14 ?_
      refine lv_iload_n hx hb dX2_owedBy_17 rfl (lv_at hl 3 rfl) ?_
      refine g_aald S hw (f := fun i => some (a (27 + i))) (i := c) (v := a (27 + c)) 26 2 rfl rfl rfl (by omega) (by decide) rfl dX2_owedBy_18 ?_
      refine lv_iload_n hx hb dX2_owedBy_19 rfl (lv_at hl 0 rfl) ?_
      refine g_iald S hw (f := dRow (σ 26) c) (i := i4) (x := σ 26 (4 * c + i4)) (27 + c) 0 (wX_dg24 _ _ _ _ _ _ (by omega)) rfl (by omega) (by decide) (dRow_lt (by omega)) dX2_owedBy_20 ?_
      refine lv_iadd hx hb dX2_owedBy_21 ?_
      refine lv_istore_n (lv' := [(2, .int (x4_2 + (σ 26 (4 * c + i4)))), (3, .int (nI i4)), (0, .ref (a 24)), (1, .int (nI c))]) hx hb dX2_owedBy_22 rfl hl (by decide) rfl (fun ls hl => ?_)
      refine lv_iinc (v := nI (i4 + 1)) (lv' := [(3, .int (nI (i4 + 1))), (2, .int (x4_2 + (σ 26 (4 * c + i4)))), (0, .ref (a 24)), (1, .int (nI c))]) hx hb dX2_owedBy_23 hl (k := 1) rfl (nI_1 _) (by decide) rfl (fun ls hl => ?_)
      refine lv_goto (tgt := 4) hx hb dX2_owedBy_26 (by decide) ?_
      exact ih4 (i4 + 1) (x4_2 + (σ 26 (4 * c + i4))) _ _ _ (by omega) hF4 hw (lv_sub hl [0, 1, 2, 3] rfl)
  exact L4 n 0 0 _ _ _ (by omega) rfl hw (lv_sub hl [0, 1, 2, 3] rfl)
def XH_owedTo_S4_0 (b : Nat) (κ : Nat → Nat) (σ : Nat → Nat → Int32) (n : Nat) (c : Nat) (i4 : Nat) (x4_2 : Int32) : Int32 := x4_2 + (σ (b + 2) (4 * i4 + c))
def XH_owedTo_L4 (b : Nat) (κ : Nat → Nat) (σ : Nat → Nat → Int32) (n : Nat) (c : Nat) : Nat → Nat → (Int32) → (Int32)
  | 0, _, x4_2 => x4_2
  | n4 + 1, i4, x4_2 => XH_owedTo_L4 b κ σ n c n4 (i4 + 1) (XH_owedTo_S4_0 b κ σ n c i4 x4_2)
def XH_owedTo_r (b : Nat) (κ : Nat → Nat) (σ : Nat → Nat → Int32) (n : Nat) (c : Nat) : Int32 := (XH_owedTo_L4 b κ σ n c n 0 0)
set_option maxHeartbeats 4000000 in
set_option maxRecDepth 100000 in
theorem c_XH_owedTo_10 (l : Launch) (D : va_G) (cI cC cI2 : ClassId) (a : Nat → Nat) (κ : Nat → Nat) (σ : Nat → Nat → Int32) (n : Nat) (c : Nat) (hc : c < 4) (hn : σ 10 3 = nI n) (hnb : n ≤ 4) : gI l D (tysX cI cC cI2) yX2_owedTo wsX2_owedTo 1 [.ref (a 10), .int (nI c)] (wX cI cC cI2 a κ σ) (XH_owedTo_r 10 κ σ n c) (wX cI cC cI2 a κ σ) := by
  refine g_start (cc := cX2_owedTo) (maxL := 4) (ret := some .int) (Qc := gQi D (tysX cI cC cI2) (XH_owedTo_r 10 κ σ n c) (wX cI cC cI2 a κ σ)) (by decide) rfl (Nat.le_of_ble_eq_true rfl) ?_
  intro p e s m below meth C A ls S hr hlk hw hl
  obtain ⟨hx, hb, hml, hown, hts⟩ := id S
  have hinX2 : ∀ x ∈ u_ws RX2 TX2 5, x ∈ wsX2_owedTo := fun x h => List.mem_cons_of_mem _ (List.mem_append_right _ h)
  have lk0 : Cond.fieldLink RX2 20 "CowsOwed$Herds" "size" "I" ∈ wsX2_owedTo := by decide +kernel
  have lk1 : Cond.fieldLink RX2 17 "CowsOwed$Herds" "debts" "[[I" ∈ wsX2_owedTo := by decide +kernel
  have hl : lv_has ls 4 [(0, .ref (a 10)), (1, .int (nI c))] := hl
  refine lv_iconst (v := 0) hx hb dX2_owedTo_0 (by decide) ?_
  refine lv_istore_n (lv' := [(2, .int 0), (0, .ref (a 10)), (1, .int (nI c))]) hx hb dX2_owedTo_1 rfl hl (by decide) rfl (fun ls hl => ?_)
  refine lv_iconst (v := 0) hx hb dX2_owedTo_2 (by decide) ?_
  refine lv_istore_n (lv' := [(3, .int 0), (2, .int 0), (0, .ref (a 10)), (1, .int (nI c))]) hx hb dX2_owedTo_3 rfl hl (by decide) rfl (fun ls hl => ?_)
  have L4 : ∀ (n4 i4 : Nat) (x4_2 : Int32) (H : Heap) (locs : List Loc) (ls : Array Slot), i4 + n4 = n → XH_owedTo_L4 10 κ σ n c n4 i4 x4_2 = XH_owedTo_L4 10 κ σ n c n 0 0 → gw D (tysX cI cC cI2) A s H locs (wX cI cC cI2 a κ σ) → lv_has ls 4 [(3, .int (nI i4)), (2, .int x4_2), (0, .ref (a 10)), (1, .int (nI c))] → W p l e (gR 1) s m ([.ref (a 10), .int (nI c)] : List Value).toArray below meth C H locs 0 0 (MQ below (gQi D (tysX cI cC cI2) (XH_owedTo_r 10 κ σ n c) (wX cI cC cI2 a κ σ) A) ([.ref (a 10), .int (nI c)] : List Value).toArray s 0 0 A) (F0 m 4 ls []) := by
    intro n4
    induction n4 with
    | zero =>
      intro i4 x4_2 H locs ls hi4 hF4 hw hl
      refine lv_iload_n hx hb dX2_owedTo_4 rfl (lv_at hl 0 rfl) ?_
      refine lv_aload_n hx hb dX2_owedTo_5 rfl (lv_at hl 2 rfl) ?_
      refine g_get S hw hinX2 (fs := fX10 a σ) 10 rfl rfl 3 (by decide) lk0 (v := .int (nI n)) (congrArg (fun z => some (Value.int z)) (hn)) dX2_owedTo_6 ?_
      refine ln_ge (x := i4) (y := n) hx hb (by omega) (by omega) (tgt := 29) dX2_owedTo_9 (by decide) (fun c_x => ?_) (fun c_x => absurd (by omega) c_x)
      have hz4 : n = i4 := by omega
      subst hz4
      have e4_0 : (XH_owedTo_L4 10 κ σ n c n 0 0) = x4_2 := hF4.symm
      subst e4_0
      refine lv_iload_n hx hb dX2_owedTo_29 rfl (lv_at hl 1 rfl) ?_
      exact g_iret S hr hlk hw (by simp only [XH_owedTo_r, Nat.reduceAdd]) rfl dX2_owedTo_30
    | succ n4 ih4 =>
      intro i4 x4_2 H locs ls hi4 hF4 hw hl
      refine lv_iload_n hx hb dX2_owedTo_4 rfl (lv_at hl 0 rfl) ?_
      refine lv_aload_n hx hb dX2_owedTo_5 rfl (lv_at hl 2 rfl) ?_
      refine g_get S hw hinX2 (fs := fX10 a σ) 10 rfl rfl 3 (by decide) lk0 (v := .int (nI n)) (congrArg (fun z => some (Value.int z)) (hn)) dX2_owedTo_6 ?_
      refine ln_ge (x := i4) (y := n) hx hb (by omega) (by omega) (tgt := 29) dX2_owedTo_9 (by decide) (fun c_x => absurd c_x (by omega)) (fun c_x => ?_)
      refine lv_iload_n hx hb dX2_owedTo_12 rfl (lv_at hl 1 rfl) ?_
      refine lv_aload_n hx hb dX2_owedTo_13 rfl (lv_at hl 2 rfl) ?_
      refine g_get S hw hinX2 (fs := fX10 a σ) 10 rfl rfl 2 (by decide) lk1 (v := .ref (a 12)) rfl dX2_owedTo_14 ?_
      refine lv_iload_n hx hb dX2_owedTo_17 rfl (lv_at hl 0 rfl) ?_
      refine g_aald S hw (f := fun i => some (a (13 + i))) (i := i4) (v := a (13 + i4)) 12 2 rfl rfl rfl (by omega) (by decide) rfl dX2_owedTo_18 ?_
      refine lv_iload_n hx hb dX2_owedTo_19 rfl (lv_at hl 3 rfl) ?_
      refine g_iald S hw (f := dRow (σ 12) i4) (i := c) (x := σ 12 (4 * i4 + c)) (13 + i4) 0 (wX_dg10 _ _ _ _ _ _ (by omega)) rfl (by omega) (by decide) (dRow_lt (by omega)) dX2_owedTo_20 ?_
      refine lv_iadd hx hb dX2_owedTo_21 ?_
      refine lv_istore_n (lv' := [(2, .int (x4_2 + (σ 12 (4 * i4 + c)))), (3, .int (nI i4)), (0, .ref (a 10)), (1, .int (nI c))]) hx hb dX2_owedTo_22 rfl hl (by decide) rfl (fun ls hl => ?_)
      refine lv_iinc (v := nI (i4 + 1)) (lv' := [(3, .int (nI (i4 + 1))), (2, .int (x4_2 + (σ 12 (4 * i4 + c)))), (0, .ref (a 10)), (1, .int (nI c))]) hx hb dX2_owedTo_23 hl (k := 1) rfl (nI_1 _) (by decide) rfl (fun ls hl => ?_)
      refine lv_goto (tgt := 4) hx hb dX2_owedTo_26 (by decide) ?_
      exact ih4 (i4 + 1) (x4_2 + (σ 12 (4 * i4 + c))) _ _ _ (by omega) hF4 hw (lv_sub hl [0, 1, 2, 3] rfl)
  exact L4 n 0 0 _ _ _ (by omega) rfl hw (lv_sub hl [0, 1, 2, 3] rfl)
def XH_allOwed_S4_0 (b : Nat) (κ : Nat → Nat) (σ : Nat → Nat → Int32) (n : Nat) (i4 : Nat) (x4_1 : Int32) : Int32 := x4_1 + (XH_owedBy_r b κ σ n i4)
def XH_allOwed_L4 (b : Nat) (κ : Nat → Nat) (σ : Nat → Nat → Int32) (n : Nat) : Nat → Nat → (Int32) → (Int32)
  | 0, _, x4_1 => x4_1
  | n4 + 1, i4, x4_1 => XH_allOwed_L4 b κ σ n n4 (i4 + 1) (XH_allOwed_S4_0 b κ σ n i4 x4_1)
def XH_allOwed_r (b : Nat) (κ : Nat → Nat) (σ : Nat → Nat → Int32) (n : Nat) : Int32 := (XH_allOwed_L4 b κ σ n n 0 0)
set_option maxHeartbeats 4000000 in
set_option maxRecDepth 100000 in
theorem c_XH_allOwed_10 (l : Launch) (D : va_G) (cI cC cI2 : ClassId) (a : Nat → Nat) (κ : Nat → Nat) (σ : Nat → Nat → Int32) (n : Nat) (hn : σ 10 3 = nI n) (hnb : n ≤ 4) : gI l D (tysX cI cC cI2) yX2_allOwed wsX2_allOwed 2 [.ref (a 10)] (wX cI cC cI2 a κ σ) (XH_allOwed_r 10 κ σ n) (wX cI cC cI2 a κ σ) := by
  refine g_start (cc := cX2_allOwed) (maxL := 3) (ret := some .int) (Qc := gQi D (tysX cI cC cI2) (XH_allOwed_r 10 κ σ n) (wX cI cC cI2 a κ σ)) (by decide) rfl (Nat.le_of_ble_eq_true rfl) ?_
  intro p e s m below meth C A ls S hr hlk hw hl
  obtain ⟨hx, hb, hml, hown, hts⟩ := id S
  have hinX2 : ∀ x ∈ u_ws RX2 TX2 5, x ∈ wsX2_allOwed := fun x h => List.mem_cons_of_mem _ (List.mem_append_right _ h)
  have lk0 : Cond.fieldLink RX2 20 "CowsOwed$Herds" "size" "I" ∈ wsX2_allOwed := by decide +kernel
  have hl : lv_has ls 3 [(0, .ref (a 10))] := hl
  refine lv_iconst (v := 0) hx hb dX2_allOwed_0 (by decide) ?_
  refine lv_istore_n (lv' := [(1, .int 0), (0, .ref (a 10))]) hx hb dX2_allOwed_1 rfl hl (by decide) rfl (fun ls hl => ?_)
  refine lv_iconst (v := 0) hx hb dX2_allOwed_2 (by decide) ?_
  refine lv_istore_n (lv' := [(2, .int 0), (1, .int 0), (0, .ref (a 10))]) hx hb dX2_allOwed_3 rfl hl (by decide) rfl (fun ls hl => ?_)
  have L4 : ∀ (n4 i4 : Nat) (x4_1 : Int32) (H : Heap) (locs : List Loc) (ls : Array Slot), i4 + n4 = n → XH_allOwed_L4 10 κ σ n n4 i4 x4_1 = XH_allOwed_L4 10 κ σ n n 0 0 → gw D (tysX cI cC cI2) A s H locs (wX cI cC cI2 a κ σ) → lv_has ls 3 [(2, .int (nI i4)), (1, .int x4_1), (0, .ref (a 10))] → W p l e (gR 2) s m ([.ref (a 10)] : List Value).toArray below meth C H locs 0 0 (MQ below (gQi D (tysX cI cC cI2) (XH_allOwed_r 10 κ σ n) (wX cI cC cI2 a κ σ) A) ([.ref (a 10)] : List Value).toArray s 0 0 A) (F0 m 4 ls []) := by
    intro n4
    induction n4 with
    | zero =>
      intro i4 x4_1 H locs ls hi4 hF4 hw hl
      refine lv_iload_n hx hb dX2_allOwed_4 rfl (lv_at hl 0 rfl) ?_
      refine lv_aload_n hx hb dX2_allOwed_5 rfl (lv_at hl 2 rfl) ?_
      refine g_get S hw hinX2 (fs := fX10 a σ) 10 rfl rfl 3 (by decide) lk0 (v := .int (nI n)) (congrArg (fun z => some (Value.int z)) (hn)) dX2_allOwed_6 ?_
      refine ln_ge (x := i4) (y := n) hx hb (by omega) (by omega) (tgt := 26) dX2_allOwed_9 (by decide) (fun c_x => ?_) (fun c_x => absurd (by omega) c_x)
      have hz4 : n = i4 := by omega
      subst hz4
      have e4_0 : (XH_allOwed_L4 10 κ σ n n 0 0) = x4_1 := hF4.symm
      subst e4_0
      refine lv_iload_n hx hb dX2_allOwed_26 rfl (lv_at hl 1 rfl) ?_
      exact g_iret S hr hlk hw (by simp only [XH_allOwed_r, Nat.reduceAdd]) rfl dX2_allOwed_27
    | succ n4 ih4 =>
      intro i4 x4_1 H locs ls hi4 hF4 hw hl
      refine lv_iload_n hx hb dX2_allOwed_4 rfl (lv_at hl 0 rfl) ?_
      refine lv_aload_n hx hb dX2_allOwed_5 rfl (lv_at hl 2 rfl) ?_
      refine g_get S hw hinX2 (fs := fX10 a σ) 10 rfl rfl 3 (by decide) lk0 (v := .int (nI n)) (congrArg (fun z => some (Value.int z)) (hn)) dX2_allOwed_6 ?_
      refine ln_ge (x := i4) (y := n) hx hb (by omega) (by omega) (tgt := 26) dX2_allOwed_9 (by decide) (fun c_x => absurd c_x (by omega)) (fun c_x => ?_)
      refine lv_iload_n hx hb dX2_allOwed_12 rfl (lv_at hl 1 rfl) ?_
      refine lv_aload_n hx hb dX2_allOwed_13 rfl (lv_at hl 2 rfl) ?_
      refine lv_iload_n hx hb dX2_allOwed_14 rfl (lv_at hl 0 rfl) ?_
      refine g_callVi S hw (c_XH_owedBy_10 l D cI cC cI2 a κ σ n i4 (by omega) (hn) (by omega)) gX2_allOwed_X2_owedBy rfl 10 rfl rfl 1 rfl (by decide +kernel) (by decide) (by decide) hl.1 rfl (Nat.le_of_ble_eq_true rfl) dX2_allOwed_15 (fun H locs hw => ?_)
      refine lv_iadd hx hb dX2_allOwed_18 ?_
      refine lv_istore_n (lv' := [(1, .int (x4_1 + (XH_owedBy_r 10 κ σ n i4))), (2, .int (nI i4)), (0, .ref (a 10))]) hx hb dX2_allOwed_19 rfl hl (by decide) rfl (fun ls hl => ?_)
      refine lv_iinc (v := nI (i4 + 1)) (lv' := [(2, .int (nI (i4 + 1))), (1, .int (x4_1 + (XH_owedBy_r 10 κ σ n i4))), (0, .ref (a 10))]) hx hb dX2_allOwed_20 hl (k := 1) rfl (nI_1 _) (by decide) rfl (fun ls hl => ?_)
      refine lv_goto (tgt := 4) hx hb dX2_allOwed_23 (by decide) ?_
      exact ih4 (i4 + 1) (x4_1 + (XH_owedBy_r 10 κ σ n i4)) _ _ _ (by omega) hF4 hw (lv_sub hl [0, 1, 2] rfl)
  exact L4 n 0 0 _ _ _ (by omega) rfl hw (lv_sub hl [0, 1, 2] rfl)
set_option maxHeartbeats 4000000 in
set_option maxRecDepth 100000 in
theorem c_XH_allOwed_24 (l : Launch) (D : va_G) (cI cC cI2 : ClassId) (a : Nat → Nat) (κ : Nat → Nat) (σ : Nat → Nat → Int32) (n : Nat) (hn : σ 24 3 = nI n) (hnb : n ≤ 4) : gI l D (tysX cI cC cI2) yX2_allOwed wsX2_allOwed 2 [.ref (a 24)] (wX cI cC cI2 a κ σ) (XH_allOwed_r 24 κ σ n) (wX cI cC cI2 a κ σ) := by
  refine g_start (cc := cX2_allOwed) (maxL := 3) (ret := some .int) (Qc := gQi D (tysX cI cC cI2) (XH_allOwed_r 24 κ σ n) (wX cI cC cI2 a κ σ)) (by decide) rfl (Nat.le_of_ble_eq_true rfl) ?_
  intro p e s m below meth C A ls S hr hlk hw hl
  obtain ⟨hx, hb, hml, hown, hts⟩ := id S
  have hinX2 : ∀ x ∈ u_ws RX2 TX2 5, x ∈ wsX2_allOwed := fun x h => List.mem_cons_of_mem _ (List.mem_append_right _ h)
  have lk0 : Cond.fieldLink RX2 20 "CowsOwed$Herds" "size" "I" ∈ wsX2_allOwed := by decide +kernel
  have hl : lv_has ls 3 [(0, .ref (a 24))] := hl
  refine lv_iconst (v := 0) hx hb dX2_allOwed_0 (by decide) ?_
  refine lv_istore_n (lv' := [(1, .int 0), (0, .ref (a 24))]) hx hb dX2_allOwed_1 rfl hl (by decide) rfl (fun ls hl => ?_)
  refine lv_iconst (v := 0) hx hb dX2_allOwed_2 (by decide) ?_
  refine lv_istore_n (lv' := [(2, .int 0), (1, .int 0), (0, .ref (a 24))]) hx hb dX2_allOwed_3 rfl hl (by decide) rfl (fun ls hl => ?_)
  have L4 : ∀ (n4 i4 : Nat) (x4_1 : Int32) (H : Heap) (locs : List Loc) (ls : Array Slot), i4 + n4 = n → XH_allOwed_L4 24 κ σ n n4 i4 x4_1 = XH_allOwed_L4 24 κ σ n n 0 0 → gw D (tysX cI cC cI2) A s H locs (wX cI cC cI2 a κ σ) → lv_has ls 3 [(2, .int (nI i4)), (1, .int x4_1), (0, .ref (a 24))] → W p l e (gR 2) s m ([.ref (a 24)] : List Value).toArray below meth C H locs 0 0 (MQ below (gQi D (tysX cI cC cI2) (XH_allOwed_r 24 κ σ n) (wX cI cC cI2 a κ σ) A) ([.ref (a 24)] : List Value).toArray s 0 0 A) (F0 m 4 ls []) := by
    intro n4
    induction n4 with
    | zero =>
      intro i4 x4_1 H locs ls hi4 hF4 hw hl
      refine lv_iload_n hx hb dX2_allOwed_4 rfl (lv_at hl 0 rfl) ?_
      refine lv_aload_n hx hb dX2_allOwed_5 rfl (lv_at hl 2 rfl) ?_
      refine g_get S hw hinX2 (fs := fX24 a σ) 24 rfl rfl 3 (by decide) lk0 (v := .int (nI n)) (congrArg (fun z => some (Value.int z)) (hn)) dX2_allOwed_6 ?_
      refine ln_ge (x := i4) (y := n) hx hb (by omega) (by omega) (tgt := 26) dX2_allOwed_9 (by decide) (fun c_x => ?_) (fun c_x => absurd (by omega) c_x)
      have hz4 : n = i4 := by omega
      subst hz4
      have e4_0 : (XH_allOwed_L4 24 κ σ n n 0 0) = x4_1 := hF4.symm
      subst e4_0
      refine lv_iload_n hx hb dX2_allOwed_26 rfl (lv_at hl 1 rfl) ?_
      exact g_iret S hr hlk hw (by simp only [XH_allOwed_r, Nat.reduceAdd]) rfl dX2_allOwed_27
    | succ n4 ih4 =>
      intro i4 x4_1 H locs ls hi4 hF4 hw hl
      refine lv_iload_n hx hb dX2_allOwed_4 rfl (lv_at hl 0 rfl) ?_
      refine lv_aload_n hx hb dX2_allOwed_5 rfl (lv_at hl 2 rfl) ?_
      refine g_get S hw hinX2 (fs := fX24 a σ) 24 rfl rfl 3 (by decide) lk0 (v := .int (nI n)) (congrArg (fun z => some (Value.int z)) (hn)) dX2_allOwed_6 ?_
      refine ln_ge (x := i4) (y := n) hx hb (by omega) (by omega) (tgt := 26) dX2_allOwed_9 (by decide) (fun c_x => absurd c_x (by omega)) (fun c_x => ?_)
      refine lv_iload_n hx hb dX2_allOwed_12 rfl (lv_at hl 1 rfl) ?_
      refine lv_aload_n hx hb dX2_allOwed_13 rfl (lv_at hl 2 rfl) ?_
      refine lv_iload_n hx hb dX2_allOwed_14 rfl (lv_at hl 0 rfl) ?_
      refine g_callVi S hw (c_XH_owedBy_24 l D cI cC cI2 a κ σ n i4 (by omega) (hn) (by omega)) gX2_allOwed_X2_owedBy rfl 24 rfl rfl 1 rfl (by decide +kernel) (by decide) (by decide) hl.1 rfl (Nat.le_of_ble_eq_true rfl) dX2_allOwed_15 (fun H locs hw => ?_)
      refine lv_iadd hx hb dX2_allOwed_18 ?_
      refine lv_istore_n (lv' := [(1, .int (x4_1 + (XH_owedBy_r 24 κ σ n i4))), (2, .int (nI i4)), (0, .ref (a 24))]) hx hb dX2_allOwed_19 rfl hl (by decide) rfl (fun ls hl => ?_)
      refine lv_iinc (v := nI (i4 + 1)) (lv' := [(2, .int (nI (i4 + 1))), (1, .int (x4_1 + (XH_owedBy_r 24 κ σ n i4))), (0, .ref (a 24))]) hx hb dX2_allOwed_20 hl (k := 1) rfl (nI_1 _) (by decide) rfl (fun ls hl => ?_)
      refine lv_goto (tgt := 4) hx hb dX2_allOwed_23 (by decide) ?_
      exact ih4 (i4 + 1) (x4_1 + (XH_owedBy_r 24 κ σ n i4)) _ _ _ (by omega) hF4 hw (lv_sub hl [0, 1, 2] rfl)
  exact L4 n 0 0 _ _ _ (by omega) rfl hw (lv_sub hl [0, 1, 2] rfl)
def XH_allCows_S4_0 (b : Nat) (κ : Nat → Nat) (σ : Nat → Nat → Int32) (n : Nat) (i4 : Nat) (x4_1 : Int32) : Int32 := x4_1 + (σ (b + 1) i4)
def XH_allCows_L4 (b : Nat) (κ : Nat → Nat) (σ : Nat → Nat → Int32) (n : Nat) : Nat → Nat → (Int32) → (Int32)
  | 0, _, x4_1 => x4_1
  | n4 + 1, i4, x4_1 => XH_allCows_L4 b κ σ n n4 (i4 + 1) (XH_allCows_S4_0 b κ σ n i4 x4_1)
def XH_allCows_r (b : Nat) (κ : Nat → Nat) (σ : Nat → Nat → Int32) (n : Nat) : Int32 := (XH_allCows_L4 b κ σ n n 0 0)
set_option maxHeartbeats 4000000 in
set_option maxRecDepth 100000 in
theorem c_XH_allCows_10 (l : Launch) (D : va_G) (cI cC cI2 : ClassId) (a : Nat → Nat) (κ : Nat → Nat) (σ : Nat → Nat → Int32) (n : Nat) (hn : σ 10 3 = nI n) (hnb : n ≤ 4) : gI l D (tysX cI cC cI2) yX2_allCows wsX2_allCows 1 [.ref (a 10)] (wX cI cC cI2 a κ σ) (XH_allCows_r 10 κ σ n) (wX cI cC cI2 a κ σ) := by
  refine g_start (cc := cX2_allCows) (maxL := 3) (ret := some .int) (Qc := gQi D (tysX cI cC cI2) (XH_allCows_r 10 κ σ n) (wX cI cC cI2 a κ σ)) (by decide) rfl (Nat.le_of_ble_eq_true rfl) ?_
  intro p e s m below meth C A ls S hr hlk hw hl
  obtain ⟨hx, hb, hml, hown, hts⟩ := id S
  have hinX2 : ∀ x ∈ u_ws RX2 TX2 5, x ∈ wsX2_allCows := fun x h => List.mem_cons_of_mem _ (List.mem_append_right _ h)
  have lk0 : Cond.fieldLink RX2 20 "CowsOwed$Herds" "size" "I" ∈ wsX2_allCows := by decide +kernel
  have lk1 : Cond.fieldLink RX2 9 "CowsOwed$Herds" "cows" "[I" ∈ wsX2_allCows := by decide +kernel
  have hl : lv_has ls 3 [(0, .ref (a 10))] := hl
  refine lv_iconst (v := 0) hx hb dX2_allCows_0 (by decide) ?_
  refine lv_istore_n (lv' := [(1, .int 0), (0, .ref (a 10))]) hx hb dX2_allCows_1 rfl hl (by decide) rfl (fun ls hl => ?_)
  refine lv_iconst (v := 0) hx hb dX2_allCows_2 (by decide) ?_
  refine lv_istore_n (lv' := [(2, .int 0), (1, .int 0), (0, .ref (a 10))]) hx hb dX2_allCows_3 rfl hl (by decide) rfl (fun ls hl => ?_)
  have L4 : ∀ (n4 i4 : Nat) (x4_1 : Int32) (H : Heap) (locs : List Loc) (ls : Array Slot), i4 + n4 = n → XH_allCows_L4 10 κ σ n n4 i4 x4_1 = XH_allCows_L4 10 κ σ n n 0 0 → gw D (tysX cI cC cI2) A s H locs (wX cI cC cI2 a κ σ) → lv_has ls 3 [(2, .int (nI i4)), (1, .int x4_1), (0, .ref (a 10))] → W p l e (gR 1) s m ([.ref (a 10)] : List Value).toArray below meth C H locs 0 0 (MQ below (gQi D (tysX cI cC cI2) (XH_allCows_r 10 κ σ n) (wX cI cC cI2 a κ σ) A) ([.ref (a 10)] : List Value).toArray s 0 0 A) (F0 m 4 ls []) := by
    intro n4
    induction n4 with
    | zero =>
      intro i4 x4_1 H locs ls hi4 hF4 hw hl
      refine lv_iload_n hx hb dX2_allCows_4 rfl (lv_at hl 0 rfl) ?_
      refine lv_aload_n hx hb dX2_allCows_5 rfl (lv_at hl 2 rfl) ?_
      refine g_get S hw hinX2 (fs := fX10 a σ) 10 rfl rfl 3 (by decide) lk0 (v := .int (nI n)) (congrArg (fun z => some (Value.int z)) (hn)) dX2_allCows_6 ?_
      refine ln_ge (x := i4) (y := n) hx hb (by omega) (by omega) (tgt := 27) dX2_allCows_9 (by decide) (fun c_x => ?_) (fun c_x => absurd (by omega) c_x)
      have hz4 : n = i4 := by omega
      subst hz4
      have e4_0 : (XH_allCows_L4 10 κ σ n n 0 0) = x4_1 := hF4.symm
      subst e4_0
      refine lv_iload_n hx hb dX2_allCows_27 rfl (lv_at hl 1 rfl) ?_
      exact g_iret S hr hlk hw (by simp only [XH_allCows_r, Nat.reduceAdd]) rfl dX2_allCows_28
    | succ n4 ih4 =>
      intro i4 x4_1 H locs ls hi4 hF4 hw hl
      refine lv_iload_n hx hb dX2_allCows_4 rfl (lv_at hl 0 rfl) ?_
      refine lv_aload_n hx hb dX2_allCows_5 rfl (lv_at hl 2 rfl) ?_
      refine g_get S hw hinX2 (fs := fX10 a σ) 10 rfl rfl 3 (by decide) lk0 (v := .int (nI n)) (congrArg (fun z => some (Value.int z)) (hn)) dX2_allCows_6 ?_
      refine ln_ge (x := i4) (y := n) hx hb (by omega) (by omega) (tgt := 27) dX2_allCows_9 (by decide) (fun c_x => absurd c_x (by omega)) (fun c_x => ?_)
      refine lv_iload_n hx hb dX2_allCows_12 rfl (lv_at hl 1 rfl) ?_
      refine lv_aload_n hx hb dX2_allCows_13 rfl (lv_at hl 2 rfl) ?_
      refine g_get S hw hinX2 (fs := fX10 a σ) 10 rfl rfl 1 (by decide) lk1 (v := .ref (a 11)) rfl dX2_allCows_14 ?_
      refine lv_iload_n hx hb dX2_allCows_17 rfl (lv_at hl 0 rfl) ?_
      refine g_iald S hw (f := σ 11) (i := i4) (x := σ 11 i4) 11 0 rfl rfl (by omega) (by decide) rfl dX2_allCows_18 ?_
      refine lv_iadd hx hb dX2_allCows_19 ?_
      refine lv_istore_n (lv' := [(1, .int (x4_1 + (σ 11 i4))), (2, .int (nI i4)), (0, .ref (a 10))]) hx hb dX2_allCows_20 rfl hl (by decide) rfl (fun ls hl => ?_)
      refine lv_iinc (v := nI (i4 + 1)) (lv' := [(2, .int (nI (i4 + 1))), (1, .int (x4_1 + (σ 11 i4))), (0, .ref (a 10))]) hx hb dX2_allCows_21 hl (k := 1) rfl (nI_1 _) (by decide) rfl (fun ls hl => ?_)
      refine lv_goto (tgt := 4) hx hb dX2_allCows_24 (by decide) ?_
      exact ih4 (i4 + 1) (x4_1 + (σ 11 i4)) _ _ _ (by omega) hF4 hw (lv_sub hl [0, 1, 2] rfl)
  exact L4 n 0 0 _ _ _ (by omega) rfl hw (lv_sub hl [0, 1, 2] rfl)
set_option maxHeartbeats 4000000 in
set_option maxRecDepth 100000 in
theorem c_XH_allCows_24 (l : Launch) (D : va_G) (cI cC cI2 : ClassId) (a : Nat → Nat) (κ : Nat → Nat) (σ : Nat → Nat → Int32) (n : Nat) (hn : σ 24 3 = nI n) (hnb : n ≤ 4) : gI l D (tysX cI cC cI2) yX2_allCows wsX2_allCows 1 [.ref (a 24)] (wX cI cC cI2 a κ σ) (XH_allCows_r 24 κ σ n) (wX cI cC cI2 a κ σ) := by
  refine g_start (cc := cX2_allCows) (maxL := 3) (ret := some .int) (Qc := gQi D (tysX cI cC cI2) (XH_allCows_r 24 κ σ n) (wX cI cC cI2 a κ σ)) (by decide) rfl (Nat.le_of_ble_eq_true rfl) ?_
  intro p e s m below meth C A ls S hr hlk hw hl
  obtain ⟨hx, hb, hml, hown, hts⟩ := id S
  have hinX2 : ∀ x ∈ u_ws RX2 TX2 5, x ∈ wsX2_allCows := fun x h => List.mem_cons_of_mem _ (List.mem_append_right _ h)
  have lk0 : Cond.fieldLink RX2 20 "CowsOwed$Herds" "size" "I" ∈ wsX2_allCows := by decide +kernel
  have lk1 : Cond.fieldLink RX2 9 "CowsOwed$Herds" "cows" "[I" ∈ wsX2_allCows := by decide +kernel
  have hl : lv_has ls 3 [(0, .ref (a 24))] := hl
  refine lv_iconst (v := 0) hx hb dX2_allCows_0 (by decide) ?_
  refine lv_istore_n (lv' := [(1, .int 0), (0, .ref (a 24))]) hx hb dX2_allCows_1 rfl hl (by decide) rfl (fun ls hl => ?_)
  refine lv_iconst (v := 0) hx hb dX2_allCows_2 (by decide) ?_
  refine lv_istore_n (lv' := [(2, .int 0), (1, .int 0), (0, .ref (a 24))]) hx hb dX2_allCows_3 rfl hl (by decide) rfl (fun ls hl => ?_)
  have L4 : ∀ (n4 i4 : Nat) (x4_1 : Int32) (H : Heap) (locs : List Loc) (ls : Array Slot), i4 + n4 = n → XH_allCows_L4 24 κ σ n n4 i4 x4_1 = XH_allCows_L4 24 κ σ n n 0 0 → gw D (tysX cI cC cI2) A s H locs (wX cI cC cI2 a κ σ) → lv_has ls 3 [(2, .int (nI i4)), (1, .int x4_1), (0, .ref (a 24))] → W p l e (gR 1) s m ([.ref (a 24)] : List Value).toArray below meth C H locs 0 0 (MQ below (gQi D (tysX cI cC cI2) (XH_allCows_r 24 κ σ n) (wX cI cC cI2 a κ σ) A) ([.ref (a 24)] : List Value).toArray s 0 0 A) (F0 m 4 ls []) := by
    intro n4
    induction n4 with
    | zero =>
      intro i4 x4_1 H locs ls hi4 hF4 hw hl
      refine lv_iload_n hx hb dX2_allCows_4 rfl (lv_at hl 0 rfl) ?_
      refine lv_aload_n hx hb dX2_allCows_5 rfl (lv_at hl 2 rfl) ?_
      refine g_get S hw hinX2 (fs := fX24 a σ) 24 rfl rfl 3 (by decide) lk0 (v := .int (nI n)) (congrArg (fun z => some (Value.int z)) (hn)) dX2_allCows_6 ?_
      refine ln_ge (x := i4) (y := n) hx hb (by omega) (by omega) (tgt := 27) dX2_allCows_9 (by decide) (fun c_x => ?_) (fun c_x => absurd (by omega) c_x)
      have hz4 : n = i4 := by omega
      subst hz4
      have e4_0 : (XH_allCows_L4 24 κ σ n n 0 0) = x4_1 := hF4.symm
      subst e4_0
      refine lv_iload_n hx hb dX2_allCows_27 rfl (lv_at hl 1 rfl) ?_
      exact g_iret S hr hlk hw (by simp only [XH_allCows_r, Nat.reduceAdd]) rfl dX2_allCows_28
    | succ n4 ih4 =>
      intro i4 x4_1 H locs ls hi4 hF4 hw hl
      refine lv_iload_n hx hb dX2_allCows_4 rfl (lv_at hl 0 rfl) ?_
      refine lv_aload_n hx hb dX2_allCows_5 rfl (lv_at hl 2 rfl) ?_
      refine g_get S hw hinX2 (fs := fX24 a σ) 24 rfl rfl 3 (by decide) lk0 (v := .int (nI n)) (congrArg (fun z => some (Value.int z)) (hn)) dX2_allCows_6 ?_
      refine ln_ge (x := i4) (y := n) hx hb (by omega) (by omega) (tgt := 27) dX2_allCows_9 (by decide) (fun c_x => absurd c_x (by omega)) (fun c_x => ?_)
      refine lv_iload_n hx hb dX2_allCows_12 rfl (lv_at hl 1 rfl) ?_
      refine lv_aload_n hx hb dX2_allCows_13 rfl (lv_at hl 2 rfl) ?_
      refine g_get S hw hinX2 (fs := fX24 a σ) 24 rfl rfl 1 (by decide) lk1 (v := .ref (a 25)) rfl dX2_allCows_14 ?_
      refine lv_iload_n hx hb dX2_allCows_17 rfl (lv_at hl 0 rfl) ?_
      refine g_iald S hw (f := σ 25) (i := i4) (x := σ 25 i4) 25 0 rfl rfl (by omega) (by decide) rfl dX2_allCows_18 ?_
      refine lv_iadd hx hb dX2_allCows_19 ?_
      refine lv_istore_n (lv' := [(1, .int (x4_1 + (σ 25 i4))), (2, .int (nI i4)), (0, .ref (a 24))]) hx hb dX2_allCows_20 rfl hl (by decide) rfl (fun ls hl => ?_)
      refine lv_iinc (v := nI (i4 + 1)) (lv' := [(2, .int (nI (i4 + 1))), (1, .int (x4_1 + (σ 25 i4))), (0, .ref (a 24))]) hx hb dX2_allCows_21 hl (k := 1) rfl (nI_1 _) (by decide) rfl (fun ls hl => ?_)
      refine lv_goto (tgt := 4) hx hb dX2_allCows_24 (by decide) ?_
      exact ih4 (i4 + 1) (x4_1 + (σ 25 i4)) _ _ _ (by omega) hF4 hw (lv_sub hl [0, 1, 2] rfl)
  exact L4 n 0 0 _ _ _ (by omega) rfl hw (lv_sub hl [0, 1, 2] rfl)
def XH_leastLed_S4_0 (b : Nat) (κ : Nat → Nat) (σ : Nat → Nat → Int32) (n : Nat) (i4 : Nat) (x4_1 : Int32) : Int32 := x4_1 + (if (0 : Int32) < ((XH_owedTo_r b κ σ n i4) - (XH_owedBy_r b κ σ n i4)) then (XH_owedTo_r b κ σ n i4) - (XH_owedBy_r b κ σ n i4) else 0)
def XH_leastLed_L4 (b : Nat) (κ : Nat → Nat) (σ : Nat → Nat → Int32) (n : Nat) : Nat → Nat → (Int32) → (Int32)
  | 0, _, x4_1 => x4_1
  | n4 + 1, i4, x4_1 => XH_leastLed_L4 b κ σ n n4 (i4 + 1) (XH_leastLed_S4_0 b κ σ n i4 x4_1)
def XH_leastLed_r (b : Nat) (κ : Nat → Nat) (σ : Nat → Nat → Int32) (n : Nat) : Int32 := (XH_leastLed_L4 b κ σ n n 0 0)
set_option maxHeartbeats 4000000 in
set_option maxRecDepth 100000 in
theorem c_XH_leastLed_10 (l : Launch) (D : va_G) (cI cC cI2 : ClassId) (a : Nat → Nat) (κ : Nat → Nat) (σ : Nat → Nat → Int32) (n : Nat) (hn : σ 10 3 = nI n) (hnb : n ≤ 4) : gI l D (tysX cI cC cI2) yX2_leastLed wsX2_leastLed 2 [.ref (a 10)] (wX cI cC cI2 a κ σ) (XH_leastLed_r 10 κ σ n) (wX cI cC cI2 a κ σ) := by
  refine g_start (cc := cX2_leastLed) (maxL := 3) (ret := some .int) (Qc := gQi D (tysX cI cC cI2) (XH_leastLed_r 10 κ σ n) (wX cI cC cI2 a κ σ)) (by decide) rfl (Nat.le_of_ble_eq_true rfl) ?_
  intro p e s m below meth C A ls S hr hlk hw hl
  obtain ⟨hx, hb, hml, hown, hts⟩ := id S
  have hinX2 : ∀ x ∈ u_ws RX2 TX2 5, x ∈ wsX2_leastLed := fun x h => List.mem_cons_of_mem _ (List.mem_append_right _ h)
  have lk0 : Cond.fieldLink RX2 20 "CowsOwed$Herds" "size" "I" ∈ wsX2_leastLed := by decide +kernel
  have lk1 : Cond.methodLink RX2 61 Lib.Math.max.name ∈ wsX2_leastLed := by decide +kernel
  have lk2 : Cond.static Lib.Math.max.name ∈ wsX2_leastLed := by decide +kernel
  have lk3 : Cond.initialized "java/lang/Math" ∈ wsX2_leastLed := by decide +kernel
  have lk4 : Cond.code Lib.Math.max.name Lib.Math.max.code 2 (some .int) ∈ wsX2_leastLed := by decide +kernel
  have hl : lv_has ls 3 [(0, .ref (a 10))] := hl
  refine lv_iconst (v := 0) hx hb dX2_leastLed_0 (by decide) ?_
  refine lv_istore_n (lv' := [(1, .int 0), (0, .ref (a 10))]) hx hb dX2_leastLed_1 rfl hl (by decide) rfl (fun ls hl => ?_)
  refine lv_iconst (v := 0) hx hb dX2_leastLed_2 (by decide) ?_
  refine lv_istore_n (lv' := [(2, .int 0), (1, .int 0), (0, .ref (a 10))]) hx hb dX2_leastLed_3 rfl hl (by decide) rfl (fun ls hl => ?_)
  have L4 : ∀ (n4 i4 : Nat) (x4_1 : Int32) (H : Heap) (locs : List Loc) (ls : Array Slot), i4 + n4 = n → XH_leastLed_L4 10 κ σ n n4 i4 x4_1 = XH_leastLed_L4 10 κ σ n n 0 0 → gw D (tysX cI cC cI2) A s H locs (wX cI cC cI2 a κ σ) → lv_has ls 3 [(2, .int (nI i4)), (1, .int x4_1), (0, .ref (a 10))] → W p l e (gR 2) s m ([.ref (a 10)] : List Value).toArray below meth C H locs 0 0 (MQ below (gQi D (tysX cI cC cI2) (XH_leastLed_r 10 κ σ n) (wX cI cC cI2 a κ σ) A) ([.ref (a 10)] : List Value).toArray s 0 0 A) (F0 m 4 ls []) := by
    intro n4
    induction n4 with
    | zero =>
      intro i4 x4_1 H locs ls hi4 hF4 hw hl
      refine lv_iload_n hx hb dX2_leastLed_4 rfl (lv_at hl 0 rfl) ?_
      refine lv_aload_n hx hb dX2_leastLed_5 rfl (lv_at hl 2 rfl) ?_
      refine g_get S hw hinX2 (fs := fX10 a σ) 10 rfl rfl 3 (by decide) lk0 (v := .int (nI n)) (congrArg (fun z => some (Value.int z)) (hn)) dX2_leastLed_6 ?_
      refine ln_ge (x := i4) (y := n) hx hb (by omega) (by omega) (tgt := 36) dX2_leastLed_9 (by decide) (fun c_x => ?_) (fun c_x => absurd (by omega) c_x)
      have hz4 : n = i4 := by omega
      subst hz4
      have e4_0 : (XH_leastLed_L4 10 κ σ n n 0 0) = x4_1 := hF4.symm
      subst e4_0
      refine lv_iload_n hx hb dX2_leastLed_36 rfl (lv_at hl 1 rfl) ?_
      exact g_iret S hr hlk hw (by simp only [XH_leastLed_r, Nat.reduceAdd]) rfl dX2_leastLed_37
    | succ n4 ih4 =>
      intro i4 x4_1 H locs ls hi4 hF4 hw hl
      refine lv_iload_n hx hb dX2_leastLed_4 rfl (lv_at hl 0 rfl) ?_
      refine lv_aload_n hx hb dX2_leastLed_5 rfl (lv_at hl 2 rfl) ?_
      refine g_get S hw hinX2 (fs := fX10 a σ) 10 rfl rfl 3 (by decide) lk0 (v := .int (nI n)) (congrArg (fun z => some (Value.int z)) (hn)) dX2_leastLed_6 ?_
      refine ln_ge (x := i4) (y := n) hx hb (by omega) (by omega) (tgt := 36) dX2_leastLed_9 (by decide) (fun c_x => absurd c_x (by omega)) (fun c_x => ?_)
      refine lv_iload_n hx hb dX2_leastLed_12 rfl (lv_at hl 1 rfl) ?_
      refine lv_iconst (v := 0) hx hb dX2_leastLed_13 (by decide) ?_
      refine lv_aload_n hx hb dX2_leastLed_14 rfl (lv_at hl 2 rfl) ?_
      refine lv_iload_n hx hb dX2_leastLed_15 rfl (lv_at hl 0 rfl) ?_
      refine g_callVi S hw (c_XH_owedTo_10 l D cI cC cI2 a κ σ n i4 (by omega) (hn) (by omega)) gX2_leastLed_X2_owedTo rfl 10 rfl rfl 1 rfl (by decide +kernel) (by decide) (by decide) hl.1 rfl (Nat.le_of_ble_eq_true rfl) dX2_leastLed_16 (fun H locs hw => ?_)
      refine lv_aload_n hx hb dX2_leastLed_19 rfl (lv_at hl 2 rfl) ?_
      refine lv_iload_n hx hb dX2_leastLed_20 rfl (lv_at hl 0 rfl) ?_
      refine g_callVi S hw (c_XH_owedBy_10 l D cI cC cI2 a κ σ n i4 (by omega) (hn) (by omega)) gX2_leastLed_X2_owedBy rfl 10 rfl rfl 1 rfl (by decide +kernel) (by decide) (by decide) hl.1 rfl (Nat.le_of_ble_eq_true rfl) dX2_leastLed_21 (fun H locs hw => ?_)
      refine lv_isub hx hb dX2_leastLed_24 ?_
      refine va_mmax hx hb (hml.trans hl.1.symm) hown (hts _ lk1) (hts _ lk2) (hts _ lk3) (hts _ lk4) (by decide) (Nat.le_of_ble_eq_true rfl) (Nat.zero_le _) (Nat.zero_le _) dX2_leastLed_25 ?_
      refine lv_iadd hx hb dX2_leastLed_28 ?_
      refine lv_istore_n (lv' := [(1, .int (x4_1 + (if (0 : Int32) < ((XH_owedTo_r 10 κ σ n i4) - (XH_owedBy_r 10 κ σ n i4)) then (XH_owedTo_r 10 κ σ n i4) - (XH_owedBy_r 10 κ σ n i4) else 0))), (2, .int (nI i4)), (0, .ref (a 10))]) hx hb dX2_leastLed_29 rfl hl (by decide) rfl (fun ls hl => ?_)
      refine lv_iinc (v := nI (i4 + 1)) (lv' := [(2, .int (nI (i4 + 1))), (1, .int (x4_1 + (if (0 : Int32) < ((XH_owedTo_r 10 κ σ n i4) - (XH_owedBy_r 10 κ σ n i4)) then (XH_owedTo_r 10 κ σ n i4) - (XH_owedBy_r 10 κ σ n i4) else 0))), (0, .ref (a 10))]) hx hb dX2_leastLed_30 hl (k := 1) rfl (nI_1 _) (by decide) rfl (fun ls hl => ?_)
      refine lv_goto (tgt := 4) hx hb dX2_leastLed_33 (by decide) ?_
      exact ih4 (i4 + 1) (x4_1 + (if (0 : Int32) < ((XH_owedTo_r 10 κ σ n i4) - (XH_owedBy_r 10 κ σ n i4)) then (XH_owedTo_r 10 κ σ n i4) - (XH_owedBy_r 10 κ σ n i4) else 0)) _ _ _ (by omega) hF4 hw (lv_sub hl [0, 1, 2] rfl)
  exact L4 n 0 0 _ _ _ (by omega) rfl hw (lv_sub hl [0, 1, 2] rfl)
