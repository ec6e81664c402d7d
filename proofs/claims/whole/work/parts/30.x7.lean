/-! ===== what the answers of knows tell ===== -/
theorem XH_knows_ok {b : Nat} {κ : Nat → Nat} {σ : Nat → Nat → Int32} {c : Int32} {n : Nat} (hn : σ b 3 = nI n) (hnb : n ≤ 4) (h : ¬ XH_knows_r b κ σ c = 0) : c = nI c.toNatClampNeg ∧ c.toNatClampNeg < n := by
  unfold XH_knows_r at h
  rw [hn] at h
  by_cases h0 : c < 0
  · rw [if_pos h0] at h; exact absurd rfl h
  · rw [if_neg h0] at h
    by_cases h1 : nI n ≤ c
    · rw [if_pos h1] at h; exact absurd rfl h
    · exact X_in_lt (by omega) h0 h1
theorem XH_couple_ok {b : Nat} {κ : Nat → Nat} {σ : Nat → Nat → Int32} {c d : Int32} {n : Nat} (hn : σ b 3 = nI n) (hnb : n ≤ 4) (h : ¬ XH_knowsCouple_r b κ σ c d = 0) : (c = nI c.toNatClampNeg ∧ c.toNatClampNeg < n) ∧ (d = nI d.toNatClampNeg ∧ d.toNatClampNeg < n) := by
  unfold XH_knowsCouple_r at h
  by_cases h0 : XH_knows_r b κ σ c = 0
  · rw [if_pos h0] at h; exact absurd rfl h
  · rw [if_neg h0] at h
    by_cases h1 : XH_knows_r b κ σ d = 0
    · rw [if_pos h1] at h; exact absurd rfl h
    · exact ⟨XH_knows_ok hn hnb h0, XH_knows_ok hn hnb h1⟩
theorem XW_knows_ok {κ : Nat → Nat} {σ : Nat → Nat → Int32} {c : Int32} {n : Nat} (hn : σ 32 4 = nI n) (hnb : n ≤ 12) (h : ¬ XW_knows_r κ σ c = 0) : c = nI c.toNatClampNeg ∧ c.toNatClampNeg < n := by
  unfold XW_knows_r at h
  rw [hn] at h
  by_cases h0 : c < 0
  · rw [if_pos h0] at h; exact absurd rfl h
  · rw [if_neg h0] at h
    by_cases h1 : nI n ≤ c
    · rw [if_pos h1] at h; exact absurd rfl h
    · exact X_in_lt (by omega) h0 h1
theorem X_in_rng {x : Int32} {lo hi : Nat} (hh : hi < 2 ^ 31) (hl : lo ≤ hi) (h0 : ¬ x < nI lo) (h1 : ¬ nI hi ≤ x) : x = nI x.toNatClampNeg ∧ lo ≤ x.toNatClampNeg ∧ x.toNatClampNeg < hi := by
  have e : (nI lo).toInt = lo := nI_toInt (by omega)
  rw [fa_lt, e] at h0
  have h2 : ¬ x < 0 := by rw [fa_lt]; have e0 : (0 : Int32).toInt = 0 := rfl; omega
  obtain ⟨q1, q2⟩ := X_in_lt hh h2 h1
  have h3 : 0 ≤ x.toInt := by omega
  have := tN_toInt h3
  exact ⟨q1, by omega, q2⟩
theorem X_in_pos {x : Int32} (h0 : ¬ x < 0) : x = nI x.toNatClampNeg ∧ x.toNatClampNeg < 2147483648 := by
  rw [fa_lt] at h0
  have e0 : (0 : Int32).toInt = 0 := rfl
  have h2 : 0 ≤ x.toInt := by omega
  have := tN_toInt h2
  have hb := x.toInt_lt
  exact ⟨tN_of h2, by omega⟩
theorem X_le_40 {x : Int32} (h : ¬ 40 < x) : ¬ nI 41 ≤ x := by
  rw [fa_lt, show (40 : Int32).toInt = 40 from rfl] at h
  rw [fa_le, nI_toInt (by omega)]
  omega
def XG_put_r (κ : Nat → Nat) (σ : Nat → Nat → Int32) (pm : Nat) (x : Int32) : Int32 := nI (pm + 1)
def XG_put_s (κ : Nat → Nat) (σ : Nat → Nat → Int32) (pm : Nat) (x : Int32) : Nat → Nat → Int32 := up2 (up2 σ 9 pm x) 8 1 (nI (pm + 1))
theorem XG_put_s_k (κ : Nat → Nat) (σ : Nat → Nat → Int32) (pm : Nat) (x : Int32) (c9 : Nat) (q0 : c9 ≠ 8) (q1 : c9 ≠ 9) : XG_put_s κ σ pm x c9 = σ c9 := by
  unfold XG_put_s
  exact (up2_n _ _ _ q0).trans (up2_n _ _ _ q1)
set_option maxHeartbeats 4000000 in
set_option maxRecDepth 100000 in
theorem c_XG_put (l : Launch) (D : va_G) (cI cC cI2 : ClassId) (a : Nat → Nat) (κ : Nat → Nat) (σ : Nat → Nat → Int32) (pm : Nat) (x : Int32) (hpm : σ 8 1 = nI pm) (hpm1 : pm < 16) : gI l D (tysX cI cC cI2) yX4_put wsX4_put 1 [.ref (a 8), .int x] (wX cI cC cI2 a κ σ) (XG_put_r κ σ pm x) (wX cI cC cI2 a κ (XG_put_s κ σ pm x)) := by
  refine g_start (cc := cX4_put) (maxL := 2) (ret := some .int) (Qc := gQi D (tysX cI cC cI2) (XG_put_r κ σ pm x) (wX cI cC cI2 a κ (XG_put_s κ σ pm x))) (by decide) rfl (Nat.le_of_ble_eq_true rfl) ?_
  intro p e s m below meth C A ls S hr hlk hw hl
  obtain ⟨hx, hb, hml, hown, hts⟩ := id S
  have hinX4 : ∀ x ∈ u_ws RX4 TX4 2, x ∈ wsX4_put := fun x h => List.mem_cons_of_mem _ (List.mem_append_right _ h)
  have lk0 : Cond.fieldLink RX4 9 "CowsOwed$Page" "codes" "[I" ∈ wsX4_put := by decide +kernel
  have lk1 : Cond.fieldLink RX4 15 "CowsOwed$Page" "size" "I" ∈ wsX4_put := by decide +kernel
  have hl : lv_has ls 2 [(0, .ref (a 8)), (1, .int x)] := hl
  refine lv_aload_n hx hb dX4_put_0 rfl (lv_at hl 0 rfl) ?_
  refine g_get S hw hinX4 (fs := fX8 a σ) 8 rfl rfl 0 (by decide) lk0 (v := .ref (a 9)) rfl dX4_put_1 ?_
  refine lv_aload_n hx hb dX4_put_4 rfl (lv_at hl 0 rfl) ?_
  refine g_get S hw hinX4 (fs := fX8 a σ) 8 rfl rfl 1 (by decide) lk1 (v := .int (nI pm)) (congrArg (fun z => some (Value.int z)) (hpm)) dX4_put_5 ?_
  refine lv_iload_n hx hb dX4_put_8 rfl (lv_at hl 1 rfl) ?_
  refine g_iast S hw (f := σ 9) (i := pm) 9 0 rfl rfl (by omega) (by decide) (w2 := wX cI cC cI2 a κ (up2 σ 9 pm x)) (wX_a9 _ _ _ _ _ _ _ _) dX4_put_9 (fun H locs hw => ?_)
  refine lv_aload_n hx hb dX4_put_10 rfl (lv_at hl 0 rfl) ?_
  refine lv_dup hx hb dX4_put_11 rfl ?_
  refine g_get S hw hinX4 (fs := fX8 a (up2 σ 9 pm x)) 8 rfl rfl 1 (by decide) lk1 (v := .int (nI pm)) (congrArg (fun z => some (Value.int z)) ((up2_rn (by omega)).trans (hpm))) dX4_put_12 ?_
  refine lv_iconst (v := 1) hx hb dX4_put_15 (by decide) ?_
  refine ln_iadd (x := pm) (y := 1) hx hb dX4_put_16 ?_
  refine g_put S hw hinX4 tyX4 tyX4_ok nmX4 (fs := fX8 a (up2 σ 9 pm x)) 8 rfl rfl 1 (by decide) lk1 rfl rfl rfl (Nat.le_of_ble_eq_true rfl) (w2 := wX cI cC cI2 a κ (up2 (up2 σ 9 pm x) 8 1 (nI (pm + 1)))) (wX_f8_1 _ _ _ _ _ _ _) dX4_put_17 (fun H locs hw => ?_)
  refine lv_aload_n hx hb dX4_put_20 rfl (lv_at hl 0 rfl) ?_
  refine g_get S hw hinX4 (fs := fX8 a (up2 (up2 σ 9 pm x) 8 1 (nI (pm + 1)))) 8 rfl rfl 1 (by decide) lk1 (v := .int (nI (pm + 1))) (congrArg (fun z => some (Value.int z)) (up2_rs)) dX4_put_21 ?_
  exact g_iret S hr hlk hw (by simp only [XG_put_r]) (by simp only [XG_put_s]) dX4_put_24

def XG_behindMark_r (x : Int32) (y : Int32) : Int32 := if x = 44 then (if 4 ≤ y then (if x = 59 then (if y < 2 then 5 else 3) else 5) else 0) else (if x = 59 then (if y < 2 then 5 else 3) else 5)
set_option maxHeartbeats 4000000 in
set_option maxRecDepth 100000 in
theorem c_XG_behindMark (l : Launch) (D : va_G) (tys : List (ClassId × FieldType)) (w0 : va_W) (x : Int32) (y : Int32) : gI l D tys yX4_behindMark wsX4_behindMark 1 [.int x, .int y] w0 (XG_behindMark_r x y) w0 := by
  refine g_start (cc := cX4_behindMark) (maxL := 2) (ret := some .int) (Qc := gQi D tys (XG_behindMark_r x y) w0) (by decide) rfl (Nat.le_of_ble_eq_true rfl) ?_
  intro p e s m below meth C A ls S hr hlk hw hl
  obtain ⟨hx, hb, hml, hown, hts⟩ := id S
  have hl : lv_has ls 2 [(0, .int x), (1, .int y)] := hl
  refine lv_iload_n hx hb dX4_behindMark_0 rfl (lv_at hl 0 rfl) ?_
  refine lv_bipush (v := 44) hx hb dX4_behindMark_1 (by decide) ?_
  refine lv_icmp_ne hx hb (tgt := 13) dX4_behindMark_3 (by decide) (fun c_1 => ?_) (fun c_1 => ?_)
  · refine lv_iload_n hx hb dX4_behindMark_13 rfl (lv_at hl 0 rfl) ?_
    refine lv_bipush (v := 59) hx hb dX4_behindMark_14 (by decide) ?_
    refine lv_icmp_ne hx hb (tgt := 26) dX4_behindMark_16 (by decide) (fun c_2 => ?_) (fun c_2 => ?_)
    · refine lv_iconst (v := 5) hx hb dX4_behindMark_26 (by decide) ?_
      exact g_iret S hr hlk hw (by simp only [XG_behindMark_r, if_neg c_1, if_neg c_2]) rfl dX4_behindMark_27
    · refine lv_iload_n hx hb dX4_behindMark_19 rfl (lv_at hl 1 rfl) ?_
      refine lv_iconst (v := 2) hx hb dX4_behindMark_20 (by decide) ?_
      refine lv_icmp_lt hx hb (tgt := 26) dX4_behindMark_21 (by decide) (fun c_3 => ?_) (fun c_3 => ?_)
      · refine lv_iconst (v := 5) hx hb dX4_behindMark_26 (by decide) ?_
        exact g_iret S hr hlk hw (by simp only [XG_behindMark_r, if_neg c_1, if_pos c_2, if_pos c_3]) rfl dX4_behindMark_27
      · refine lv_iconst (v := 3) hx hb dX4_behindMark_24 (by decide) ?_
        exact g_iret S hr hlk hw (by simp only [XG_behindMark_r, if_neg c_1, if_pos c_2, if_neg c_3]) rfl dX4_behindMark_25
  · refine lv_iload_n hx hb dX4_behindMark_6 rfl (lv_at hl 1 rfl) ?_
    refine lv_iconst (v := 4) hx hb dX4_behindMark_7 (by decide) ?_
    refine lv_icmp_ge hx hb (tgt := 13) dX4_behindMark_8 (by decide) (fun c_4 => ?_) (fun c_4 => ?_)
    · refine lv_iload_n hx hb dX4_behindMark_13 rfl (lv_at hl 0 rfl) ?_
      refine lv_bipush (v := 59) hx hb dX4_behindMark_14 (by decide) ?_
      refine lv_icmp_ne hx hb (tgt := 26) dX4_behindMark_16 (by decide) (fun c_5 => ?_) (fun c_5 => ?_)
      · refine lv_iconst (v := 5) hx hb dX4_behindMark_26 (by decide) ?_
        exact g_iret S hr hlk hw (by simp only [XG_behindMark_r, if_pos c_1, if_pos c_4, if_neg c_5]) rfl dX4_behindMark_27
      · refine lv_iload_n hx hb dX4_behindMark_19 rfl (lv_at hl 1 rfl) ?_
        refine lv_iconst (v := 2) hx hb dX4_behindMark_20 (by decide) ?_
        refine lv_icmp_lt hx hb (tgt := 26) dX4_behindMark_21 (by decide) (fun c_6 => ?_) (fun c_6 => ?_)
        · refine lv_iconst (v := 5) hx hb dX4_behindMark_26 (by decide) ?_
          exact g_iret S hr hlk hw (by simp only [XG_behindMark_r, if_pos c_1, if_pos c_4, if_pos c_5, if_pos c_6]) rfl dX4_behindMark_27
        · refine lv_iconst (v := 3) hx hb dX4_behindMark_24 (by decide) ?_
          exact g_iret S hr hlk hw (by simp only [XG_behindMark_r, if_pos c_1, if_pos c_4, if_pos c_5, if_neg c_6]) rfl dX4_behindMark_25
    · refine lv_iconst (v := 0) hx hb dX4_behindMark_11 (by decide) ?_
      exact g_iret S hr hlk hw (by simp only [XG_behindMark_r, if_pos c_1, if_neg c_4]) rfl dX4_behindMark_12

def XG_clanCount_n (κ : Nat → Nat) (σ : Nat → Nat → Int32) (pm : Nat) : Nat := pm / 3
set_option maxHeartbeats 4000000 in
set_option maxRecDepth 100000 in
theorem c_XG_clanCount (l : Launch) (D : va_G) (cI cC cI2 : ClassId) (a : Nat → Nat) (κ : Nat → Nat) (σ : Nat → Nat → Int32) (pm : Nat) (hpm : σ 8 1 = nI pm) (hpmb : pm ≤ 16) : gI l D (tysX cI cC cI2) yX4_clanCount wsX4_clanCount 1 [.ref (a 8)] (wX cI cC cI2 a κ σ) (nI (XG_clanCount_n κ σ pm)) (wX cI cC cI2 a κ σ) := by
  refine g_start (cc := cX4_clanCount) (maxL := 1) (ret := some .int) (Qc := gQi D (tysX cI cC cI2) (nI (XG_clanCount_n κ σ pm)) (wX cI cC cI2 a κ σ)) (by decide) rfl (Nat.le_of_ble_eq_true rfl) ?_
  intro p e s m below meth C A ls S hr hlk hw hl
  obtain ⟨hx, hb, hml, hown, hts⟩ := id S
  have hinX4 : ∀ x ∈ u_ws RX4 TX4 2, x ∈ wsX4_clanCount := fun x h => List.mem_cons_of_mem _ (List.mem_append_right _ h)
  have lk0 : Cond.fieldLink RX4 15 "CowsOwed$Page" "size" "I" ∈ wsX4_clanCount := by decide +kernel
  have hl : lv_has ls 1 [(0, .ref (a 8))] := hl
  refine lv_aload_n hx hb dX4_clanCount_0 rfl (lv_at hl 0 rfl) ?_
  refine g_get S hw hinX4 (fs := fX8 a σ) 8 rfl rfl 1 (by decide) lk0 (v := .int (nI pm)) (congrArg (fun z => some (Value.int z)) (hpm)) dX4_clanCount_1 ?_
  refine lv_iconst (v := 3) hx hb dX4_clanCount_4 (by decide) ?_
  refine ln_idiv (x := pm) (y := 3) hx hb (by omega) (by omega) (by omega) dX4_clanCount_5 ?_
  exact g_iret S hr hlk hw (by simp only [XG_clanCount_n]) rfl dX4_clanCount_6

def XG_herdOf_r (κ : Nat → Nat) (σ : Nat → Nat → Int32) (c : Nat) : Int32 := (σ 9 ((c * 3) + 1)) - 48
set_option maxHeartbeats 4000000 in
set_option maxRecDepth 100000 in
theorem c_XG_herdOf (l : Launch) (D : va_G) (cI cC cI2 : ClassId) (a : Nat → Nat) (κ : Nat → Nat) (σ : Nat → Nat → Int32) (c : Nat) (hc : c < 5) : gI l D (tysX cI cC cI2) yX4_herdOf wsX4_herdOf 1 [.ref (a 8), .int (nI c)] (wX cI cC cI2 a κ σ) (XG_herdOf_r κ σ c) (wX cI cC cI2 a κ σ) := by
  refine g_start (cc := cX4_herdOf) (maxL := 2) (ret := some .int) (Qc := gQi D (tysX cI cC cI2) (XG_herdOf_r κ σ c) (wX cI cC cI2 a κ σ)) (by decide) rfl (Nat.le_of_ble_eq_true rfl) ?_
  intro p e s m below meth C A ls S hr hlk hw hl
  obtain ⟨hx, hb, hml, hown, hts⟩ := id S
  have hinX4 : ∀ x ∈ u_ws RX4 TX4 2, x ∈ wsX4_herdOf := fun x h => List.mem_cons_of_mem _ (List.mem_append_right _ h)
  have lk0 : Cond.fieldLink RX4 9 "CowsOwed$Page" "codes" "[I" ∈ wsX4_herdOf := by decide +kernel
  have hl : lv_has ls 2 [(0, .ref (a 8)), (1, .int (nI c))] := hl
  refine lv_aload_n hx hb dX4_herdOf_0 rfl (lv_at hl 0 rfl) ?_
  refine g_get S hw hinX4 (fs := fX8 a σ) 8 rfl rfl 0 (by decide) lk0 (v := .ref (a 9)) rfl dX4_herdOf_1 ?_
  refine lv_iload_n hx hb dX4_herdOf_4 rfl (lv_at hl 1 rfl) ?_
  refine lv_iconst (v := 3) hx hb dX4_herdOf_5 (by decide) ?_
  refine ln_imul (x := c) (y := 3) hx hb dX4_herdOf_6 ?_
  refine lv_iconst (v := 1) hx hb dX4_herdOf_7 (by decide) ?_
  refine ln_iadd (x := c * 3) (y := 1) hx hb dX4_herdOf_8 ?_
  refine g_iald S hw (f := σ 9) (i := (c * 3) + 1) (x := σ 9 ((c * 3) + 1)) 9 0 rfl rfl (by omega) (by decide) rfl dX4_herdOf_9 ?_
  refine lv_bipush (v := 48) hx hb dX4_herdOf_10 (by decide) ?_
  refine lv_isub hx hb dX4_herdOf_12 ?_
  exact g_iret S hr hlk hw (by simp only [XG_herdOf_r]) rfl dX4_herdOf_13

def XG_rateDigit_r (κ : Nat → Nat) (σ : Nat → Nat → Int32) (pm : Nat) : Int32 := if 1 ≤ pm then ((σ 9 (pm - 1)) - 48) else 0
set_option maxHeartbeats 4000000 in
set_option maxRecDepth 100000 in
theorem c_XG_rateDigit (l : Launch) (D : va_G) (cI cC cI2 : ClassId) (a : Nat → Nat) (κ : Nat → Nat) (σ : Nat → Nat → Int32) (pm : Nat) (hpm : σ 8 1 = nI pm) (hpmb : pm ≤ 16) : gI l D (tysX cI cC cI2) yX4_rateDigit wsX4_rateDigit 1 [.ref (a 8)] (wX cI cC cI2 a κ σ) (XG_rateDigit_r κ σ pm) (wX cI cC cI2 a κ σ) := by
  refine g_start (cc := cX4_rateDigit) (maxL := 1) (ret := some .int) (Qc := gQi D (tysX cI cC cI2) (XG_rateDigit_r κ σ pm) (wX cI cC cI2 a κ σ)) (by decide) rfl (Nat.le_of_ble_eq_true rfl) ?_
  intro p e s m below meth C A ls S hr hlk hw hl
  obtain ⟨hx, hb, hml, hown, hts⟩ := id S
  have hinX4 : ∀ x ∈ u_ws RX4 TX4 2, x ∈ wsX4_rateDigit := fun x h => List.mem_cons_of_mem _ (List.mem_append_right _ h)
  have lk0 : Cond.fieldLink RX4 15 "CowsOwed$Page" "size" "I" ∈ wsX4_rateDigit := by decide +kernel
  have lk1 : Cond.fieldLink RX4 9 "CowsOwed$Page" "codes" "[I" ∈ wsX4_rateDigit := by decide +kernel
  have hl : lv_has ls 1 [(0, .ref (a 8))] := hl
  refine lv_aload_n hx hb dX4_rateDigit_0 rfl (lv_at hl 0 rfl) ?_
  refine g_get S hw hinX4 (fs := fX8 a σ) 8 rfl rfl 1 (by decide) lk0 (v := .int (nI pm)) (congrArg (fun z => some (Value.int z)) (hpm)) dX4_rateDigit_1 ?_
  refine lv_iconst (v := 1) hx hb dX4_rateDigit_4 (by decide) ?_
  refine ln_ge (x := pm) (y := 1) hx hb (by omega) (by omega) (tgt := 12) dX4_rateDigit_5 (by decide) (fun c_1 => ?_) (fun c_1 => ?_)
  · refine lv_aload_n hx hb dX4_rateDigit_12 rfl (lv_at hl 0 rfl) ?_
    refine g_get S hw hinX4 (fs := fX8 a σ) 8 rfl rfl 0 (by decide) lk1 (v := .ref (a 9)) rfl dX4_rateDigit_13 ?_
    refine lv_aload_n hx hb dX4_rateDigit_16 rfl (lv_at hl 0 rfl) ?_
    refine g_get S hw hinX4 (fs := fX8 a σ) 8 rfl rfl 1 (by decide) lk0 (v := .int (nI pm)) (congrArg (fun z => some (Value.int z)) (hpm)) dX4_rateDigit_17 ?_
    refine lv_iconst (v := 1) hx hb dX4_rateDigit_20 (by decide) ?_
    refine ln_isub (x := pm) (y := 1) hx hb (by omega) dX4_rateDigit_21 ?_
    refine g_iald S hw (f := σ 9) (i := pm - 1) (x := σ 9 (pm - 1)) 9 0 rfl rfl (by omega) (by decide) rfl dX4_rateDigit_22 ?_
    refine lv_bipush (v := 48) hx hb dX4_rateDigit_23 (by decide) ?_
    refine lv_isub hx hb dX4_rateDigit_25 ?_
    exact g_iret S hr hlk hw (by simp only [XG_rateDigit_r, if_pos c_1]) rfl dX4_rateDigit_26
  · refine lv_iconst (v := 0) hx hb dX4_rateDigit_8 (by decide) ?_
    refine lv_goto (tgt := 26) hx hb dX4_rateDigit_9 (by decide) ?_
    exact g_iret S hr hlk hw (by simp only [XG_rateDigit_r, if_neg c_1]) rfl dX4_rateDigit_26

def X_hasHills_r (κ : Nat → Nat) (σ : Nat → Nat → Int32) : Int32 := if (σ 10 3) ≤ 0 then 0 else 1
theorem X_hasHills_z (κ : Nat → Nat) (σ : Nat → Nat → Int32) : X_hasHills_r κ σ = 0 ∨ X_hasHills_r κ σ = 1 := by
  unfold X_hasHills_r
  by_cases z1 : (σ 10 3) ≤ 0
  · rw [if_pos z1]
    exact Or.inl rfl
  · rw [if_neg z1]
    exact Or.inr rfl
set_option maxHeartbeats 4000000 in
set_option maxRecDepth 100000 in
theorem c_X_hasHills (l : Launch) (D : va_G) (cI cC cI2 : ClassId) (a : Nat → Nat) (κ : Nat → Nat) (σ : Nat → Nat → Int32) : gI l D (tysX cI cC cI2) yX11_hasHills wsX11_hasHills 1 [.ref (a 0)] (wX cI cC cI2 a κ σ) (X_hasHills_r κ σ) (wX cI cC cI2 a κ σ) := by
  refine g_start (cc := cX11_hasHills) (maxL := 1) (ret := some .boolean) (Qc := gQi D (tysX cI cC cI2) (X_hasHills_r κ σ) (wX cI cC cI2 a κ σ)) (by decide) rfl (Nat.le_of_ble_eq_true rfl) ?_
  intro p e s m below meth C A ls S hr hlk hw hl
  obtain ⟨hx, hb, hml, hown, hts⟩ := id S
  have hinX11 : ∀ x ∈ u_ws RX11 TX11 8, x ∈ wsX11_hasHills := fun x h => List.mem_cons_of_mem _ (List.mem_append_left _ (List.mem_append_left _ (List.mem_append_right _ h)))
  have hinX2 : ∀ x ∈ u_ws RX2 TX2 5, x ∈ wsX11_hasHills := fun x h => List.mem_cons_of_mem _ (List.mem_append_right _ h)
  have hinX8 : ∀ x ∈ u_ws RX8 TX8 5, x ∈ wsX11_hasHills := fun x h => List.mem_cons_of_mem _ (List.mem_append_left _ (List.mem_append_right _ h))
  have lk0 : Cond.fieldLink RX11 43 "CowsOwed" "now" "LCowsOwed$Times;" ∈ wsX11_hasHills := by decide +kernel
  have lk1 : Cond.fieldLink RX11 97 "CowsOwed$Times" "herds" "LCowsOwed$Herds;" ∈ wsX11_hasHills := by decide +kernel
  have lk2 : Cond.fieldLink RX11 241 "CowsOwed$Herds" "size" "I" ∈ wsX11_hasHills := by decide +kernel
  have hl : lv_has ls 1 [(0, .ref (a 0))] := hl
  refine lv_aload_n hx hb dX11_hasHills_0 rfl (lv_at hl 0 rfl) ?_
  refine g_get S hw hinX11 (fs := fX0 a σ) 0 rfl rfl 3 (by decide) lk0 (v := .ref (a 31)) rfl dX11_hasHills_1 ?_
  refine g_get S hw hinX8 (fs := fX31 a σ) 31 rfl rfl 0 (by decide) lk1 (v := .ref (a 10)) rfl dX11_hasHills_4 ?_
  refine g_get S hw hinX2 (fs := fX10 a σ) 10 rfl rfl 3 (by decide) lk2 (v := .int (σ 10 3)) rfl dX11_hasHills_7 ?_
  refine lv_if_le hx hb (tgt := 17) dX11_hasHills_10 (by decide) (fun c_1 => ?_) (fun c_1 => ?_)
  · refine lv_iconst (v := 0) hx hb dX11_hasHills_17 (by decide) ?_
    exact g_zret S hr hlk hw (by decide) (by simp only [X_hasHills_r, if_pos c_1]) rfl dX11_hasHills_18
  · refine lv_iconst (v := 1) hx hb dX11_hasHills_13 (by decide) ?_
    refine lv_goto (tgt := 18) hx hb dX11_hasHills_14 (by decide) ?_
    exact g_zret S hr hlk hw (by decide) (by simp only [X_hasHills_r, if_neg c_1]) rfl dX11_hasHills_18

def X_isRate_r (x : Int32) : Int32 := if x < 1 then 0 else (if 9 < x then 0 else 1)
theorem X_isRate_z (x : Int32) : X_isRate_r x = 0 ∨ X_isRate_r x = 1 := by
  unfold X_isRate_r
  by_cases z1 : x < 1
  · rw [if_pos z1]
    exact Or.inl rfl
  · rw [if_neg z1]
    by_cases z2 : 9 < x
    · rw [if_pos z2]
      exact Or.inl rfl
    · rw [if_neg z2]
      exact Or.inr rfl
set_option maxHeartbeats 4000000 in
set_option maxRecDepth 100000 in
theorem c_X_isRate (l : Launch) (D : va_G) (tys : List (ClassId × FieldType)) (w0 : va_W) (x : Int32) : gI l D tys yX11_isRate wsX11_isRate 1 [.int x] w0 (X_isRate_r x) w0 := by
  refine g_start (cc := cX11_isRate) (maxL := 1) (ret := some .boolean) (Qc := gQi D tys (X_isRate_r x) w0) (by decide) rfl (Nat.le_of_ble_eq_true rfl) ?_
  intro p e s m below meth C A ls S hr hlk hw hl
  obtain ⟨hx, hb, hml, hown, hts⟩ := id S
  have hl : lv_has ls 1 [(0, .int x)] := hl
  refine lv_iload_n hx hb dX11_isRate_0 rfl (lv_at hl 0 rfl) ?_
  refine lv_iconst (v := 1) hx hb dX11_isRate_1 (by decide) ?_
  refine lv_icmp_lt hx hb (tgt := 15) dX11_isRate_2 (by decide) (fun c_1 => ?_) (fun c_1 => ?_)
  · refine lv_iconst (v := 0) hx hb dX11_isRate_15 (by decide) ?_
    exact g_zret S hr hlk hw (by decide) (by simp only [X_isRate_r, if_pos c_1]) rfl dX11_isRate_16
  · refine lv_iload_n hx hb dX11_isRate_5 rfl (lv_at hl 0 rfl) ?_
    refine lv_bipush (v := 9) hx hb dX11_isRate_6 (by decide) ?_
    refine lv_icmp_gt hx hb (tgt := 15) dX11_isRate_8 (by decide) (fun c_2 => ?_) (fun c_2 => ?_)
    · refine lv_iconst (v := 0) hx hb dX11_isRate_15 (by decide) ?_
      exact g_zret S hr hlk hw (by decide) (by simp only [X_isRate_r, if_neg c_1, if_pos c_2]) rfl dX11_isRate_16
    · refine lv_iconst (v := 1) hx hb dX11_isRate_11 (by decide) ?_
      refine lv_goto (tgt := 16) hx hb dX11_isRate_12 (by decide) ?_
      exact g_zret S hr hlk hw (by decide) (by simp only [X_isRate_r, if_neg c_1, if_neg c_2]) rfl dX11_isRate_16

def X_mixed_r (x : Int64) (y : Int64) : Int64 := (31 * x) + y
set_option maxHeartbeats 4000000 in
set_option maxRecDepth 100000 in
theorem c_X_mixed (l : Launch) (D : va_G) (tys : List (ClassId × FieldType)) (w0 : va_W) (x : Int64) (y : Int64) : gL l D tys yX11_mixed wsX11_mixed 1 [.long x, .long y] w0 (X_mixed_r x y) w0 := by
  refine g_start (cc := cX11_mixed) (maxL := 4) (ret := some .long) (Qc := gQl D tys (X_mixed_r x y) w0) (by decide) rfl (Nat.le_of_ble_eq_true rfl) ?_
  intro p e s m below meth C A ls S hr hlk hw hl
  obtain ⟨hx, hb, hml, hown, hts⟩ := id S
  have lk0 : Cond.constantLong RX11 273 (31) ∈ wsX11_mixed := by decide +kernel
  have hl : lv_has ls 4 [(0, .long x), (2, .long y)] := hl
  refine lv_ldc2 (v := 31) hx hb hown (hts _ lk0) dX11_mixed_0 ?_
  refine lv_lload_n hx hb dX11_mixed_3 rfl (lv_at hl 0 rfl) ?_
  refine lv_lmul hx hb dX11_mixed_4 ?_
  refine lv_lload_n hx hb dX11_mixed_5 rfl (lv_at hl 1 rfl) ?_
  refine lv_ladd hx hb dX11_mixed_6 ?_
  exact g_lret S hr hlk hw (by simp only [X_mixed_r]) rfl dX11_mixed_7

def X_letter_r (κ : Nat → Nat) (σ : Nat → Nat → Int32) (pm : Nat) (x : Int32) : Int32 := if x < 1 then (-102) else (if x ≤ 126 then (if pm < 16 then (XG_put_r κ σ pm x) else (-104)) else (-102))
def X_letter_s (κ : Nat → Nat) (σ : Nat → Nat → Int32) (pm : Nat) (x : Int32) : Nat → Nat → Int32 := if x < 1 then σ else (if x ≤ 126 then (if pm < 16 then (XG_put_s κ σ pm x) else σ) else σ)
theorem X_letter_s_k (κ : Nat → Nat) (σ : Nat → Nat → Int32) (pm : Nat) (x : Int32) (c9 : Nat) (q0 : c9 ≠ 8) (q1 : c9 ≠ 9) : X_letter_s κ σ pm x c9 = σ c9 := by
  unfold X_letter_s
  by_cases z1 : x < 1
  · refine Eq.trans (congrFun (if_pos z1) c9) ?_
    exact rfl
  · refine Eq.trans (congrFun (if_neg z1) c9) ?_
    by_cases z2 : x ≤ 126
    · refine Eq.trans (congrFun (if_pos z2) c9) ?_
      by_cases z3 : pm < 16
      · refine Eq.trans (congrFun (if_pos z3) c9) ?_
        exact XG_put_s_k κ σ pm x c9 q0 q1
      · refine Eq.trans (congrFun (if_neg z3) c9) ?_
        exact rfl
    · refine Eq.trans (congrFun (if_neg z2) c9) ?_
      exact rfl
set_option maxHeartbeats 4000000 in
set_option maxRecDepth 100000 in
theorem c_X_letter (l : Launch) (D : va_G) (cI cC cI2 : ClassId) (a : Nat → Nat) (κ : Nat → Nat) (σ : Nat → Nat → Int32) (pm : Nat) (x : Int32) (hpm : σ 8 1 = nI pm) (hpmb : pm ≤ 16) : gI l D (tysX cI cC cI2) yX11_letter wsX11_letter 2 [.ref (a 0), .int x] (wX cI cC cI2 a κ σ) (X_letter_r κ σ pm x) (wX cI cC cI2 a κ (X_letter_s κ σ pm x)) := by
  refine g_start (cc := cX11_letter) (maxL := 2) (ret := some .int) (Qc := gQi D (tysX cI cC cI2) (X_letter_r κ σ pm x) (wX cI cC cI2 a κ (X_letter_s κ σ pm x))) (by decide) rfl (Nat.le_of_ble_eq_true rfl) ?_
  intro p e s m below meth C A ls S hr hlk hw hl
  obtain ⟨hx, hb, hml, hown, hts⟩ := id S
  have hinX11 : ∀ x ∈ u_ws RX11 TX11 8, x ∈ wsX11_letter := fun x h => List.mem_cons_of_mem _ (List.mem_append_left _ (List.mem_append_right _ h))
  have hinX4 : ∀ x ∈ u_ws RX4 TX4 2, x ∈ wsX11_letter := fun x h => List.mem_cons_of_mem _ (List.mem_append_right _ h)
  have lk0 : Cond.fieldLink RX11 34 "CowsOwed" "page" "LCowsOwed$Page;" ∈ wsX11_letter := by decide +kernel
  have lk1 : Cond.fieldLink RX11 65 "CowsOwed$Page" "size" "I" ∈ wsX11_letter := by decide +kernel
  have hl : lv_has ls 2 [(0, .ref (a 0)), (1, .int x)] := hl
  refine lv_iload_n hx hb dX11_letter_0 rfl (lv_at hl 1 rfl) ?_
  refine lv_iconst (v := 1) hx hb dX11_letter_1 (by decide) ?_
  refine lv_icmp_lt hx hb (tgt := 11) dX11_letter_2 (by decide) (fun c_1 => ?_) (fun c_1 => ?_)
  · refine lv_bipush (v := (-102)) hx hb dX11_letter_11 (by decide) ?_
    exact g_iret S hr hlk hw (by simp only [X_letter_r, if_pos c_1]) (by simp only [X_letter_s, if_pos c_1]) dX11_letter_13
  · refine lv_iload_n hx hb dX11_letter_5 rfl (lv_at hl 1 rfl) ?_
    refine lv_bipush (v := 126) hx hb dX11_letter_6 (by decide) ?_
    refine lv_icmp_le hx hb (tgt := 14) dX11_letter_8 (by decide) (fun c_2 => ?_) (fun c_2 => ?_)
    · refine lv_aload_n hx hb dX11_letter_14 rfl (lv_at hl 0 rfl) ?_
      refine g_get S hw hinX11 (fs := fX0 a σ) 0 rfl rfl 2 (by decide) lk0 (v := .ref (a 8)) rfl dX11_letter_15 ?_
      refine g_get S hw hinX4 (fs := fX8 a σ) 8 rfl rfl 1 (by decide) lk1 (v := .int (nI pm)) (congrArg (fun z => some (Value.int z)) (hpm)) dX11_letter_18 ?_
      refine lv_bipush (v := 16) hx hb dX11_letter_21 (by decide) ?_
      refine ln_lt (x := pm) (y := 16) hx hb (by omega) (by omega) (tgt := 29) dX11_letter_23 (by decide) (fun c_3 => ?_) (fun c_3 => ?_)
      · refine lv_aload_n hx hb dX11_letter_29 rfl (lv_at hl 0 rfl) ?_
        refine g_get S hw hinX11 (fs := fX0 a σ) 0 rfl rfl 2 (by decide) lk0 (v := .ref (a 8)) rfl dX11_letter_30 ?_
        refine lv_iload_n hx hb dX11_letter_33 rfl (lv_at hl 1 rfl) ?_
        refine g_callVi S hw (c_XG_put l D cI cC cI2 a κ σ pm x (hpm) (by omega)) gX11_letter_X4_put rfl 8 rfl rfl 1 rfl (by decide +kernel) (by decide) (by decide) hl.1 rfl (Nat.le_of_ble_eq_true rfl) dX11_letter_34 (fun H locs hw => ?_)
        exact g_iret S hr hlk hw (by simp only [X_letter_r, if_neg c_1, if_pos c_2, if_pos c_3]) (by simp only [X_letter_s, if_neg c_1, if_pos c_2, if_pos c_3]) dX11_letter_37
      · refine lv_bipush (v := (-104)) hx hb dX11_letter_26 (by decide) ?_
        exact g_iret S hr hlk hw (by simp only [X_letter_r, if_neg c_1, if_pos c_2, if_neg c_3]) (by simp only [X_letter_s, if_neg c_1, if_pos c_2, if_neg c_3]) dX11_letter_28
    · refine lv_bipush (v := (-102)) hx hb dX11_letter_11 (by decide) ?_
      exact g_iret S hr hlk hw (by simp only [X_letter_r, if_neg c_1, if_neg c_2]) (by simp only [X_letter_s, if_neg c_1, if_neg c_2]) dX11_letter_13

def X_blank_r (κ : Nat → Nat) (σ : Nat → Nat → Int32) : Int32 := σ 8 1
def X_blank_s (κ : Nat → Nat) (σ : Nat → Nat → Int32) : Nat → Nat → Int32 := up2 σ 8 1 0
theorem X_blank_s_k (κ : Nat → Nat) (σ : Nat → Nat → Int32) (c9 : Nat) (q0 : c9 ≠ 8) : X_blank_s κ σ c9 = σ c9 := by
  unfold X_blank_s
  exact up2_n _ _ _ q0
set_option maxHeartbeats 4000000 in
set_option maxRecDepth 100000 in
theorem c_X_blank (l : Launch) (D : va_G) (cI cC cI2 : ClassId) (a : Nat → Nat) (κ : Nat → Nat) (σ : Nat → Nat → Int32) : gI l D (tysX cI cC cI2) yX11_blank wsX11_blank 1 [.ref (a 0)] (wX cI cC cI2 a κ σ) (X_blank_r κ σ) (wX cI cC cI2 a κ (X_blank_s κ σ)) := by
  refine g_start (cc := cX11_blank) (maxL := 2) (ret := some .int) (Qc := gQi D (tysX cI cC cI2) (X_blank_r κ σ) (wX cI cC cI2 a κ (X_blank_s κ σ))) (by decide) rfl (Nat.le_of_ble_eq_true rfl) ?_
  intro p e s m below meth C A ls S hr hlk hw hl
  obtain ⟨hx, hb, hml, hown, hts⟩ := id S
  have hinX11 : ∀ x ∈ u_ws RX11 TX11 8, x ∈ wsX11_blank := fun x h => List.mem_cons_of_mem _ (List.mem_append_left _ (List.mem_append_right _ h))
  have hinX4 : ∀ x ∈ u_ws RX4 TX4 2, x ∈ wsX11_blank := fun x h => List.mem_cons_of_mem _ (List.mem_append_right _ h)
  have lk0 : Cond.fieldLink RX11 34 "CowsOwed" "page" "LCowsOwed$Page;" ∈ wsX11_blank := by decide +kernel
  have lk1 : Cond.fieldLink RX11 65 "CowsOwed$Page" "size" "I" ∈ wsX11_blank := by decide +kernel
  have hl : lv_has ls 2 [(0, .ref (a 0))] := hl
  refine lv_aload_n hx hb dX11_blank_0 rfl (lv_at hl 0 rfl) ?_
  refine g_get S hw hinX11 (fs := fX0 a σ) 0 rfl rfl 2 (by decide) lk0 (v := .ref (a 8)) rfl dX11_blank_1 ?_
  refine g_get S hw hinX4 (fs := fX8 a σ) 8 rfl rfl 1 (by decide) lk1 (v := .int (σ 8 1)) rfl dX11_blank_4 ?_
  refine lv_istore_n (lv' := [(1, .int (σ 8 1)), (0, .ref (a 0))]) hx hb dX11_blank_7 rfl hl (by decide) rfl (fun ls hl => ?_)
  refine lv_aload_n hx hb dX11_blank_8 rfl (lv_at hl 1 rfl) ?_
  refine g_get S hw hinX11 (fs := fX0 a σ) 0 rfl rfl 2 (by decide) lk0 (v := .ref (a 8)) rfl dX11_blank_9 ?_
  refine lv_iconst (v := 0) hx hb dX11_blank_12 (by decide) ?_
  refine g_put S hw hinX4 tyX4 tyX4_ok nmX4 (fs := fX8 a σ) 8 rfl rfl 1 (by decide) lk1 rfl rfl rfl (Nat.le_of_ble_eq_true rfl) (w2 := wX cI cC cI2 a κ (up2 σ 8 1 0)) (wX_f8_1 _ _ _ _ _ _ _) dX11_blank_13 (fun H locs hw => ?_)
  refine lv_iload_n hx hb dX11_blank_16 rfl (lv_at hl 0 rfl) ?_
  exact g_iret S hr hlk hw (by simp only [X_blank_r]) (by simp only [X_blank_s]) dX11_blank_17

def X_clan_r (κ : Nat → Nat) (σ : Nat → Nat → Int32) (n : Nat) (c : Int32) (part : Int32) : Int32 := if (XH_knows_r 10 κ σ c) = 0 then (-101) else (if part < 10 then (if part = 0 then (nI (κ c.toNatClampNeg)) else (if part = 1 then (σ 11 c.toNatClampNeg) else (if part = 2 then (XH_askedBy_r 10 κ σ c.toNatClampNeg) else (if part = 3 then (XH_sparedBy_r 10 κ σ c.toNatClampNeg) else (if part = 4 then (XH_owedBy_r 10 κ σ n c.toNatClampNeg) else (if part = 5 then (XH_owedTo_r 10 κ σ n c.toNatClampNeg) else (if part = 6 then (((1000 + (σ 11 c.toNatClampNeg)) + (XH_owedTo_r 10 κ σ n c.toNatClampNeg)) - (XH_owedBy_r 10 κ σ n c.toNatClampNeg)) else (-102)))))))) else (if 14 ≤ part then (if part = 0 then (nI (κ c.toNatClampNeg)) else (if part = 1 then (σ 11 c.toNatClampNeg) else (if part = 2 then (XH_askedBy_r 10 κ σ c.toNatClampNeg) else (if part = 3 then (XH_sparedBy_r 10 κ σ c.toNatClampNeg) else (if part = 4 then (XH_owedBy_r 10 κ σ n c.toNatClampNeg) else (if part = 5 then (XH_owedTo_r 10 κ σ n c.toNatClampNeg) else (if part = 6 then (((1000 + (σ 11 c.toNatClampNeg)) + (XH_owedTo_r 10 κ σ n c.toNatClampNeg)) - (XH_owedBy_r 10 κ σ n c.toNatClampNeg)) else (-102)))))))) else (σ 12 (4 * c.toNatClampNeg + (part.toNatClampNeg - 10)))))
set_option maxHeartbeats 4000000 in
set_option maxRecDepth 100000 in
theorem c_X_clan (l : Launch) (D : va_G) (cI cC cI2 : ClassId) (a : Nat → Nat) (κ : Nat → Nat) (σ : Nat → Nat → Int32) (n : Nat) (c : Int32) (part : Int32) (hn : σ 10 3 = nI n) (hnb : n ≤ 4) (hk : ∀ i, i < 4 → κ i < 5) : gI l D (tysX cI cC cI2) yX11_clan wsX11_clan 4 [.ref (a 0), .int c, .int part] (wX cI cC cI2 a κ σ) (X_clan_r κ σ n c part) (wX cI cC cI2 a κ σ) := by
  refine g_start (cc := cX11_clan) (maxL := 4) (ret := some .int) (Qc := gQi D (tysX cI cC cI2) (X_clan_r κ σ n c part) (wX cI cC cI2 a κ σ)) (by decide) rfl (Nat.le_of_ble_eq_true rfl) ?_
  intro p e s m below meth C A ls S hr hlk hw hl
  obtain ⟨hx, hb, hml, hown, hts⟩ := id S
  have hinX11 : ∀ x ∈ u_ws RX11 TX11 8, x ∈ wsX11_clan := fun x h => List.mem_cons_of_mem _ (List.mem_append_left _ (List.mem_append_left _ (List.mem_append_right _ h)))
  have hinX2 : ∀ x ∈ u_ws RX2 TX2 5, x ∈ wsX11_clan := fun x h => List.mem_cons_of_mem _ (List.mem_append_right _ h)
  have hinX8 : ∀ x ∈ u_ws RX8 TX8 5, x ∈ wsX11_clan := fun x h => List.mem_cons_of_mem _ (List.mem_append_left _ (List.mem_append_right _ h))
  have lk0 : Cond.fieldLink RX11 43 "CowsOwed" "now" "LCowsOwed$Times;" ∈ wsX11_clan := by decide +kernel
  have lk1 : Cond.fieldLink RX11 97 "CowsOwed$Times" "herds" "LCowsOwed$Herds;" ∈ wsX11_clan := by decide +kernel
  have lk2 : Cond.fieldLink RX11 28 "CowsOwed" "clans" "[LCowsOwed$Clan;" ∈ wsX11_clan := by decide +kernel
  have lk3 : Cond.code ⟨"CowsOwed$Clan", "number", "()I"⟩ cX1_number 1 (some .int) ∈ wsX11_clan := by decide +kernel
  have lk4 : Cond.fieldLink RX11 100 "CowsOwed$Herds" "cows" "[I" ∈ wsX11_clan := by decide +kernel
  have lk5 : Cond.fieldLink RX11 111 "CowsOwed$Herds" "debts" "[[I" ∈ wsX11_clan := by decide +kernel
  have hl : lv_has ls 4 [(0, .ref (a 0)), (1, .int c), (2, .int part)] := hl
  refine lv_aload_n hx hb dX11_clan_0 rfl (lv_at hl 0 rfl) ?_
  refine g_get S hw hinX11 (fs := fX0 a σ) 0 rfl rfl 3 (by decide) lk0 (v := .ref (a 31)) rfl dX11_clan_1 ?_
  refine g_get S hw hinX8 (fs := fX31 a σ) 31 rfl rfl 0 (by decide) lk1 (v := .ref (a 10)) rfl dX11_clan_4 ?_
  refine lv_astore_n (lv' := [(3, .ref (a 10)), (0, .ref (a 0)), (1, .int c), (2, .int part)]) hx hb dX11_clan_7 rfl hl (by decide) rfl (fun ls hl => ?_)
  refine lv_aload_n hx hb dX11_clan_8 rfl (lv_at hl 0 rfl) ?_
  refine lv_iload_n hx hb dX11_clan_9 rfl (lv_at hl 2 rfl) ?_
  refine g_callVi S hw (c_XH_knows_10 l D cI cC cI2 a κ σ c) gX11_clan_X2_knows rfl 10 rfl rfl 1 rfl (by decide +kernel) (by decide) (by decide) hl.1 rfl (Nat.le_of_ble_eq_true rfl) dX11_clan_10 (fun H locs hw => ?_)
  refine lv_if_ne hx hb (tgt := 19) dX11_clan_13 (by decide) (fun c_1 => ?_) (fun c_1 => ?_)
  · obtain ⟨e1, b1⟩ := XH_knows_ok hn hnb c_1
    have hl : lv_has ls 4 [(3, .ref (a 10)), (0, .ref (a 0)), (1, .int (nI c.toNatClampNeg)), (2, .int part)] := by rw [← e1]; exact hl
    refine lv_iload_n hx hb dX11_clan_19 rfl (lv_at hl 3 rfl) ?_
    refine lv_bipush (v := 10) hx hb dX11_clan_20 (by decide) ?_
    refine lv_icmp_lt hx hb (tgt := 43) dX11_clan_22 (by decide) (fun c_2 => ?_) (fun c_2 => ?_)
    · refine lv_iload_n hx hb dX11_clan_43 rfl (lv_at hl 3 rfl) ?_
      by_cases s_3 : part = 0
      · refine lv_tableIn (off := 44) (tgt := 88) hx hb dX11_clan_44 (by rw [s_3]; decide) (by rw [s_3]; decide) (by rw [s_3]; rfl) (by decide) ?_
        refine lv_aload_n hx hb dX11_clan_88 rfl (lv_at hl 1 rfl) ?_
        refine g_get S hw hinX11 (fs := fX0 a σ) 0 rfl rfl 1 (by decide) lk2 (v := .ref (a 2)) rfl dX11_clan_89 ?_
        refine lv_iload_n hx hb dX11_clan_92 rfl (lv_at hl 2 rfl) ?_
        refine g_aald S hw (f := fun i => some (a (3 + κ i))) (i := c.toNatClampNeg) (v := a (3 + κ c.toNatClampNeg)) 2 1 rfl rfl rfl (by omega) (by decide) rfl dX11_clan_93 ?_
        refine g_kind5 (k := κ c.toNatClampNeg) (hk _ (by omega)) (G := fun j => ∀ (H : Heap) (locs : List Loc), gw D (tysX cI cC cI2) A s H locs (wX cI cC cI2 a κ σ) → W p l e (gR 4) s m ([.ref (a 0), .int c, .int part] : List Value).toArray below meth C H locs 0 0 (MQ below (gQi D (tysX cI cC cI2) (X_clan_r κ σ n c part) (wX cI cC cI2 a κ σ) A) ([.ref (a 0), .int c, .int part] : List Value).toArray s 0 0 A) (F0 m 97 ls (.int (nI j) :: []))) (P := fun j => W p l e (gR 4) s m ([.ref (a 0), .int c, .int part] : List Value).toArray below meth C _ _ 0 0 (MQ below (gQi D (tysX cI cC cI2) (X_clan_r κ σ n c part) (wX cI cC cI2 a κ σ) A) ([.ref (a 0), .int c, .int part] : List Value).toArray s 0 0 A) (F0 m 94 ls (.ref (a (3 + j)) :: []))) (fun kk => g_callVi S hw (c_X1_number l D (tysX cI cC cI2) (wX cI cC cI2 a κ σ) (a 3)) gX11_clan_X1_number rfl 3 rfl rfl 0 rfl (by decide +kernel) (by decide) (by decide) hl.1 rfl (Nat.le_of_ble_eq_true rfl) dX11_clan_94 kk) (fun kk => g_callUi S hw (c_X7_number l D (tysX cI cC cI2) (wX cI cC cI2 a κ σ) (a 4)) (va_cwO 0 hts gX11_clan_X7_number_u115X7 rfl rfl rfl lk3 (by decide +kernel) (g_hR (by decide) (by decide))) 4 rfl rfl hl.1 rfl (Nat.le_of_ble_eq_true rfl) dX11_clan_94 kk) (fun kk => g_callUi S hw (c_X6_number l D (tysX cI cC cI2) (wX cI cC cI2 a κ σ) (a 5)) (va_cwO 0 hts gX11_clan_X6_number_u115X6 rfl rfl rfl lk3 (by decide +kernel) (g_hR (by decide) (by decide))) 5 rfl rfl hl.1 rfl (Nat.le_of_ble_eq_true rfl) dX11_clan_94 kk) (fun kk => g_callUi S hw (c_X0_number l D (tysX cI cC cI2) (wX cI cC cI2 a κ σ) (a 6)) (va_cwO 0 hts gX11_clan_X0_number_u115X0 rfl rfl rfl lk3 (by decide +kernel) (g_hR (by decide) (by decide))) 6 rfl rfl hl.1 rfl (Nat.le_of_ble_eq_true rfl) dX11_clan_94 kk) (fun kk => g_callUi S hw (c_X3_number l D (tysX cI cC cI2) (wX cI cC cI2 a κ σ) (a 7)) (va_cwO 0 hts gX11_clan_X3_number_u115X3 rfl rfl rfl lk3 (by decide +kernel) (g_hR (by decide) (by decide))) 7 rfl rfl hl.1 rfl (Nat.le_of_ble_eq_true rfl) dX11_clan_94 kk) ?_
        intro H locs hw
        exact g_iret S hr hlk hw (by simp only [X_clan_r, if_neg c_1, if_pos c_2, if_pos s_3]) rfl dX11_clan_97
      · by_cases s_4 : part = 1
        · refine lv_tableIn (off := 54) (tgt := 98) hx hb dX11_clan_44 (by rw [s_4]; decide) (by rw [s_4]; decide) (by rw [s_4]; rfl) (by decide) ?_
          refine lv_aload_n hx hb dX11_clan_98 rfl (lv_at hl 0 rfl) ?_
          refine g_get S hw hinX2 (fs := fX10 a σ) 10 rfl rfl 1 (by decide) lk4 (v := .ref (a 11)) rfl dX11_clan_99 ?_
          refine lv_iload_n hx hb dX11_clan_102 rfl (lv_at hl 2 rfl) ?_
          refine g_iald S hw (f := σ 11) (i := c.toNatClampNeg) (x := σ 11 c.toNatClampNeg) 11 0 rfl rfl (by omega) (by decide) rfl dX11_clan_103 ?_
          exact g_iret S hr hlk hw (by simp only [X_clan_r, if_neg c_1, if_pos c_2, if_neg s_3, if_pos s_4]) rfl dX11_clan_104
        · by_cases s_5 : part = 2
          · refine lv_tableIn (off := 61) (tgt := 105) hx hb dX11_clan_44 (by rw [s_5]; decide) (by rw [s_5]; decide) (by rw [s_5]; rfl) (by decide) ?_
            refine lv_aload_n hx hb dX11_clan_105 rfl (lv_at hl 0 rfl) ?_
            refine lv_iload_n hx hb dX11_clan_106 rfl (lv_at hl 2 rfl) ?_
            refine g_callVi S hw (c_XH_askedBy_10 l D cI cC cI2 a κ σ c.toNatClampNeg (by omega) hk) gX11_clan_X2_askedBy rfl 10 rfl rfl 1 rfl (by decide +kernel) (by decide) (by decide) hl.1 rfl (Nat.le_of_ble_eq_true rfl) dX11_clan_107 (fun H locs hw => ?_)
            exact g_iret S hr hlk hw (by simp only [X_clan_r, if_neg c_1, if_pos c_2, if_neg s_3, if_neg s_4, if_pos s_5]) rfl dX11_clan_110
          · by_cases s_6 : part = 3
            · refine lv_tableIn (off := 67) (tgt := 111) hx hb dX11_clan_44 (by rw [s_6]; decide) (by rw [s_6]; decide) (by rw [s_6]; rfl) (by decide) ?_
              refine lv_aload_n hx hb dX11_clan_111 rfl (lv_at hl 0 rfl) ?_
              refine lv_iload_n hx hb dX11_clan_112 rfl (lv_at hl 2 rfl) ?_
              refine g_callVi S hw (c_XH_sparedBy_10 l D cI cC cI2 a κ σ c.toNatClampNeg (by omega) hk) gX11_clan_X2_sparedBy rfl 10 rfl rfl 1 rfl (by decide +kernel) (by decide) (by decide) hl.1 rfl (Nat.le_of_ble_eq_true rfl) dX11_clan_113 (fun H locs hw => ?_)
              exact g_iret S hr hlk hw (by simp only [X_clan_r, if_neg c_1, if_pos c_2, if_neg s_3, if_neg s_4, if_neg s_5, if_pos s_6]) rfl dX11_clan_116
            · by_cases s_7 : part = 4
              · refine lv_tableIn (off := 73) (tgt := 117) hx hb dX11_clan_44 (by rw [s_7]; decide) (by rw [s_7]; decide) (by rw [s_7]; rfl) (by decide) ?_
                refine lv_aload_n hx hb dX11_clan_117 rfl (lv_at hl 0 rfl) ?_
                refine lv_iload_n hx hb dX11_clan_118 rfl (lv_at hl 2 rfl) ?_
                refine g_callVi S hw (c_XH_owedBy_10 l D cI cC cI2 a κ σ n c.toNatClampNeg (by omega) (hn) (by omega)) gX11_clan_X2_owedBy rfl 10 rfl rfl 1 rfl (by decide +kernel) (by decide) (by decide) hl.1 rfl (Nat.le_of_ble_eq_true rfl) dX11_clan_119 (fun H locs hw => ?_)
                exact g_iret S hr hlk hw (by simp only [X_clan_r, if_neg c_1, if_pos c_2, if_neg s_3, if_neg s_4, if_neg s_5, if_neg s_6, if_pos s_7]) rfl dX11_clan_122
              · by_cases s_8 : part = 5
                · refine lv_tableIn (off := 79) (tgt := 123) hx hb dX11_clan_44 (by rw [s_8]; decide) (by rw [s_8]; decide) (by rw [s_8]; rfl) (by decide) ?_
                  refine lv_aload_n hx hb dX11_clan_123 rfl (lv_at hl 0 rfl) ?_
                  refine lv_iload_n hx hb dX11_clan_124 rfl (lv_at hl 2 rfl) ?_
                  refine g_callVi S hw (c_XH_owedTo_10 l D cI cC cI2 a κ σ n c.toNatClampNeg (by omega) (hn) (by omega)) gX11_clan_X2_owedTo rfl 10 rfl rfl 1 rfl (by decide +kernel) (by decide) (by decide) hl.1 rfl (Nat.le_of_ble_eq_true rfl) dX11_clan_125 (fun H locs hw => ?_)
                  exact g_iret S hr hlk hw (by simp only [X_clan_r, if_neg c_1, if_pos c_2, if_neg s_3, if_neg s_4, if_neg s_5, if_neg s_6, if_neg s_7, if_pos s_8]) rfl dX11_clan_128
                · by_cases s_9 : part = 6
                  · refine lv_tableIn (off := 85) (tgt := 129) hx hb dX11_clan_44 (by rw [s_9]; decide) (by rw [s_9]; decide) (by rw [s_9]; rfl) (by decide) ?_
                    refine lv_sipush (v := 1000) hx hb dX11_clan_129 (by decide) ?_
                    refine lv_aload_n hx hb dX11_clan_132 rfl (lv_at hl 0 rfl) ?_
                    refine g_get S hw hinX2 (fs := fX10 a σ) 10 rfl rfl 1 (by decide) lk4 (v := .ref (a 11)) rfl dX11_clan_133 ?_
                    refine lv_iload_n hx hb dX11_clan_136 rfl (lv_at hl 2 rfl) ?_
                    refine g_iald S hw (f := σ 11) (i := c.toNatClampNeg) (x := σ 11 c.toNatClampNeg) 11 0 rfl rfl (by omega) (by decide) rfl dX11_clan_137 ?_
                    refine lv_iadd hx hb dX11_clan_138 ?_
                    refine lv_aload_n hx hb dX11_clan_139 rfl (lv_at hl 0 rfl) ?_
                    refine lv_iload_n hx hb dX11_clan_140 rfl (lv_at hl 2 rfl) ?_
                    refine g_callVi S hw (c_XH_owedTo_10 l D cI cC cI2 a κ σ n c.toNatClampNeg (by omega) (hn) (by omega)) gX11_clan_X2_owedTo rfl 10 rfl rfl 1 rfl (by decide +kernel) (by decide) (by decide) hl.1 rfl (Nat.le_of_ble_eq_true rfl) dX11_clan_141 (fun H locs hw => ?_)
                    refine lv_iadd hx hb dX11_clan_144 ?_
                    refine lv_aload_n hx hb dX11_clan_145 rfl (lv_at hl 0 rfl) ?_
                    refine lv_iload_n hx hb dX11_clan_146 rfl (lv_at hl 2 rfl) ?_
                    refine g_callVi S hw (c_XH_owedBy_10 l D cI cC cI2 a κ σ n c.toNatClampNeg (by omega) (hn) (by omega)) gX11_clan_X2_owedBy rfl 10 rfl rfl 1 rfl (by decide +kernel) (by decide) (by decide) hl.1 rfl (Nat.le_of_ble_eq_true rfl) dX11_clan_147 (fun H locs hw => ?_)
                    refine lv_isub hx hb dX11_clan_150 ?_
                    exact g_iret S hr hlk hw (by simp only [X_clan_r, if_neg c_1, if_pos c_2, if_neg s_3, if_neg s_4, if_neg s_5, if_neg s_6, if_neg s_7, if_neg s_8, if_pos s_9]) rfl dX11_clan_151
                  · refine lv_tableOut (tgt := 152) hx hb dX11_clan_44 (by have q0 := lv_neT (a := 0) s_3 (by decide); have q1 := lv_neT (a := 1) s_4 (by decide); have q2 := lv_neT (a := 2) s_5 (by decide); have q3 := lv_neT (a := 3) s_6 (by decide); have q4 := lv_neT (a := 4) s_7 (by decide); have q5 := lv_neT (a := 5) s_8 (by decide); have q6 := lv_neT (a := 6) s_9 (by decide); omega) (by decide) ?_
                    refine lv_bipush (v := (-102)) hx hb dX11_clan_152 (by decide) ?_
                    exact g_iret S hr hlk hw (by simp only [X_clan_r, if_neg c_1, if_pos c_2, if_neg s_3, if_neg s_4, if_neg s_5, if_neg s_6, if_neg s_7, if_neg s_8, if_neg s_9]) rfl dX11_clan_154
    · refine lv_iload_n hx hb dX11_clan_25 rfl (lv_at hl 3 rfl) ?_
      refine lv_bipush (v := 14) hx hb dX11_clan_26 (by decide) ?_
      refine lv_icmp_ge hx hb (tgt := 43) dX11_clan_28 (by decide) (fun c_10 => ?_) (fun c_10 => ?_)
      · refine lv_iload_n hx hb dX11_clan_43 rfl (lv_at hl 3 rfl) ?_
        by_cases s_11 : part = 0
        · refine lv_tableIn (off := 44) (tgt := 88) hx hb dX11_clan_44 (by rw [s_11]; decide) (by rw [s_11]; decide) (by rw [s_11]; rfl) (by decide) ?_
          refine lv_aload_n hx hb dX11_clan_88 rfl (lv_at hl 1 rfl) ?_
          refine g_get S hw hinX11 (fs := fX0 a σ) 0 rfl rfl 1 (by decide) lk2 (v := .ref (a 2)) rfl dX11_clan_89 ?_
          refine lv_iload_n hx hb dX11_clan_92 rfl (lv_at hl 2 rfl) ?_
          refine g_aald S hw (f := fun i => some (a (3 + κ i))) (i := c.toNatClampNeg) (v := a (3 + κ c.toNatClampNeg)) 2 1 rfl rfl rfl (by omega) (by decide) rfl dX11_clan_93 ?_
          refine g_kind5 (k := κ c.toNatClampNeg) (hk _ (by omega)) (G := fun j => ∀ (H : Heap) (locs : List Loc), gw D (tysX cI cC cI2) A s H locs (wX cI cC cI2 a κ σ) → W p l e (gR 4) s m ([.ref (a 0), .int c, .int part] : List Value).toArray below meth C H locs 0 0 (MQ below (gQi D (tysX cI cC cI2) (X_clan_r κ σ n c part) (wX cI cC cI2 a κ σ) A) ([.ref (a 0), .int c, .int part] : List Value).toArray s 0 0 A) (F0 m 97 ls (.int (nI j) :: []))) (P := fun j => W p l e (gR 4) s m ([.ref (a 0), .int c, .int part] : List Value).toArray below meth C _ _ 0 0 (MQ below (gQi D (tysX cI cC cI2) (X_clan_r κ σ n c part) (wX cI cC cI2 a κ σ) A) ([.ref (a 0), .int c, .int part] : List Value).toArray s 0 0 A) (F0 m 94 ls (.ref (a (3 + j)) :: []))) (fun kk => g_callVi S hw (c_X1_number l D (tysX cI cC cI2) (wX cI cC cI2 a κ σ) (a 3)) gX11_clan_X1_number rfl 3 rfl rfl 0 rfl (by decide +kernel) (by decide) (by decide) hl.1 rfl (Nat.le_of_ble_eq_true rfl) dX11_clan_94 kk) (fun kk => g_callUi S hw (c_X7_number l D (tysX cI cC cI2) (wX cI cC cI2 a κ σ) (a 4)) (va_cwO 0 hts gX11_clan_X7_number_u115X7 rfl rfl rfl lk3 (by decide +kernel) (g_hR (by decide) (by decide))) 4 rfl rfl hl.1 rfl (Nat.le_of_ble_eq_true rfl) dX11_clan_94 kk) (fun kk => g_callUi S hw (c_X6_number l D (tysX cI cC cI2) (wX cI cC cI2 a κ σ) (a 5)) (va_cwO 0 hts gX11_clan_X6_number_u115X6 rfl rfl rfl lk3 (by decide +kernel) (g_hR (by decide) (by decide))) 5 rfl rfl hl.1 rfl (Nat.le_of_ble_eq_true rfl) dX11_clan_94 kk) (fun kk => g_callUi S hw (c_X0_number l D (tysX cI cC cI2) (wX cI cC cI2 a κ σ) (a 6)) (va_cwO 0 hts gX11_clan_X0_number_u115X0 rfl rfl rfl lk3 (by decide +kernel) (g_hR (by decide) (by decide))) 6 rfl rfl hl.1 rfl (Nat.le_of_ble_eq_true rfl) dX11_clan_94 kk) (fun kk => g_callUi S hw (c_X3_number l D (tysX cI cC cI2) (wX cI cC cI2 a κ σ) (a 7)) (va_cwO 0 hts gX11_clan_X3_number_u115X3 rfl rfl rfl lk3 (by decide +kernel) (g_hR (by decide) (by decide))) 7 rfl rfl hl.1 rfl (Nat.le_of_ble_eq_true rfl) dX11_clan_94 kk) ?_
          intro H locs hw
          exact g_iret S hr hlk hw (by simp only [X_clan_r, if_neg c_1, if_neg c_2, if_pos c_10, if_pos s_11]) rfl dX11_clan_97
        · by_cases s_12 : part = 1
          · refine lv_tableIn (off := 54) (tgt := 98) hx hb dX11_clan_44 (by rw [s_12]; decide) (by rw [s_12]; decide) (by rw [s_12]; rfl) (by decide) ?_
            refine lv_aload_n hx hb dX11_clan_98 rfl (lv_at hl 0 rfl) ?_
            refine g_get S hw hinX2 (fs := fX10 a σ) 10 rfl rfl 1 (by decide) lk4 (v := .ref (a 11)) rfl dX11_clan_99 ?_
            refine lv_iload_n hx hb dX11_clan_102 rfl (lv_at hl 2 rfl) ?_
            refine g_iald S hw (f := σ 11) (i := c.toNatClampNeg) (x := σ 11 c.toNatClampNeg) 11 0 rfl rfl (by omega) (by decide) rfl dX11_clan_103 ?_
            exact g_iret S hr hlk hw (by simp only [X_clan_r, if_neg c_1, if_neg c_2, if_pos c_10, if_neg s_11, if_pos s_12]) rfl dX11_clan_104
          · by_cases s_13 : part = 2
            · refine lv_tableIn (off := 61) (tgt := 105) hx hb dX11_clan_44 (by rw [s_13]; decide) (by rw [s_13]; decide) (by rw [s_13]; rfl) (by decide) ?_
              refine lv_aload_n hx hb dX11_clan_105 rfl (lv_at hl 0 rfl) ?_
              refine lv_iload_n hx hb dX11_clan_106 rfl (lv_at hl 2 rfl) ?_
              refine g_callVi S hw (c_XH_askedBy_10 l D cI cC cI2 a κ σ c.toNatClampNeg (by omega) hk) gX11_clan_X2_askedBy rfl 10 rfl rfl 1 rfl (by decide +kernel) (by decide) (by decide) hl.1 rfl (Nat.le_of_ble_eq_true rfl) dX11_clan_107 (fun H locs hw => ?_)
              exact g_iret S hr hlk hw (by simp only [X_clan_r, if_neg c_1, if_neg c_2, if_pos c_10, if_neg s_11, if_neg s_12, if_pos s_13]) rfl dX11_clan_110
            · by_cases s_14 : part = 3
              · refine lv_tableIn (off := 67) (tgt := 111) hx hb dX11_clan_44 (by rw [s_14]; decide) (by rw [s_14]; decide) (by rw [s_14]; rfl) (by decide) ?_
                refine lv_aload_n hx hb dX11_clan_111 rfl (lv_at hl 0 rfl) ?_
                refine lv_iload_n hx hb dX11_clan_112 rfl (lv_at hl 2 rfl) ?_
                refine g_callVi S hw (c_XH_sparedBy_10 l D cI cC cI2 a κ σ c.toNatClampNeg (by omega) hk) gX11_clan_X2_sparedBy rfl 10 rfl rfl 1 rfl (by decide +kernel) (by decide) (by decide) hl.1 rfl (Nat.le_of_ble_eq_true rfl) dX11_clan_113 (fun H locs hw => ?_)
                exact g_iret S hr hlk hw (by simp only [X_clan_r, if_neg c_1, if_neg c_2, if_pos c_10, if_neg s_11, if_neg s_12, if_neg s_13, if_pos s_14]) rfl dX11_clan_116
              · by_cases s_15 : part = 4
                · refine lv_tableIn (off := 73) (tgt := 117) hx hb dX11_clan_44 (by rw [s_15]; decide) (by rw [s_15]; decide) (by rw [s_15]; rfl) (by decide) ?_
                  refine lv_aload_n hx hb dX11_clan_117 rfl (lv_at hl 0 rfl) ?_
                  refine lv_iload_n hx hb dX11_clan_118 rfl (lv_at hl 2 rfl) ?_
                  refine g_callVi S hw (c_XH_owedBy_10 l D cI cC cI2 a κ σ n c.toNatClampNeg (by omega) (hn) (by omega)) gX11_clan_X2_owedBy rfl 10 rfl rfl 1 rfl (by decide +kernel) (by decide) (by decide) hl.1 rfl (Nat.le_of_ble_eq_true rfl) dX11_clan_119 (fun H locs hw => ?_)
                  exact g_iret S hr hlk hw (by simp only [X_clan_r, if_neg c_1, if_neg c_2, if_pos c_10, if_neg s_11, if_neg s_12, if_neg s_13, if_neg s_14, if_pos s_15]) rfl dX11_clan_122
                · by_cases s_16 : part = 5
                  · refine lv_tableIn (off := 79) (tgt := 123) hx hb dX11_clan_44 (by rw [s_16]; decide) (by rw [s_16]; decide) (by rw [s_16]; rfl) (by decide) ?_
                    refine lv_aload_n hx hb dX11_clan_123 rfl (lv_at hl 0 rfl) ?_
                    refine lv_iload_n hx hb dX11_clan_124 rfl (lv_at hl 2 rfl) ?_
                    refine g_callVi S hw (c_XH_owedTo_10 l D cI cC cI2 a κ σ n c.toNatClampNeg (by omega) (hn) (by omega)) gX11_clan_X2_owedTo rfl 10 rfl rfl 1 rfl (by decide +kernel) (by decide) (by decide) hl.1 rfl (Nat.le_of_ble_eq_true rfl) dX11_clan_125 (fun H locs hw => ?_)
                    exact g_iret S hr hlk hw (by simp only [X_clan_r, if_neg c_1, if_neg c_2, if_pos c_10, if_neg s_11, if_neg s_12, if_neg s_13, if_neg s_14, if_neg s_15, if_pos s_16]) rfl dX11_clan_128
                  · by_cases s_17 : part = 6
                    · refine lv_tableIn (off := 85) (tgt := 129) hx hb dX11_clan_44 (by rw [s_17]; decide) (by rw [s_17]; decide) (by rw [s_17]; rfl) (by decide) ?_
                      refine lv_sipush (v := 1000) hx hb dX11_clan_129 (by decide) ?_
                      refine lv_aload_n hx hb dX11_clan_132 rfl (lv_at hl 0 rfl) ?_
                      refine g_get S hw hinX2 (fs := fX10 a σ) 10 rfl rfl 1 (by decide) lk4 (v := .ref (a 11)) rfl dX11_clan_133 ?_
                      refine lv_iload_n hx hb dX11_clan_136 rfl (lv_at hl 2 rfl) ?_
                      refine g_iald S hw (f := σ 11) (i := c.toNatClampNeg) (x := σ 11 c.toNatClampNeg) 11 0 rfl rfl (by omega) (by decide) rfl dX11_clan_137 ?_
                      refine lv_iadd hx hb dX11_clan_138 ?_
                      refine lv_aload_n hx hb dX11_clan_139 rfl (lv_at hl 0 rfl) ?_
                      refine lv_iload_n hx hb dX11_clan_140 rfl (lv_at hl 2 rfl) ?_
                      refine g_callVi S hw (c_XH_owedTo_10 l D cI cC cI2 a κ σ n c.toNatClampNeg (by omega) (hn) (by omega)) gX11_clan_X2_owedTo rfl 10 rfl rfl 1 rfl (by decide +kernel) (by decide) (by decide) hl.1 rfl (Nat.le_of_ble_eq_true rfl) dX11_clan_141 (fun H locs hw => ?_)
                      refine lv_iadd hx hb dX11_clan_144 ?_
                      refine lv_aload_n hx hb dX11_clan_145 rfl (lv_at hl 0 rfl) ?_
                      refine lv_iload_n hx hb dX11_clan_146 rfl (lv_at hl 2 rfl) ?_
                      refine g_callVi S hw (c_XH_owedBy_10 l D cI cC cI2 a κ σ n c.toNatClampNeg (by omega) (hn) (by omega)) gX11_clan_X2_owedBy rfl 10 rfl rfl 1 rfl (by decide +kernel) (by decide) (by decide) hl.1 rfl (Nat.le_of_ble_eq_true rfl) dX11_clan_147 (fun H locs hw => ?_)
                      refine lv_isub hx hb dX11_clan_150 ?_
                      exact g_iret S hr hlk hw (by simp only [X_clan_r, if_neg c_1, if_neg c_2, if_pos c_10, if_neg s_11, if_neg s_12, if_neg s_13, if_neg s_14, if_neg s_15, if_neg s_16, if_pos s_17]) rfl dX11_clan_151
                    · refine lv_tableOut (tgt := 152) hx hb dX11_clan_44 (by have q0 := lv_neT (a := 0) s_11 (by decide); have q1 := lv_neT (a := 1) s_12 (by decide); have q2 := lv_neT (a := 2) s_13 (by decide); have q3 := lv_neT (a := 3) s_14 (by decide); have q4 := lv_neT (a := 4) s_15 (by decide); have q5 := lv_neT (a := 5) s_16 (by decide); have q6 := lv_neT (a := 6) s_17 (by decide); omega) (by decide) ?_
                      refine lv_bipush (v := (-102)) hx hb dX11_clan_152 (by decide) ?_
                      exact g_iret S hr hlk hw (by simp only [X_clan_r, if_neg c_1, if_neg c_2, if_pos c_10, if_neg s_11, if_neg s_12, if_neg s_13, if_neg s_14, if_neg s_15, if_neg s_16, if_neg s_17]) rfl dX11_clan_154
      · obtain ⟨e2, b2, b3⟩ := X_in_rng (lo := 10) (hi := 14) (by decide) (by decide) c_2 c_10
        have hl : lv_has ls 4 [(3, .ref (a 10)), (0, .ref (a 0)), (1, .int (nI c.toNatClampNeg)), (2, .int (nI part.toNatClampNeg))] := by rw [← e2]; exact hl
        refine lv_aload_n hx hb dX11_clan_31 rfl (lv_at hl 0 rfl) ?_
        refine g_get S hw hinX2 (fs := fX10 a σ) 10 rfl rfl 2 (by decide) lk5 (v := .ref (a 12)) rfl dX11_clan_32 ?_
        refine lv_iload_n hx hb dX11_clan_35 rfl (lv_at hl 2 rfl) ?_
        refine g_aald S hw (f := fun i => some (a (13 + i))) (i := c.toNatClampNeg) (v := a (13 + c.toNatClampNeg)) 12 2 rfl rfl rfl (by omega) (by decide) rfl dX11_clan_36 ?_
        refine lv_iload_n hx hb dX11_clan_37 rfl (lv_at hl 3 rfl) ?_
        refine lv_bipush (v := 10) hx hb dX11_clan_38 (by decide) ?_
        refine ln_isub (x := part.toNatClampNeg) (y := 10) hx hb (by omega) dX11_clan_40 ?_
        refine g_iald S hw (f := dRow (σ 12) c.toNatClampNeg) (i := part.toNatClampNeg - 10) (x := σ 12 (4 * c.toNatClampNeg + (part.toNatClampNeg - 10))) (13 + c.toNatClampNeg) 0 (wX_dg10 _ _ _ _ _ _ (by omega)) rfl (by omega) (by decide) (dRow_lt (by omega)) dX11_clan_41 ?_
        exact g_iret S hr hlk hw (by simp only [X_clan_r, if_neg c_1, if_neg c_2, if_neg c_10]) rfl dX11_clan_42
  · refine lv_bipush (v := (-101)) hx hb dX11_clan_16 (by decide) ?_
    exact g_iret S hr hlk hw (by simp only [X_clan_r, if_pos c_1]) rfl dX11_clan_18

def X_rate_r (κ : Nat → Nat) (σ : Nat → Nat → Int32) (x : Int32) : Int32 := if (X_isRate_r x) = 0 then (-102) else (if (X_hasHills_r κ σ) = 0 then (-103) else (σ 10 4))
def X_rate_s (κ : Nat → Nat) (σ : Nat → Nat → Int32) (x : Int32) : Nat → Nat → Int32 := if (X_isRate_r x) = 0 then σ else (if (X_hasHills_r κ σ) = 0 then σ else (up2 σ 10 4 x))
theorem X_rate_s_k (κ : Nat → Nat) (σ : Nat → Nat → Int32) (x : Int32) (c9 : Nat) (q0 : c9 ≠ 10) : X_rate_s κ σ x c9 = σ c9 := by
  unfold X_rate_s
  by_cases z1 : (X_isRate_r x) = 0
  · refine Eq.trans (congrFun (if_pos z1) c9) ?_
    exact rfl
  · refine Eq.trans (congrFun (if_neg z1) c9) ?_
    by_cases z2 : (X_hasHills_r κ σ) = 0
    · refine Eq.trans (congrFun (if_pos z2) c9) ?_
      exact rfl
    · refine Eq.trans (congrFun (if_neg z2) c9) ?_
      exact up2_n _ _ _ q0
set_option maxHeartbeats 4000000 in
set_option maxRecDepth 100000 in
theorem c_X_rate (l : Launch) (D : va_G) (cI cC cI2 : ClassId) (a : Nat → Nat) (κ : Nat → Nat) (σ : Nat → Nat → Int32) (x : Int32) : gI l D (tysX cI cC cI2) yX11_rate wsX11_rate 2 [.ref (a 0), .int x] (wX cI cC cI2 a κ σ) (X_rate_r κ σ x) (wX cI cC cI2 a κ (X_rate_s κ σ x)) := by
  refine g_start (cc := cX11_rate) (maxL := 3) (ret := some .int) (Qc := gQi D (tysX cI cC cI2) (X_rate_r κ σ x) (wX cI cC cI2 a κ (X_rate_s κ σ x))) (by decide) rfl (Nat.le_of_ble_eq_true rfl) ?_
  intro p e s m below meth C A ls S hr hlk hw hl
  obtain ⟨hx, hb, hml, hown, hts⟩ := id S
  have hinX11 : ∀ x ∈ u_ws RX11 TX11 8, x ∈ wsX11_rate := fun x h => List.mem_cons_of_mem _ (List.mem_append_left _ (List.mem_append_left _ (List.mem_append_right _ h)))
  have hinX2 : ∀ x ∈ u_ws RX2 TX2 5, x ∈ wsX11_rate := fun x h => List.mem_cons_of_mem _ (List.mem_append_right _ h)
  have hinX8 : ∀ x ∈ u_ws RX8 TX8 5, x ∈ wsX11_rate := fun x h => List.mem_cons_of_mem _ (List.mem_append_left _ (List.mem_append_right _ h))
  have lk0 : Cond.fieldLink RX11 43 "CowsOwed" "now" "LCowsOwed$Times;" ∈ wsX11_rate := by decide +kernel
  have lk1 : Cond.fieldLink RX11 97 "CowsOwed$Times" "herds" "LCowsOwed$Herds;" ∈ wsX11_rate := by decide +kernel
  have lk2 : Cond.fieldLink RX11 140 "CowsOwed$Herds" "price" "I" ∈ wsX11_rate := by decide +kernel
  have hl : lv_has ls 3 [(0, .ref (a 0)), (1, .int x)] := hl
  refine lv_iload_n hx hb dX11_rate_0 rfl (lv_at hl 1 rfl) ?_
  refine g_callSi S hw (c_X_isRate l D (tysX cI cC cI2) (wX cI cC cI2 a κ σ) x) gX11_rate_X11_isRate rfl 1 rfl (by decide +kernel) (by decide) (by decide) hl.1 rfl (Nat.le_of_ble_eq_true rfl) dX11_rate_1 (fun H locs hw => ?_)
  refine lv_if_ne hx hb (tgt := 10) dX11_rate_4 (by decide) (fun c_1 => ?_) (fun c_1 => ?_)
  · refine lv_aload_n hx hb dX11_rate_10 rfl (lv_at hl 0 rfl) ?_
    refine g_callVi S hw (c_X_hasHills l D cI cC cI2 a κ σ) gX11_rate_X11_hasHills rfl 0 rfl rfl 0 rfl (by decide +kernel) (by decide) (by decide) hl.1 rfl (Nat.le_of_ble_eq_true rfl) dX11_rate_11 (fun H locs hw => ?_)
    refine lv_if_ne hx hb (tgt := 20) dX11_rate_14 (by decide) (fun c_2 => ?_) (fun c_2 => ?_)
    · refine lv_aload_n hx hb dX11_rate_20 rfl (lv_at hl 0 rfl) ?_
      refine g_get S hw hinX11 (fs := fX0 a σ) 0 rfl rfl 3 (by decide) lk0 (v := .ref (a 31)) rfl dX11_rate_21 ?_
      refine g_get S hw hinX8 (fs := fX31 a σ) 31 rfl rfl 0 (by decide) lk1 (v := .ref (a 10)) rfl dX11_rate_24 ?_
      refine g_get S hw hinX2 (fs := fX10 a σ) 10 rfl rfl 4 (by decide) lk2 (v := .int (σ 10 4)) rfl dX11_rate_27 ?_
      refine lv_istore_n (lv' := [(2, .int (σ 10 4)), (0, .ref (a 0)), (1, .int x)]) hx hb dX11_rate_30 rfl hl (by decide) rfl (fun ls hl => ?_)
      refine lv_aload_n hx hb dX11_rate_31 rfl (lv_at hl 1 rfl) ?_
      refine g_get S hw hinX11 (fs := fX0 a σ) 0 rfl rfl 3 (by decide) lk0 (v := .ref (a 31)) rfl dX11_rate_32 ?_
      refine g_get S hw hinX8 (fs := fX31 a σ) 31 rfl rfl 0 (by decide) lk1 (v := .ref (a 10)) rfl dX11_rate_35 ?_
      refine lv_iload_n hx hb dX11_rate_38 rfl (lv_at hl 2 rfl) ?_
      refine g_put S hw hinX2 tyX2 tyX2_ok nmX2 (fs := fX10 a σ) 10 rfl rfl 4 (by decide) lk2 rfl rfl rfl (Nat.le_of_ble_eq_true rfl) (w2 := wX cI cC cI2 a κ (up2 σ 10 4 x)) (wX_f10_4 _ _ _ _ _ _ _) dX11_rate_39 (fun H locs hw => ?_)
      refine lv_iload_n hx hb dX11_rate_42 rfl (lv_at hl 0 rfl) ?_
      exact g_iret S hr hlk hw (by simp only [X_rate_r, if_neg c_1, if_neg c_2]) (by simp only [X_rate_s, if_neg c_1, if_neg c_2]) dX11_rate_43
    · refine lv_bipush (v := (-103)) hx hb dX11_rate_17 (by decide) ?_
      exact g_iret S hr hlk hw (by simp only [X_rate_r, if_neg c_1, if_pos c_2]) (by simp only [X_rate_s, if_neg c_1, if_pos c_2]) dX11_rate_19
  · refine lv_bipush (v := (-102)) hx hb dX11_rate_7 (by decide) ?_
    exact g_iret S hr hlk hw (by simp only [X_rate_r, if_pos c_1]) (by simp only [X_rate_s, if_pos c_1]) dX11_rate_9

def X_wed_r (κ : Nat → Nat) (σ : Nat → Nat → Int32) (n : Nat) (wd : Nat) (c : Int32) (d : Int32) : Int32 := if (XH_knowsCouple_r 10 κ σ c d) = 0 then (-101) else (if wd < 12 then (XW_note_r κ (XH_marry_s 10 κ σ c.toNatClampNeg d.toNatClampNeg) wd (nI c.toNatClampNeg) (nI d.toNatClampNeg) (XH_marry_r 10 κ σ c.toNatClampNeg d.toNatClampNeg)) else (-104))
def X_wed_s (κ : Nat → Nat) (σ : Nat → Nat → Int32) (n : Nat) (wd : Nat) (c : Int32) (d : Int32) : Nat → Nat → Int32 := if (XH_knowsCouple_r 10 κ σ c d) = 0 then σ else (if wd < 12 then (XW_note_s κ (XH_marry_s 10 κ σ c.toNatClampNeg d.toNatClampNeg) wd (nI c.toNatClampNeg) (nI d.toNatClampNeg) (XH_marry_r 10 κ σ c.toNatClampNeg d.toNatClampNeg)) else σ)
theorem X_wed_s_k (κ : Nat → Nat) (σ : Nat → Nat → Int32) (n : Nat) (wd : Nat) (c : Int32) (d : Int32) (c9 : Nat) (q0 : c9 ≠ 11) (q1 : c9 ≠ 12) (q2 : c9 ≠ 32) (q3 : c9 ≠ 33) (q4 : c9 ≠ 34) (q5 : c9 ≠ 35) (q6 : c9 ≠ 36) : X_wed_s κ σ n wd c d c9 = σ c9 := by
  unfold X_wed_s
  by_cases z1 : (XH_knowsCouple_r 10 κ σ c d) = 0
  · refine Eq.trans (congrFun (if_pos z1) c9) ?_
    exact rfl
  · refine Eq.trans (congrFun (if_neg z1) c9) ?_
    by_cases z2 : wd < 12
    · refine Eq.trans (congrFun (if_pos z2) c9) ?_
      exact (XW_note_s_k κ (XH_marry_s 10 κ σ c.toNatClampNeg d.toNatClampNeg) wd (nI c.toNatClampNeg) (nI d.toNatClampNeg) (XH_marry_r 10 κ σ c.toNatClampNeg d.toNatClampNeg) c9 q2 q3 q4 q5 q6).trans (XH_marry_s_k 10 κ σ c.toNatClampNeg d.toNatClampNeg c9 q0 q1)
    · refine Eq.trans (congrFun (if_neg z2) c9) ?_
      exact rfl
set_option maxHeartbeats 4000000 in
set_option maxRecDepth 100000 in
theorem c_X_wed (l : Launch) (D : va_G) (cI cC cI2 : ClassId) (a : Nat → Nat) (κ : Nat → Nat) (σ : Nat → Nat → Int32) (n : Nat) (wd : Nat) (c : Int32) (d : Int32) (hn : σ 10 3 = nI n) (hnb : n ≤ 4) (hw0 : σ 32 4 = nI wd) (hw0b : wd ≤ 12) (hk : ∀ i, i < 4 → κ i < 5) : gI l D (tysX cI cC cI2) yX11_wed wsX11_wed 5 [.ref (a 0), .int c, .int d] (wX cI cC cI2 a κ σ) (X_wed_r κ σ n wd c d) (wX cI cC cI2 a κ (X_wed_s κ σ n wd c d)) := by
  refine g_start (cc := cX11_wed) (maxL := 4) (ret := some .int) (Qc := gQi D (tysX cI cC cI2) (X_wed_r κ σ n wd c d) (wX cI cC cI2 a κ (X_wed_s κ σ n wd c d))) (by decide) rfl (Nat.le_of_ble_eq_true rfl) ?_
  intro p e s m below meth C A ls S hr hlk hw hl
  obtain ⟨hx, hb, hml, hown, hts⟩ := id S
  have hinX10 : ∀ x ∈ u_ws RX10 TX10 5, x ∈ wsX11_wed := fun x h => List.mem_cons_of_mem _ (List.mem_append_left _ (List.mem_append_right _ h))
  have hinX11 : ∀ x ∈ u_ws RX11 TX11 8, x ∈ wsX11_wed := fun x h => List.mem_cons_of_mem _ (List.mem_append_left _ (List.mem_append_left _ (List.mem_append_left _ (List.mem_append_right _ h))))
  have hinX8 : ∀ x ∈ u_ws RX8 TX8 5, x ∈ wsX11_wed := fun x h => List.mem_cons_of_mem _ (List.mem_append_left _ (List.mem_append_left _ (List.mem_append_right _ h)))
  have lk0 : Cond.fieldLink RX11 43 "CowsOwed" "now" "LCowsOwed$Times;" ∈ wsX11_wed := by decide +kernel
  have lk1 : Cond.fieldLink RX11 97 "CowsOwed$Times" "herds" "LCowsOwed$Herds;" ∈ wsX11_wed := by decide +kernel
  have lk2 : Cond.fieldLink RX11 147 "CowsOwed$Times" "weddings" "LCowsOwed$Weddings;" ∈ wsX11_wed := by decide +kernel
  have lk3 : Cond.fieldLink RX11 151 "CowsOwed$Weddings" "size" "I" ∈ wsX11_wed := by decide +kernel
  have hl : lv_has ls 4 [(0, .ref (a 0)), (1, .int c), (2, .int d)] := hl
  refine lv_aload_n hx hb dX11_wed_0 rfl (lv_at hl 0 rfl) ?_
  refine g_get S hw hinX11 (fs := fX0 a σ) 0 rfl rfl 3 (by decide) lk0 (v := .ref (a 31)) rfl dX11_wed_1 ?_
  refine g_get S hw hinX8 (fs := fX31 a σ) 31 rfl rfl 0 (by decide) lk1 (v := .ref (a 10)) rfl dX11_wed_4 ?_
  refine lv_iload_n hx hb dX11_wed_7 rfl (lv_at hl 1 rfl) ?_
  refine lv_iload_n hx hb dX11_wed_8 rfl (lv_at hl 2 rfl) ?_
  refine g_callVi S hw (c_XH_knowsCouple_10 l D cI cC cI2 a κ σ c d) gX11_wed_X2_knowsCouple rfl 10 rfl rfl 2 rfl (by decide +kernel) (by decide) (by decide) hl.1 rfl (Nat.le_of_ble_eq_true rfl) dX11_wed_9 (fun H locs hw => ?_)
  refine lv_if_ne hx hb (tgt := 18) dX11_wed_12 (by decide) (fun c_1 => ?_) (fun c_1 => ?_)
  · obtain ⟨⟨e1, b1⟩, e2, b2⟩ := XH_couple_ok hn hnb c_1
    have hl : lv_has ls 4 [(0, .ref (a 0)), (1, .int (nI c.toNatClampNeg)), (2, .int (nI d.toNatClampNeg))] := by rw [← e1, ← e2]; exact hl
    refine lv_aload_n hx hb dX11_wed_18 rfl (lv_at hl 0 rfl) ?_
    refine g_get S hw hinX11 (fs := fX0 a σ) 0 rfl rfl 3 (by decide) lk0 (v := .ref (a 31)) rfl dX11_wed_19 ?_
    refine g_get S hw hinX8 (fs := fX31 a σ) 31 rfl rfl 1 (by decide) lk2 (v := .ref (a 32)) rfl dX11_wed_22 ?_
    refine g_get S hw hinX10 (fs := fX32 a σ) 32 rfl rfl 4 (by decide) lk3 (v := .int (nI wd)) (congrArg (fun z => some (Value.int z)) (hw0)) dX11_wed_25 ?_
    refine lv_bipush (v := 12) hx hb dX11_wed_28 (by decide) ?_
    refine ln_lt (x := wd) (y := 12) hx hb (by omega) (by omega) (tgt := 36) dX11_wed_30 (by decide) (fun c_2 => ?_) (fun c_2 => ?_)
    · refine lv_aload_n hx hb dX11_wed_36 rfl (lv_at hl 0 rfl) ?_
      refine g_get S hw hinX11 (fs := fX0 a σ) 0 rfl rfl 3 (by decide) lk0 (v := .ref (a 31)) rfl dX11_wed_37 ?_
      refine g_get S hw hinX8 (fs := fX31 a σ) 31 rfl rfl 0 (by decide) lk1 (v := .ref (a 10)) rfl dX11_wed_40 ?_
      refine lv_iload_n hx hb dX11_wed_43 rfl (lv_at hl 1 rfl) ?_
      refine lv_iload_n hx hb dX11_wed_44 rfl (lv_at hl 2 rfl) ?_
      refine g_callVi S hw (c_XH_marry_10 l D cI cC cI2 a κ σ c.toNatClampNeg d.toNatClampNeg (by omega) (by omega) hk) gX11_wed_X2_marry rfl 10 rfl rfl 2 rfl (by decide +kernel) (by decide) (by decide) hl.1 rfl (Nat.le_of_ble_eq_true rfl) dX11_wed_45 (fun H locs hw => ?_)
      refine lv_istore_n (lv' := [(3, .int (XH_marry_r 10 κ σ c.toNatClampNeg d.toNatClampNeg)), (0, .ref (a 0)), (1, .int (nI c.toNatClampNeg)), (2, .int (nI d.toNatClampNeg))]) hx hb dX11_wed_48 rfl hl (by decide) rfl (fun ls hl => ?_)
      refine lv_aload_n hx hb dX11_wed_49 rfl (lv_at hl 1 rfl) ?_
      refine g_get S hw hinX11 (fs := fX0 a (XH_marry_s 10 κ σ c.toNatClampNeg d.toNatClampNeg)) 0 rfl rfl 3 (by decide) lk0 (v := .ref (a 31)) rfl dX11_wed_50 ?_
      refine g_get S hw hinX8 (fs := fX31 a (XH_marry_s 10 κ σ c.toNatClampNeg d.toNatClampNeg)) 31 rfl rfl 1 (by decide) lk2 (v := .ref (a 32)) rfl dX11_wed_53 ?_
      refine lv_iload_n hx hb dX11_wed_56 rfl (lv_at hl 2 rfl) ?_
      refine lv_iload_n hx hb dX11_wed_57 rfl (lv_at hl 3 rfl) ?_
      refine lv_iload_n hx hb dX11_wed_58 rfl (lv_at hl 0 rfl) ?_
      refine g_callVi S hw (c_XW_note l D cI cC cI2 a κ (XH_marry_s 10 κ σ c.toNatClampNeg d.toNatClampNeg) wd (nI c.toNatClampNeg) (nI d.toNatClampNeg) (XH_marry_r 10 κ σ c.toNatClampNeg d.toNatClampNeg) ((congrFun (XH_marry_s_k 10 κ σ c.toNatClampNeg d.toNatClampNeg 32 (by omega) (by omega)) 4).trans (hw0)) (by omega)) gX11_wed_X10_note rfl 32 rfl rfl 3 rfl (by decide +kernel) (by decide) (by decide) hl.1 rfl (Nat.le_of_ble_eq_true rfl) dX11_wed_59 (fun H locs hw => ?_)
      exact g_iret S hr hlk hw (by simp only [X_wed_r, if_neg c_1, if_pos c_2]) (by simp only [X_wed_s, if_neg c_1, if_pos c_2]) dX11_wed_62
    · refine lv_bipush (v := (-104)) hx hb dX11_wed_33 (by decide) ?_
      exact g_iret S hr hlk hw (by simp only [X_wed_r, if_neg c_1, if_neg c_2]) (by simp only [X_wed_s, if_neg c_1, if_neg c_2]) dX11_wed_35
  · refine lv_bipush (v := (-101)) hx hb dX11_wed_15 (by decide) ?_
    exact g_iret S hr hlk hw (by simp only [X_wed_r, if_pos c_1]) (by simp only [X_wed_s, if_pos c_1]) dX11_wed_17

def X_wedding_r (κ : Nat → Nat) (σ : Nat → Nat → Int32) (wd : Nat) (c : Int32) (part : Int32) : Int32 := if (XW_knows_r κ σ c) = 0 then (-101) else (if part = 0 then (σ 33 c.toNatClampNeg) else (if part = 1 then (σ 34 c.toNatClampNeg) else (if part = 2 then (σ 35 c.toNatClampNeg) else (if part = 3 then (σ 36 c.toNatClampNeg) else (-102)))))
set_option maxHeartbeats 4000000 in
set_option maxRecDepth 100000 in
theorem c_X_wedding (l : Launch) (D : va_G) (cI cC cI2 : ClassId) (a : Nat → Nat) (κ : Nat → Nat) (σ : Nat → Nat → Int32) (wd : Nat) (c : Int32) (part : Int32) (hw0 : σ 32 4 = nI wd) (hw0b : wd ≤ 12) : gI l D (tysX cI cC cI2) yX11_wedding wsX11_wedding 2 [.ref (a 0), .int c, .int part] (wX cI cC cI2 a κ σ) (X_wedding_r κ σ wd c part) (wX cI cC cI2 a κ σ) := by
  refine g_start (cc := cX11_wedding) (maxL := 4) (ret := some .int) (Qc := gQi D (tysX cI cC cI2) (X_wedding_r κ σ wd c part) (wX cI cC cI2 a κ σ)) (by decide) rfl (Nat.le_of_ble_eq_true rfl) ?_
  intro p e s m below meth C A ls S hr hlk hw hl
  obtain ⟨hx, hb, hml, hown, hts⟩ := id S
  have hinX10 : ∀ x ∈ u_ws RX10 TX10 5, x ∈ wsX11_wedding := fun x h => List.mem_cons_of_mem _ (List.mem_append_right _ h)
  have hinX11 : ∀ x ∈ u_ws RX11 TX11 8, x ∈ wsX11_wedding := fun x h => List.mem_cons_of_mem _ (List.mem_append_left _ (List.mem_append_left _ (List.mem_append_right _ h)))
  have hinX8 : ∀ x ∈ u_ws RX8 TX8 5, x ∈ wsX11_wedding := fun x h => List.mem_cons_of_mem _ (List.mem_append_left _ (List.mem_append_right _ h))
  have lk0 : Cond.fieldLink RX11 43 "CowsOwed" "now" "LCowsOwed$Times;" ∈ wsX11_wedding := by decide +kernel
  have lk1 : Cond.fieldLink RX11 147 "CowsOwed$Times" "weddings" "LCowsOwed$Weddings;" ∈ wsX11_wedding := by decide +kernel
  have lk2 : Cond.fieldLink RX11 163 "CowsOwed$Weddings" "his" "[I" ∈ wsX11_wedding := by decide +kernel
  have lk3 : Cond.fieldLink RX11 166 "CowsOwed$Weddings" "hers" "[I" ∈ wsX11_wedding := by decide +kernel
  have lk4 : Cond.fieldLink RX11 169 "CowsOwed$Weddings" "asked" "[I" ∈ wsX11_wedding := by decide +kernel
  have lk5 : Cond.fieldLink RX11 172 "CowsOwed$Weddings" "undone" "[I" ∈ wsX11_wedding := by decide +kernel
  have hl : lv_has ls 4 [(0, .ref (a 0)), (1, .int c), (2, .int part)] := hl
  refine lv_aload_n hx hb dX11_wedding_0 rfl (lv_at hl 0 rfl) ?_
  refine g_get S hw hinX11 (fs := fX0 a σ) 0 rfl rfl 3 (by decide) lk0 (v := .ref (a 31)) rfl dX11_wedding_1 ?_
  refine g_get S hw hinX8 (fs := fX31 a σ) 31 rfl rfl 1 (by decide) lk1 (v := .ref (a 32)) rfl dX11_wedding_4 ?_
  refine lv_astore_n (lv' := [(3, .ref (a 32)), (0, .ref (a 0)), (1, .int c), (2, .int part)]) hx hb dX11_wedding_7 rfl hl (by decide) rfl (fun ls hl => ?_)
  refine lv_aload_n hx hb dX11_wedding_8 rfl (lv_at hl 0 rfl) ?_
  refine lv_iload_n hx hb dX11_wedding_9 rfl (lv_at hl 2 rfl) ?_
  refine g_callVi S hw (c_XW_knows l D cI cC cI2 a κ σ c) gX11_wedding_X10_knows rfl 32 rfl rfl 1 rfl (by decide +kernel) (by decide) (by decide) hl.1 rfl (Nat.le_of_ble_eq_true rfl) dX11_wedding_10 (fun H locs hw => ?_)
  refine lv_if_ne hx hb (tgt := 19) dX11_wedding_13 (by decide) (fun c_1 => ?_) (fun c_1 => ?_)
  · obtain ⟨e1, b1⟩ := XW_knows_ok hw0 hw0b c_1
    have hl : lv_has ls 4 [(3, .ref (a 32)), (0, .ref (a 0)), (1, .int (nI c.toNatClampNeg)), (2, .int part)] := by rw [← e1]; exact hl
    refine lv_iload_n hx hb dX11_wedding_19 rfl (lv_at hl 3 rfl) ?_
    by_cases s_2 : part = 0
    · refine lv_tableIn (off := 32) (tgt := 52) hx hb dX11_wedding_20 (by rw [s_2]; decide) (by rw [s_2]; decide) (by rw [s_2]; rfl) (by decide) ?_
      refine lv_aload_n hx hb dX11_wedding_52 rfl (lv_at hl 0 rfl) ?_
      refine g_get S hw hinX10 (fs := fX32 a σ) 32 rfl rfl 0 (by decide) lk2 (v := .ref (a 33)) rfl dX11_wedding_53 ?_
      refine lv_iload_n hx hb dX11_wedding_56 rfl (lv_at hl 2 rfl) ?_
      refine g_iald S hw (f := σ 33) (i := c.toNatClampNeg) (x := σ 33 c.toNatClampNeg) 33 0 rfl rfl (by omega) (by decide) rfl dX11_wedding_57 ?_
      exact g_iret S hr hlk hw (by simp only [X_wedding_r, if_neg c_1, if_pos s_2]) rfl dX11_wedding_58
    · by_cases s_3 : part = 1
      · refine lv_tableIn (off := 39) (tgt := 59) hx hb dX11_wedding_20 (by rw [s_3]; decide) (by rw [s_3]; decide) (by rw [s_3]; rfl) (by decide) ?_
        refine lv_aload_n hx hb dX11_wedding_59 rfl (lv_at hl 0 rfl) ?_
        refine g_get S hw hinX10 (fs := fX32 a σ) 32 rfl rfl 1 (by decide) lk3 (v := .ref (a 34)) rfl dX11_wedding_60 ?_
        refine lv_iload_n hx hb dX11_wedding_63 rfl (lv_at hl 2 rfl) ?_
        refine g_iald S hw (f := σ 34) (i := c.toNatClampNeg) (x := σ 34 c.toNatClampNeg) 34 0 rfl rfl (by omega) (by decide) rfl dX11_wedding_64 ?_
        exact g_iret S hr hlk hw (by simp only [X_wedding_r, if_neg c_1, if_neg s_2, if_pos s_3]) rfl dX11_wedding_65
      · by_cases s_4 : part = 2
        · refine lv_tableIn (off := 46) (tgt := 66) hx hb dX11_wedding_20 (by rw [s_4]; decide) (by rw [s_4]; decide) (by rw [s_4]; rfl) (by decide) ?_
          refine lv_aload_n hx hb dX11_wedding_66 rfl (lv_at hl 0 rfl) ?_
          refine g_get S hw hinX10 (fs := fX32 a σ) 32 rfl rfl 2 (by decide) lk4 (v := .ref (a 35)) rfl dX11_wedding_67 ?_
          refine lv_iload_n hx hb dX11_wedding_70 rfl (lv_at hl 2 rfl) ?_
          refine g_iald S hw (f := σ 35) (i := c.toNatClampNeg) (x := σ 35 c.toNatClampNeg) 35 0 rfl rfl (by omega) (by decide) rfl dX11_wedding_71 ?_
          exact g_iret S hr hlk hw (by simp only [X_wedding_r, if_neg c_1, if_neg s_2, if_neg s_3, if_pos s_4]) rfl dX11_wedding_72
        · by_cases s_5 : part = 3
          · refine lv_tableIn (off := 53) (tgt := 73) hx hb dX11_wedding_20 (by rw [s_5]; decide) (by rw [s_5]; decide) (by rw [s_5]; rfl) (by decide) ?_
            refine lv_aload_n hx hb dX11_wedding_73 rfl (lv_at hl 0 rfl) ?_
            refine g_get S hw hinX10 (fs := fX32 a σ) 32 rfl rfl 3 (by decide) lk5 (v := .ref (a 36)) rfl dX11_wedding_74 ?_
            refine lv_iload_n hx hb dX11_wedding_77 rfl (lv_at hl 2 rfl) ?_
            refine g_iald S hw (f := σ 36) (i := c.toNatClampNeg) (x := σ 36 c.toNatClampNeg) 36 0 rfl rfl (by omega) (by decide) rfl dX11_wedding_78 ?_
            exact g_iret S hr hlk hw (by simp only [X_wedding_r, if_neg c_1, if_neg s_2, if_neg s_3, if_neg s_4, if_pos s_5]) rfl dX11_wedding_79
          · refine lv_tableOut (tgt := 80) hx hb dX11_wedding_20 (by have q0 := lv_neT (a := 0) s_2 (by decide); have q1 := lv_neT (a := 1) s_3 (by decide); have q2 := lv_neT (a := 2) s_4 (by decide); have q3 := lv_neT (a := 3) s_5 (by decide); omega) (by decide) ?_
            refine lv_bipush (v := (-102)) hx hb dX11_wedding_80 (by decide) ?_
            exact g_iret S hr hlk hw (by simp only [X_wedding_r, if_neg c_1, if_neg s_2, if_neg s_3, if_neg s_4, if_neg s_5]) rfl dX11_wedding_82
  · refine lv_bipush (v := (-101)) hx hb dX11_wedding_16 (by decide) ?_
    exact g_iret S hr hlk hw (by simp only [X_wedding_r, if_pos c_1]) rfl dX11_wedding_18

def X_divorce_r (κ : Nat → Nat) (σ : Nat → Nat → Int32) (wd : Nat) (c : Int32) : Int32 := if (XW_knows_r κ σ c) = 0 then (-101) else (if (σ 36 c.toNatClampNeg) = 0 then (XH_pay_r 10 κ (up2 σ 36 c.toNatClampNeg 1) (((up2 σ 36 c.toNatClampNeg 1) 34 c.toNatClampNeg).toNatClampNeg) (((up2 σ 36 c.toNatClampNeg 1) 33 c.toNatClampNeg).toNatClampNeg) (σ 35 c.toNatClampNeg)) else (-103))
def X_divorce_s (κ : Nat → Nat) (σ : Nat → Nat → Int32) (wd : Nat) (c : Int32) : Nat → Nat → Int32 := if (XW_knows_r κ σ c) = 0 then σ else (if (σ 36 c.toNatClampNeg) = 0 then (XH_pay_s 10 κ (up2 σ 36 c.toNatClampNeg 1) (((up2 σ 36 c.toNatClampNeg 1) 34 c.toNatClampNeg).toNatClampNeg) (((up2 σ 36 c.toNatClampNeg 1) 33 c.toNatClampNeg).toNatClampNeg) (σ 35 c.toNatClampNeg)) else σ)
theorem X_divorce_s_k (κ : Nat → Nat) (σ : Nat → Nat → Int32) (wd : Nat) (c : Int32) (c9 : Nat) (q0 : c9 ≠ 11) (q1 : c9 ≠ 12) (q2 : c9 ≠ 36) : X_divorce_s κ σ wd c c9 = σ c9 := by
  unfold X_divorce_s
  by_cases z1 : (XW_knows_r κ σ c) = 0
  · refine Eq.trans (congrFun (if_pos z1) c9) ?_
    exact rfl
  · refine Eq.trans (congrFun (if_neg z1) c9) ?_
    by_cases z2 : (σ 36 c.toNatClampNeg) = 0
    · refine Eq.trans (congrFun (if_pos z2) c9) ?_
      exact (XH_pay_s_k 10 κ (up2 σ 36 c.toNatClampNeg 1) (((up2 σ 36 c.toNatClampNeg 1) 34 c.toNatClampNeg).toNatClampNeg) (((up2 σ 36 c.toNatClampNeg 1) 33 c.toNatClampNeg).toNatClampNeg) (σ 35 c.toNatClampNeg) c9 q0 q1).trans (up2_n _ _ _ q2)
    · refine Eq.trans (congrFun (if_neg z2) c9) ?_
      exact rfl
set_option maxHeartbeats 4000000 in
set_option maxRecDepth 100000 in
theorem c_X_divorce (l : Launch) (D : va_G) (cI cC cI2 : ClassId) (a : Nat → Nat) (κ : Nat → Nat) (σ : Nat → Nat → Int32) (wd : Nat) (c : Int32) (hw0 : σ 32 4 = nI wd) (hw0b : wd ≤ 12) (h33 : natRow (σ 33) wd 4) (h34 : natRow (σ 34) wd 4) (hk : ∀ i, i < 4 → κ i < 5) : gI l D (tysX cI cC cI2) yX11_divorce wsX11_divorce 4 [.ref (a 0), .int c] (wX cI cC cI2 a κ σ) (X_divorce_r κ σ wd c) (wX cI cC cI2 a κ (X_divorce_s κ σ wd c)) := by
  refine g_start (cc := cX11_divorce) (maxL := 3) (ret := some .int) (Qc := gQi D (tysX cI cC cI2) (X_divorce_r κ σ wd c) (wX cI cC cI2 a κ (X_divorce_s κ σ wd c))) (by decide) rfl (Nat.le_of_ble_eq_true rfl) ?_
  intro p e s m below meth C A ls S hr hlk hw hl
  obtain ⟨hx, hb, hml, hown, hts⟩ := id S
  have hinX10 : ∀ x ∈ u_ws RX10 TX10 5, x ∈ wsX11_divorce := fun x h => List.mem_cons_of_mem _ (List.mem_append_left _ (List.mem_append_right _ h))
  have hinX11 : ∀ x ∈ u_ws RX11 TX11 8, x ∈ wsX11_divorce := fun x h => List.mem_cons_of_mem _ (List.mem_append_left _ (List.mem_append_left _ (List.mem_append_left _ (List.mem_append_right _ h))))
  have hinX8 : ∀ x ∈ u_ws RX8 TX8 5, x ∈ wsX11_divorce := fun x h => List.mem_cons_of_mem _ (List.mem_append_left _ (List.mem_append_left _ (List.mem_append_right _ h)))
  have lk0 : Cond.fieldLink RX11 43 "CowsOwed" "now" "LCowsOwed$Times;" ∈ wsX11_divorce := by decide +kernel
  have lk1 : Cond.fieldLink RX11 147 "CowsOwed$Times" "weddings" "LCowsOwed$Weddings;" ∈ wsX11_divorce := by decide +kernel
  have lk2 : Cond.fieldLink RX11 172 "CowsOwed$Weddings" "undone" "[I" ∈ wsX11_divorce := by decide +kernel
  have lk3 : Cond.fieldLink RX11 97 "CowsOwed$Times" "herds" "LCowsOwed$Herds;" ∈ wsX11_divorce := by decide +kernel
  have lk4 : Cond.fieldLink RX11 166 "CowsOwed$Weddings" "hers" "[I" ∈ wsX11_divorce := by decide +kernel
  have lk5 : Cond.fieldLink RX11 163 "CowsOwed$Weddings" "his" "[I" ∈ wsX11_divorce := by decide +kernel
  have lk6 : Cond.fieldLink RX11 169 "CowsOwed$Weddings" "asked" "[I" ∈ wsX11_divorce := by decide +kernel
  have hl : lv_has ls 3 [(0, .ref (a 0)), (1, .int c)] := hl
  refine lv_aload_n hx hb dX11_divorce_0 rfl (lv_at hl 0 rfl) ?_
  refine g_get S hw hinX11 (fs := fX0 a σ) 0 rfl rfl 3 (by decide) lk0 (v := .ref (a 31)) rfl dX11_divorce_1 ?_
  refine g_get S hw hinX8 (fs := fX31 a σ) 31 rfl rfl 1 (by decide) lk1 (v := .ref (a 32)) rfl dX11_divorce_4 ?_
  refine lv_astore_n (lv' := [(2, .ref (a 32)), (0, .ref (a 0)), (1, .int c)]) hx hb dX11_divorce_7 rfl hl (by decide) rfl (fun ls hl => ?_)
  refine lv_aload_n hx hb dX11_divorce_8 rfl (lv_at hl 0 rfl) ?_
  refine lv_iload_n hx hb dX11_divorce_9 rfl (lv_at hl 2 rfl) ?_
  refine g_callVi S hw (c_XW_knows l D cI cC cI2 a κ σ c) gX11_divorce_X10_knows rfl 32 rfl rfl 1 rfl (by decide +kernel) (by decide) (by decide) hl.1 rfl (Nat.le_of_ble_eq_true rfl) dX11_divorce_10 (fun H locs hw => ?_)
  refine lv_if_ne hx hb (tgt := 19) dX11_divorce_13 (by decide) (fun c_1 => ?_) (fun c_1 => ?_)
  · obtain ⟨e1, b1⟩ := XW_knows_ok hw0 hw0b c_1
    have hl : lv_has ls 3 [(2, .ref (a 32)), (0, .ref (a 0)), (1, .int (nI c.toNatClampNeg))] := by rw [← e1]; exact hl
    refine lv_aload_n hx hb dX11_divorce_19 rfl (lv_at hl 0 rfl) ?_
    refine g_get S hw hinX10 (fs := fX32 a σ) 32 rfl rfl 3 (by decide) lk2 (v := .ref (a 36)) rfl dX11_divorce_20 ?_
    refine lv_iload_n hx hb dX11_divorce_23 rfl (lv_at hl 2 rfl) ?_
    refine g_iald S hw (f := σ 36) (i := c.toNatClampNeg) (x := σ 36 c.toNatClampNeg) 36 0 rfl rfl (by omega) (by decide) rfl dX11_divorce_24 ?_
    refine lv_if_eq hx hb (tgt := 31) dX11_divorce_25 (by decide) (fun c_2 => ?_) (fun c_2 => ?_)
    · refine lv_aload_n hx hb dX11_divorce_31 rfl (lv_at hl 0 rfl) ?_
      refine g_get S hw hinX10 (fs := fX32 a σ) 32 rfl rfl 3 (by decide) lk2 (v := .ref (a 36)) rfl dX11_divorce_32 ?_
      refine lv_iload_n hx hb dX11_divorce_35 rfl (lv_at hl 2 rfl) ?_
      refine lv_iconst (v := 1) hx hb dX11_divorce_36 (by decide) ?_
      refine g_iast S hw (f := σ 36) (i := c.toNatClampNeg) 36 0 rfl rfl (by omega) (by decide) (w2 := wX cI cC cI2 a κ (up2 σ 36 c.toNatClampNeg 1)) (wX_a36 _ _ _ _ _ _ _ _) dX11_divorce_37 (fun H locs hw => ?_)
      refine lv_aload_n hx hb dX11_divorce_38 rfl (lv_at hl 1 rfl) ?_
      refine g_get S hw hinX11 (fs := fX0 a (up2 σ 36 c.toNatClampNeg 1)) 0 rfl rfl 3 (by decide) lk0 (v := .ref (a 31)) rfl dX11_divorce_39 ?_
      refine g_get S hw hinX8 (fs := fX31 a (up2 σ 36 c.toNatClampNeg 1)) 31 rfl rfl 0 (by decide) lk3 (v := .ref (a 10)) rfl dX11_divorce_42 ?_
      refine lv_aload_n hx hb dX11_divorce_45 rfl (lv_at hl 0 rfl) ?_
      refine g_get S hw hinX10 (fs := fX32 a (up2 σ 36 c.toNatClampNeg 1)) 32 rfl rfl 1 (by decide) lk4 (v := .ref (a 34)) rfl dX11_divorce_46 ?_
      refine lv_iload_n hx hb dX11_divorce_49 rfl (lv_at hl 2 rfl) ?_
      have q3a : natRow ((up2 σ 36 c.toNatClampNeg 1) 34) wd 4 := Eq.mpr (congrArg (fun z => natRow z wd 4) (up2_n _ _ _ (by omega))) h34
      have q3 := q3a c.toNatClampNeg (by omega)
      have q3b := q3.2
      refine g_iald S hw (f := (up2 σ 36 c.toNatClampNeg 1) 34) (i := c.toNatClampNeg) (x := nI (((up2 σ 36 c.toNatClampNeg 1) 34 c.toNatClampNeg).toNatClampNeg)) 34 0 rfl rfl (by omega) (by decide) q3.1 dX11_divorce_50 ?_
      refine lv_aload_n hx hb dX11_divorce_51 rfl (lv_at hl 0 rfl) ?_
      refine g_get S hw hinX10 (fs := fX32 a (up2 σ 36 c.toNatClampNeg 1)) 32 rfl rfl 0 (by decide) lk5 (v := .ref (a 33)) rfl dX11_divorce_52 ?_
      refine lv_iload_n hx hb dX11_divorce_55 rfl (lv_at hl 2 rfl) ?_
      have q4a : natRow ((up2 σ 36 c.toNatClampNeg 1) 33) wd 4 := Eq.mpr (congrArg (fun z => natRow z wd 4) (up2_n _ _ _ (by omega))) h33
      have q4 := q4a c.toNatClampNeg (by omega)
      have q4b := q4.2
      refine g_iald S hw (f := (up2 σ 36 c.toNatClampNeg 1) 33) (i := c.toNatClampNeg) (x := nI (((up2 σ 36 c.toNatClampNeg 1) 33 c.toNatClampNeg).toNatClampNeg)) 33 0 rfl rfl (by omega) (by decide) q4.1 dX11_divorce_56 ?_
      refine lv_aload_n hx hb dX11_divorce_57 rfl (lv_at hl 0 rfl) ?_
      refine g_get S hw hinX10 (fs := fX32 a (up2 σ 36 c.toNatClampNeg 1)) 32 rfl rfl 2 (by decide) lk6 (v := .ref (a 35)) rfl dX11_divorce_58 ?_
      refine lv_iload_n hx hb dX11_divorce_61 rfl (lv_at hl 2 rfl) ?_
      refine g_iald S hw (f := (up2 σ 36 c.toNatClampNeg 1) 35) (i := c.toNatClampNeg) (x := σ 35 c.toNatClampNeg) 35 0 rfl rfl (by omega) (by decide) (up2_rn (by omega)) dX11_divorce_62 ?_
      refine g_callVi S hw (c_XH_pay_10 l D cI cC cI2 a κ (up2 σ 36 c.toNatClampNeg 1) (((up2 σ 36 c.toNatClampNeg 1) 34 c.toNatClampNeg).toNatClampNeg) (((up2 σ 36 c.toNatClampNeg 1) 33 c.toNatClampNeg).toNatClampNeg) (σ 35 c.toNatClampNeg) (by omega) (by omega) hk) gX11_divorce_X2_pay rfl 10 rfl rfl 3 rfl (by decide +kernel) (by decide) (by decide) hl.1 rfl (Nat.le_of_ble_eq_true rfl) dX11_divorce_63 (fun H locs hw => ?_)
      exact g_iret S hr hlk hw (by simp only [X_divorce_r, if_neg c_1, if_pos c_2]) (by simp only [X_divorce_s, if_neg c_1, if_pos c_2]) dX11_divorce_66
    · refine lv_bipush (v := (-103)) hx hb dX11_divorce_28 (by decide) ?_
      exact g_iret S hr hlk hw (by simp only [X_divorce_r, if_neg c_1, if_neg c_2]) (by simp only [X_divorce_s, if_neg c_1, if_neg c_2]) dX11_divorce_30
  · refine lv_bipush (v := (-101)) hx hb dX11_divorce_16 (by decide) ?_
    exact g_iret S hr hlk hw (by simp only [X_divorce_r, if_pos c_1]) (by simp only [X_divorce_s, if_pos c_1]) dX11_divorce_18

def X_year_r (κ : Nat → Nat) (σ : Nat → Nat → Int32) (n : Nat) : Int32 := if (X_hasHills_r κ σ) = 0 then (-103) else (XH_allOwed_r 10 κ (up2 (XH_passYear_s 10 κ σ n) 31 4 ((σ 31 4) + 1)) n)
def X_year_s (κ : Nat → Nat) (σ : Nat → Nat → Int32) (n : Nat) : Nat → Nat → Int32 := if (X_hasHills_r κ σ) = 0 then σ else (up2 (XH_passYear_s 10 κ σ n) 31 4 ((σ 31 4) + 1))
theorem X_year_s_k (κ : Nat → Nat) (σ : Nat → Nat → Int32) (n : Nat) (c9 : Nat) (q0 : c9 ≠ 11) (q1 : c9 ≠ 12) (q2 : c9 ≠ 31) : X_year_s κ σ n c9 = σ c9 := by
  unfold X_year_s
  by_cases z1 : (X_hasHills_r κ σ) = 0
  · refine Eq.trans (congrFun (if_pos z1) c9) ?_
    exact rfl
  · refine Eq.trans (congrFun (if_neg z1) c9) ?_
    exact (up2_n _ _ _ q2).trans (XH_passYear_s_k 10 κ σ n c9 q0 q1)
set_option maxHeartbeats 4000000 in
set_option maxRecDepth 100000 in
theorem c_X_year (l : Launch) (D : va_G) (cI cC cI2 : ClassId) (a : Nat → Nat) (κ : Nat → Nat) (σ : Nat → Nat → Int32) (n : Nat) (hn : σ 10 3 = nI n) (hnb : n ≤ 4) (hk : ∀ i, i < 4 → κ i < 5) : gI l D (tysX cI cC cI2) yX11_year wsX11_year 6 [.ref (a 0)] (wX cI cC cI2 a κ σ) (X_year_r κ σ n) (wX cI cC cI2 a κ (X_year_s κ σ n)) := by
  refine g_start (cc := cX11_year) (maxL := 1) (ret := some .int) (Qc := gQi D (tysX cI cC cI2) (X_year_r κ σ n) (wX cI cC cI2 a κ (X_year_s κ σ n))) (by decide) rfl (Nat.le_of_ble_eq_true rfl) ?_
  intro p e s m below meth C A ls S hr hlk hw hl
  obtain ⟨hx, hb, hml, hown, hts⟩ := id S
  have hinX11 : ∀ x ∈ u_ws RX11 TX11 8, x ∈ wsX11_year := fun x h => List.mem_cons_of_mem _ (List.mem_append_left _ (List.mem_append_left _ (List.mem_append_right _ h)))
  have hinX8 : ∀ x ∈ u_ws RX8 TX8 5, x ∈ wsX11_year := fun x h => List.mem_cons_of_mem _ (List.mem_append_left _ (List.mem_append_right _ h))
  have lk0 : Cond.fieldLink RX11 43 "CowsOwed" "now" "LCowsOwed$Times;" ∈ wsX11_year := by decide +kernel
  have lk1 : Cond.fieldLink RX11 97 "CowsOwed$Times" "herds" "LCowsOwed$Herds;" ∈ wsX11_year := by decide +kernel
  have lk2 : Cond.fieldLink RX11 181 "CowsOwed$Times" "years" "I" ∈ wsX11_year := by decide +kernel
  have hl : lv_has ls 1 [(0, .ref (a 0))] := hl
  refine lv_aload_n hx hb dX11_year_0 rfl (lv_at hl 0 rfl) ?_
  refine g_callVi S hw (c_X_hasHills l D cI cC cI2 a κ σ) gX11_year_X11_hasHills rfl 0 rfl rfl 0 rfl (by decide +kernel) (by decide) (by decide) hl.1 rfl (Nat.le_of_ble_eq_true rfl) dX11_year_1 (fun H locs hw => ?_)
  refine lv_if_ne hx hb (tgt := 10) dX11_year_4 (by decide) (fun c_1 => ?_) (fun c_1 => ?_)
  · refine lv_aload_n hx hb dX11_year_10 rfl (lv_at hl 0 rfl) ?_
    refine g_get S hw hinX11 (fs := fX0 a σ) 0 rfl rfl 3 (by decide) lk0 (v := .ref (a 31)) rfl dX11_year_11 ?_
    refine g_get S hw hinX8 (fs := fX31 a σ) 31 rfl rfl 0 (by decide) lk1 (v := .ref (a 10)) rfl dX11_year_14 ?_
    refine g_callVv S hw (c_XH_passYear_10 l D cI cC cI2 a κ σ n (hn) (by omega) hk) gX11_year_X2_passYear rfl 10 rfl rfl 0 rfl (by decide +kernel) (by decide) (by decide) hl.1 rfl (Nat.le_of_ble_eq_true rfl) dX11_year_17 (fun H locs hw => ?_)
    refine lv_aload_n hx hb dX11_year_20 rfl (lv_at hl 0 rfl) ?_
    refine g_get S hw hinX11 (fs := fX0 a (XH_passYear_s 10 κ σ n)) 0 rfl rfl 3 (by decide) lk0 (v := .ref (a 31)) rfl dX11_year_21 ?_
    refine lv_dup hx hb dX11_year_24 rfl ?_
    refine g_get S hw hinX8 (fs := fX31 a (XH_passYear_s 10 κ σ n)) 31 rfl rfl 4 (by decide) lk2 (v := .int (σ 31 4)) (congrArg (fun z => some (Value.int z)) (congrFun (XH_passYear_s_k 10 κ σ n 31 (by omega) (by omega)) 4)) dX11_year_25 ?_
    refine lv_iconst (v := 1) hx hb dX11_year_28 (by decide) ?_
    refine lv_iadd hx hb dX11_year_29 ?_
    refine g_put S hw hinX8 tyX8 tyX8_ok nmX8 (fs := fX31 a (XH_passYear_s 10 κ σ n)) 31 rfl rfl 4 (by decide) lk2 rfl rfl rfl (Nat.le_of_ble_eq_true rfl) (w2 := wX cI cC cI2 a κ (up2 (XH_passYear_s 10 κ σ n) 31 4 ((σ 31 4) + 1))) (wX_f31_4 _ _ _ _ _ _ _) dX11_year_30 (fun H locs hw => ?_)
    refine lv_aload_n hx hb dX11_year_33 rfl (lv_at hl 0 rfl) ?_
    refine g_get S hw hinX11 (fs := fX0 a (up2 (XH_passYear_s 10 κ σ n) 31 4 ((σ 31 4) + 1))) 0 rfl rfl 3 (by decide) lk0 (v := .ref (a 31)) rfl dX11_year_34 ?_
    refine g_get S hw hinX8 (fs := fX31 a (up2 (XH_passYear_s 10 κ σ n) 31 4 ((σ 31 4) + 1))) 31 rfl rfl 0 (by decide) lk1 (v := .ref (a 10)) rfl dX11_year_37 ?_
    refine g_callVi S hw (c_XH_allOwed_10 l D cI cC cI2 a κ (up2 (XH_passYear_s 10 κ σ n) 31 4 ((σ 31 4) + 1)) n (((up2_rn (by omega)).trans (congrFun (XH_passYear_s_k 10 κ σ n 10 (by omega) (by omega)) 3)).trans (hn)) (by omega)) gX11_year_X2_allOwed rfl 10 rfl rfl 0 rfl (by decide +kernel) (by decide) (by decide) hl.1 rfl (Nat.le_of_ble_eq_true rfl) dX11_year_40 (fun H locs hw => ?_)
    exact g_iret S hr hlk hw (by simp only [X_year_r, if_neg c_1]) (by simp only [X_year_s, if_neg c_1]) dX11_year_43
  · refine lv_bipush (v := (-103)) hx hb dX11_year_7 (by decide) ?_
    exact g_iret S hr hlk hw (by simp only [X_year_r, if_pos c_1]) (by simp only [X_year_s, if_pos c_1]) dX11_year_9

def X_settled_r (κ : Nat → Nat) (σ : Nat → Nat → Int32) (n : Nat) : Int32 := if (X_hasHills_r κ σ) = 0 then (-103) else (XH_leastLed_r 10 κ σ n)
set_option maxHeartbeats 4000000 in
set_option maxRecDepth 100000 in
theorem c_X_settled (l : Launch) (D : va_G) (cI cC cI2 : ClassId) (a : Nat → Nat) (κ : Nat → Nat) (σ : Nat → Nat → Int32) (n : Nat) (hn : σ 10 3 = nI n) (hnb : n ≤ 4) : gI l D (tysX cI cC cI2) yX11_settled wsX11_settled 3 [.ref (a 0)] (wX cI cC cI2 a κ σ) (X_settled_r κ σ n) (wX cI cC cI2 a κ σ) := by
  refine g_start (cc := cX11_settled) (maxL := 1) (ret := some .int) (Qc := gQi D (tysX cI cC cI2) (X_settled_r κ σ n) (wX cI cC cI2 a κ σ)) (by decide) rfl (Nat.le_of_ble_eq_true rfl) ?_
  intro p e s m below meth C A ls S hr hlk hw hl
  obtain ⟨hx, hb, hml, hown, hts⟩ := id S
  have hinX11 : ∀ x ∈ u_ws RX11 TX11 8, x ∈ wsX11_settled := fun x h => List.mem_cons_of_mem _ (List.mem_append_left _ (List.mem_append_left _ (List.mem_append_right _ h)))
  have hinX8 : ∀ x ∈ u_ws RX8 TX8 5, x ∈ wsX11_settled := fun x h => List.mem_cons_of_mem _ (List.mem_append_left _ (List.mem_append_right _ h))
  have lk0 : Cond.fieldLink RX11 43 "CowsOwed" "now" "LCowsOwed$Times;" ∈ wsX11_settled := by decide +kernel
  have lk1 : Cond.fieldLink RX11 97 "CowsOwed$Times" "herds" "LCowsOwed$Herds;" ∈ wsX11_settled := by decide +kernel
  have hl : lv_has ls 1 [(0, .ref (a 0))] := hl
  refine lv_aload_n hx hb dX11_settled_0 rfl (lv_at hl 0 rfl) ?_
  refine g_callVi S hw (c_X_hasHills l D cI cC cI2 a κ σ) gX11_settled_X11_hasHills rfl 0 rfl rfl 0 rfl (by decide +kernel) (by decide) (by decide) hl.1 rfl (Nat.le_of_ble_eq_true rfl) dX11_settled_1 (fun H locs hw => ?_)
  refine lv_if_eq hx hb (tgt := 20) dX11_settled_4 (by decide) (fun c_1 => ?_) (fun c_1 => ?_)
  · refine lv_bipush (v := (-103)) hx hb dX11_settled_20 (by decide) ?_
    exact g_iret S hr hlk hw (by simp only [X_settled_r, if_pos c_1]) rfl dX11_settled_22
  · refine lv_aload_n hx hb dX11_settled_7 rfl (lv_at hl 0 rfl) ?_
    refine g_get S hw hinX11 (fs := fX0 a σ) 0 rfl rfl 3 (by decide) lk0 (v := .ref (a 31)) rfl dX11_settled_8 ?_
    refine g_get S hw hinX8 (fs := fX31 a σ) 31 rfl rfl 0 (by decide) lk1 (v := .ref (a 10)) rfl dX11_settled_11 ?_
    refine g_callVi S hw (c_XH_leastLed_10 l D cI cC cI2 a κ σ n (hn) (by omega)) gX11_settled_X2_leastLed rfl 10 rfl rfl 0 rfl (by decide +kernel) (by decide) (by decide) hl.1 rfl (Nat.le_of_ble_eq_true rfl) dX11_settled_14 (fun H locs hw => ?_)
    refine lv_goto (tgt := 22) hx hb dX11_settled_17 (by decide) ?_
    exact g_iret S hr hlk hw (by simp only [X_settled_r, if_neg c_1]) rfl dX11_settled_22

def X_plan_r (κ : Nat → Nat) (σ : Nat → Nat → Int32) (n : Nat) (pl : Nat) (c : Int32) (d : Int32) : Int32 := if (XH_knowsCouple_r 10 κ σ c d) = 0 then (-101) else (if pl < 4 then (XP_note_r κ σ pl (nI c.toNatClampNeg) (nI d.toNatClampNeg)) else (-104))
def X_plan_s (κ : Nat → Nat) (σ : Nat → Nat → Int32) (n : Nat) (pl : Nat) (c : Int32) (d : Int32) : Nat → Nat → Int32 := if (XH_knowsCouple_r 10 κ σ c d) = 0 then σ else (if pl < 4 then (XP_note_s κ σ pl (nI c.toNatClampNeg) (nI d.toNatClampNeg)) else σ)
theorem X_plan_s_k (κ : Nat → Nat) (σ : Nat → Nat → Int32) (n : Nat) (pl : Nat) (c : Int32) (d : Int32) (c9 : Nat) (q0 : c9 ≠ 37) (q1 : c9 ≠ 38) (q2 : c9 ≠ 39) : X_plan_s κ σ n pl c d c9 = σ c9 := by
  unfold X_plan_s
  by_cases z1 : (XH_knowsCouple_r 10 κ σ c d) = 0
  · refine Eq.trans (congrFun (if_pos z1) c9) ?_
    exact rfl
  · refine Eq.trans (congrFun (if_neg z1) c9) ?_
    by_cases z2 : pl < 4
    · refine Eq.trans (congrFun (if_pos z2) c9) ?_
      exact XP_note_s_k κ σ pl (nI c.toNatClampNeg) (nI d.toNatClampNeg) c9 q0 q1 q2
    · refine Eq.trans (congrFun (if_neg z2) c9) ?_
      exact rfl
set_option maxHeartbeats 4000000 in
set_option maxRecDepth 100000 in
theorem c_X_plan (l : Launch) (D : va_G) (cI cC cI2 : ClassId) (a : Nat → Nat) (κ : Nat → Nat) (σ : Nat → Nat → Int32) (n : Nat) (pl : Nat) (c : Int32) (d : Int32) (hn : σ 10 3 = nI n) (hnb : n ≤ 4) (hp0 : σ 37 4 = nI pl) (hp0b : pl ≤ 4) : gI l D (tysX cI cC cI2) yX11_plan wsX11_plan 3 [.ref (a 0), .int c, .int d] (wX cI cC cI2 a κ σ) (X_plan_r κ σ n pl c d) (wX cI cC cI2 a κ (X_plan_s κ σ n pl c d)) := by
  refine g_start (cc := cX11_plan) (maxL := 3) (ret := some .int) (Qc := gQi D (tysX cI cC cI2) (X_plan_r κ σ n pl c d) (wX cI cC cI2 a κ (X_plan_s κ σ n pl c d))) (by decide) rfl (Nat.le_of_ble_eq_true rfl) ?_
  intro p e s m below meth C A ls S hr hlk hw hl
  obtain ⟨hx, hb, hml, hown, hts⟩ := id S
  have hinX11 : ∀ x ∈ u_ws RX11 TX11 8, x ∈ wsX11_plan := fun x h => List.mem_cons_of_mem _ (List.mem_append_left _ (List.mem_append_left _ (List.mem_append_left _ (List.mem_append_right _ h))))
  have hinX5 : ∀ x ∈ u_ws RX5 TX5 6, x ∈ wsX11_plan := fun x h => List.mem_cons_of_mem _ (List.mem_append_left _ (List.mem_append_right _ h))
  have hinX8 : ∀ x ∈ u_ws RX8 TX8 5, x ∈ wsX11_plan := fun x h => List.mem_cons_of_mem _ (List.mem_append_left _ (List.mem_append_left _ (List.mem_append_right _ h)))
  have lk0 : Cond.fieldLink RX11 43 "CowsOwed" "now" "LCowsOwed$Times;" ∈ wsX11_plan := by decide +kernel
  have lk1 : Cond.fieldLink RX11 97 "CowsOwed$Times" "herds" "LCowsOwed$Herds;" ∈ wsX11_plan := by decide +kernel
  have lk2 : Cond.fieldLink RX11 190 "CowsOwed$Times" "plans" "LCowsOwed$Plans;" ∈ wsX11_plan := by decide +kernel
  have lk3 : Cond.fieldLink RX11 194 "CowsOwed$Plans" "size" "I" ∈ wsX11_plan := by decide +kernel
  have hl : lv_has ls 3 [(0, .ref (a 0)), (1, .int c), (2, .int d)] := hl
  refine lv_aload_n hx hb dX11_plan_0 rfl (lv_at hl 0 rfl) ?_
  refine g_get S hw hinX11 (fs := fX0 a σ) 0 rfl rfl 3 (by decide) lk0 (v := .ref (a 31)) rfl dX11_plan_1 ?_
  refine g_get S hw hinX8 (fs := fX31 a σ) 31 rfl rfl 0 (by decide) lk1 (v := .ref (a 10)) rfl dX11_plan_4 ?_
  refine lv_iload_n hx hb dX11_plan_7 rfl (lv_at hl 1 rfl) ?_
  refine lv_iload_n hx hb dX11_plan_8 rfl (lv_at hl 2 rfl) ?_
  refine g_callVi S hw (c_XH_knowsCouple_10 l D cI cC cI2 a κ σ c d) gX11_plan_X2_knowsCouple rfl 10 rfl rfl 2 rfl (by decide +kernel) (by decide) (by decide) hl.1 rfl (Nat.le_of_ble_eq_true rfl) dX11_plan_9 (fun H locs hw => ?_)
  refine lv_if_ne hx hb (tgt := 18) dX11_plan_12 (by decide) (fun c_1 => ?_) (fun c_1 => ?_)
  · obtain ⟨⟨e1, b1⟩, e2, b2⟩ := XH_couple_ok hn hnb c_1
    have hl : lv_has ls 3 [(0, .ref (a 0)), (1, .int (nI c.toNatClampNeg)), (2, .int (nI d.toNatClampNeg))] := by rw [← e1, ← e2]; exact hl
    refine lv_aload_n hx hb dX11_plan_18 rfl (lv_at hl 0 rfl) ?_
    refine g_get S hw hinX11 (fs := fX0 a σ) 0 rfl rfl 3 (by decide) lk0 (v := .ref (a 31)) rfl dX11_plan_19 ?_
    refine g_get S hw hinX8 (fs := fX31 a σ) 31 rfl rfl 2 (by decide) lk2 (v := .ref (a 37)) rfl dX11_plan_22 ?_
    refine g_get S hw hinX5 (fs := fX37 a σ) 37 rfl rfl 4 (by decide) lk3 (v := .int (nI pl)) (congrArg (fun z => some (Value.int z)) (hp0)) dX11_plan_25 ?_
    refine lv_iconst (v := 4) hx hb dX11_plan_28 (by decide) ?_
    refine ln_lt (x := pl) (y := 4) hx hb (by omega) (by omega) (tgt := 35) dX11_plan_29 (by decide) (fun c_2 => ?_) (fun c_2 => ?_)
    · refine lv_aload_n hx hb dX11_plan_35 rfl (lv_at hl 0 rfl) ?_
      refine g_get S hw hinX11 (fs := fX0 a σ) 0 rfl rfl 3 (by decide) lk0 (v := .ref (a 31)) rfl dX11_plan_36 ?_
      refine g_get S hw hinX8 (fs := fX31 a σ) 31 rfl rfl 2 (by decide) lk2 (v := .ref (a 37)) rfl dX11_plan_39 ?_
      refine lv_iload_n hx hb dX11_plan_42 rfl (lv_at hl 1 rfl) ?_
      refine lv_iload_n hx hb dX11_plan_43 rfl (lv_at hl 2 rfl) ?_
      refine g_callVi S hw (c_XP_note l D cI cC cI2 a κ σ pl (nI c.toNatClampNeg) (nI d.toNatClampNeg) (hp0) (by omega)) gX11_plan_X5_note rfl 37 rfl rfl 2 rfl (by decide +kernel) (by decide) (by decide) hl.1 rfl (Nat.le_of_ble_eq_true rfl) dX11_plan_44 (fun H locs hw => ?_)
      exact g_iret S hr hlk hw (by simp only [X_plan_r, if_neg c_1, if_pos c_2]) (by simp only [X_plan_s, if_neg c_1, if_pos c_2]) dX11_plan_47
    · refine lv_bipush (v := (-104)) hx hb dX11_plan_32 (by decide) ?_
      exact g_iret S hr hlk hw (by simp only [X_plan_r, if_neg c_1, if_neg c_2]) (by simp only [X_plan_s, if_neg c_1, if_neg c_2]) dX11_plan_34
  · refine lv_bipush (v := (-101)) hx hb dX11_plan_15 (by decide) ?_
    exact g_iret S hr hlk hw (by simp only [X_plan_r, if_pos c_1]) (by simp only [X_plan_s, if_pos c_1]) dX11_plan_17

def X_dream_r (κ : Nat → Nat) (σ : Nat → Nat → Int32) : Int32 := σ 37 4
def X_dream_s (κ : Nat → Nat) (σ : Nat → Nat → Int32) : Nat → Nat → Int32 := up2 σ 37 4 0
theorem X_dream_s_k (κ : Nat → Nat) (σ : Nat → Nat → Int32) (c9 : Nat) (q0 : c9 ≠ 37) : X_dream_s κ σ c9 = σ c9 := by
  unfold X_dream_s
  exact up2_n _ _ _ q0
set_option maxHeartbeats 4000000 in
set_option maxRecDepth 100000 in
theorem c_X_dream (l : Launch) (D : va_G) (cI cC cI2 : ClassId) (a : Nat → Nat) (κ : Nat → Nat) (σ : Nat → Nat → Int32) : gI l D (tysX cI cC cI2) yX11_dream wsX11_dream 1 [.ref (a 0)] (wX cI cC cI2 a κ σ) (X_dream_r κ σ) (wX cI cC cI2 a κ (X_dream_s κ σ)) := by
  refine g_start (cc := cX11_dream) (maxL := 2) (ret := some .int) (Qc := gQi D (tysX cI cC cI2) (X_dream_r κ σ) (wX cI cC cI2 a κ (X_dream_s κ σ))) (by decide) rfl (Nat.le_of_ble_eq_true rfl) ?_
  intro p e s m below meth C A ls S hr hlk hw hl
  obtain ⟨hx, hb, hml, hown, hts⟩ := id S
  have hinX11 : ∀ x ∈ u_ws RX11 TX11 8, x ∈ wsX11_dream := fun x h => List.mem_cons_of_mem _ (List.mem_append_left _ (List.mem_append_left _ (List.mem_append_right _ h)))
  have hinX5 : ∀ x ∈ u_ws RX5 TX5 6, x ∈ wsX11_dream := fun x h => List.mem_cons_of_mem _ (List.mem_append_right _ h)
  have hinX8 : ∀ x ∈ u_ws RX8 TX8 5, x ∈ wsX11_dream := fun x h => List.mem_cons_of_mem _ (List.mem_append_left _ (List.mem_append_right _ h))
  have lk0 : Cond.fieldLink RX11 43 "CowsOwed" "now" "LCowsOwed$Times;" ∈ wsX11_dream := by decide +kernel
  have lk1 : Cond.fieldLink RX11 190 "CowsOwed$Times" "plans" "LCowsOwed$Plans;" ∈ wsX11_dream := by decide +kernel
  have lk2 : Cond.fieldLink RX11 194 "CowsOwed$Plans" "size" "I" ∈ wsX11_dream := by decide +kernel
  have hl : lv_has ls 2 [(0, .ref (a 0))] := hl
  refine lv_aload_n hx hb dX11_dream_0 rfl (lv_at hl 0 rfl) ?_
  refine g_get S hw hinX11 (fs := fX0 a σ) 0 rfl rfl 3 (by decide) lk0 (v := .ref (a 31)) rfl dX11_dream_1 ?_
  refine g_get S hw hinX8 (fs := fX31 a σ) 31 rfl rfl 2 (by decide) lk1 (v := .ref (a 37)) rfl dX11_dream_4 ?_
  refine g_get S hw hinX5 (fs := fX37 a σ) 37 rfl rfl 4 (by decide) lk2 (v := .int (σ 37 4)) rfl dX11_dream_7 ?_
  refine lv_istore_n (lv' := [(1, .int (σ 37 4)), (0, .ref (a 0))]) hx hb dX11_dream_10 rfl hl (by decide) rfl (fun ls hl => ?_)
  refine lv_aload_n hx hb dX11_dream_11 rfl (lv_at hl 1 rfl) ?_
  refine g_get S hw hinX11 (fs := fX0 a σ) 0 rfl rfl 3 (by decide) lk0 (v := .ref (a 31)) rfl dX11_dream_12 ?_
  refine g_get S hw hinX8 (fs := fX31 a σ) 31 rfl rfl 2 (by decide) lk1 (v := .ref (a 37)) rfl dX11_dream_15 ?_
  refine lv_iconst (v := 0) hx hb dX11_dream_18 (by decide) ?_
  refine g_put S hw hinX5 tyX5 tyX5_ok nmX5 (fs := fX37 a σ) 37 rfl rfl 4 (by decide) lk2 rfl rfl rfl (Nat.le_of_ble_eq_true rfl) (w2 := wX cI cC cI2 a κ (up2 σ 37 4 0)) (wX_f37_4 _ _ _ _ _ _ _) dX11_dream_19 (fun H locs hw => ?_)
  refine lv_iload_n hx hb dX11_dream_22 rfl (lv_at hl 0 rfl) ?_
  exact g_iret S hr hlk hw (by simp only [X_dream_r]) (by simp only [X_dream_s]) dX11_dream_23

def X_order_r (κ : Nat → Nat) (σ : Nat → Nat → Int32) (pl : Nat) (n : Nat) (c : Int32) : Int32 := if c < 10 then (if c = 0 then (if (X_hasHills_r κ σ) = 0 then (-103) else (((XP_findOrder_s κ σ pl n) 37) 5)) else (-102)) else (if 14 ≤ c then (if c = 0 then (if (X_hasHills_r κ σ) = 0 then (-103) else (((XP_findOrder_s κ σ pl n) 37) 5)) else (-102)) else (if c = 0 then (if (X_hasHills_r κ σ) = 0 then (-103) else (XP_bestAt_r κ (XP_findOrder_s κ σ pl n) pl (c - 10))) else (if (X_hasHills_r κ σ) = 0 then (-103) else (XP_bestAt_r κ (XP_findOrder_s κ σ pl n) pl (c - 10)))))
def X_order_s (κ : Nat → Nat) (σ : Nat → Nat → Int32) (pl : Nat) (n : Nat) (c : Int32) : Nat → Nat → Int32 := if c < 10 then (if c = 0 then (if (X_hasHills_r κ σ) = 0 then σ else (XP_findOrder_s κ σ pl n)) else σ) else (if 14 ≤ c then (if c = 0 then (if (X_hasHills_r κ σ) = 0 then σ else (XP_findOrder_s κ σ pl n)) else σ) else (if c = 0 then (if (X_hasHills_r κ σ) = 0 then σ else (XP_findOrder_s κ σ pl n)) else (if (X_hasHills_r κ σ) = 0 then σ else (XP_findOrder_s κ σ pl n))))
theorem X_order_s_k (κ : Nat → Nat) (σ : Nat → Nat → Int32) (pl : Nat) (n : Nat) (c : Int32) (c9 : Nat) (q0 : c9 ≠ 24) (q1 : c9 ≠ 25) (q2 : c9 ≠ 26) (q3 : c9 ≠ 37) (q4 : c9 ≠ 40) (q5 : c9 ≠ 41) : X_order_s κ σ pl n c c9 = σ c9 := by
  unfold X_order_s
  by_cases z1 : c < 10
  · refine Eq.trans (congrFun (if_pos z1) c9) ?_
    by_cases z2 : c = 0
    · refine Eq.trans (congrFun (if_pos z2) c9) ?_
      by_cases z3 : (X_hasHills_r κ σ) = 0
      · refine Eq.trans (congrFun (if_pos z3) c9) ?_
        exact rfl
      · refine Eq.trans (congrFun (if_neg z3) c9) ?_
        exact XP_findOrder_s_k κ σ pl n c9 q0 q1 q2 q3 q4 q5
    · refine Eq.trans (congrFun (if_neg z2) c9) ?_
      exact rfl
  · refine Eq.trans (congrFun (if_neg z1) c9) ?_
    by_cases z2 : 14 ≤ c
    · refine Eq.trans (congrFun (if_pos z2) c9) ?_
      by_cases z3 : c = 0
      · refine Eq.trans (congrFun (if_pos z3) c9) ?_
        by_cases z4 : (X_hasHills_r κ σ) = 0
        · refine Eq.trans (congrFun (if_pos z4) c9) ?_
          exact rfl
        · refine Eq.trans (congrFun (if_neg z4) c9) ?_
          exact XP_findOrder_s_k κ σ pl n c9 q0 q1 q2 q3 q4 q5
      · refine Eq.trans (congrFun (if_neg z3) c9) ?_
        exact rfl
    · refine Eq.trans (congrFun (if_neg z2) c9) ?_
      by_cases z3 : c = 0
      · refine Eq.trans (congrFun (if_pos z3) c9) ?_
        by_cases z4 : (X_hasHills_r κ σ) = 0
        · refine Eq.trans (congrFun (if_pos z4) c9) ?_
          exact rfl
        · refine Eq.trans (congrFun (if_neg z4) c9) ?_
          exact XP_findOrder_s_k κ σ pl n c9 q0 q1 q2 q3 q4 q5
      · refine Eq.trans (congrFun (if_neg z3) c9) ?_
        by_cases z4 : (X_hasHills_r κ σ) = 0
        · refine Eq.trans (congrFun (if_pos z4) c9) ?_
          exact rfl
        · refine Eq.trans (congrFun (if_neg z4) c9) ?_
          exact XP_findOrder_s_k κ σ pl n c9 q0 q1 q2 q3 q4 q5
set_option maxHeartbeats 4000000 in
set_option maxRecDepth 100000 in
theorem c_X_order (l : Launch) (D : va_G) (cI cC cI2 : ClassId) (a : Nat → Nat) (κ : Nat → Nat) (σ : Nat → Nat → Int32) (pl : Nat) (n : Nat) (c : Int32) (hp0 : σ 37 4 = nI pl) (hp0b : pl ≤ 4) (hn : σ 10 3 = nI n) (hnb : n ≤ 4) (h38 : natRow (σ 38) pl 4) (h39 : natRow (σ 39) pl 4) (hk : ∀ i, i < 4 → κ i < 5) : gI l D (tysX cI cC cI2) yX11_order wsX11_order 7 [.ref (a 0), .int c] (wX cI cC cI2 a κ σ) (X_order_r κ σ pl n c) (wX cI cC cI2 a κ (X_order_s κ σ pl n c)) := by
  refine g_start (cc := cX11_order) (maxL := 3) (ret := some .int) (Qc := gQi D (tysX cI cC cI2) (X_order_r κ σ pl n c) (wX cI cC cI2 a κ (X_order_s κ σ pl n c))) (by decide) rfl (Nat.le_of_ble_eq_true rfl) ?_
  intro p e s m below meth C A ls S hr hlk hw hl
  obtain ⟨hx, hb, hml, hown, hts⟩ := id S
  have hinX11 : ∀ x ∈ u_ws RX11 TX11 8, x ∈ wsX11_order := fun x h => List.mem_cons_of_mem _ (List.mem_append_left _ (List.mem_append_left _ (List.mem_append_left _ (List.mem_append_right _ h))))
  have hinX5 : ∀ x ∈ u_ws RX5 TX5 6, x ∈ wsX11_order := fun x h => List.mem_cons_of_mem _ (List.mem_append_left _ (List.mem_append_right _ h))
  have hinX8 : ∀ x ∈ u_ws RX8 TX8 5, x ∈ wsX11_order := fun x h => List.mem_cons_of_mem _ (List.mem_append_left _ (List.mem_append_left _ (List.mem_append_right _ h)))
  have lk0 : Cond.fieldLink RX11 43 "CowsOwed" "now" "LCowsOwed$Times;" ∈ wsX11_order := by decide +kernel
  have lk1 : Cond.fieldLink RX11 190 "CowsOwed$Times" "plans" "LCowsOwed$Plans;" ∈ wsX11_order := by decide +kernel
  have lk2 : Cond.fieldLink RX11 97 "CowsOwed$Times" "herds" "LCowsOwed$Herds;" ∈ wsX11_order := by decide +kernel
  have lk3 : Cond.fieldLink RX11 53 "CowsOwed" "trial" "LCowsOwed$Herds;" ∈ wsX11_order := by decide +kernel
  have lk4 : Cond.fieldLink RX11 206 "CowsOwed$Plans" "leastOwed" "I" ∈ wsX11_order := by decide +kernel
  have hl : lv_has ls 3 [(0, .ref (a 0)), (1, .int c)] := hl
  refine lv_iload_n hx hb dX11_order_0 rfl (lv_at hl 1 rfl) ?_
  refine lv_bipush (v := 10) hx hb dX11_order_1 (by decide) ?_
  refine lv_icmp_lt hx hb (tgt := 16) dX11_order_3 (by decide) (fun c_1 => ?_) (fun c_1 => ?_)
  · refine lv_iconst (v := 0) hx hb dX11_order_16 (by decide) ?_
    refine lv_istore_n (lv' := [(2, .int 0), (0, .ref (a 0)), (1, .int c)]) hx hb dX11_order_17 rfl hl (by decide) rfl (fun ls hl => ?_)
    refine lv_iload_n hx hb dX11_order_18 rfl (lv_at hl 2 rfl) ?_
    refine lv_if_eq hx hb (tgt := 29) dX11_order_19 (by decide) (fun c_2 => ?_) (fun c_2 => ?_)
    · refine lv_aload_n hx hb dX11_order_29 rfl (lv_at hl 1 rfl) ?_
      refine g_callVi S hw (c_X_hasHills l D cI cC cI2 a κ σ) gX11_order_X11_hasHills rfl 0 rfl rfl 0 rfl (by decide +kernel) (by decide) (by decide) hl.1 rfl (Nat.le_of_ble_eq_true rfl) dX11_order_30 (fun H locs hw => ?_)
      refine lv_if_ne hx hb (tgt := 39) dX11_order_33 (by decide) (fun c_3 => ?_) (fun c_3 => ?_)
      · refine lv_aload_n hx hb dX11_order_39 rfl (lv_at hl 1 rfl) ?_
        refine g_get S hw hinX11 (fs := fX0 a σ) 0 rfl rfl 3 (by decide) lk0 (v := .ref (a 31)) rfl dX11_order_40 ?_
        refine g_get S hw hinX8 (fs := fX31 a σ) 31 rfl rfl 2 (by decide) lk1 (v := .ref (a 37)) rfl dX11_order_43 ?_
        refine lv_aload_n hx hb dX11_order_46 rfl (lv_at hl 1 rfl) ?_
        refine g_get S hw hinX11 (fs := fX0 a σ) 0 rfl rfl 3 (by decide) lk0 (v := .ref (a 31)) rfl dX11_order_47 ?_
        refine g_get S hw hinX8 (fs := fX31 a σ) 31 rfl rfl 0 (by decide) lk2 (v := .ref (a 10)) rfl dX11_order_50 ?_
        refine lv_aload_n hx hb dX11_order_53 rfl (lv_at hl 1 rfl) ?_
        refine g_get S hw hinX11 (fs := fX0 a σ) 0 rfl rfl 5 (by decide) lk3 (v := .ref (a 24)) rfl dX11_order_54 ?_
        refine g_callVv S hw (c_XP_findOrder l D cI cC cI2 a κ σ pl n (hp0) (by omega) (hn) (by omega) (h38) (h39) hk) gX11_order_X5_findOrder rfl 37 rfl rfl 2 rfl (by decide +kernel) (by decide) (by decide) hl.1 rfl (Nat.le_of_ble_eq_true rfl) dX11_order_57 (fun H locs hw => ?_)
        refine lv_iload_n hx hb dX11_order_60 rfl (lv_at hl 0 rfl) ?_
        refine lv_if_eq hx hb (tgt := 81) dX11_order_61 (by decide) (fun c_x => ?_) (fun c_x => absurd (by decide) c_x)
        refine lv_aload_n hx hb dX11_order_81 rfl (lv_at hl 1 rfl) ?_
        refine g_get S hw hinX11 (fs := fX0 a (XP_findOrder_s κ σ pl n)) 0 rfl rfl 3 (by decide) lk0 (v := .ref (a 31)) rfl dX11_order_82 ?_
        refine g_get S hw hinX8 (fs := fX31 a (XP_findOrder_s κ σ pl n)) 31 rfl rfl 2 (by decide) lk1 (v := .ref (a 37)) rfl dX11_order_85 ?_
        refine g_get S hw hinX5 (fs := fX37 a (XP_findOrder_s κ σ pl n)) 37 rfl rfl 5 (by decide) lk4 (v := .int (((XP_findOrder_s κ σ pl n) 37) 5)) rfl dX11_order_88 ?_
        exact g_iret S hr hlk hw (by simp only [X_order_r, if_pos c_1, if_pos c_2, if_neg c_3]) (by simp only [X_order_s, if_pos c_1, if_pos c_2, if_neg c_3]) dX11_order_91
      · refine lv_bipush (v := (-103)) hx hb dX11_order_36 (by decide) ?_
        exact g_iret S hr hlk hw (by simp only [X_order_r, if_pos c_1, if_pos c_2, if_pos c_3]) (by simp only [X_order_s, if_pos c_1, if_pos c_2, if_pos c_3]) dX11_order_38
    · refine lv_iload_n hx hb dX11_order_22 rfl (lv_at hl 0 rfl) ?_
      refine lv_if_ne hx hb (tgt := 29) dX11_order_23 (by decide) (fun c_x => absurd (by decide) c_x) (fun c_x => ?_)
      refine lv_bipush (v := (-102)) hx hb dX11_order_26 (by decide) ?_
      exact g_iret S hr hlk hw (by simp only [X_order_r, if_pos c_1, if_neg c_2]) (by simp only [X_order_s, if_pos c_1, if_neg c_2]) dX11_order_28
  · refine lv_iload_n hx hb dX11_order_6 rfl (lv_at hl 1 rfl) ?_
    refine lv_bipush (v := 14) hx hb dX11_order_7 (by decide) ?_
    refine lv_icmp_ge hx hb (tgt := 16) dX11_order_9 (by decide) (fun c_6 => ?_) (fun c_6 => ?_)
    · refine lv_iconst (v := 0) hx hb dX11_order_16 (by decide) ?_
      refine lv_istore_n (lv' := [(2, .int 0), (0, .ref (a 0)), (1, .int c)]) hx hb dX11_order_17 rfl hl (by decide) rfl (fun ls hl => ?_)
      refine lv_iload_n hx hb dX11_order_18 rfl (lv_at hl 2 rfl) ?_
      refine lv_if_eq hx hb (tgt := 29) dX11_order_19 (by decide) (fun c_7 => ?_) (fun c_7 => ?_)
      · refine lv_aload_n hx hb dX11_order_29 rfl (lv_at hl 1 rfl) ?_
        refine g_callVi S hw (c_X_hasHills l D cI cC cI2 a κ σ) gX11_order_X11_hasHills rfl 0 rfl rfl 0 rfl (by decide +kernel) (by decide) (by decide) hl.1 rfl (Nat.le_of_ble_eq_true rfl) dX11_order_30 (fun H locs hw => ?_)
        refine lv_if_ne hx hb (tgt := 39) dX11_order_33 (by decide) (fun c_8 => ?_) (fun c_8 => ?_)
        · refine lv_aload_n hx hb dX11_order_39 rfl (lv_at hl 1 rfl) ?_
          refine g_get S hw hinX11 (fs := fX0 a σ) 0 rfl rfl 3 (by decide) lk0 (v := .ref (a 31)) rfl dX11_order_40 ?_
          refine g_get S hw hinX8 (fs := fX31 a σ) 31 rfl rfl 2 (by decide) lk1 (v := .ref (a 37)) rfl dX11_order_43 ?_
          refine lv_aload_n hx hb dX11_order_46 rfl (lv_at hl 1 rfl) ?_
          refine g_get S hw hinX11 (fs := fX0 a σ) 0 rfl rfl 3 (by decide) lk0 (v := .ref (a 31)) rfl dX11_order_47 ?_
          refine g_get S hw hinX8 (fs := fX31 a σ) 31 rfl rfl 0 (by decide) lk2 (v := .ref (a 10)) rfl dX11_order_50 ?_
          refine lv_aload_n hx hb dX11_order_53 rfl (lv_at hl 1 rfl) ?_
          refine g_get S hw hinX11 (fs := fX0 a σ) 0 rfl rfl 5 (by decide) lk3 (v := .ref (a 24)) rfl dX11_order_54 ?_
          refine g_callVv S hw (c_XP_findOrder l D cI cC cI2 a κ σ pl n (hp0) (by omega) (hn) (by omega) (h38) (h39) hk) gX11_order_X5_findOrder rfl 37 rfl rfl 2 rfl (by decide +kernel) (by decide) (by decide) hl.1 rfl (Nat.le_of_ble_eq_true rfl) dX11_order_57 (fun H locs hw => ?_)
          refine lv_iload_n hx hb dX11_order_60 rfl (lv_at hl 0 rfl) ?_
          refine lv_if_eq hx hb (tgt := 81) dX11_order_61 (by decide) (fun c_x => ?_) (fun c_x => absurd (by decide) c_x)
          refine lv_aload_n hx hb dX11_order_81 rfl (lv_at hl 1 rfl) ?_
          refine g_get S hw hinX11 (fs := fX0 a (XP_findOrder_s κ σ pl n)) 0 rfl rfl 3 (by decide) lk0 (v := .ref (a 31)) rfl dX11_order_82 ?_
          refine g_get S hw hinX8 (fs := fX31 a (XP_findOrder_s κ σ pl n)) 31 rfl rfl 2 (by decide) lk1 (v := .ref (a 37)) rfl dX11_order_85 ?_
          refine g_get S hw hinX5 (fs := fX37 a (XP_findOrder_s κ σ pl n)) 37 rfl rfl 5 (by decide) lk4 (v := .int (((XP_findOrder_s κ σ pl n) 37) 5)) rfl dX11_order_88 ?_
          exact g_iret S hr hlk hw (by simp only [X_order_r, if_neg c_1, if_pos c_6, if_pos c_7, if_neg c_8]) (by simp only [X_order_s, if_neg c_1, if_pos c_6, if_pos c_7, if_neg c_8]) dX11_order_91
        · refine lv_bipush (v := (-103)) hx hb dX11_order_36 (by decide) ?_
          exact g_iret S hr hlk hw (by simp only [X_order_r, if_neg c_1, if_pos c_6, if_pos c_7, if_pos c_8]) (by simp only [X_order_s, if_neg c_1, if_pos c_6, if_pos c_7, if_pos c_8]) dX11_order_38
      · refine lv_iload_n hx hb dX11_order_22 rfl (lv_at hl 0 rfl) ?_
        refine lv_if_ne hx hb (tgt := 29) dX11_order_23 (by decide) (fun c_x => absurd (by decide) c_x) (fun c_x => ?_)
        refine lv_bipush (v := (-102)) hx hb dX11_order_26 (by decide) ?_
        exact g_iret S hr hlk hw (by simp only [X_order_r, if_neg c_1, if_pos c_6, if_neg c_7]) (by simp only [X_order_s, if_neg c_1, if_pos c_6, if_neg c_7]) dX11_order_28
    · refine lv_iconst (v := 1) hx hb dX11_order_12 (by decide) ?_
      refine lv_goto (tgt := 17) hx hb dX11_order_13 (by decide) ?_
      refine lv_istore_n (lv' := [(2, .int 1), (0, .ref (a 0)), (1, .int c)]) hx hb dX11_order_17 rfl hl (by decide) rfl (fun ls hl => ?_)
      refine lv_iload_n hx hb dX11_order_18 rfl (lv_at hl 2 rfl) ?_
      refine lv_if_eq hx hb (tgt := 29) dX11_order_19 (by decide) (fun c_11 => ?_) (fun c_11 => ?_)
      · refine lv_aload_n hx hb dX11_order_29 rfl (lv_at hl 1 rfl) ?_
        refine g_callVi S hw (c_X_hasHills l D cI cC cI2 a κ σ) gX11_order_X11_hasHills rfl 0 rfl rfl 0 rfl (by decide +kernel) (by decide) (by decide) hl.1 rfl (Nat.le_of_ble_eq_true rfl) dX11_order_30 (fun H locs hw => ?_)
        refine lv_if_ne hx hb (tgt := 39) dX11_order_33 (by decide) (fun c_12 => ?_) (fun c_12 => ?_)
        · refine lv_aload_n hx hb dX11_order_39 rfl (lv_at hl 1 rfl) ?_
          refine g_get S hw hinX11 (fs := fX0 a σ) 0 rfl rfl 3 (by decide) lk0 (v := .ref (a 31)) rfl dX11_order_40 ?_
          refine g_get S hw hinX8 (fs := fX31 a σ) 31 rfl rfl 2 (by decide) lk1 (v := .ref (a 37)) rfl dX11_order_43 ?_
          refine lv_aload_n hx hb dX11_order_46 rfl (lv_at hl 1 rfl) ?_
          refine g_get S hw hinX11 (fs := fX0 a σ) 0 rfl rfl 3 (by decide) lk0 (v := .ref (a 31)) rfl dX11_order_47 ?_
          refine g_get S hw hinX8 (fs := fX31 a σ) 31 rfl rfl 0 (by decide) lk2 (v := .ref (a 10)) rfl dX11_order_50 ?_
          refine lv_aload_n hx hb dX11_order_53 rfl (lv_at hl 1 rfl) ?_
          refine g_get S hw hinX11 (fs := fX0 a σ) 0 rfl rfl 5 (by decide) lk3 (v := .ref (a 24)) rfl dX11_order_54 ?_
          refine g_callVv S hw (c_XP_findOrder l D cI cC cI2 a κ σ pl n (hp0) (by omega) (hn) (by omega) (h38) (h39) hk) gX11_order_X5_findOrder rfl 37 rfl rfl 2 rfl (by decide +kernel) (by decide) (by decide) hl.1 rfl (Nat.le_of_ble_eq_true rfl) dX11_order_57 (fun H locs hw => ?_)
          refine lv_iload_n hx hb dX11_order_60 rfl (lv_at hl 0 rfl) ?_
          refine lv_if_eq hx hb (tgt := 81) dX11_order_61 (by decide) (fun c_x => absurd c_x (by decide)) (fun c_x => ?_)
          refine lv_aload_n hx hb dX11_order_64 rfl (lv_at hl 1 rfl) ?_
          refine g_get S hw hinX11 (fs := fX0 a (XP_findOrder_s κ σ pl n)) 0 rfl rfl 3 (by decide) lk0 (v := .ref (a 31)) rfl dX11_order_65 ?_
          refine g_get S hw hinX8 (fs := fX31 a (XP_findOrder_s κ σ pl n)) 31 rfl rfl 2 (by decide) lk1 (v := .ref (a 37)) rfl dX11_order_68 ?_
          refine lv_iload_n hx hb dX11_order_71 rfl (lv_at hl 2 rfl) ?_
          refine lv_bipush (v := 10) hx hb dX11_order_72 (by decide) ?_
          refine lv_isub hx hb dX11_order_74 ?_
          refine g_callVi S hw (c_XP_bestAt l D cI cC cI2 a κ (XP_findOrder_s κ σ pl n) pl (c - 10) ((XP_findOrder_s_p37_4 κ σ pl n).trans (hp0)) (by omega)) gX11_order_X5_bestAt rfl 37 rfl rfl 1 rfl (by decide +kernel) (by decide) (by decide) hl.1 rfl (Nat.le_of_ble_eq_true rfl) dX11_order_75 (fun H locs hw => ?_)
          refine lv_goto (tgt := 91) hx hb dX11_order_78 (by decide) ?_
          exact g_iret S hr hlk hw (by simp only [X_order_r, if_neg c_1, if_neg c_6, if_pos c_11, if_neg c_12]) (by simp only [X_order_s, if_neg c_1, if_neg c_6, if_pos c_11, if_neg c_12]) dX11_order_91
        · refine lv_bipush (v := (-103)) hx hb dX11_order_36 (by decide) ?_
          exact g_iret S hr hlk hw (by simp only [X_order_r, if_neg c_1, if_neg c_6, if_pos c_11, if_pos c_12]) (by simp only [X_order_s, if_neg c_1, if_neg c_6, if_pos c_11, if_pos c_12]) dX11_order_38
      · refine lv_iload_n hx hb dX11_order_22 rfl (lv_at hl 0 rfl) ?_
        refine lv_if_ne hx hb (tgt := 29) dX11_order_23 (by decide) (fun c_x => ?_) (fun c_x => absurd c_x (by decide))
        refine lv_aload_n hx hb dX11_order_29 rfl (lv_at hl 1 rfl) ?_
        refine g_callVi S hw (c_X_hasHills l D cI cC cI2 a κ σ) gX11_order_X11_hasHills rfl 0 rfl rfl 0 rfl (by decide +kernel) (by decide) (by decide) hl.1 rfl (Nat.le_of_ble_eq_true rfl) dX11_order_30 (fun H locs hw => ?_)
        refine lv_if_ne hx hb (tgt := 39) dX11_order_33 (by decide) (fun c_15 => ?_) (fun c_15 => ?_)
        · refine lv_aload_n hx hb dX11_order_39 rfl (lv_at hl 1 rfl) ?_
          refine g_get S hw hinX11 (fs := fX0 a σ) 0 rfl rfl 3 (by decide) lk0 (v := .ref (a 31)) rfl dX11_order_40 ?_
          refine g_get S hw hinX8 (fs := fX31 a σ) 31 rfl rfl 2 (by decide) lk1 (v := .ref (a 37)) rfl dX11_order_43 ?_
          refine lv_aload_n hx hb dX11_order_46 rfl (lv_at hl 1 rfl) ?_
          refine g_get S hw hinX11 (fs := fX0 a σ) 0 rfl rfl 3 (by decide) lk0 (v := .ref (a 31)) rfl dX11_order_47 ?_
          refine g_get S hw hinX8 (fs := fX31 a σ) 31 rfl rfl 0 (by decide) lk2 (v := .ref (a 10)) rfl dX11_order_50 ?_
          refine lv_aload_n hx hb dX11_order_53 rfl (lv_at hl 1 rfl) ?_
          refine g_get S hw hinX11 (fs := fX0 a σ) 0 rfl rfl 5 (by decide) lk3 (v := .ref (a 24)) rfl dX11_order_54 ?_
          refine g_callVv S hw (c_XP_findOrder l D cI cC cI2 a κ σ pl n (hp0) (by omega) (hn) (by omega) (h38) (h39) hk) gX11_order_X5_findOrder rfl 37 rfl rfl 2 rfl (by decide +kernel) (by decide) (by decide) hl.1 rfl (Nat.le_of_ble_eq_true rfl) dX11_order_57 (fun H locs hw => ?_)
          refine lv_iload_n hx hb dX11_order_60 rfl (lv_at hl 0 rfl) ?_
          refine lv_if_eq hx hb (tgt := 81) dX11_order_61 (by decide) (fun c_x => absurd c_x (by decide)) (fun c_x => ?_)
          refine lv_aload_n hx hb dX11_order_64 rfl (lv_at hl 1 rfl) ?_
          refine g_get S hw hinX11 (fs := fX0 a (XP_findOrder_s κ σ pl n)) 0 rfl rfl 3 (by decide) lk0 (v := .ref (a 31)) rfl dX11_order_65 ?_
          refine g_get S hw hinX8 (fs := fX31 a (XP_findOrder_s κ σ pl n)) 31 rfl rfl 2 (by decide) lk1 (v := .ref (a 37)) rfl dX11_order_68 ?_
          refine lv_iload_n hx hb dX11_order_71 rfl (lv_at hl 2 rfl) ?_
          refine lv_bipush (v := 10) hx hb dX11_order_72 (by decide) ?_
          refine lv_isub hx hb dX11_order_74 ?_
          refine g_callVi S hw (c_XP_bestAt l D cI cC cI2 a κ (XP_findOrder_s κ σ pl n) pl (c - 10) ((XP_findOrder_s_p37_4 κ σ pl n).trans (hp0)) (by omega)) gX11_order_X5_bestAt rfl 37 rfl rfl 1 rfl (by decide +kernel) (by decide) (by decide) hl.1 rfl (Nat.le_of_ble_eq_true rfl) dX11_order_75 (fun H locs hw => ?_)
          refine lv_goto (tgt := 91) hx hb dX11_order_78 (by decide) ?_
          exact g_iret S hr hlk hw (by simp only [X_order_r, if_neg c_1, if_neg c_6, if_neg c_11, if_neg c_15]) (by simp only [X_order_s, if_neg c_1, if_neg c_6, if_neg c_11, if_neg c_15]) dX11_order_91
        · refine lv_bipush (v := (-103)) hx hb dX11_order_36 (by decide) ?_
          exact g_iret S hr hlk hw (by simp only [X_order_r, if_neg c_1, if_neg c_6, if_neg c_11, if_pos c_15]) (by simp only [X_order_s, if_neg c_1, if_neg c_6, if_neg c_11, if_pos c_15]) dX11_order_38

def X_high_r (κ : Nat → Nat) (σ : Nat → Nat → Int32) (pl : Nat) (n : Nat) : Int32 := if (X_hasHills_r κ σ) = 0 then (-103) else (XP_highestRate_r κ σ pl n)
def X_high_s (κ : Nat → Nat) (σ : Nat → Nat → Int32) (pl : Nat) (n : Nat) : Nat → Nat → Int32 := if (X_hasHills_r κ σ) = 0 then σ else (XP_highestRate_s κ σ pl n)
theorem X_high_s_k (κ : Nat → Nat) (σ : Nat → Nat → Int32) (pl : Nat) (n : Nat) (c9 : Nat) (q0 : c9 ≠ 24) (q1 : c9 ≠ 25) (q2 : c9 ≠ 26) (q3 : c9 ≠ 40) : X_high_s κ σ pl n c9 = σ c9 := by
  unfold X_high_s
  by_cases z1 : (X_hasHills_r κ σ) = 0
  · refine Eq.trans (congrFun (if_pos z1) c9) ?_
    exact rfl
  · refine Eq.trans (congrFun (if_neg z1) c9) ?_
    exact XP_highestRate_s_k κ σ pl n c9 q0 q1 q2 q3
set_option maxHeartbeats 4000000 in
set_option maxRecDepth 100000 in
theorem c_X_high (l : Launch) (D : va_G) (cI cC cI2 : ClassId) (a : Nat → Nat) (κ : Nat → Nat) (σ : Nat → Nat → Int32) (pl : Nat) (n : Nat) (hp0 : σ 37 4 = nI pl) (hp0b : pl ≤ 4) (hn : σ 10 3 = nI n) (hnb : n ≤ 4) (h38 : natRow (σ 38) pl 4) (h39 : natRow (σ 39) pl 4) (hk : ∀ i, i < 4 → κ i < 5) : gI l D (tysX cI cC cI2) yX11_high wsX11_high 7 [.ref (a 0)] (wX cI cC cI2 a κ σ) (X_high_r κ σ pl n) (wX cI cC cI2 a κ (X_high_s κ σ pl n)) := by
  refine g_start (cc := cX11_high) (maxL := 1) (ret := some .int) (Qc := gQi D (tysX cI cC cI2) (X_high_r κ σ pl n) (wX cI cC cI2 a κ (X_high_s κ σ pl n))) (by decide) rfl (Nat.le_of_ble_eq_true rfl) ?_
  intro p e s m below meth C A ls S hr hlk hw hl
  obtain ⟨hx, hb, hml, hown, hts⟩ := id S
  have hinX11 : ∀ x ∈ u_ws RX11 TX11 8, x ∈ wsX11_high := fun x h => List.mem_cons_of_mem _ (List.mem_append_left _ (List.mem_append_left _ (List.mem_append_left _ (List.mem_append_right _ h))))
  have hinX8 : ∀ x ∈ u_ws RX8 TX8 5, x ∈ wsX11_high := fun x h => List.mem_cons_of_mem _ (List.mem_append_left _ (List.mem_append_left _ (List.mem_append_right _ h)))
  have lk0 : Cond.fieldLink RX11 43 "CowsOwed" "now" "LCowsOwed$Times;" ∈ wsX11_high := by decide +kernel
  have lk1 : Cond.fieldLink RX11 190 "CowsOwed$Times" "plans" "LCowsOwed$Plans;" ∈ wsX11_high := by decide +kernel
  have lk2 : Cond.fieldLink RX11 97 "CowsOwed$Times" "herds" "LCowsOwed$Herds;" ∈ wsX11_high := by decide +kernel
  have lk3 : Cond.fieldLink RX11 53 "CowsOwed" "trial" "LCowsOwed$Herds;" ∈ wsX11_high := by decide +kernel
  have hl : lv_has ls 1 [(0, .ref (a 0))] := hl
  refine lv_aload_n hx hb dX11_high_0 rfl (lv_at hl 0 rfl) ?_
  refine g_callVi S hw (c_X_hasHills l D cI cC cI2 a κ σ) gX11_high_X11_hasHills rfl 0 rfl rfl 0 rfl (by decide +kernel) (by decide) (by decide) hl.1 rfl (Nat.le_of_ble_eq_true rfl) dX11_high_1 (fun H locs hw => ?_)
  refine lv_if_eq hx hb (tgt := 31) dX11_high_4 (by decide) (fun c_1 => ?_) (fun c_1 => ?_)
  · refine lv_bipush (v := (-103)) hx hb dX11_high_31 (by decide) ?_
    exact g_iret S hr hlk hw (by simp only [X_high_r, if_pos c_1]) (by simp only [X_high_s, if_pos c_1]) dX11_high_33
  · refine lv_aload_n hx hb dX11_high_7 rfl (lv_at hl 0 rfl) ?_
    refine g_get S hw hinX11 (fs := fX0 a σ) 0 rfl rfl 3 (by decide) lk0 (v := .ref (a 31)) rfl dX11_high_8 ?_
    refine g_get S hw hinX8 (fs := fX31 a σ) 31 rfl rfl 2 (by decide) lk1 (v := .ref (a 37)) rfl dX11_high_11 ?_
    refine lv_aload_n hx hb dX11_high_14 rfl (lv_at hl 0 rfl) ?_
    refine g_get S hw hinX11 (fs := fX0 a σ) 0 rfl rfl 3 (by decide) lk0 (v := .ref (a 31)) rfl dX11_high_15 ?_
    refine g_get S hw hinX8 (fs := fX31 a σ) 31 rfl rfl 0 (by decide) lk2 (v := .ref (a 10)) rfl dX11_high_18 ?_
    refine lv_aload_n hx hb dX11_high_21 rfl (lv_at hl 0 rfl) ?_
    refine g_get S hw hinX11 (fs := fX0 a σ) 0 rfl rfl 5 (by decide) lk3 (v := .ref (a 24)) rfl dX11_high_22 ?_
    refine g_callVi S hw (c_XP_highestRate l D cI cC cI2 a κ σ pl n (hp0) (by omega) (hn) (by omega) (h38) (h39) hk) gX11_high_X5_highestRate rfl 37 rfl rfl 2 rfl (by decide +kernel) (by decide) (by decide) hl.1 rfl (Nat.le_of_ble_eq_true rfl) dX11_high_25 (fun H locs hw => ?_)
    refine lv_goto (tgt := 33) hx hb dX11_high_28 (by decide) ?_
    exact g_iret S hr hlk hw (by simp only [X_high_r, if_neg c_1]) (by simp only [X_high_s, if_neg c_1]) dX11_high_33

def X_tell_r (κ : Nat → Nat) (σ : Nat → Nat → Int32) (tm : Nat) (rate : Int32) (asked : Int32) : Int32 := if (X_isRate_r rate) = 0 then (-102) else (if asked < 1 then (-102) else (if asked ≤ 20 then (if tm < 6 then (XT_note_r κ σ tm rate asked) else (-104)) else (-102)))
def X_tell_s (κ : Nat → Nat) (σ : Nat → Nat → Int32) (tm : Nat) (rate : Int32) (asked : Int32) : Nat → Nat → Int32 := if (X_isRate_r rate) = 0 then σ else (if asked < 1 then σ else (if asked ≤ 20 then (if tm < 6 then (XT_note_s κ σ tm rate asked) else σ) else σ))
theorem X_tell_s_k (κ : Nat → Nat) (σ : Nat → Nat → Int32) (tm : Nat) (rate : Int32) (asked : Int32) (c9 : Nat) (q0 : c9 ≠ 42) (q1 : c9 ≠ 43) (q2 : c9 ≠ 44) : X_tell_s κ σ tm rate asked c9 = σ c9 := by
  unfold X_tell_s
  by_cases z1 : (X_isRate_r rate) = 0
  · refine Eq.trans (congrFun (if_pos z1) c9) ?_
    exact rfl
  · refine Eq.trans (congrFun (if_neg z1) c9) ?_
    by_cases z2 : asked < 1
    · refine Eq.trans (congrFun (if_pos z2) c9) ?_
      exact rfl
    · refine Eq.trans (congrFun (if_neg z2) c9) ?_
      by_cases z3 : asked ≤ 20
      · refine Eq.trans (congrFun (if_pos z3) c9) ?_
        by_cases z4 : tm < 6
        · refine Eq.trans (congrFun (if_pos z4) c9) ?_
          exact XT_note_s_k κ σ tm rate asked c9 q0 q1 q2
        · refine Eq.trans (congrFun (if_neg z4) c9) ?_
          exact rfl
      · refine Eq.trans (congrFun (if_neg z3) c9) ?_
        exact rfl
set_option maxHeartbeats 4000000 in
set_option maxRecDepth 100000 in
theorem c_X_tell (l : Launch) (D : va_G) (cI cC cI2 : ClassId) (a : Nat → Nat) (κ : Nat → Nat) (σ : Nat → Nat → Int32) (tm : Nat) (rate : Int32) (asked : Int32) (ht0 : σ 42 2 = nI tm) (ht0b : tm ≤ 6) : gI l D (tysX cI cC cI2) yX11_tell wsX11_tell 2 [.ref (a 0), .int rate, .int asked] (wX cI cC cI2 a κ σ) (X_tell_r κ σ tm rate asked) (wX cI cC cI2 a κ (X_tell_s κ σ tm rate asked)) := by
  refine g_start (cc := cX11_tell) (maxL := 3) (ret := some .int) (Qc := gQi D (tysX cI cC cI2) (X_tell_r κ σ tm rate asked) (wX cI cC cI2 a κ (X_tell_s κ σ tm rate asked))) (by decide) rfl (Nat.le_of_ble_eq_true rfl) ?_
  intro p e s m below meth C A ls S hr hlk hw hl
  obtain ⟨hx, hb, hml, hown, hts⟩ := id S
  have hinX11 : ∀ x ∈ u_ws RX11 TX11 8, x ∈ wsX11_tell := fun x h => List.mem_cons_of_mem _ (List.mem_append_left _ (List.mem_append_left _ (List.mem_append_right _ h)))
  have hinX8 : ∀ x ∈ u_ws RX8 TX8 5, x ∈ wsX11_tell := fun x h => List.mem_cons_of_mem _ (List.mem_append_left _ (List.mem_append_right _ h))
  have hinX9 : ∀ x ∈ u_ws RX9 TX9 3, x ∈ wsX11_tell := fun x h => List.mem_cons_of_mem _ (List.mem_append_right _ h)
  have lk0 : Cond.fieldLink RX11 43 "CowsOwed" "now" "LCowsOwed$Times;" ∈ wsX11_tell := by decide +kernel
  have lk1 : Cond.fieldLink RX11 213 "CowsOwed$Times" "told" "LCowsOwed$Told;" ∈ wsX11_tell := by decide +kernel
  have lk2 : Cond.fieldLink RX11 217 "CowsOwed$Told" "size" "I" ∈ wsX11_tell := by decide +kernel
  have hl : lv_has ls 3 [(0, .ref (a 0)), (1, .int rate), (2, .int asked)] := hl
  refine lv_iload_n hx hb dX11_tell_0 rfl (lv_at hl 1 rfl) ?_
  refine g_callSi S hw (c_X_isRate l D (tysX cI cC cI2) (wX cI cC cI2 a κ σ) rate) gX11_tell_X11_isRate rfl 1 rfl (by decide +kernel) (by decide) (by decide) hl.1 rfl (Nat.le_of_ble_eq_true rfl) dX11_tell_1 (fun H locs hw => ?_)
  refine lv_if_eq hx hb (tgt := 18) dX11_tell_4 (by decide) (fun c_1 => ?_) (fun c_1 => ?_)
  · refine lv_bipush (v := (-102)) hx hb dX11_tell_18 (by decide) ?_
    exact g_iret S hr hlk hw (by simp only [X_tell_r, if_pos c_1]) (by simp only [X_tell_s, if_pos c_1]) dX11_tell_20
  · refine lv_iload_n hx hb dX11_tell_7 rfl (lv_at hl 2 rfl) ?_
    refine lv_iconst (v := 1) hx hb dX11_tell_8 (by decide) ?_
    refine lv_icmp_lt hx hb (tgt := 18) dX11_tell_9 (by decide) (fun c_2 => ?_) (fun c_2 => ?_)
    · refine lv_bipush (v := (-102)) hx hb dX11_tell_18 (by decide) ?_
      exact g_iret S hr hlk hw (by simp only [X_tell_r, if_neg c_1, if_pos c_2]) (by simp only [X_tell_s, if_neg c_1, if_pos c_2]) dX11_tell_20
    · refine lv_iload_n hx hb dX11_tell_12 rfl (lv_at hl 2 rfl) ?_
      refine lv_bipush (v := 20) hx hb dX11_tell_13 (by decide) ?_
      refine lv_icmp_le hx hb (tgt := 21) dX11_tell_15 (by decide) (fun c_3 => ?_) (fun c_3 => ?_)
      · refine lv_aload_n hx hb dX11_tell_21 rfl (lv_at hl 0 rfl) ?_
        refine g_get S hw hinX11 (fs := fX0 a σ) 0 rfl rfl 3 (by decide) lk0 (v := .ref (a 31)) rfl dX11_tell_22 ?_
        refine g_get S hw hinX8 (fs := fX31 a σ) 31 rfl rfl 3 (by decide) lk1 (v := .ref (a 42)) rfl dX11_tell_25 ?_
        refine g_get S hw hinX9 (fs := fX42 a σ) 42 rfl rfl 2 (by decide) lk2 (v := .int (nI tm)) (congrArg (fun z => some (Value.int z)) (ht0)) dX11_tell_28 ?_
        refine lv_bipush (v := 6) hx hb dX11_tell_31 (by decide) ?_
        refine ln_lt (x := tm) (y := 6) hx hb (by omega) (by omega) (tgt := 39) dX11_tell_33 (by decide) (fun c_4 => ?_) (fun c_4 => ?_)
        · refine lv_aload_n hx hb dX11_tell_39 rfl (lv_at hl 0 rfl) ?_
          refine g_get S hw hinX11 (fs := fX0 a σ) 0 rfl rfl 3 (by decide) lk0 (v := .ref (a 31)) rfl dX11_tell_40 ?_
          refine g_get S hw hinX8 (fs := fX31 a σ) 31 rfl rfl 3 (by decide) lk1 (v := .ref (a 42)) rfl dX11_tell_43 ?_
          refine lv_iload_n hx hb dX11_tell_46 rfl (lv_at hl 1 rfl) ?_
          refine lv_iload_n hx hb dX11_tell_47 rfl (lv_at hl 2 rfl) ?_
          refine g_callVi S hw (c_XT_note l D cI cC cI2 a κ σ tm rate asked (ht0) (by omega)) gX11_tell_X9_note rfl 42 rfl rfl 2 rfl (by decide +kernel) (by decide) (by decide) hl.1 rfl (Nat.le_of_ble_eq_true rfl) dX11_tell_48 (fun H locs hw => ?_)
          exact g_iret S hr hlk hw (by simp only [X_tell_r, if_neg c_1, if_neg c_2, if_pos c_3, if_pos c_4]) (by simp only [X_tell_s, if_neg c_1, if_neg c_2, if_pos c_3, if_pos c_4]) dX11_tell_51
        · refine lv_bipush (v := (-104)) hx hb dX11_tell_36 (by decide) ?_
          exact g_iret S hr hlk hw (by simp only [X_tell_r, if_neg c_1, if_neg c_2, if_pos c_3, if_neg c_4]) (by simp only [X_tell_s, if_neg c_1, if_neg c_2, if_pos c_3, if_neg c_4]) dX11_tell_38
      · refine lv_bipush (v := (-102)) hx hb dX11_tell_18 (by decide) ?_
        exact g_iret S hr hlk hw (by simp only [X_tell_r, if_neg c_1, if_neg c_2, if_neg c_3]) (by simp only [X_tell_s, if_neg c_1, if_neg c_2, if_neg c_3]) dX11_tell_20

def X_forget_r (κ : Nat → Nat) (σ : Nat → Nat → Int32) : Int32 := σ 42 2
def X_forget_s (κ : Nat → Nat) (σ : Nat → Nat → Int32) : Nat → Nat → Int32 := up2 σ 42 2 0
theorem X_forget_s_k (κ : Nat → Nat) (σ : Nat → Nat → Int32) (c9 : Nat) (q0 : c9 ≠ 42) : X_forget_s κ σ c9 = σ c9 := by
  unfold X_forget_s
  exact up2_n _ _ _ q0
set_option maxHeartbeats 4000000 in
set_option maxRecDepth 100000 in
theorem c_X_forget (l : Launch) (D : va_G) (cI cC cI2 : ClassId) (a : Nat → Nat) (κ : Nat → Nat) (σ : Nat → Nat → Int32) : gI l D (tysX cI cC cI2) yX11_forget wsX11_forget 1 [.ref (a 0)] (wX cI cC cI2 a κ σ) (X_forget_r κ σ) (wX cI cC cI2 a κ (X_forget_s κ σ)) := by
  refine g_start (cc := cX11_forget) (maxL := 2) (ret := some .int) (Qc := gQi D (tysX cI cC cI2) (X_forget_r κ σ) (wX cI cC cI2 a κ (X_forget_s κ σ))) (by decide) rfl (Nat.le_of_ble_eq_true rfl) ?_
  intro p e s m below meth C A ls S hr hlk hw hl
  obtain ⟨hx, hb, hml, hown, hts⟩ := id S
  have hinX11 : ∀ x ∈ u_ws RX11 TX11 8, x ∈ wsX11_forget := fun x h => List.mem_cons_of_mem _ (List.mem_append_left _ (List.mem_append_left _ (List.mem_append_right _ h)))
  have hinX8 : ∀ x ∈ u_ws RX8 TX8 5, x ∈ wsX11_forget := fun x h => List.mem_cons_of_mem _ (List.mem_append_left _ (List.mem_append_right _ h))
  have hinX9 : ∀ x ∈ u_ws RX9 TX9 3, x ∈ wsX11_forget := fun x h => List.mem_cons_of_mem _ (List.mem_append_right _ h)
  have lk0 : Cond.fieldLink RX11 43 "CowsOwed" "now" "LCowsOwed$Times;" ∈ wsX11_forget := by decide +kernel
  have lk1 : Cond.fieldLink RX11 213 "CowsOwed$Times" "told" "LCowsOwed$Told;" ∈ wsX11_forget := by decide +kernel
  have lk2 : Cond.fieldLink RX11 217 "CowsOwed$Told" "size" "I" ∈ wsX11_forget := by decide +kernel
  have hl : lv_has ls 2 [(0, .ref (a 0))] := hl
  refine lv_aload_n hx hb dX11_forget_0 rfl (lv_at hl 0 rfl) ?_
  refine g_get S hw hinX11 (fs := fX0 a σ) 0 rfl rfl 3 (by decide) lk0 (v := .ref (a 31)) rfl dX11_forget_1 ?_
  refine g_get S hw hinX8 (fs := fX31 a σ) 31 rfl rfl 3 (by decide) lk1 (v := .ref (a 42)) rfl dX11_forget_4 ?_
  refine g_get S hw hinX9 (fs := fX42 a σ) 42 rfl rfl 2 (by decide) lk2 (v := .int (σ 42 2)) rfl dX11_forget_7 ?_
  refine lv_istore_n (lv' := [(1, .int (σ 42 2)), (0, .ref (a 0))]) hx hb dX11_forget_10 rfl hl (by decide) rfl (fun ls hl => ?_)
  refine lv_aload_n hx hb dX11_forget_11 rfl (lv_at hl 1 rfl) ?_
  refine g_get S hw hinX11 (fs := fX0 a σ) 0 rfl rfl 3 (by decide) lk0 (v := .ref (a 31)) rfl dX11_forget_12 ?_
  refine g_get S hw hinX8 (fs := fX31 a σ) 31 rfl rfl 3 (by decide) lk1 (v := .ref (a 42)) rfl dX11_forget_15 ?_
  refine lv_iconst (v := 0) hx hb dX11_forget_18 (by decide) ?_
  refine g_put S hw hinX9 tyX9 tyX9_ok nmX9 (fs := fX42 a σ) 42 rfl rfl 2 (by decide) lk2 rfl rfl rfl (Nat.le_of_ble_eq_true rfl) (w2 := wX cI cC cI2 a κ (up2 σ 42 2 0)) (wX_f42_2 _ _ _ _ _ _ _) dX11_forget_19 (fun H locs hw => ?_)
  refine lv_iload_n hx hb dX11_forget_22 rfl (lv_at hl 0 rfl) ?_
  exact g_iret S hr hlk hw (by simp only [X_forget_r]) (by simp only [X_forget_s]) dX11_forget_23

def X_which_r (κ : Nat → Nat) (σ : Nat → Nat → Int32) (tm : Nat) : Int32 := XT_kindsLeft_r κ σ tm
set_option maxHeartbeats 4000000 in
set_option maxRecDepth 100000 in
theorem c_X_which (l : Launch) (D : va_G) (cI cC cI2 : ClassId) (a : Nat → Nat) (κ : Nat → Nat) (σ : Nat → Nat → Int32) (tm : Nat) (ht0 : σ 42 2 = nI tm) (ht0b : tm ≤ 6) : gI l D (tysX cI cC cI2) yX11_which wsX11_which 5 [.ref (a 0)] (wX cI cC cI2 a κ σ) (X_which_r κ σ tm) (wX cI cC cI2 a κ σ) := by
  refine g_start (cc := cX11_which) (maxL := 1) (ret := some .int) (Qc := gQi D (tysX cI cC cI2) (X_which_r κ σ tm) (wX cI cC cI2 a κ σ)) (by decide) rfl (Nat.le_of_ble_eq_true rfl) ?_
  intro p e s m below meth C A ls S hr hlk hw hl
  obtain ⟨hx, hb, hml, hown, hts⟩ := id S
  have hinX11 : ∀ x ∈ u_ws RX11 TX11 8, x ∈ wsX11_which := fun x h => List.mem_cons_of_mem _ (List.mem_append_left _ (List.mem_append_left _ (List.mem_append_right _ h)))
  have hinX8 : ∀ x ∈ u_ws RX8 TX8 5, x ∈ wsX11_which := fun x h => List.mem_cons_of_mem _ (List.mem_append_left _ (List.mem_append_right _ h))
  have lk0 : Cond.fieldLink RX11 43 "CowsOwed" "now" "LCowsOwed$Times;" ∈ wsX11_which := by decide +kernel
  have lk1 : Cond.fieldLink RX11 213 "CowsOwed$Times" "told" "LCowsOwed$Told;" ∈ wsX11_which := by decide +kernel
  have lk2 : Cond.fieldLink RX11 22 "CowsOwed" "kinds" "[LCowsOwed$Clan;" ∈ wsX11_which := by decide +kernel
  have hl : lv_has ls 1 [(0, .ref (a 0))] := hl
  refine lv_aload_n hx hb dX11_which_0 rfl (lv_at hl 0 rfl) ?_
  refine g_get S hw hinX11 (fs := fX0 a σ) 0 rfl rfl 3 (by decide) lk0 (v := .ref (a 31)) rfl dX11_which_1 ?_
  refine g_get S hw hinX8 (fs := fX31 a σ) 31 rfl rfl 3 (by decide) lk1 (v := .ref (a 42)) rfl dX11_which_4 ?_
  refine lv_aload_n hx hb dX11_which_7 rfl (lv_at hl 0 rfl) ?_
  refine g_get S hw hinX11 (fs := fX0 a σ) 0 rfl rfl 0 (by decide) lk2 (v := .ref (a 1)) rfl dX11_which_8 ?_
  refine g_callVi S hw (c_XT_kindsLeft l D cI cC cI2 a κ σ tm (ht0) (by omega)) gX11_which_X9_kindsLeft rfl 42 rfl rfl 1 rfl (by decide +kernel) (by decide) (by decide) hl.1 rfl (Nat.le_of_ble_eq_true rfl) dX11_which_11 (fun H locs hw => ?_)
  exact g_iret S hr hlk hw (by simp only [X_which_r]) rfl dX11_which_14

def X_ask_r (κ : Nat → Nat) (σ : Nat → Nat → Int32) (tm : Nat) : Int32 := XT_nextRate_r κ σ tm
set_option maxHeartbeats 4000000 in
set_option maxRecDepth 100000 in
theorem c_X_ask (l : Launch) (D : va_G) (cI cC cI2 : ClassId) (a : Nat → Nat) (κ : Nat → Nat) (σ : Nat → Nat → Int32) (tm : Nat) (ht0 : σ 42 2 = nI tm) (ht0b : tm ≤ 6) : gI l D (tysX cI cC cI2) yX11_ask wsX11_ask 6 [.ref (a 0)] (wX cI cC cI2 a κ σ) (X_ask_r κ σ tm) (wX cI cC cI2 a κ σ) := by
  refine g_start (cc := cX11_ask) (maxL := 1) (ret := some .int) (Qc := gQi D (tysX cI cC cI2) (X_ask_r κ σ tm) (wX cI cC cI2 a κ σ)) (by decide) rfl (Nat.le_of_ble_eq_true rfl) ?_
  intro p e s m below meth C A ls S hr hlk hw hl
  obtain ⟨hx, hb, hml, hown, hts⟩ := id S
  have hinX11 : ∀ x ∈ u_ws RX11 TX11 8, x ∈ wsX11_ask := fun x h => List.mem_cons_of_mem _ (List.mem_append_left _ (List.mem_append_left _ (List.mem_append_right _ h)))
  have hinX8 : ∀ x ∈ u_ws RX8 TX8 5, x ∈ wsX11_ask := fun x h => List.mem_cons_of_mem _ (List.mem_append_left _ (List.mem_append_right _ h))
  have lk0 : Cond.fieldLink RX11 43 "CowsOwed" "now" "LCowsOwed$Times;" ∈ wsX11_ask := by decide +kernel
  have lk1 : Cond.fieldLink RX11 213 "CowsOwed$Times" "told" "LCowsOwed$Told;" ∈ wsX11_ask := by decide +kernel
  have lk2 : Cond.fieldLink RX11 22 "CowsOwed" "kinds" "[LCowsOwed$Clan;" ∈ wsX11_ask := by decide +kernel
  have hl : lv_has ls 1 [(0, .ref (a 0))] := hl
  refine lv_aload_n hx hb dX11_ask_0 rfl (lv_at hl 0 rfl) ?_
  refine g_get S hw hinX11 (fs := fX0 a σ) 0 rfl rfl 3 (by decide) lk0 (v := .ref (a 31)) rfl dX11_ask_1 ?_
  refine g_get S hw hinX8 (fs := fX31 a σ) 31 rfl rfl 3 (by decide) lk1 (v := .ref (a 42)) rfl dX11_ask_4 ?_
  refine lv_aload_n hx hb dX11_ask_7 rfl (lv_at hl 0 rfl) ?_
  refine g_get S hw hinX11 (fs := fX0 a σ) 0 rfl rfl 0 (by decide) lk2 (v := .ref (a 1)) rfl dX11_ask_8 ?_
  refine g_callVi S hw (c_XT_nextRate l D cI cC cI2 a κ σ tm (ht0) (by omega)) gX11_ask_X9_nextRate rfl 42 rfl rfl 1 rfl (by decide +kernel) (by decide) (by decide) hl.1 rfl (Nat.le_of_ble_eq_true rfl) dX11_ask_11 (fun H locs hw => ?_)
  exact g_iret S hr hlk hw (by simp only [X_ask_r]) rfl dX11_ask_14

theorem X_hills_pos {κ : Nat → Nat} {σ : Nat → Nat → Int32} {n : Nat} (hn : σ 10 3 = nI n) (h : ¬ X_hasHills_r κ σ = 0) : 0 < n := by
  rcases Nat.eq_zero_or_pos n with e | e
  · subst e
    unfold X_hasHills_r at h
    rw [hn] at h
    exact absurd (if_pos (by decide)) h
  · exact e
def X_ages_r (κ : Nat → Nat) (σ : Nat → Nat → Int32) (n : Nat) (years : Int32) (seed : Int32) (what : Int32) : Int32 := if years < 1 then (-102) else (if 40 < years then (-102) else (if seed < 0 then (-102) else (if what < 0 then (-102) else (if what ≤ 2 then (if (X_hasHills_r κ σ) = 0 then (-103) else (if what = 0 then (XH_allOwed_r 24 κ (XH_live_s 24 κ (XH_copyFrom_24_10_s κ σ) n years.toNatClampNeg seed.toNatClampNeg) n) else (if what = 1 then (XH_allCows_r 24 κ (XH_live_s 24 κ (XH_copyFrom_24_10_s κ σ) n years.toNatClampNeg seed.toNatClampNeg) n) else (nI (XH_live_n 24 κ (XH_copyFrom_24_10_s κ σ) n years.toNatClampNeg seed.toNatClampNeg))))) else (-102)))))
def X_ages_s (κ : Nat → Nat) (σ : Nat → Nat → Int32) (n : Nat) (years : Int32) (seed : Int32) (what : Int32) : Nat → Nat → Int32 := if years < 1 then σ else (if 40 < years then σ else (if seed < 0 then σ else (if what < 0 then σ else (if what ≤ 2 then (if (X_hasHills_r κ σ) = 0 then σ else (if what = 0 then (XH_live_s 24 κ (XH_copyFrom_24_10_s κ σ) n years.toNatClampNeg seed.toNatClampNeg) else (if what = 1 then (XH_live_s 24 κ (XH_copyFrom_24_10_s κ σ) n years.toNatClampNeg seed.toNatClampNeg) else (XH_live_s 24 κ (XH_copyFrom_24_10_s κ σ) n years.toNatClampNeg seed.toNatClampNeg)))) else σ))))
theorem X_ages_s_k (κ : Nat → Nat) (σ : Nat → Nat → Int32) (n : Nat) (years : Int32) (seed : Int32) (what : Int32) (c9 : Nat) (q0 : c9 ≠ 24) (q1 : c9 ≠ 25) (q2 : c9 ≠ 26) : X_ages_s κ σ n years seed what c9 = σ c9 := by
  unfold X_ages_s
  by_cases z1 : years < 1
  · refine Eq.trans (congrFun (if_pos z1) c9) ?_
    exact rfl
  · refine Eq.trans (congrFun (if_neg z1) c9) ?_
    by_cases z2 : 40 < years
    · refine Eq.trans (congrFun (if_pos z2) c9) ?_
      exact rfl
    · refine Eq.trans (congrFun (if_neg z2) c9) ?_
      by_cases z3 : seed < 0
      · refine Eq.trans (congrFun (if_pos z3) c9) ?_
        exact rfl
      · refine Eq.trans (congrFun (if_neg z3) c9) ?_
        by_cases z4 : what < 0
        · refine Eq.trans (congrFun (if_pos z4) c9) ?_
          exact rfl
        · refine Eq.trans (congrFun (if_neg z4) c9) ?_
          by_cases z5 : what ≤ 2
          · refine Eq.trans (congrFun (if_pos z5) c9) ?_
            by_cases z6 : (X_hasHills_r κ σ) = 0
            · refine Eq.trans (congrFun (if_pos z6) c9) ?_
              exact rfl
            · refine Eq.trans (congrFun (if_neg z6) c9) ?_
              by_cases z7 : what = 0
              · refine Eq.trans (congrFun (if_pos z7) c9) ?_
                exact (XH_live_s_k 24 κ (XH_copyFrom_24_10_s κ σ) n years.toNatClampNeg seed.toNatClampNeg c9 q1 q2).trans (XH_copyFrom_24_10_s_k κ σ c9 q0 q1 q2)
              · refine Eq.trans (congrFun (if_neg z7) c9) ?_
                by_cases z8 : what = 1
                · refine Eq.trans (congrFun (if_pos z8) c9) ?_
                  exact (XH_live_s_k 24 κ (XH_copyFrom_24_10_s κ σ) n years.toNatClampNeg seed.toNatClampNeg c9 q1 q2).trans (XH_copyFrom_24_10_s_k κ σ c9 q0 q1 q2)
                · refine Eq.trans (congrFun (if_neg z8) c9) ?_
                  exact (XH_live_s_k 24 κ (XH_copyFrom_24_10_s κ σ) n years.toNatClampNeg seed.toNatClampNeg c9 q1 q2).trans (XH_copyFrom_24_10_s_k κ σ c9 q0 q1 q2)
          · refine Eq.trans (congrFun (if_neg z5) c9) ?_
            exact rfl
set_option maxHeartbeats 4000000 in
set_option maxRecDepth 100000 in
theorem c_X_ages (l : Launch) (D : va_G) (cI cC cI2 : ClassId) (a : Nat → Nat) (κ : Nat → Nat) (σ : Nat → Nat → Int32) (n : Nat) (years : Int32) (seed : Int32) (what : Int32) (hn : σ 10 3 = nI n) (hnb : n ≤ 4) (hk : ∀ i, i < 4 → κ i < 5) : gI l D (tysX cI cC cI2) yX11_ages wsX11_ages 7 [.ref (a 0), .int years, .int seed, .int what] (wX cI cC cI2 a κ σ) (X_ages_r κ σ n years seed what) (wX cI cC cI2 a κ (X_ages_s κ σ n years seed what)) := by
  refine g_start (cc := cX11_ages) (maxL := 5) (ret := some .int) (Qc := gQi D (tysX cI cC cI2) (X_ages_r κ σ n years seed what) (wX cI cC cI2 a κ (X_ages_s κ σ n years seed what))) (by decide) rfl (Nat.le_of_ble_eq_true rfl) ?_
  intro p e s m below meth C A ls S hr hlk hw hl
  obtain ⟨hx, hb, hml, hown, hts⟩ := id S
  have hinX11 : ∀ x ∈ u_ws RX11 TX11 8, x ∈ wsX11_ages := fun x h => List.mem_cons_of_mem _ (List.mem_append_left _ (List.mem_append_left _ (List.mem_append_right _ h)))
  have hinX8 : ∀ x ∈ u_ws RX8 TX8 5, x ∈ wsX11_ages := fun x h => List.mem_cons_of_mem _ (List.mem_append_left _ (List.mem_append_right _ h))
  have lk0 : Cond.fieldLink RX11 53 "CowsOwed" "trial" "LCowsOwed$Herds;" ∈ wsX11_ages := by decide +kernel
  have lk1 : Cond.fieldLink RX11 43 "CowsOwed" "now" "LCowsOwed$Times;" ∈ wsX11_ages := by decide +kernel
  have lk2 : Cond.fieldLink RX11 97 "CowsOwed$Times" "herds" "LCowsOwed$Herds;" ∈ wsX11_ages := by decide +kernel
  have hl : lv_has ls 5 [(0, .ref (a 0)), (1, .int years), (2, .int seed), (3, .int what)] := hl
  refine lv_iload_n hx hb dX11_ages_0 rfl (lv_at hl 1 rfl) ?_
  refine lv_iconst (v := 1) hx hb dX11_ages_1 (by decide) ?_
  refine lv_icmp_lt hx hb (tgt := 24) dX11_ages_2 (by decide) (fun c_1 => ?_) (fun c_1 => ?_)
  · refine lv_bipush (v := (-102)) hx hb dX11_ages_24 (by decide) ?_
    exact g_iret S hr hlk hw (by simp only [X_ages_r, if_pos c_1]) (by simp only [X_ages_s, if_pos c_1]) dX11_ages_26
  · refine lv_iload_n hx hb dX11_ages_5 rfl (lv_at hl 1 rfl) ?_
    refine lv_bipush (v := 40) hx hb dX11_ages_6 (by decide) ?_
    refine lv_icmp_gt hx hb (tgt := 24) dX11_ages_8 (by decide) (fun c_2 => ?_) (fun c_2 => ?_)
    · refine lv_bipush (v := (-102)) hx hb dX11_ages_24 (by decide) ?_
      exact g_iret S hr hlk hw (by simp only [X_ages_r, if_neg c_1, if_pos c_2]) (by simp only [X_ages_s, if_neg c_1, if_pos c_2]) dX11_ages_26
    · refine lv_iload_n hx hb dX11_ages_11 rfl (lv_at hl 2 rfl) ?_
      refine lv_if_lt hx hb (tgt := 24) dX11_ages_12 (by decide) (fun c_3 => ?_) (fun c_3 => ?_)
      · refine lv_bipush (v := (-102)) hx hb dX11_ages_24 (by decide) ?_
        exact g_iret S hr hlk hw (by simp only [X_ages_r, if_neg c_1, if_neg c_2, if_pos c_3]) (by simp only [X_ages_s, if_neg c_1, if_neg c_2, if_pos c_3]) dX11_ages_26
      · refine lv_iload_n hx hb dX11_ages_15 rfl (lv_at hl 3 rfl) ?_
        refine lv_if_lt hx hb (tgt := 24) dX11_ages_16 (by decide) (fun c_4 => ?_) (fun c_4 => ?_)
        · refine lv_bipush (v := (-102)) hx hb dX11_ages_24 (by decide) ?_
          exact g_iret S hr hlk hw (by simp only [X_ages_r, if_neg c_1, if_neg c_2, if_neg c_3, if_pos c_4]) (by simp only [X_ages_s, if_neg c_1, if_neg c_2, if_neg c_3, if_pos c_4]) dX11_ages_26
        · refine lv_iload_n hx hb dX11_ages_19 rfl (lv_at hl 3 rfl) ?_
          refine lv_iconst (v := 2) hx hb dX11_ages_20 (by decide) ?_
          refine lv_icmp_le hx hb (tgt := 27) dX11_ages_21 (by decide) (fun c_5 => ?_) (fun c_5 => ?_)
          · obtain ⟨e1, b1, b2⟩ := X_in_rng (lo := 1) (hi := 41) (by decide) (by decide) c_1 (X_le_40 c_2)
            obtain ⟨e2, b3⟩ := X_in_pos c_3
            have hl : lv_has ls 5 [(0, .ref (a 0)), (1, .int (nI years.toNatClampNeg)), (2, .int (nI seed.toNatClampNeg)), (3, .int what)] := by rw [← e1, ← e2]; exact hl
            refine lv_aload_n hx hb dX11_ages_27 rfl (lv_at hl 0 rfl) ?_
            refine g_callVi S hw (c_X_hasHills l D cI cC cI2 a κ σ) gX11_ages_X11_hasHills rfl 0 rfl rfl 0 rfl (by decide +kernel) (by decide) (by decide) hl.1 rfl (Nat.le_of_ble_eq_true rfl) dX11_ages_28 (fun H locs hw => ?_)
            refine lv_if_ne hx hb (tgt := 37) dX11_ages_31 (by decide) (fun c_6 => ?_) (fun c_6 => ?_)
            · have hn0 := X_hills_pos hn c_6
              refine lv_aload_n hx hb dX11_ages_37 rfl (lv_at hl 0 rfl) ?_
              refine g_get S hw hinX11 (fs := fX0 a σ) 0 rfl rfl 5 (by decide) lk0 (v := .ref (a 24)) rfl dX11_ages_38 ?_
              refine lv_aload_n hx hb dX11_ages_41 rfl (lv_at hl 0 rfl) ?_
              refine g_get S hw hinX11 (fs := fX0 a σ) 0 rfl rfl 3 (by decide) lk1 (v := .ref (a 31)) rfl dX11_ages_42 ?_
              refine g_get S hw hinX8 (fs := fX31 a σ) 31 rfl rfl 0 (by decide) lk2 (v := .ref (a 10)) rfl dX11_ages_45 ?_
              refine g_callVv S hw (c_XH_copyFrom_24_10 l D cI cC cI2 a κ σ) gX11_ages_X2_copyFrom rfl 24 rfl rfl 1 rfl (by decide +kernel) (by decide) (by decide) hl.1 rfl (Nat.le_of_ble_eq_true rfl) dX11_ages_48 (fun H locs hw => ?_)
              refine lv_aload_n hx hb dX11_ages_51 rfl (lv_at hl 0 rfl) ?_
              refine g_get S hw hinX11 (fs := fX0 a (XH_copyFrom_24_10_s κ σ)) 0 rfl rfl 5 (by decide) lk0 (v := .ref (a 24)) rfl dX11_ages_52 ?_
              refine lv_iload_n hx hb dX11_ages_55 rfl (lv_at hl 1 rfl) ?_
              refine lv_iload_n hx hb dX11_ages_56 rfl (lv_at hl 2 rfl) ?_
              refine g_callVi S hw (c_XH_live_24 l D cI cC cI2 a κ (XH_copyFrom_24_10_s κ σ) n years.toNatClampNeg seed.toNatClampNeg ((XH_copy2410_3 κ σ).trans (hn)) (by omega) (by omega) (by omega) (by omega) hk) gX11_ages_X2_live rfl 24 rfl rfl 2 rfl (by decide +kernel) (by decide) (by decide) hl.1 rfl (Nat.le_of_ble_eq_true rfl) dX11_ages_57 (fun H locs hw => ?_)
              refine lv_istore (lv' := [(4, .int (nI (XH_live_n 24 κ (XH_copyFrom_24_10_s κ σ) n years.toNatClampNeg seed.toNatClampNeg))), (0, .ref (a 0)), (1, .int (nI years.toNatClampNeg)), (2, .int (nI seed.toNatClampNeg)), (3, .int what)]) hx hb dX11_ages_60 hl (by decide) rfl (fun ls hl => ?_)
              refine lv_iload_n hx hb dX11_ages_62 rfl (lv_at hl 4 rfl) ?_
              by_cases s_7 : what = 0
              · refine lv_lookup (off := 25) (tgt := 88) hx hb dX11_ages_63 (by decide) (by rw [s_7]; rfl) (by decide) ?_
                refine lv_aload_n hx hb dX11_ages_88 rfl (lv_at hl 1 rfl) ?_
                refine g_get S hw hinX11 (fs := fX0 a (XH_live_s 24 κ (XH_copyFrom_24_10_s κ σ) n years.toNatClampNeg seed.toNatClampNeg)) 0 rfl rfl 5 (by decide) lk0 (v := .ref (a 24)) rfl dX11_ages_89 ?_
                refine g_callVi S hw (c_XH_allOwed_24 l D cI cC cI2 a κ (XH_live_s 24 κ (XH_copyFrom_24_10_s κ σ) n years.toNatClampNeg seed.toNatClampNeg) n ((congrFun (XH_live_s_k 24 κ (XH_copyFrom_24_10_s κ σ) n years.toNatClampNeg seed.toNatClampNeg 24 (by omega) (by omega)) 3).trans ((XH_copy2410_3 κ σ).trans (hn))) (by omega)) gX11_ages_X2_allOwed rfl 24 rfl rfl 0 rfl (by decide +kernel) (by decide) (by decide) hl.1 rfl (Nat.le_of_ble_eq_true rfl) dX11_ages_92 (fun H locs hw => ?_)
                exact g_iret S hr hlk hw (by simp only [X_ages_r, if_neg c_1, if_neg c_2, if_neg c_3, if_neg c_4, if_pos c_5, if_neg c_6, if_pos s_7]) (by simp only [X_ages_s, if_neg c_1, if_neg c_2, if_neg c_3, if_neg c_4, if_pos c_5, if_neg c_6, if_pos s_7]) dX11_ages_95
              · by_cases s_8 : what = 1
                · refine lv_lookup (off := 33) (tgt := 96) hx hb dX11_ages_63 (by decide) (by rw [s_8]; rfl) (by decide) ?_
                  refine lv_aload_n hx hb dX11_ages_96 rfl (lv_at hl 1 rfl) ?_
                  refine g_get S hw hinX11 (fs := fX0 a (XH_live_s 24 κ (XH_copyFrom_24_10_s κ σ) n years.toNatClampNeg seed.toNatClampNeg)) 0 rfl rfl 5 (by decide) lk0 (v := .ref (a 24)) rfl dX11_ages_97 ?_
                  refine g_callVi S hw (c_XH_allCows_24 l D cI cC cI2 a κ (XH_live_s 24 κ (XH_copyFrom_24_10_s κ σ) n years.toNatClampNeg seed.toNatClampNeg) n ((congrFun (XH_live_s_k 24 κ (XH_copyFrom_24_10_s κ σ) n years.toNatClampNeg seed.toNatClampNeg 24 (by omega) (by omega)) 3).trans ((XH_copy2410_3 κ σ).trans (hn))) (by omega)) gX11_ages_X2_allCows rfl 24 rfl rfl 0 rfl (by decide +kernel) (by decide) (by decide) hl.1 rfl (Nat.le_of_ble_eq_true rfl) dX11_ages_100 (fun H locs hw => ?_)
                  exact g_iret S hr hlk hw (by simp only [X_ages_r, if_neg c_1, if_neg c_2, if_neg c_3, if_neg c_4, if_pos c_5, if_neg c_6, if_neg s_7, if_pos s_8]) (by simp only [X_ages_s, if_neg c_1, if_neg c_2, if_neg c_3, if_neg c_4, if_pos c_5, if_neg c_6, if_neg s_7, if_pos s_8]) dX11_ages_103
                · refine lv_lookup (off := 41) (tgt := 104) hx hb dX11_ages_63 (by decide) (by refine (lv_osw s_7 (by decide)).trans ?_; refine (lv_osw s_8 (by decide)).trans ?_; rfl) (by decide) ?_
                  refine lv_iload hx hb dX11_ages_104 (lv_at hl 0 rfl) ?_
                  exact g_iret S hr hlk hw (by simp only [X_ages_r, if_neg c_1, if_neg c_2, if_neg c_3, if_neg c_4, if_pos c_5, if_neg c_6, if_neg s_7, if_neg s_8]) (by simp only [X_ages_s, if_neg c_1, if_neg c_2, if_neg c_3, if_neg c_4, if_pos c_5, if_neg c_6, if_neg s_7, if_neg s_8]) dX11_ages_106
            · refine lv_bipush (v := (-103)) hx hb dX11_ages_34 (by decide) ?_
              exact g_iret S hr hlk hw (by simp only [X_ages_r, if_neg c_1, if_neg c_2, if_neg c_3, if_neg c_4, if_pos c_5, if_pos c_6]) (by simp only [X_ages_s, if_neg c_1, if_neg c_2, if_neg c_3, if_neg c_4, if_pos c_5, if_pos c_6]) dX11_ages_36
          · refine lv_bipush (v := (-102)) hx hb dX11_ages_24 (by decide) ?_
            exact g_iret S hr hlk hw (by simp only [X_ages_r, if_neg c_1, if_neg c_2, if_neg c_3, if_neg c_4, if_neg c_5]) (by simp only [X_ages_s, if_neg c_1, if_neg c_2, if_neg c_3, if_neg c_4, if_neg c_5]) dX11_ages_26

def X_image_r (κ : Nat → Nat) (σ : Nat → Nat → Int32) : Int32 := if (X_hasHills_r κ σ) = 0 then (-103) else (((XS_copyFrom_45_31_s κ σ) 45) 4)
def X_image_s (κ : Nat → Nat) (σ : Nat → Nat → Int32) : Nat → Nat → Int32 := if (X_hasHills_r κ σ) = 0 then σ else (up2 (XS_copyFrom_45_31_s κ σ) 0 6 1)
theorem X_image_s_k (κ : Nat → Nat) (σ : Nat → Nat → Int32) (c9 : Nat) (q0 : c9 ≠ 0) (q1 : c9 ≠ 17) (q2 : c9 ≠ 18) (q3 : c9 ≠ 19) (q4 : c9 ≠ 45) (q5 : c9 ≠ 46) (q6 : c9 ≠ 47) (q7 : c9 ≠ 48) (q8 : c9 ≠ 49) (q9 : c9 ≠ 50) (q10 : c9 ≠ 51) (q11 : c9 ≠ 52) (q12 : c9 ≠ 53) (q13 : c9 ≠ 56) (q14 : c9 ≠ 57) (q15 : c9 ≠ 58) : X_image_s κ σ c9 = σ c9 := by
  unfold X_image_s
  by_cases z1 : (X_hasHills_r κ σ) = 0
  · refine Eq.trans (congrFun (if_pos z1) c9) ?_
    exact rfl
  · refine Eq.trans (congrFun (if_neg z1) c9) ?_
    exact (up2_n _ _ _ q0).trans (XS_copyFrom_45_31_s_k κ σ c9 q1 q2 q3 q4 q5 q6 q7 q8 q9 q10 q11 q12 q13 q14 q15)
set_option maxHeartbeats 4000000 in
set_option maxRecDepth 100000 in
theorem c_X_image (l : Launch) (D : va_G) (cI cC cI2 : ClassId) (a : Nat → Nat) (κ : Nat → Nat) (σ : Nat → Nat → Int32) : gI l D (tysX cI cC cI2) yX11_image wsX11_image 3 [.ref (a 0)] (wX cI cC cI2 a κ σ) (X_image_r κ σ) (wX cI cC cI2 a κ (X_image_s κ σ)) := by
  refine g_start (cc := cX11_image) (maxL := 1) (ret := some .int) (Qc := gQi D (tysX cI cC cI2) (X_image_r κ σ) (wX cI cC cI2 a κ (X_image_s κ σ))) (by decide) rfl (Nat.le_of_ble_eq_true rfl) ?_
  intro p e s m below meth C A ls S hr hlk hw hl
  obtain ⟨hx, hb, hml, hown, hts⟩ := id S
  have hinX11 : ∀ x ∈ u_ws RX11 TX11 8, x ∈ wsX11_image := fun x h => List.mem_cons_of_mem _ (List.mem_append_left _ (List.mem_append_left _ (List.mem_append_left _ (List.mem_append_left _ (List.mem_append_left _ (List.mem_append_right _ h))))))
  have hinX8 : ∀ x ∈ u_ws RX8 TX8 5, x ∈ wsX11_image := fun x h => List.mem_cons_of_mem _ (List.mem_append_left _ (List.mem_append_left _ (List.mem_append_left _ (List.mem_append_left _ (List.mem_append_right _ h)))))
  have lk0 : Cond.fieldLink RX11 47 "CowsOwed" "kept" "LCowsOwed$Times;" ∈ wsX11_image := by decide +kernel
  have lk1 : Cond.fieldLink RX11 43 "CowsOwed" "now" "LCowsOwed$Times;" ∈ wsX11_image := by decide +kernel
  have lk2 : Cond.fieldLink RX11 57 "CowsOwed" "hasImage" "Z" ∈ wsX11_image := by decide +kernel
  have lk3 : Cond.fieldLink RX11 181 "CowsOwed$Times" "years" "I" ∈ wsX11_image := by decide +kernel
  have hl : lv_has ls 1 [(0, .ref (a 0))] := hl
  refine lv_aload_n hx hb dX11_image_0 rfl (lv_at hl 0 rfl) ?_
  refine g_callVi S hw (c_X_hasHills l D cI cC cI2 a κ σ) gX11_image_X11_hasHills rfl 0 rfl rfl 0 rfl (by decide +kernel) (by decide) (by decide) hl.1 rfl (Nat.le_of_ble_eq_true rfl) dX11_image_1 (fun H locs hw => ?_)
  refine lv_if_ne hx hb (tgt := 10) dX11_image_4 (by decide) (fun c_1 => ?_) (fun c_1 => ?_)
  · refine lv_aload_n hx hb dX11_image_10 rfl (lv_at hl 0 rfl) ?_
    refine g_get S hw hinX11 (fs := fX0 a σ) 0 rfl rfl 4 (by decide) lk0 (v := .ref (a 45)) rfl dX11_image_11 ?_
    refine lv_aload_n hx hb dX11_image_14 rfl (lv_at hl 0 rfl) ?_
    refine g_get S hw hinX11 (fs := fX0 a σ) 0 rfl rfl 3 (by decide) lk1 (v := .ref (a 31)) rfl dX11_image_15 ?_
    refine g_callVv S hw (c_XS_copyFrom_45_31 l D cI cC cI2 a κ σ) gX11_image_X8_copyFrom rfl 45 rfl rfl 1 rfl (by decide +kernel) (by decide) (by decide) hl.1 rfl (Nat.le_of_ble_eq_true rfl) dX11_image_18 (fun H locs hw => ?_)
    refine lv_aload_n hx hb dX11_image_21 rfl (lv_at hl 0 rfl) ?_
    refine lv_iconst (v := 1) hx hb dX11_image_22 (by decide) ?_
    refine g_put S hw hinX11 tyX11 tyX11_ok nmX11 (fs := fX0 a (XS_copyFrom_45_31_s κ σ)) 0 rfl rfl 6 (by decide) lk2 rfl (by decide) rfl (Nat.le_of_ble_eq_true rfl) (w2 := wX cI cC cI2 a κ (up2 (XS_copyFrom_45_31_s κ σ) 0 6 1)) (wX_f0_6 _ _ _ _ _ _ _) dX11_image_23 (fun H locs hw => ?_)
    refine lv_aload_n hx hb dX11_image_26 rfl (lv_at hl 0 rfl) ?_
    refine g_get S hw hinX11 (fs := fX0 a (up2 (XS_copyFrom_45_31_s κ σ) 0 6 1)) 0 rfl rfl 4 (by decide) lk0 (v := .ref (a 45)) rfl dX11_image_27 ?_
    refine g_get S hw hinX8 (fs := fX45 a (up2 (XS_copyFrom_45_31_s κ σ) 0 6 1)) 45 rfl rfl 4 (by decide) lk3 (v := .int (((XS_copyFrom_45_31_s κ σ) 45) 4)) (congrArg (fun z => some (Value.int z)) (up2_rn (by omega))) dX11_image_30 ?_
    exact g_iret S hr hlk hw (by simp only [X_image_r, if_neg c_1]) (by simp only [X_image_s, if_neg c_1]) dX11_image_33
  · refine lv_bipush (v := (-103)) hx hb dX11_image_7 (by decide) ?_
    exact g_iret S hr hlk hw (by simp only [X_image_r, if_pos c_1]) (by simp only [X_image_s, if_pos c_1]) dX11_image_9

def X_restore_r (κ : Nat → Nat) (σ : Nat → Nat → Int32) : Int32 := if (σ 0 6) = 0 then (-103) else (((XS_copyFrom_31_45_s κ σ) 31) 4)
def X_restore_s (κ : Nat → Nat) (σ : Nat → Nat → Int32) : Nat → Nat → Int32 := if (σ 0 6) = 0 then σ else (XS_copyFrom_31_45_s κ σ)
theorem X_restore_s_k (κ : Nat → Nat) (σ : Nat → Nat → Int32) (c9 : Nat) (q0 : c9 ≠ 10) (q1 : c9 ≠ 11) (q2 : c9 ≠ 12) (q3 : c9 ≠ 31) (q4 : c9 ≠ 32) (q5 : c9 ≠ 33) (q6 : c9 ≠ 34) (q7 : c9 ≠ 35) (q8 : c9 ≠ 36) (q9 : c9 ≠ 37) (q10 : c9 ≠ 38) (q11 : c9 ≠ 39) (q12 : c9 ≠ 42) (q13 : c9 ≠ 43) (q14 : c9 ≠ 44) : X_restore_s κ σ c9 = σ c9 := by
  unfold X_restore_s
  by_cases z1 : (σ 0 6) = 0
  · refine Eq.trans (congrFun (if_pos z1) c9) ?_
    exact rfl
  · refine Eq.trans (congrFun (if_neg z1) c9) ?_
    exact XS_copyFrom_31_45_s_k κ σ c9 q0 q1 q2 q3 q4 q5 q6 q7 q8 q9 q10 q11 q12 q13 q14
set_option maxHeartbeats 4000000 in
set_option maxRecDepth 100000 in
theorem c_X_restore (l : Launch) (D : va_G) (cI cC cI2 : ClassId) (a : Nat → Nat) (κ : Nat → Nat) (σ : Nat → Nat → Int32) : gI l D (tysX cI cC cI2) yX11_restore wsX11_restore 3 [.ref (a 0)] (wX cI cC cI2 a κ σ) (X_restore_r κ σ) (wX cI cC cI2 a κ (X_restore_s κ σ)) := by
  refine g_start (cc := cX11_restore) (maxL := 1) (ret := some .int) (Qc := gQi D (tysX cI cC cI2) (X_restore_r κ σ) (wX cI cC cI2 a κ (X_restore_s κ σ))) (by decide) rfl (Nat.le_of_ble_eq_true rfl) ?_
  intro p e s m below meth C A ls S hr hlk hw hl
  obtain ⟨hx, hb, hml, hown, hts⟩ := id S
  have hinX11 : ∀ x ∈ u_ws RX11 TX11 8, x ∈ wsX11_restore := fun x h => List.mem_cons_of_mem _ (List.mem_append_left _ (List.mem_append_left _ (List.mem_append_left _ (List.mem_append_left _ (List.mem_append_left _ (List.mem_append_right _ h))))))
  have hinX8 : ∀ x ∈ u_ws RX8 TX8 5, x ∈ wsX11_restore := fun x h => List.mem_cons_of_mem _ (List.mem_append_left _ (List.mem_append_left _ (List.mem_append_left _ (List.mem_append_left _ (List.mem_append_right _ h)))))
  have lk0 : Cond.fieldLink RX11 57 "CowsOwed" "hasImage" "Z" ∈ wsX11_restore := by decide +kernel
  have lk1 : Cond.fieldLink RX11 43 "CowsOwed" "now" "LCowsOwed$Times;" ∈ wsX11_restore := by decide +kernel
  have lk2 : Cond.fieldLink RX11 47 "CowsOwed" "kept" "LCowsOwed$Times;" ∈ wsX11_restore := by decide +kernel
  have lk3 : Cond.fieldLink RX11 181 "CowsOwed$Times" "years" "I" ∈ wsX11_restore := by decide +kernel
  have hl : lv_has ls 1 [(0, .ref (a 0))] := hl
  refine lv_aload_n hx hb dX11_restore_0 rfl (lv_at hl 0 rfl) ?_
  refine g_get S hw hinX11 (fs := fX0 a σ) 0 rfl rfl 6 (by decide) lk0 (v := .int (σ 0 6)) rfl dX11_restore_1 ?_
  refine lv_if_ne hx hb (tgt := 10) dX11_restore_4 (by decide) (fun c_1 => ?_) (fun c_1 => ?_)
  · refine lv_aload_n hx hb dX11_restore_10 rfl (lv_at hl 0 rfl) ?_
    refine g_get S hw hinX11 (fs := fX0 a σ) 0 rfl rfl 3 (by decide) lk1 (v := .ref (a 31)) rfl dX11_restore_11 ?_
    refine lv_aload_n hx hb dX11_restore_14 rfl (lv_at hl 0 rfl) ?_
    refine g_get S hw hinX11 (fs := fX0 a σ) 0 rfl rfl 4 (by decide) lk2 (v := .ref (a 45)) rfl dX11_restore_15 ?_
    refine g_callVv S hw (c_XS_copyFrom_31_45 l D cI cC cI2 a κ σ) gX11_restore_X8_copyFrom rfl 31 rfl rfl 1 rfl (by decide +kernel) (by decide) (by decide) hl.1 rfl (Nat.le_of_ble_eq_true rfl) dX11_restore_18 (fun H locs hw => ?_)
    refine lv_aload_n hx hb dX11_restore_21 rfl (lv_at hl 0 rfl) ?_
    refine g_get S hw hinX11 (fs := fX0 a (XS_copyFrom_31_45_s κ σ)) 0 rfl rfl 3 (by decide) lk1 (v := .ref (a 31)) rfl dX11_restore_22 ?_
    refine g_get S hw hinX8 (fs := fX31 a (XS_copyFrom_31_45_s κ σ)) 31 rfl rfl 4 (by decide) lk3 (v := .int (((XS_copyFrom_31_45_s κ σ) 31) 4)) rfl dX11_restore_25 ?_
    exact g_iret S hr hlk hw (by simp only [X_restore_r, if_neg c_1]) (by simp only [X_restore_s, if_neg c_1]) dX11_restore_28
  · refine lv_bipush (v := (-103)) hx hb dX11_restore_7 (by decide) ?_
    exact g_iret S hr hlk hw (by simp only [X_restore_r, if_pos c_1]) (by simp only [X_restore_s, if_pos c_1]) dX11_restore_9

def X_count_r (κ : Nat → Nat) (σ : Nat → Nat → Int32) (n : Nat) (c : Int32) : Int32 := if c = 0 then (nI n) else (if c = 1 then (σ 10 4) else (if c = 2 then (XH_allCows_r 10 κ σ n) else (if c = 3 then (XH_allOwed_r 10 κ σ n) else (if c = 4 then (σ 32 4) else (if c = 5 then (σ 31 4) else (if c = 6 then (σ 37 4) else (if c = 7 then (σ 42 2) else (if c = 8 then (σ 8 1) else (if c = 9 then (σ 0 7) else (-102))))))))))
set_option maxHeartbeats 4000000 in
set_option maxRecDepth 100000 in
theorem c_X_count (l : Launch) (D : va_G) (cI cC cI2 : ClassId) (a : Nat → Nat) (κ : Nat → Nat) (σ : Nat → Nat → Int32) (n : Nat) (c : Int32) (hn : σ 10 3 = nI n) (hnb : n ≤ 4) : gI l D (tysX cI cC cI2) yX11_count wsX11_count 3 [.ref (a 0), .int c] (wX cI cC cI2 a κ σ) (X_count_r κ σ n c) (wX cI cC cI2 a κ σ) := by
  refine g_start (cc := cX11_count) (maxL := 2) (ret := some .int) (Qc := gQi D (tysX cI cC cI2) (X_count_r κ σ n c) (wX cI cC cI2 a κ σ)) (by decide) rfl (Nat.le_of_ble_eq_true rfl) ?_
  intro p e s m below meth C A ls S hr hlk hw hl
  obtain ⟨hx, hb, hml, hown, hts⟩ := id S
  have hinX10 : ∀ x ∈ u_ws RX10 TX10 5, x ∈ wsX11_count := fun x h => List.mem_cons_of_mem _ (List.mem_append_left _ (List.mem_append_left _ (List.mem_append_left _ (List.mem_append_right _ h))))
  have hinX11 : ∀ x ∈ u_ws RX11 TX11 8, x ∈ wsX11_count := fun x h => List.mem_cons_of_mem _ (List.mem_append_left _ (List.mem_append_left _ (List.mem_append_left _ (List.mem_append_left _ (List.mem_append_left _ (List.mem_append_left _ (List.mem_append_right _ h)))))))
  have hinX2 : ∀ x ∈ u_ws RX2 TX2 5, x ∈ wsX11_count := fun x h => List.mem_cons_of_mem _ (List.mem_append_left _ (List.mem_append_left _ (List.mem_append_left _ (List.mem_append_left _ (List.mem_append_right _ h)))))
  have hinX4 : ∀ x ∈ u_ws RX4 TX4 2, x ∈ wsX11_count := fun x h => List.mem_cons_of_mem _ (List.mem_append_right _ h)
  have hinX5 : ∀ x ∈ u_ws RX5 TX5 6, x ∈ wsX11_count := fun x h => List.mem_cons_of_mem _ (List.mem_append_left _ (List.mem_append_left _ (List.mem_append_right _ h)))
  have hinX8 : ∀ x ∈ u_ws RX8 TX8 5, x ∈ wsX11_count := fun x h => List.mem_cons_of_mem _ (List.mem_append_left _ (List.mem_append_left _ (List.mem_append_left _ (List.mem_append_left _ (List.mem_append_left _ (List.mem_append_right _ h))))))
  have hinX9 : ∀ x ∈ u_ws RX9 TX9 3, x ∈ wsX11_count := fun x h => List.mem_cons_of_mem _ (List.mem_append_left _ (List.mem_append_right _ h))
  have lk0 : Cond.fieldLink RX11 43 "CowsOwed" "now" "LCowsOwed$Times;" ∈ wsX11_count := by decide +kernel
  have lk1 : Cond.fieldLink RX11 97 "CowsOwed$Times" "herds" "LCowsOwed$Herds;" ∈ wsX11_count := by decide +kernel
  have lk2 : Cond.fieldLink RX11 241 "CowsOwed$Herds" "size" "I" ∈ wsX11_count := by decide +kernel
  have lk3 : Cond.fieldLink RX11 140 "CowsOwed$Herds" "price" "I" ∈ wsX11_count := by decide +kernel
  have lk4 : Cond.fieldLink RX11 147 "CowsOwed$Times" "weddings" "LCowsOwed$Weddings;" ∈ wsX11_count := by decide +kernel
  have lk5 : Cond.fieldLink RX11 151 "CowsOwed$Weddings" "size" "I" ∈ wsX11_count := by decide +kernel
  have lk6 : Cond.fieldLink RX11 181 "CowsOwed$Times" "years" "I" ∈ wsX11_count := by decide +kernel
  have lk7 : Cond.fieldLink RX11 190 "CowsOwed$Times" "plans" "LCowsOwed$Plans;" ∈ wsX11_count := by decide +kernel
  have lk8 : Cond.fieldLink RX11 194 "CowsOwed$Plans" "size" "I" ∈ wsX11_count := by decide +kernel
  have lk9 : Cond.fieldLink RX11 213 "CowsOwed$Times" "told" "LCowsOwed$Told;" ∈ wsX11_count := by decide +kernel
  have lk10 : Cond.fieldLink RX11 217 "CowsOwed$Told" "size" "I" ∈ wsX11_count := by decide +kernel
  have lk11 : Cond.fieldLink RX11 34 "CowsOwed" "page" "LCowsOwed$Page;" ∈ wsX11_count := by decide +kernel
  have lk12 : Cond.fieldLink RX11 65 "CowsOwed$Page" "size" "I" ∈ wsX11_count := by decide +kernel
  have lk13 : Cond.fieldLink RX11 61 "CowsOwed" "timesRead" "I" ∈ wsX11_count := by decide +kernel
  have hl : lv_has ls 2 [(0, .ref (a 0)), (1, .int c)] := hl
  refine lv_iload_n hx hb dX11_count_0 rfl (lv_at hl 1 rfl) ?_
  by_cases s_1 : c = 0
  · refine lv_tableIn (off := 55) (tgt := 56) hx hb dX11_count_1 (by rw [s_1]; decide) (by rw [s_1]; decide) (by rw [s_1]; rfl) (by decide) ?_
    refine lv_aload_n hx hb dX11_count_56 rfl (lv_at hl 0 rfl) ?_
    refine g_get S hw hinX11 (fs := fX0 a σ) 0 rfl rfl 3 (by decide) lk0 (v := .ref (a 31)) rfl dX11_count_57 ?_
    refine g_get S hw hinX8 (fs := fX31 a σ) 31 rfl rfl 0 (by decide) lk1 (v := .ref (a 10)) rfl dX11_count_60 ?_
    refine g_get S hw hinX2 (fs := fX10 a σ) 10 rfl rfl 3 (by decide) lk2 (v := .int (nI n)) (congrArg (fun z => some (Value.int z)) (hn)) dX11_count_63 ?_
    exact g_iret S hr hlk hw (by simp only [X_count_r, if_pos s_1]) rfl dX11_count_66
  · by_cases s_2 : c = 1
    · refine lv_tableIn (off := 66) (tgt := 67) hx hb dX11_count_1 (by rw [s_2]; decide) (by rw [s_2]; decide) (by rw [s_2]; rfl) (by decide) ?_
      refine lv_aload_n hx hb dX11_count_67 rfl (lv_at hl 0 rfl) ?_
      refine g_get S hw hinX11 (fs := fX0 a σ) 0 rfl rfl 3 (by decide) lk0 (v := .ref (a 31)) rfl dX11_count_68 ?_
      refine g_get S hw hinX8 (fs := fX31 a σ) 31 rfl rfl 0 (by decide) lk1 (v := .ref (a 10)) rfl dX11_count_71 ?_
      refine g_get S hw hinX2 (fs := fX10 a σ) 10 rfl rfl 4 (by decide) lk3 (v := .int (σ 10 4)) rfl dX11_count_74 ?_
      exact g_iret S hr hlk hw (by simp only [X_count_r, if_neg s_1, if_pos s_2]) rfl dX11_count_77
    · by_cases s_3 : c = 2
      · refine lv_tableIn (off := 77) (tgt := 78) hx hb dX11_count_1 (by rw [s_3]; decide) (by rw [s_3]; decide) (by rw [s_3]; rfl) (by decide) ?_
        refine lv_aload_n hx hb dX11_count_78 rfl (lv_at hl 0 rfl) ?_
        refine g_get S hw hinX11 (fs := fX0 a σ) 0 rfl rfl 3 (by decide) lk0 (v := .ref (a 31)) rfl dX11_count_79 ?_
        refine g_get S hw hinX8 (fs := fX31 a σ) 31 rfl rfl 0 (by decide) lk1 (v := .ref (a 10)) rfl dX11_count_82 ?_
        refine g_callVi S hw (c_XH_allCows_10 l D cI cC cI2 a κ σ n (hn) (by omega)) gX11_count_X2_allCows rfl 10 rfl rfl 0 rfl (by decide +kernel) (by decide) (by decide) hl.1 rfl (Nat.le_of_ble_eq_true rfl) dX11_count_85 (fun H locs hw => ?_)
        exact g_iret S hr hlk hw (by simp only [X_count_r, if_neg s_1, if_neg s_2, if_pos s_3]) rfl dX11_count_88
      · by_cases s_4 : c = 3
        · refine lv_tableIn (off := 88) (tgt := 89) hx hb dX11_count_1 (by rw [s_4]; decide) (by rw [s_4]; decide) (by rw [s_4]; rfl) (by decide) ?_
          refine lv_aload_n hx hb dX11_count_89 rfl (lv_at hl 0 rfl) ?_
          refine g_get S hw hinX11 (fs := fX0 a σ) 0 rfl rfl 3 (by decide) lk0 (v := .ref (a 31)) rfl dX11_count_90 ?_
          refine g_get S hw hinX8 (fs := fX31 a σ) 31 rfl rfl 0 (by decide) lk1 (v := .ref (a 10)) rfl dX11_count_93 ?_
          refine g_callVi S hw (c_XH_allOwed_10 l D cI cC cI2 a κ σ n (hn) (by omega)) gX11_count_X2_allOwed rfl 10 rfl rfl 0 rfl (by decide +kernel) (by decide) (by decide) hl.1 rfl (Nat.le_of_ble_eq_true rfl) dX11_count_96 (fun H locs hw => ?_)
          exact g_iret S hr hlk hw (by simp only [X_count_r, if_neg s_1, if_neg s_2, if_neg s_3, if_pos s_4]) rfl dX11_count_99
        · by_cases s_5 : c = 4
          · refine lv_tableIn (off := 99) (tgt := 100) hx hb dX11_count_1 (by rw [s_5]; decide) (by rw [s_5]; decide) (by rw [s_5]; rfl) (by decide) ?_
            refine lv_aload_n hx hb dX11_count_100 rfl (lv_at hl 0 rfl) ?_
            refine g_get S hw hinX11 (fs := fX0 a σ) 0 rfl rfl 3 (by decide) lk0 (v := .ref (a 31)) rfl dX11_count_101 ?_
            refine g_get S hw hinX8 (fs := fX31 a σ) 31 rfl rfl 1 (by decide) lk4 (v := .ref (a 32)) rfl dX11_count_104 ?_
            refine g_get S hw hinX10 (fs := fX32 a σ) 32 rfl rfl 4 (by decide) lk5 (v := .int (σ 32 4)) rfl dX11_count_107 ?_
            exact g_iret S hr hlk hw (by simp only [X_count_r, if_neg s_1, if_neg s_2, if_neg s_3, if_neg s_4, if_pos s_5]) rfl dX11_count_110
          · by_cases s_6 : c = 5
            · refine lv_tableIn (off := 110) (tgt := 111) hx hb dX11_count_1 (by rw [s_6]; decide) (by rw [s_6]; decide) (by rw [s_6]; rfl) (by decide) ?_
              refine lv_aload_n hx hb dX11_count_111 rfl (lv_at hl 0 rfl) ?_
              refine g_get S hw hinX11 (fs := fX0 a σ) 0 rfl rfl 3 (by decide) lk0 (v := .ref (a 31)) rfl dX11_count_112 ?_
              refine g_get S hw hinX8 (fs := fX31 a σ) 31 rfl rfl 4 (by decide) lk6 (v := .int (σ 31 4)) rfl dX11_count_115 ?_
              exact g_iret S hr hlk hw (by simp only [X_count_r, if_neg s_1, if_neg s_2, if_neg s_3, if_neg s_4, if_neg s_5, if_pos s_6]) rfl dX11_count_118
            · by_cases s_7 : c = 6
              · refine lv_tableIn (off := 118) (tgt := 119) hx hb dX11_count_1 (by rw [s_7]; decide) (by rw [s_7]; decide) (by rw [s_7]; rfl) (by decide) ?_
                refine lv_aload_n hx hb dX11_count_119 rfl (lv_at hl 0 rfl) ?_
                refine g_get S hw hinX11 (fs := fX0 a σ) 0 rfl rfl 3 (by decide) lk0 (v := .ref (a 31)) rfl dX11_count_120 ?_
                refine g_get S hw hinX8 (fs := fX31 a σ) 31 rfl rfl 2 (by decide) lk7 (v := .ref (a 37)) rfl dX11_count_123 ?_
                refine g_get S hw hinX5 (fs := fX37 a σ) 37 rfl rfl 4 (by decide) lk8 (v := .int (σ 37 4)) rfl dX11_count_126 ?_
                exact g_iret S hr hlk hw (by simp only [X_count_r, if_neg s_1, if_neg s_2, if_neg s_3, if_neg s_4, if_neg s_5, if_neg s_6, if_pos s_7]) rfl dX11_count_129
              · by_cases s_8 : c = 7
                · refine lv_tableIn (off := 129) (tgt := 130) hx hb dX11_count_1 (by rw [s_8]; decide) (by rw [s_8]; decide) (by rw [s_8]; rfl) (by decide) ?_
                  refine lv_aload_n hx hb dX11_count_130 rfl (lv_at hl 0 rfl) ?_
                  refine g_get S hw hinX11 (fs := fX0 a σ) 0 rfl rfl 3 (by decide) lk0 (v := .ref (a 31)) rfl dX11_count_131 ?_
                  refine g_get S hw hinX8 (fs := fX31 a σ) 31 rfl rfl 3 (by decide) lk9 (v := .ref (a 42)) rfl dX11_count_134 ?_
                  refine g_get S hw hinX9 (fs := fX42 a σ) 42 rfl rfl 2 (by decide) lk10 (v := .int (σ 42 2)) rfl dX11_count_137 ?_
                  exact g_iret S hr hlk hw (by simp only [X_count_r, if_neg s_1, if_neg s_2, if_neg s_3, if_neg s_4, if_neg s_5, if_neg s_6, if_neg s_7, if_pos s_8]) rfl dX11_count_140
                · by_cases s_9 : c = 8
                  · refine lv_tableIn (off := 140) (tgt := 141) hx hb dX11_count_1 (by rw [s_9]; decide) (by rw [s_9]; decide) (by rw [s_9]; rfl) (by decide) ?_
                    refine lv_aload_n hx hb dX11_count_141 rfl (lv_at hl 0 rfl) ?_
                    refine g_get S hw hinX11 (fs := fX0 a σ) 0 rfl rfl 2 (by decide) lk11 (v := .ref (a 8)) rfl dX11_count_142 ?_
                    refine g_get S hw hinX4 (fs := fX8 a σ) 8 rfl rfl 1 (by decide) lk12 (v := .int (σ 8 1)) rfl dX11_count_145 ?_
                    exact g_iret S hr hlk hw (by simp only [X_count_r, if_neg s_1, if_neg s_2, if_neg s_3, if_neg s_4, if_neg s_5, if_neg s_6, if_neg s_7, if_neg s_8, if_pos s_9]) rfl dX11_count_148
                  · by_cases s_10 : c = 9
                    · refine lv_tableIn (off := 148) (tgt := 149) hx hb dX11_count_1 (by rw [s_10]; decide) (by rw [s_10]; decide) (by rw [s_10]; rfl) (by decide) ?_
                      refine lv_aload_n hx hb dX11_count_149 rfl (lv_at hl 0 rfl) ?_
                      refine g_get S hw hinX11 (fs := fX0 a σ) 0 rfl rfl 7 (by decide) lk13 (v := .int (σ 0 7)) rfl dX11_count_150 ?_
                      exact g_iret S hr hlk hw (by simp only [X_count_r, if_neg s_1, if_neg s_2, if_neg s_3, if_neg s_4, if_neg s_5, if_neg s_6, if_neg s_7, if_neg s_8, if_neg s_9, if_pos s_10]) rfl dX11_count_153
                    · refine lv_tableOut (tgt := 154) hx hb dX11_count_1 (by have q0 := lv_neT (a := 0) s_1 (by decide); have q1 := lv_neT (a := 1) s_2 (by decide); have q2 := lv_neT (a := 2) s_3 (by decide); have q3 := lv_neT (a := 3) s_4 (by decide); have q4 := lv_neT (a := 4) s_5 (by decide); have q5 := lv_neT (a := 5) s_6 (by decide); have q6 := lv_neT (a := 6) s_7 (by decide); have q7 := lv_neT (a := 7) s_8 (by decide); have q8 := lv_neT (a := 8) s_9 (by decide); have q9 := lv_neT (a := 9) s_10 (by decide); omega) (by decide) ?_
                      refine lv_bipush (v := (-102)) hx hb dX11_count_154 (by decide) ?_
                      exact g_iret S hr hlk hw (by simp only [X_count_r, if_neg s_1, if_neg s_2, if_neg s_3, if_neg s_4, if_neg s_5, if_neg s_6, if_neg s_7, if_neg s_8, if_neg s_9, if_neg s_10]) rfl dX11_count_156

def X_kindAt_n (κ : Nat → Nat) (σ : Nat → Nat → Int32) (c : Int32) : Nat := if c < 0 then 0 else (if 5 ≤ c then 0 else c.toNatClampNeg)
set_option maxHeartbeats 4000000 in
set_option maxRecDepth 100000 in
theorem c_X_kindAt (l : Launch) (D : va_G) (cI cC cI2 : ClassId) (a : Nat → Nat) (κ : Nat → Nat) (σ : Nat → Nat → Int32) (c : Int32) : gA l D (tysX cI cC cI2) yX11_kindAt wsX11_kindAt 1 [.ref (a 0), .int c] (wX cI cC cI2 a κ σ) (a (3 + X_kindAt_n κ σ c)) (wX cI cC cI2 a κ σ) := by
  refine g_start (cc := cX11_kindAt) (maxL := 2) (ret := (some (.object "CowsOwed$Clan"))) (Qc := gQa D (tysX cI cC cI2) (a (3 + X_kindAt_n κ σ c)) (wX cI cC cI2 a κ σ)) (by decide) rfl (Nat.le_of_ble_eq_true rfl) ?_
  intro p e s m below meth C A ls S hr hlk hw hl
  obtain ⟨hx, hb, hml, hown, hts⟩ := id S
  have hinX11 : ∀ x ∈ u_ws RX11 TX11 8, x ∈ wsX11_kindAt := fun x h => List.mem_cons_of_mem _ (List.mem_append_right _ h)
  have lk0 : Cond.fieldLink RX11 22 "CowsOwed" "kinds" "[LCowsOwed$Clan;" ∈ wsX11_kindAt := by decide +kernel
  have hl : lv_has ls 2 [(0, .ref (a 0)), (1, .int c)] := hl
  refine lv_iload_n hx hb dX11_kindAt_0 rfl (lv_at hl 1 rfl) ?_
  refine lv_if_lt hx hb (tgt := 22) dX11_kindAt_1 (by decide) (fun c_1 => ?_) (fun c_1 => ?_)
  · refine lv_aload_n hx hb dX11_kindAt_22 rfl (lv_at hl 0 rfl) ?_
    refine g_get S hw hinX11 (fs := fX0 a σ) 0 rfl rfl 0 (by decide) lk0 (v := .ref (a 1)) rfl dX11_kindAt_23 ?_
    refine lv_iconst (v := 0) hx hb dX11_kindAt_26 (by decide) ?_
    refine g_aald S hw (f := fun i => some (a (3 + i))) (i := 0) (v := a (3 + 0)) 1 1 rfl rfl rfl (by omega) (by decide) rfl dX11_kindAt_27 ?_
    exact g_aret S hr hlk hw (by simp only [X_kindAt_n, if_pos c_1]) rfl dX11_kindAt_28
  · refine lv_iload_n hx hb dX11_kindAt_4 rfl (lv_at hl 1 rfl) ?_
    refine lv_aload_n hx hb dX11_kindAt_5 rfl (lv_at hl 0 rfl) ?_
    refine g_get S hw hinX11 (fs := fX0 a σ) 0 rfl rfl 0 (by decide) lk0 (v := .ref (a 1)) rfl dX11_kindAt_6 ?_
    refine g_alen S hw 1 1 rfl rfl dX11_kindAt_9 ?_
    refine lv_topi (fun zz ez => ?_)
    have ez : zz = 5 := ez
    subst ez
    refine lv_icmp_ge hx hb (tgt := 22) dX11_kindAt_10 (by decide) (fun c_2 => ?_) (fun c_2 => ?_)
    · refine lv_aload_n hx hb dX11_kindAt_22 rfl (lv_at hl 0 rfl) ?_
      refine g_get S hw hinX11 (fs := fX0 a σ) 0 rfl rfl 0 (by decide) lk0 (v := .ref (a 1)) rfl dX11_kindAt_23 ?_
      refine lv_iconst (v := 0) hx hb dX11_kindAt_26 (by decide) ?_
      refine g_aald S hw (f := fun i => some (a (3 + i))) (i := 0) (v := a (3 + 0)) 1 1 rfl rfl rfl (by omega) (by decide) rfl dX11_kindAt_27 ?_
      exact g_aret S hr hlk hw (by simp only [X_kindAt_n, if_neg c_1, if_pos c_2]) rfl dX11_kindAt_28
    · obtain ⟨e1, b1⟩ := X_in_lt (n := 5) (by decide) c_1 c_2
      have hl : lv_has ls 2 [(0, .ref (a 0)), (1, .int (nI c.toNatClampNeg))] := by rw [← e1]; exact hl
      refine lv_aload_n hx hb dX11_kindAt_13 rfl (lv_at hl 0 rfl) ?_
      refine g_get S hw hinX11 (fs := fX0 a σ) 0 rfl rfl 0 (by decide) lk0 (v := .ref (a 1)) rfl dX11_kindAt_14 ?_
      refine lv_iload_n hx hb dX11_kindAt_17 rfl (lv_at hl 1 rfl) ?_
      refine g_aald S hw (f := fun i => some (a (3 + i))) (i := c.toNatClampNeg) (v := a (3 + c.toNatClampNeg)) 1 1 rfl rfl rfl (by omega) (by decide) rfl dX11_kindAt_18 ?_
      refine lv_goto (tgt := 28) hx hb dX11_kindAt_19 (by decide) ?_
      exact g_aret S hr hlk hw (by simp only [X_kindAt_n, if_neg c_1, if_neg c_2]) rfl dX11_kindAt_28

def X_mixedShallBe_S56_0 (κ : Nat → Nat) (σ : Nat → Nat → Int32) (pl : Nat) (n : Nat) (x : Int64) (i56 : Nat) (x56_3 : Int64) : Int64 := X_mixed_r x56_3 ((XP_bestAt_r κ σ pl (nI i56)).toInt64)
def X_mixedShallBe_L56 (κ : Nat → Nat) (σ : Nat → Nat → Int32) (pl : Nat) (n : Nat) (x : Int64) : Nat → Nat → (Int64) → (Int64)
  | 0, _, x56_3 => x56_3
  | n56 + 1, i56, x56_3 => X_mixedShallBe_L56 κ σ pl n x n56 (i56 + 1) (X_mixedShallBe_S56_0 κ σ pl n x i56 x56_3)
def X_mixedShallBe_r (κ : Nat → Nat) (σ : Nat → Nat → Int32) (pl : Nat) (n : Nat) (x : Int64) : Int64 := X_mixed_r (X_mixedShallBe_L56 κ (XP_findOrder_s κ σ pl n) pl n x 4 0 (X_mixed_r (X_mixed_r x ((XH_leastLed_r 10 κ σ n).toInt64)) ((((XP_findOrder_s κ σ pl n) 37) 5).toInt64))) ((XP_highestRate_r κ (XP_findOrder_s κ σ pl n) pl n).toInt64)
def X_mixedShallBe_s (κ : Nat → Nat) (σ : Nat → Nat → Int32) (pl : Nat) (n : Nat) (x : Int64) : Nat → Nat → Int32 := XP_highestRate_s κ (XP_findOrder_s κ σ pl n) pl n
theorem X_mixedShallBe_s_k (κ : Nat → Nat) (σ : Nat → Nat → Int32) (pl : Nat) (n : Nat) (x : Int64) (c9 : Nat) (q0 : c9 ≠ 24) (q1 : c9 ≠ 25) (q2 : c9 ≠ 26) (q3 : c9 ≠ 37) (q4 : c9 ≠ 40) (q5 : c9 ≠ 41) : X_mixedShallBe_s κ σ pl n x c9 = σ c9 := by
  unfold X_mixedShallBe_s
  exact (XP_highestRate_s_k κ (XP_findOrder_s κ σ pl n) pl n c9 q0 q1 q2 q4).trans (XP_findOrder_s_k κ σ pl n c9 q0 q1 q2 q3 q4 q5)
set_option maxHeartbeats 4000000 in
set_option maxRecDepth 100000 in
theorem c_X_mixedShallBe (l : Launch) (D : va_G) (cI cC cI2 : ClassId) (a : Nat → Nat) (κ : Nat → Nat) (σ : Nat → Nat → Int32) (pl : Nat) (n : Nat) (x : Int64) (hp0 : σ 37 4 = nI pl) (hp0b : pl ≤ 4) (hn : σ 10 3 = nI n) (hnb : n ≤ 4) (h38 : natRow (σ 38) pl 4) (h39 : natRow (σ 39) pl 4) (hk : ∀ i, i < 4 → κ i < 5) : gL l D (tysX cI cC cI2) yX11_mixedShallBe wsX11_mixedShallBe 7 [.ref (a 0), .long x] (wX cI cC cI2 a κ σ) (X_mixedShallBe_r κ σ pl n x) (wX cI cC cI2 a κ (X_mixedShallBe_s κ σ pl n x)) := by
  refine g_start (cc := cX11_mixedShallBe) (maxL := 6) (ret := some .long) (Qc := gQl D (tysX cI cC cI2) (X_mixedShallBe_r κ σ pl n x) (wX cI cC cI2 a κ (X_mixedShallBe_s κ σ pl n x))) (by decide) rfl (Nat.le_of_ble_eq_true rfl) ?_
  intro p e s m below meth C A ls S hr hlk hw hl
  obtain ⟨hx, hb, hml, hown, hts⟩ := id S
  have hinX11 : ∀ x ∈ u_ws RX11 TX11 8, x ∈ wsX11_mixedShallBe := fun x h => List.mem_cons_of_mem _ (List.mem_append_left _ (List.mem_append_left _ (List.mem_append_left _ (List.mem_append_right _ h))))
  have hinX5 : ∀ x ∈ u_ws RX5 TX5 6, x ∈ wsX11_mixedShallBe := fun x h => List.mem_cons_of_mem _ (List.mem_append_left _ (List.mem_append_right _ h))
  have hinX8 : ∀ x ∈ u_ws RX8 TX8 5, x ∈ wsX11_mixedShallBe := fun x h => List.mem_cons_of_mem _ (List.mem_append_left _ (List.mem_append_left _ (List.mem_append_right _ h)))
  have lk0 : Cond.fieldLink RX11 43 "CowsOwed" "now" "LCowsOwed$Times;" ∈ wsX11_mixedShallBe := by decide +kernel
  have lk1 : Cond.fieldLink RX11 97 "CowsOwed$Times" "herds" "LCowsOwed$Herds;" ∈ wsX11_mixedShallBe := by decide +kernel
  have lk2 : Cond.fieldLink RX11 190 "CowsOwed$Times" "plans" "LCowsOwed$Plans;" ∈ wsX11_mixedShallBe := by decide +kernel
  have lk3 : Cond.fieldLink RX11 53 "CowsOwed" "trial" "LCowsOwed$Herds;" ∈ wsX11_mixedShallBe := by decide +kernel
  have lk4 : Cond.fieldLink RX11 206 "CowsOwed$Plans" "leastOwed" "I" ∈ wsX11_mixedShallBe := by decide +kernel
  have hl : lv_has ls 6 [(0, .ref (a 0)), (1, .long x)] := hl
  refine lv_lload_n hx hb dX11_mixedShallBe_0 rfl (lv_at hl 1 rfl) ?_
  refine lv_aload_n hx hb dX11_mixedShallBe_1 rfl (lv_at hl 0 rfl) ?_
  refine g_get S hw hinX11 (fs := fX0 a σ) 0 rfl rfl 3 (by decide) lk0 (v := .ref (a 31)) rfl dX11_mixedShallBe_2 ?_
  refine g_get S hw hinX8 (fs := fX31 a σ) 31 rfl rfl 0 (by decide) lk1 (v := .ref (a 10)) rfl dX11_mixedShallBe_5 ?_
  refine g_callVi S hw (c_XH_leastLed_10 l D cI cC cI2 a κ σ n (hn) (by omega)) gX11_mixedShallBe_X2_leastLed rfl 10 rfl rfl 0 rfl (by decide +kernel) (by decide) (by decide) hl.1 rfl (Nat.le_of_ble_eq_true rfl) dX11_mixedShallBe_8 (fun H locs hw => ?_)
  refine lv_i2l hx hb dX11_mixedShallBe_11 rfl ?_
  refine g_callSl S hw (c_X_mixed l D (tysX cI cC cI2) (wX cI cC cI2 a κ σ) x ((XH_leastLed_r 10 κ σ n).toInt64)) gX11_mixedShallBe_X11_mixed rfl 2 rfl (by decide +kernel) (by decide) (by decide) hl.1 rfl (Nat.le_of_ble_eq_true rfl) dX11_mixedShallBe_12 (fun H locs hw => ?_)
  refine lv_lstore_n (lv' := [(3, .long (X_mixed_r x ((XH_leastLed_r 10 κ σ n).toInt64))), (0, .ref (a 0)), (1, .long x)]) hx hb dX11_mixedShallBe_15 rfl hl (by decide) rfl (fun ls hl => ?_)
  refine lv_aload_n hx hb dX11_mixedShallBe_16 rfl (lv_at hl 1 rfl) ?_
  refine g_get S hw hinX11 (fs := fX0 a σ) 0 rfl rfl 3 (by decide) lk0 (v := .ref (a 31)) rfl dX11_mixedShallBe_17 ?_
  refine g_get S hw hinX8 (fs := fX31 a σ) 31 rfl rfl 2 (by decide) lk2 (v := .ref (a 37)) rfl dX11_mixedShallBe_20 ?_
  refine lv_aload_n hx hb dX11_mixedShallBe_23 rfl (lv_at hl 1 rfl) ?_
  refine g_get S hw hinX11 (fs := fX0 a σ) 0 rfl rfl 3 (by decide) lk0 (v := .ref (a 31)) rfl dX11_mixedShallBe_24 ?_
  refine g_get S hw hinX8 (fs := fX31 a σ) 31 rfl rfl 0 (by decide) lk1 (v := .ref (a 10)) rfl dX11_mixedShallBe_27 ?_
  refine lv_aload_n hx hb dX11_mixedShallBe_30 rfl (lv_at hl 1 rfl) ?_
  refine g_get S hw hinX11 (fs := fX0 a σ) 0 rfl rfl 5 (by decide) lk3 (v := .ref (a 24)) rfl dX11_mixedShallBe_31 ?_
  refine g_callVv S hw (c_XP_findOrder l D cI cC cI2 a κ σ pl n (hp0) (by omega) (hn) (by omega) (h38) (h39) hk) gX11_mixedShallBe_X5_findOrder rfl 37 rfl rfl 2 rfl (by decide +kernel) (by decide) (by decide) hl.1 rfl (Nat.le_of_ble_eq_true rfl) dX11_mixedShallBe_34 (fun H locs hw => ?_)
  refine lv_lload_n hx hb dX11_mixedShallBe_37 rfl (lv_at hl 0 rfl) ?_
  refine lv_aload_n hx hb dX11_mixedShallBe_38 rfl (lv_at hl 1 rfl) ?_
  refine g_get S hw hinX11 (fs := fX0 a (XP_findOrder_s κ σ pl n)) 0 rfl rfl 3 (by decide) lk0 (v := .ref (a 31)) rfl dX11_mixedShallBe_39 ?_
  refine g_get S hw hinX8 (fs := fX31 a (XP_findOrder_s κ σ pl n)) 31 rfl rfl 2 (by decide) lk2 (v := .ref (a 37)) rfl dX11_mixedShallBe_42 ?_
  refine g_get S hw hinX5 (fs := fX37 a (XP_findOrder_s κ σ pl n)) 37 rfl rfl 5 (by decide) lk4 (v := .int (((XP_findOrder_s κ σ pl n) 37) 5)) rfl dX11_mixedShallBe_45 ?_
  refine lv_i2l hx hb dX11_mixedShallBe_48 rfl ?_
  refine g_callSl S hw (c_X_mixed l D (tysX cI cC cI2) (wX cI cC cI2 a κ (XP_findOrder_s κ σ pl n)) (X_mixed_r x ((XH_leastLed_r 10 κ σ n).toInt64)) ((((XP_findOrder_s κ σ pl n) 37) 5).toInt64)) gX11_mixedShallBe_X11_mixed rfl 2 rfl (by decide +kernel) (by decide) (by decide) hl.1 rfl (Nat.le_of_ble_eq_true rfl) dX11_mixedShallBe_49 (fun H locs hw => ?_)
  refine lv_lstore_n (lv' := [(3, .long (X_mixed_r (X_mixed_r x ((XH_leastLed_r 10 κ σ n).toInt64)) ((((XP_findOrder_s κ σ pl n) 37) 5).toInt64))), (0, .ref (a 0)), (1, .long x)]) hx hb dX11_mixedShallBe_52 rfl hl (by decide) rfl (fun ls hl => ?_)
  refine lv_iconst (v := 0) hx hb dX11_mixedShallBe_53 (by decide) ?_
  refine lv_istore (lv' := [(5, .int 0), (3, .long (X_mixed_r (X_mixed_r x ((XH_leastLed_r 10 κ σ n).toInt64)) ((((XP_findOrder_s κ σ pl n) 37) 5).toInt64))), (0, .ref (a 0)), (1, .long x)]) hx hb dX11_mixedShallBe_54 hl (by decide) rfl (fun ls hl => ?_)
  have L56 : ∀ (n56 i56 : Nat) (x56_3 : Int64) (H : Heap) (locs : List Loc) (ls : Array Slot), i56 + n56 = 4 → X_mixedShallBe_L56 κ (XP_findOrder_s κ σ pl n) pl n x n56 i56 x56_3 = X_mixedShallBe_L56 κ (XP_findOrder_s κ σ pl n) pl n x 4 0 (X_mixed_r (X_mixed_r x ((XH_leastLed_r 10 κ σ n).toInt64)) ((((XP_findOrder_s κ σ pl n) 37) 5).toInt64)) → gw D (tysX cI cC cI2) A s H locs (wX cI cC cI2 a κ (XP_findOrder_s κ σ pl n)) → lv_has ls 6 [(5, .int (nI i56)), (3, .long x56_3), (0, .ref (a 0)), (1, .long x)] → W p l e (gR 7) s m ([.ref (a 0), .long x] : List Value).toArray below meth C H locs 0 0 (MQ below (gQl D (tysX cI cC cI2) (X_mixedShallBe_r κ σ pl n x) (wX cI cC cI2 a κ (X_mixedShallBe_s κ σ pl n x)) A) ([.ref (a 0), .long x] : List Value).toArray s 0 0 A) (F0 m 56 ls []) := by
    intro n56
    induction n56 with
    | zero =>
      intro i56 x56_3 H locs ls hi56 hF56 hw hl
      refine lv_iload hx hb dX11_mixedShallBe_56 (lv_at hl 0 rfl) ?_
      refine lv_iconst (v := 4) hx hb dX11_mixedShallBe_58 (by decide) ?_
      refine ln_ge (x := i56) (y := 4) hx hb (by omega) (by omega) (tgt := 86) dX11_mixedShallBe_59 (by decide) (fun c_x => ?_) (fun c_x => absurd (by omega) c_x)
      have hz56 : 4 = i56 := by omega
      subst hz56
      have e56_0 : (X_mixedShallBe_L56 κ (XP_findOrder_s κ σ pl n) pl n x 4 0 (X_mixed_r (X_mixed_r x ((XH_leastLed_r 10 κ σ n).toInt64)) ((((XP_findOrder_s κ σ pl n) 37) 5).toInt64))) = x56_3 := hF56.symm
      subst e56_0
      refine lv_lload_n hx hb dX11_mixedShallBe_86 rfl (lv_at hl 1 rfl) ?_
      refine lv_aload_n hx hb dX11_mixedShallBe_87 rfl (lv_at hl 2 rfl) ?_
      refine g_get S hw hinX11 (fs := fX0 a (XP_findOrder_s κ σ pl n)) 0 rfl rfl 3 (by decide) lk0 (v := .ref (a 31)) rfl dX11_mixedShallBe_88 ?_
      refine g_get S hw hinX8 (fs := fX31 a (XP_findOrder_s κ σ pl n)) 31 rfl rfl 2 (by decide) lk2 (v := .ref (a 37)) rfl dX11_mixedShallBe_91 ?_
      refine lv_aload_n hx hb dX11_mixedShallBe_94 rfl (lv_at hl 2 rfl) ?_
      refine g_get S hw hinX11 (fs := fX0 a (XP_findOrder_s κ σ pl n)) 0 rfl rfl 3 (by decide) lk0 (v := .ref (a 31)) rfl dX11_mixedShallBe_95 ?_
      refine g_get S hw hinX8 (fs := fX31 a (XP_findOrder_s κ σ pl n)) 31 rfl rfl 0 (by decide) lk1 (v := .ref (a 10)) rfl dX11_mixedShallBe_98 ?_
      refine lv_aload_n hx hb dX11_mixedShallBe_101 rfl (lv_at hl 2 rfl) ?_
      refine g_get S hw hinX11 (fs := fX0 a (XP_findOrder_s κ σ pl n)) 0 rfl rfl 5 (by decide) lk3 (v := .ref (a 24)) rfl dX11_mixedShallBe_102 ?_
      refine g_callVi S hw (c_XP_highestRate l D cI cC cI2 a κ (XP_findOrder_s κ σ pl n) pl n ((XP_findOrder_s_p37_4 κ σ pl n).trans (hp0)) (by omega) ((congrFun (XP_findOrder_s_k κ σ pl n 10 (by omega) (by omega) (by omega) (by omega) (by omega) (by omega)) 3).trans (hn)) (by omega) (Eq.mpr (congrArg (fun z => natRow z pl 4) (XP_findOrder_s_k κ σ pl n 38 (by omega) (by omega) (by omega) (by omega) (by omega) (by omega))) h38) (Eq.mpr (congrArg (fun z => natRow z pl 4) (XP_findOrder_s_k κ σ pl n 39 (by omega) (by omega) (by omega) (by omega) (by omega) (by omega))) h39) hk) gX11_mixedShallBe_X5_highestRate rfl 37 rfl rfl 2 rfl (by decide +kernel) (by decide) (by decide) hl.1 rfl (Nat.le_of_ble_eq_true rfl) dX11_mixedShallBe_105 (fun H locs hw => ?_)
      refine lv_i2l hx hb dX11_mixedShallBe_108 rfl ?_
      refine g_callSl S hw (c_X_mixed l D (tysX cI cC cI2) (wX cI cC cI2 a κ (XP_highestRate_s κ (XP_findOrder_s κ σ pl n) pl n)) (X_mixedShallBe_L56 κ (XP_findOrder_s κ σ pl n) pl n x 4 0 (X_mixed_r (X_mixed_r x ((XH_leastLed_r 10 κ σ n).toInt64)) ((((XP_findOrder_s κ σ pl n) 37) 5).toInt64))) ((XP_highestRate_r κ (XP_findOrder_s κ σ pl n) pl n).toInt64)) gX11_mixedShallBe_X11_mixed rfl 2 rfl (by decide +kernel) (by decide) (by decide) hl.1 rfl (Nat.le_of_ble_eq_true rfl) dX11_mixedShallBe_109 (fun H locs hw => ?_)
      exact g_lret S hr hlk hw (by simp only [X_mixedShallBe_r]) (by simp only [X_mixedShallBe_s]) dX11_mixedShallBe_112
    | succ n56 ih56 =>
      intro i56 x56_3 H locs ls hi56 hF56 hw hl
      refine lv_iload hx hb dX11_mixedShallBe_56 (lv_at hl 0 rfl) ?_
      refine lv_iconst (v := 4) hx hb dX11_mixedShallBe_58 (by decide) ?_
      refine ln_ge (x := i56) (y := 4) hx hb (by omega) (by omega) (tgt := 86) dX11_mixedShallBe_59 (by decide) (fun c_x => absurd c_x (by omega)) (fun c_x => ?_)
      refine lv_lload_n hx hb dX11_mixedShallBe_62 rfl (lv_at hl 1 rfl) ?_
      refine lv_aload_n hx hb dX11_mixedShallBe_63 rfl (lv_at hl 2 rfl) ?_
      refine g_get S hw hinX11 (fs := fX0 a (XP_findOrder_s κ σ pl n)) 0 rfl rfl 3 (by decide) lk0 (v := .ref (a 31)) rfl dX11_mixedShallBe_64 ?_
      refine g_get S hw hinX8 (fs := fX31 a (XP_findOrder_s κ σ pl n)) 31 rfl rfl 2 (by decide) lk2 (v := .ref (a 37)) rfl dX11_mixedShallBe_67 ?_
      refine lv_iload hx hb dX11_mixedShallBe_70 (lv_at hl 0 rfl) ?_
      refine g_callVi S hw (c_XP_bestAt l D cI cC cI2 a κ (XP_findOrder_s κ σ pl n) pl (nI i56) ((XP_findOrder_s_p37_4 κ σ pl n).trans (hp0)) (by omega)) gX11_mixedShallBe_X5_bestAt rfl 37 rfl rfl 1 rfl (by decide +kernel) (by decide) (by decide) hl.1 rfl (Nat.le_of_ble_eq_true rfl) dX11_mixedShallBe_72 (fun H locs hw => ?_)
      refine lv_i2l hx hb dX11_mixedShallBe_75 rfl ?_
      refine g_callSl S hw (c_X_mixed l D (tysX cI cC cI2) (wX cI cC cI2 a κ (XP_findOrder_s κ σ pl n)) x56_3 ((XP_bestAt_r κ (XP_findOrder_s κ σ pl n) pl (nI i56)).toInt64)) gX11_mixedShallBe_X11_mixed rfl 2 rfl (by decide +kernel) (by decide) (by decide) hl.1 rfl (Nat.le_of_ble_eq_true rfl) dX11_mixedShallBe_76 (fun H locs hw => ?_)
      refine lv_lstore_n (lv' := [(3, .long (X_mixed_r x56_3 ((XP_bestAt_r κ (XP_findOrder_s κ σ pl n) pl (nI i56)).toInt64))), (5, .int (nI i56)), (0, .ref (a 0)), (1, .long x)]) hx hb dX11_mixedShallBe_79 rfl hl (by decide) rfl (fun ls hl => ?_)
      refine lv_iinc (v := nI (i56 + 1)) (lv' := [(5, .int (nI (i56 + 1))), (3, .long (X_mixed_r x56_3 ((XP_bestAt_r κ (XP_findOrder_s κ σ pl n) pl (nI i56)).toInt64))), (0, .ref (a 0)), (1, .long x)]) hx hb dX11_mixedShallBe_80 hl (k := 1) rfl (nI_1 _) (by decide) rfl (fun ls hl => ?_)
      refine lv_goto (tgt := 56) hx hb dX11_mixedShallBe_83 (by decide) ?_
      exact ih56 (i56 + 1) (X_mixed_r x56_3 ((XP_bestAt_r κ (XP_findOrder_s κ σ pl n) pl (nI i56)).toInt64)) _ _ _ (by omega) hF56 hw (lv_sub hl [0, 1, 2, 3] rfl)
  exact L56 4 0 (X_mixed_r (X_mixed_r x ((XH_leastLed_r 10 κ σ n).toInt64)) ((((XP_findOrder_s κ σ pl n) 37) 5).toInt64)) _ _ _ (by omega) rfl hw (lv_sub hl [0, 1, 2, 3] rfl)
