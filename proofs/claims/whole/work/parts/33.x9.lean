/-- is a clan of kind j one of kind T? -/
def X_isA : Nat → Nat → Int32
  | 1, 1 => 1
  | 1, 4 => 1
  | 2, 2 => 1
  | 3, 3 => 1
  | 4, 4 => 1
  | _, _ => 0
theorem X_isA_z (T j : Nat) : X_isA T j = 0 ∨ X_isA T j = 1 := by
  unfold X_isA
  split <;> first | exact Or.inl rfl | exact Or.inr rfl
def partI (j : Nat) : Int32 := ([0, 1, 2, 3, 4, 5, 6, 10, 11, 12, 13] : List Int32).getD j 0
def X_isOfKind_r (κ : Nat → Nat) (σ : Nat → Nat → Int32) (kd : Nat) (kk : Int32) : Int32 := if kk = 0 then 1 else (if kk = 1 then (X_isA 1 kd) else (if kk = 2 then (X_isA 2 kd) else (if kk = 3 then (X_isA 3 kd) else (if kk = 4 then (X_isA 4 kd) else 0))))
theorem X_isOfKind_z (κ : Nat → Nat) (σ : Nat → Nat → Int32) (kd : Nat) (kk : Int32) : X_isOfKind_r κ σ kd kk = 0 ∨ X_isOfKind_r κ σ kd kk = 1 := by
  unfold X_isOfKind_r
  by_cases z1 : kk = 0
  · rw [if_pos z1]
    exact Or.inr rfl
  · rw [if_neg z1]
    by_cases z2 : kk = 1
    · rw [if_pos z2]
      exact X_isA_z 1 kd
    · rw [if_neg z2]
      by_cases z3 : kk = 2
      · rw [if_pos z3]
        exact X_isA_z 2 kd
      · rw [if_neg z3]
        by_cases z4 : kk = 3
        · rw [if_pos z4]
          exact X_isA_z 3 kd
        · rw [if_neg z4]
          by_cases z5 : kk = 4
          · rw [if_pos z5]
            exact X_isA_z 4 kd
          · rw [if_neg z5]
            exact Or.inl rfl
set_option maxHeartbeats 4000000 in
set_option maxRecDepth 100000 in
theorem c_X_isOfKind (l : Launch) (D : va_G) (z : Nat → Nat) (cI cC cI2 : ClassId) (a : Nat → Nat) (κ : Nat → Nat) (σ : Nat → Nat → Int32) (kd : Nat) (kk : Int32) (hkd : kd < 5) : gIE l D z (tysX cI cC cI2) yX11_isOfKind wsX11_isOfKind 1 [.ref (a (3 + kd)), .int kk] (wX cI cC cI2 a κ σ) (X_isOfKind_r κ σ kd kk) (wX cI cC cI2 a κ σ) := by
  refine g_startE (cc := cX11_isOfKind) (maxL := 2) (ret := some .boolean) (Qc := gQi D (tysX cI cC cI2) (X_isOfKind_r κ σ kd kk) (wX cI cC cI2 a κ σ)) (by decide) rfl (Nat.le_of_ble_eq_true rfl) ?_
  intro p e s m below meth C A ls S hr hlk hw hE hl
  obtain ⟨hx, hb, hml, hown, hts⟩ := id S
  have lk0 : Cond.classLink RX11 10 RX7 ∈ wsX11_isOfKind := by decide +kernel
  have lk1 : Cond.classLink RX11 13 RX6 ∈ wsX11_isOfKind := by decide +kernel
  have lk2 : Cond.classLink RX11 16 RX0 ∈ wsX11_isOfKind := by decide +kernel
  have lk3 : Cond.classLink RX11 19 RX3 ∈ wsX11_isOfKind := by decide +kernel
  have hl : lv_has ls 2 [(0, .ref (a (3 + kd))), (1, .int kk)] := hl
  refine lv_iload_n hx hb dX11_isOfKind_0 rfl (lv_at hl 1 rfl) ?_
  by_cases s_1 : kk = 0
  · refine lv_tableIn (off := 35) (tgt := 36) hx hb dX11_isOfKind_1 (by rw [s_1]; decide) (by rw [s_1]; decide) (by rw [s_1]; rfl) (by decide) ?_
    refine lv_iconst (v := 1) hx hb dX11_isOfKind_36 (by decide) ?_
    exact g_zret S hr hlk hw (by decide) (by simp only [X_isOfKind_r, if_pos s_1]) rfl dX11_isOfKind_37
  · by_cases s_2 : kk = 1
    · refine lv_tableIn (off := 37) (tgt := 38) hx hb dX11_isOfKind_1 (by rw [s_2]; decide) (by rw [s_2]; decide) (by rw [s_2]; rfl) (by decide) ?_
      refine lv_aload_n hx hb dX11_isOfKind_38 rfl (lv_at hl 0 rfl) ?_
      refine g_kind5 (k := kd) (by omega) (G := fun j => W p l e (gR 1) s m ([.ref (a (3 + kd)), .int kk] : List Value).toArray below meth C _ _ 0 0 (MQ below (gQi D (tysX cI cC cI2) (X_isOfKind_r κ σ kd kk) (wX cI cC cI2 a κ σ) A) ([.ref (a (3 + kd)), .int kk] : List Value).toArray s 0 0 A) (F0 m 42 ls (.int (X_isA 1 j) :: []))) (P := fun j => W p l e (gR 1) s m ([.ref (a (3 + kd)), .int kk] : List Value).toArray below meth C _ _ 0 0 (MQ below (gQi D (tysX cI cC cI2) (X_isOfKind_r κ σ kd kk) (wX cI cC cI2 a κ σ) A) ([.ref (a (3 + kd)), .int kk] : List Value).toArray s 0 0 A) (F0 m 39 ls (.ref (a (3 + j)) :: []))) (fun kk => va_instNo hx hb hown (hts _ lk0) (hE.1.2 ("CowsOwed$Clan", "CowsOwed$Proud") (by decide +kernel)) (va_recv hw.1 hw.2.1 (q0 := 3) rfl rfl) dX11_isOfKind_39 kk) (fun kk => va_instE hx hb hown (hts _ lk0) (va_recv hw.1 hw.2.1 (q0 := 4) rfl rfl) dX11_isOfKind_39 kk) (fun kk => va_instNo hx hb hown (hts _ lk0) (hE.1.2 ("CowsOwed$Poor", "CowsOwed$Proud") (by decide +kernel)) (va_recv hw.1 hw.2.1 (q0 := 5) rfl rfl) dX11_isOfKind_39 kk) (fun kk => va_instNo hx hb hown (hts _ lk0) (hE.1.2 ("CowsOwed$Careful", "CowsOwed$Proud") (by decide +kernel)) (va_recv hw.1 hw.2.1 (q0 := 6) rfl rfl) dX11_isOfKind_39 kk) (fun kk => va_instY hx hb hown (hts _ lk0) (hE.1.1 ("CowsOwed$Kings", "CowsOwed$Proud") (by decide +kernel)) (va_recv hw.1 hw.2.1 (q0 := 7) rfl rfl) dX11_isOfKind_39 kk) ?_
      exact g_zret S hr hlk hw (g_zz (X_isA_z 1 kd)) (by simp only [X_isOfKind_r, if_neg s_1, if_pos s_2]) rfl dX11_isOfKind_42
    · by_cases s_3 : kk = 2
      · refine lv_tableIn (off := 42) (tgt := 43) hx hb dX11_isOfKind_1 (by rw [s_3]; decide) (by rw [s_3]; decide) (by rw [s_3]; rfl) (by decide) ?_
        refine lv_aload_n hx hb dX11_isOfKind_43 rfl (lv_at hl 0 rfl) ?_
        refine g_kind5 (k := kd) (by omega) (G := fun j => W p l e (gR 1) s m ([.ref (a (3 + kd)), .int kk] : List Value).toArray below meth C _ _ 0 0 (MQ below (gQi D (tysX cI cC cI2) (X_isOfKind_r κ σ kd kk) (wX cI cC cI2 a κ σ) A) ([.ref (a (3 + kd)), .int kk] : List Value).toArray s 0 0 A) (F0 m 47 ls (.int (X_isA 2 j) :: []))) (P := fun j => W p l e (gR 1) s m ([.ref (a (3 + kd)), .int kk] : List Value).toArray below meth C _ _ 0 0 (MQ below (gQi D (tysX cI cC cI2) (X_isOfKind_r κ σ kd kk) (wX cI cC cI2 a κ σ) A) ([.ref (a (3 + kd)), .int kk] : List Value).toArray s 0 0 A) (F0 m 44 ls (.ref (a (3 + j)) :: []))) (fun kk => va_instNo hx hb hown (hts _ lk1) (hE.1.2 ("CowsOwed$Clan", "CowsOwed$Poor") (by decide +kernel)) (va_recv hw.1 hw.2.1 (q0 := 3) rfl rfl) dX11_isOfKind_44 kk) (fun kk => va_instNo hx hb hown (hts _ lk1) (hE.1.2 ("CowsOwed$Proud", "CowsOwed$Poor") (by decide +kernel)) (va_recv hw.1 hw.2.1 (q0 := 4) rfl rfl) dX11_isOfKind_44 kk) (fun kk => va_instE hx hb hown (hts _ lk1) (va_recv hw.1 hw.2.1 (q0 := 5) rfl rfl) dX11_isOfKind_44 kk) (fun kk => va_instNo hx hb hown (hts _ lk1) (hE.1.2 ("CowsOwed$Careful", "CowsOwed$Poor") (by decide +kernel)) (va_recv hw.1 hw.2.1 (q0 := 6) rfl rfl) dX11_isOfKind_44 kk) (fun kk => va_instNo hx hb hown (hts _ lk1) (hE.1.2 ("CowsOwed$Kings", "CowsOwed$Poor") (by decide +kernel)) (va_recv hw.1 hw.2.1 (q0 := 7) rfl rfl) dX11_isOfKind_44 kk) ?_
        exact g_zret S hr hlk hw (g_zz (X_isA_z 2 kd)) (by simp only [X_isOfKind_r, if_neg s_1, if_neg s_2, if_pos s_3]) rfl dX11_isOfKind_47
      · by_cases s_4 : kk = 3
        · refine lv_tableIn (off := 47) (tgt := 48) hx hb dX11_isOfKind_1 (by rw [s_4]; decide) (by rw [s_4]; decide) (by rw [s_4]; rfl) (by decide) ?_
          refine lv_aload_n hx hb dX11_isOfKind_48 rfl (lv_at hl 0 rfl) ?_
          refine g_kind5 (k := kd) (by omega) (G := fun j => W p l e (gR 1) s m ([.ref (a (3 + kd)), .int kk] : List Value).toArray below meth C _ _ 0 0 (MQ below (gQi D (tysX cI cC cI2) (X_isOfKind_r κ σ kd kk) (wX cI cC cI2 a κ σ) A) ([.ref (a (3 + kd)), .int kk] : List Value).toArray s 0 0 A) (F0 m 52 ls (.int (X_isA 3 j) :: []))) (P := fun j => W p l e (gR 1) s m ([.ref (a (3 + kd)), .int kk] : List Value).toArray below meth C _ _ 0 0 (MQ below (gQi D (tysX cI cC cI2) (X_isOfKind_r κ σ kd kk) (wX cI cC cI2 a κ σ) A) ([.ref (a (3 + kd)), .int kk] : List Value).toArray s 0 0 A) (F0 m 49 ls (.ref (a (3 + j)) :: []))) (fun kk => va_instNo hx hb hown (hts _ lk2) (hE.1.2 ("CowsOwed$Clan", "CowsOwed$Careful") (by decide +kernel)) (va_recv hw.1 hw.2.1 (q0 := 3) rfl rfl) dX11_isOfKind_49 kk) (fun kk => va_instNo hx hb hown (hts _ lk2) (hE.1.2 ("CowsOwed$Proud", "CowsOwed$Careful") (by decide +kernel)) (va_recv hw.1 hw.2.1 (q0 := 4) rfl rfl) dX11_isOfKind_49 kk) (fun kk => va_instNo hx hb hown (hts _ lk2) (hE.1.2 ("CowsOwed$Poor", "CowsOwed$Careful") (by decide +kernel)) (va_recv hw.1 hw.2.1 (q0 := 5) rfl rfl) dX11_isOfKind_49 kk) (fun kk => va_instE hx hb hown (hts _ lk2) (va_recv hw.1 hw.2.1 (q0 := 6) rfl rfl) dX11_isOfKind_49 kk) (fun kk => va_instNo hx hb hown (hts _ lk2) (hE.1.2 ("CowsOwed$Kings", "CowsOwed$Careful") (by decide +kernel)) (va_recv hw.1 hw.2.1 (q0 := 7) rfl rfl) dX11_isOfKind_49 kk) ?_
          exact g_zret S hr hlk hw (g_zz (X_isA_z 3 kd)) (by simp only [X_isOfKind_r, if_neg s_1, if_neg s_2, if_neg s_3, if_pos s_4]) rfl dX11_isOfKind_52
        · by_cases s_5 : kk = 4
          · refine lv_tableIn (off := 52) (tgt := 53) hx hb dX11_isOfKind_1 (by rw [s_5]; decide) (by rw [s_5]; decide) (by rw [s_5]; rfl) (by decide) ?_
            refine lv_aload_n hx hb dX11_isOfKind_53 rfl (lv_at hl 0 rfl) ?_
            refine g_kind5 (k := kd) (by omega) (G := fun j => W p l e (gR 1) s m ([.ref (a (3 + kd)), .int kk] : List Value).toArray below meth C _ _ 0 0 (MQ below (gQi D (tysX cI cC cI2) (X_isOfKind_r κ σ kd kk) (wX cI cC cI2 a κ σ) A) ([.ref (a (3 + kd)), .int kk] : List Value).toArray s 0 0 A) (F0 m 57 ls (.int (X_isA 4 j) :: []))) (P := fun j => W p l e (gR 1) s m ([.ref (a (3 + kd)), .int kk] : List Value).toArray below meth C _ _ 0 0 (MQ below (gQi D (tysX cI cC cI2) (X_isOfKind_r κ σ kd kk) (wX cI cC cI2 a κ σ) A) ([.ref (a (3 + kd)), .int kk] : List Value).toArray s 0 0 A) (F0 m 54 ls (.ref (a (3 + j)) :: []))) (fun kk => va_instNo hx hb hown (hts _ lk3) (hE.1.2 ("CowsOwed$Clan", "CowsOwed$Kings") (by decide +kernel)) (va_recv hw.1 hw.2.1 (q0 := 3) rfl rfl) dX11_isOfKind_54 kk) (fun kk => va_instNo hx hb hown (hts _ lk3) (hE.1.2 ("CowsOwed$Proud", "CowsOwed$Kings") (by decide +kernel)) (va_recv hw.1 hw.2.1 (q0 := 4) rfl rfl) dX11_isOfKind_54 kk) (fun kk => va_instNo hx hb hown (hts _ lk3) (hE.1.2 ("CowsOwed$Poor", "CowsOwed$Kings") (by decide +kernel)) (va_recv hw.1 hw.2.1 (q0 := 5) rfl rfl) dX11_isOfKind_54 kk) (fun kk => va_instNo hx hb hown (hts _ lk3) (hE.1.2 ("CowsOwed$Careful", "CowsOwed$Kings") (by decide +kernel)) (va_recv hw.1 hw.2.1 (q0 := 6) rfl rfl) dX11_isOfKind_54 kk) (fun kk => va_instE hx hb hown (hts _ lk3) (va_recv hw.1 hw.2.1 (q0 := 7) rfl rfl) dX11_isOfKind_54 kk) ?_
            exact g_zret S hr hlk hw (g_zz (X_isA_z 4 kd)) (by simp only [X_isOfKind_r, if_neg s_1, if_neg s_2, if_neg s_3, if_neg s_4, if_pos s_5]) rfl dX11_isOfKind_57
          · refine lv_tableOut (tgt := 58) hx hb dX11_isOfKind_1 (by have q0 := lv_neT (a := 0) s_1 (by decide); have q1 := lv_neT (a := 1) s_2 (by decide); have q2 := lv_neT (a := 2) s_3 (by decide); have q3 := lv_neT (a := 3) s_4 (by decide); have q4 := lv_neT (a := 4) s_5 (by decide); omega) (by decide) ?_
            refine lv_iconst (v := 0) hx hb dX11_isOfKind_58 (by decide) ?_
            exact g_zret S hr hlk hw (by decide) (by simp only [X_isOfKind_r, if_neg s_1, if_neg s_2, if_neg s_3, if_neg s_4, if_neg s_5]) rfl dX11_isOfKind_59

def X_as_r (κ : Nat → Nat) (σ : Nat → Nat → Int32) (n : Nat) (c : Int32) (kk : Int32) : Int32 := if (XH_knows_r 10 κ σ c) = 0 then (-101) else (if kk < 0 then (-102) else (if kk < 5 then (if (X_isOfKind_r κ σ (κ c.toNatClampNeg) kk) = 0 then (-1) else (nI c.toNatClampNeg)) else (-102)))
set_option maxHeartbeats 4000000 in
set_option maxRecDepth 100000 in
theorem c_X_as (l : Launch) (D : va_G) (z : Nat → Nat) (cI cC cI2 : ClassId) (a : Nat → Nat) (κ : Nat → Nat) (σ : Nat → Nat → Int32) (n : Nat) (c : Int32) (kk : Int32) (hn : σ 10 3 = nI n) (hnb : n ≤ 4) (hk : ∀ i, i < 4 → κ i < 5) : gIE l D z (tysX cI cC cI2) yX11_as wsX11_as 2 [.ref (a 0), .int c, .int kk] (wX cI cC cI2 a κ σ) (X_as_r κ σ n c kk) (wX cI cC cI2 a κ σ) := by
  refine g_startE (cc := cX11_as) (maxL := 3) (ret := some .int) (Qc := gQi D (tysX cI cC cI2) (X_as_r κ σ n c kk) (wX cI cC cI2 a κ σ)) (by decide) rfl (Nat.le_of_ble_eq_true rfl) ?_
  intro p e s m below meth C A ls S hr hlk hw hE hl
  obtain ⟨hx, hb, hml, hown, hts⟩ := id S
  have hinX11 : ∀ x ∈ u_ws RX11 TX11 8, x ∈ wsX11_as := fun x h => List.mem_cons_of_mem _ (List.mem_append_left _ (List.mem_append_left _ (List.mem_append_right _ h)))
  have hinX8 : ∀ x ∈ u_ws RX8 TX8 5, x ∈ wsX11_as := fun x h => List.mem_cons_of_mem _ (List.mem_append_left _ (List.mem_append_right _ h))
  have lk0 : Cond.fieldLink RX11 43 "CowsOwed" "now" "LCowsOwed$Times;" ∈ wsX11_as := by decide +kernel
  have lk1 : Cond.fieldLink RX11 97 "CowsOwed$Times" "herds" "LCowsOwed$Herds;" ∈ wsX11_as := by decide +kernel
  have lk2 : Cond.fieldLink RX11 28 "CowsOwed" "clans" "[LCowsOwed$Clan;" ∈ wsX11_as := by decide +kernel
  have hl : lv_has ls 3 [(0, .ref (a 0)), (1, .int c), (2, .int kk)] := hl
  refine lv_aload_n hx hb dX11_as_0 rfl (lv_at hl 0 rfl) ?_
  refine g_get S hw hinX11 (fs := fX0 a σ) 0 rfl rfl 3 (by decide) lk0 (v := .ref (a 31)) rfl dX11_as_1 ?_
  refine g_get S hw hinX8 (fs := fX31 a σ) 31 rfl rfl 0 (by decide) lk1 (v := .ref (a 10)) rfl dX11_as_4 ?_
  refine lv_iload_n hx hb dX11_as_7 rfl (lv_at hl 1 rfl) ?_
  refine g_callVi S hw (c_XH_knows_10 l D cI cC cI2 a κ σ c) gX11_as_X2_knows rfl 10 rfl rfl 1 rfl (by decide +kernel) (by decide) (by decide) hl.1 rfl (Nat.le_of_ble_eq_true rfl) dX11_as_8 (fun H locs hw => ?_)
  refine lv_if_ne hx hb (tgt := 17) dX11_as_11 (by decide) (fun c_1 => ?_) (fun c_1 => ?_)
  · obtain ⟨e1, b1⟩ := XH_knows_ok hn hnb c_1
    have hl : lv_has ls 3 [(0, .ref (a 0)), (1, .int (nI c.toNatClampNeg)), (2, .int kk)] := by rw [← e1]; exact hl
    refine lv_iload_n hx hb dX11_as_17 rfl (lv_at hl 2 rfl) ?_
    refine lv_if_lt hx hb (tgt := 26) dX11_as_18 (by decide) (fun c_2 => ?_) (fun c_2 => ?_)
    · refine lv_bipush (v := (-102)) hx hb dX11_as_26 (by decide) ?_
      exact g_iret S hr hlk hw (by simp only [X_as_r, if_neg c_1, if_pos c_2]) rfl dX11_as_28
    · refine lv_iload_n hx hb dX11_as_21 rfl (lv_at hl 2 rfl) ?_
      refine lv_iconst (v := 5) hx hb dX11_as_22 (by decide) ?_
      refine lv_icmp_lt hx hb (tgt := 29) dX11_as_23 (by decide) (fun c_3 => ?_) (fun c_3 => ?_)
      · refine lv_aload_n hx hb dX11_as_29 rfl (lv_at hl 0 rfl) ?_
        refine g_get S hw hinX11 (fs := fX0 a σ) 0 rfl rfl 1 (by decide) lk2 (v := .ref (a 2)) rfl dX11_as_30 ?_
        refine lv_iload_n hx hb dX11_as_33 rfl (lv_at hl 1 rfl) ?_
        refine g_aald S hw (f := fun i => some (a (3 + κ i))) (i := c.toNatClampNeg) (v := a (3 + κ c.toNatClampNeg)) 2 1 rfl rfl rfl (by omega) (by decide) rfl dX11_as_34 ?_
        refine lv_iload_n hx hb dX11_as_35 rfl (lv_at hl 2 rfl) ?_
        refine g_callSiE S hw hE (c_X_isOfKind l D z cI cC cI2 a κ σ (κ c.toNatClampNeg) kk (hk _ (by omega))) gX11_as_X11_isOfKind rfl 2 rfl (by decide +kernel) (by decide) (by decide) hl.1 rfl (Nat.le_of_ble_eq_true rfl) dX11_as_36 (fun H locs hw => ?_)
        refine lv_if_eq hx hb (tgt := 46) dX11_as_39 (by decide) (fun c_4 => ?_) (fun c_4 => ?_)
        · refine lv_iconst (v := (-1)) hx hb dX11_as_46 (by decide) ?_
          exact g_iret S hr hlk hw (by simp only [X_as_r, if_neg c_1, if_neg c_2, if_pos c_3, if_pos c_4]) rfl dX11_as_47
        · refine lv_iload_n hx hb dX11_as_42 rfl (lv_at hl 1 rfl) ?_
          refine lv_goto (tgt := 47) hx hb dX11_as_43 (by decide) ?_
          exact g_iret S hr hlk hw (by simp only [X_as_r, if_neg c_1, if_neg c_2, if_pos c_3, if_neg c_4]) rfl dX11_as_47
      · refine lv_bipush (v := (-102)) hx hb dX11_as_26 (by decide) ?_
        exact g_iret S hr hlk hw (by simp only [X_as_r, if_neg c_1, if_neg c_2, if_neg c_3]) rfl dX11_as_28
  · refine lv_bipush (v := (-101)) hx hb dX11_as_14 (by decide) ?_
    exact g_iret S hr hlk hw (by simp only [X_as_r, if_pos c_1]) rfl dX11_as_16

def X_digest_S33_0 (κ : Nat → Nat) (σ : Nat → Nat → Int32) (n : Nat) (wd : Nat) (pl : Nat) (tm : Nat) (pm : Nat) (i6 : Nat) (x6_1 : Int64) (i33 : Nat) (x33_1 : Int64) : Int64 := X_mixed_r x33_1 ((X_clan_r κ σ n (nI i6) (partI i33)).toInt64)
def X_digest_L33 (κ : Nat → Nat) (σ : Nat → Nat → Int32) (n : Nat) (wd : Nat) (pl : Nat) (tm : Nat) (pm : Nat) (i6 : Nat) (x6_1 : Int64) : Nat → Nat → (Int64) → (Int64)
  | 0, _, x33_1 => x33_1
  | n33 + 1, i33, x33_1 => X_digest_L33 κ σ n wd pl tm pm i6 x6_1 n33 (i33 + 1) (X_digest_S33_0 κ σ n wd pl tm pm i6 x6_1 i33 x33_1)
def X_digest_S6_0 (κ : Nat → Nat) (σ : Nat → Nat → Int32) (n : Nat) (wd : Nat) (pl : Nat) (tm : Nat) (pm : Nat) (i6 : Nat) (x6_1 : Int64) : Int64 := (X_digest_L33 κ σ n wd pl tm pm i6 x6_1 11 0 x6_1)
def X_digest_L6 (κ : Nat → Nat) (σ : Nat → Nat → Int32) (n : Nat) (wd : Nat) (pl : Nat) (tm : Nat) (pm : Nat) : Nat → Nat → (Int64) → (Int64)
  | 0, _, x6_1 => x6_1
  | n6 + 1, i6, x6_1 => X_digest_L6 κ σ n wd pl tm pm n6 (i6 + 1) (X_digest_S6_0 κ σ n wd pl tm pm i6 x6_1)
def X_digest_S91_0 (κ : Nat → Nat) (σ : Nat → Nat → Int32) (n : Nat) (wd : Nat) (pl : Nat) (tm : Nat) (pm : Nat) (i74 : Nat) (x74_1 : Int64) (i91 : Nat) (x91_1 : Int64) : Int64 := X_mixed_r x91_1 ((X_wedding_r κ σ wd (nI i74) (nI i91)).toInt64)
def X_digest_L91 (κ : Nat → Nat) (σ : Nat → Nat → Int32) (n : Nat) (wd : Nat) (pl : Nat) (tm : Nat) (pm : Nat) (i74 : Nat) (x74_1 : Int64) : Nat → Nat → (Int64) → (Int64)
  | 0, _, x91_1 => x91_1
  | n91 + 1, i91, x91_1 => X_digest_L91 κ σ n wd pl tm pm i74 x74_1 n91 (i91 + 1) (X_digest_S91_0 κ σ n wd pl tm pm i74 x74_1 i91 x91_1)
def X_digest_S74_0 (κ : Nat → Nat) (σ : Nat → Nat → Int32) (n : Nat) (wd : Nat) (pl : Nat) (tm : Nat) (pm : Nat) (i74 : Nat) (x74_1 : Int64) : Int64 := (X_digest_L91 κ σ n wd pl tm pm i74 x74_1 4 0 x74_1)
def X_digest_L74 (κ : Nat → Nat) (σ : Nat → Nat → Int32) (n : Nat) (wd : Nat) (pl : Nat) (tm : Nat) (pm : Nat) : Nat → Nat → (Int64) → (Int64)
  | 0, _, x74_1 => x74_1
  | n74 + 1, i74, x74_1 => X_digest_L74 κ σ n wd pl tm pm n74 (i74 + 1) (X_digest_S74_0 κ σ n wd pl tm pm i74 x74_1)
def X_digest_S157_0 (κ : Nat → Nat) (σ : Nat → Nat → Int32) (n : Nat) (wd : Nat) (pl : Nat) (tm : Nat) (pm : Nat) (i157 : Nat) (x157_1 : Int64) : Int64 := X_mixed_r x157_1 ((σ 9 i157).toInt64)
def X_digest_L157 (κ : Nat → Nat) (σ : Nat → Nat → Int32) (n : Nat) (wd : Nat) (pl : Nat) (tm : Nat) (pm : Nat) : Nat → Nat → (Int64) → (Int64)
  | 0, _, x157_1 => x157_1
  | n157 + 1, i157, x157_1 => X_digest_L157 κ σ n wd pl tm pm n157 (i157 + 1) (X_digest_S157_0 κ σ n wd pl tm pm i157 x157_1)
def X_digest_S191_0 (κ : Nat → Nat) (σ : Nat → Nat → Int32) (n : Nat) (wd : Nat) (pl : Nat) (tm : Nat) (pm : Nat) (i191 : Nat) (x191_1 : Int64) : Int64 := X_mixed_r x191_1 ((X_count_r κ σ n (nI i191)).toInt64)
def X_digest_L191 (κ : Nat → Nat) (σ : Nat → Nat → Int32) (n : Nat) (wd : Nat) (pl : Nat) (tm : Nat) (pm : Nat) : Nat → Nat → (Int64) → (Int64)
  | 0, _, x191_1 => x191_1
  | n191 + 1, i191, x191_1 => X_digest_L191 κ σ n wd pl tm pm n191 (i191 + 1) (X_digest_S191_0 κ σ n wd pl tm pm i191 x191_1)
def X_digest_r (κ : Nat → Nat) (σ : Nat → Nat → Int32) (n : Nat) (wd : Nat) (pl : Nat) (tm : Nat) (pm : Nat) : Int64 := if (X_hasHills_r κ σ) = 0 then (X_digest_L191 κ σ n wd pl tm pm 10 0 (X_digest_L157 κ σ n wd pl tm pm pm 0 (X_mixed_r (X_mixed_r (X_digest_L74 κ σ n wd pl tm pm wd 0 (X_digest_L6 κ σ n wd pl tm pm n 0 967)) ((X_which_r κ σ tm).toInt64)) ((X_ask_r κ σ tm).toInt64)))) else (X_digest_L191 κ (X_mixedShallBe_s κ σ pl n (X_digest_L74 κ σ n wd pl tm pm wd 0 (X_digest_L6 κ σ n wd pl tm pm n 0 967))) n wd pl tm pm 10 0 (X_digest_L157 κ (X_mixedShallBe_s κ σ pl n (X_digest_L74 κ σ n wd pl tm pm wd 0 (X_digest_L6 κ σ n wd pl tm pm n 0 967))) n wd pl tm pm pm 0 (X_mixed_r (X_mixed_r (X_mixedShallBe_r κ σ pl n (X_digest_L74 κ σ n wd pl tm pm wd 0 (X_digest_L6 κ σ n wd pl tm pm n 0 967))) ((X_which_r κ (X_mixedShallBe_s κ σ pl n (X_digest_L74 κ σ n wd pl tm pm wd 0 (X_digest_L6 κ σ n wd pl tm pm n 0 967))) tm).toInt64)) ((X_ask_r κ (X_mixedShallBe_s κ σ pl n (X_digest_L74 κ σ n wd pl tm pm wd 0 (X_digest_L6 κ σ n wd pl tm pm n 0 967))) tm).toInt64))))
def X_digest_s (κ : Nat → Nat) (σ : Nat → Nat → Int32) (n : Nat) (wd : Nat) (pl : Nat) (tm : Nat) (pm : Nat) : Nat → Nat → Int32 := if (X_hasHills_r κ σ) = 0 then σ else (X_mixedShallBe_s κ σ pl n (X_digest_L74 κ σ n wd pl tm pm wd 0 (X_digest_L6 κ σ n wd pl tm pm n 0 967)))
theorem X_digest_s_k (κ : Nat → Nat) (σ : Nat → Nat → Int32) (n : Nat) (wd : Nat) (pl : Nat) (tm : Nat) (pm : Nat) (c9 : Nat) (q0 : c9 ≠ 24) (q1 : c9 ≠ 25) (q2 : c9 ≠ 26) (q3 : c9 ≠ 37) (q4 : c9 ≠ 40) (q5 : c9 ≠ 41) : X_digest_s κ σ n wd pl tm pm c9 = σ c9 := by
  unfold X_digest_s
  by_cases z1 : (X_hasHills_r κ σ) = 0
  · refine Eq.trans (congrFun (if_pos z1) c9) ?_
    exact rfl
  · refine Eq.trans (congrFun (if_neg z1) c9) ?_
    exact X_mixedShallBe_s_k κ σ pl n (X_digest_L74 κ σ n wd pl tm pm wd 0 (X_digest_L6 κ σ n wd pl tm pm n 0 967)) c9 q0 q1 q2 q3 q4 q5
set_option maxHeartbeats 4000000 in
set_option maxRecDepth 100000 in
theorem c_X_digest (l : Launch) (D : va_G) (z : Nat → Nat) (cI cC cI2 : ClassId) (a : Nat → Nat) (κ : Nat → Nat) (σ : Nat → Nat → Int32) (n : Nat) (wd : Nat) (pl : Nat) (tm : Nat) (pm : Nat) (hn : σ 10 3 = nI n) (hnb : n ≤ 4) (hw0 : σ 32 4 = nI wd) (hw0b : wd ≤ 12) (hp0 : σ 37 4 = nI pl) (hp0b : pl ≤ 4) (h38 : natRow (σ 38) pl 4) (h39 : natRow (σ 39) pl 4) (hk : ∀ i, i < 4 → κ i < 5) (ht0 : σ 42 2 = nI tm) (ht0b : tm ≤ 6) (hpm : σ 8 1 = nI pm) (hpmb : pm ≤ 16) : gLE l D z (tysX cI cC cI2) yX11_digest wsX11_digest 8 [.ref (a 0)] (wX cI cC cI2 a κ σ) (X_digest_r κ σ n wd pl tm pm) (wX cI cC cI2 a κ (X_digest_s κ σ n wd pl tm pm)) := by
  refine g_startE (cc := cX11_digest) (maxL := 8) (ret := some .long) (Qc := gQl D (tysX cI cC cI2) (X_digest_r κ σ n wd pl tm pm) (wX cI cC cI2 a κ (X_digest_s κ σ n wd pl tm pm))) (by decide) rfl (Nat.le_of_ble_eq_true rfl) ?_
  intro p e s m below meth C A ls S hr hlk hw hE hl
  obtain ⟨hx, hb, hml, hown, hts⟩ := id S
  have hinX10 : ∀ x ∈ u_ws RX10 TX10 5, x ∈ wsX11_digest := fun x h => List.mem_cons_of_mem _ (List.mem_append_left _ (List.mem_append_left _ (List.mem_append_left _ (List.mem_append_right _ h))))
  have hinX11 : ∀ x ∈ u_ws RX11 TX11 8, x ∈ wsX11_digest := fun x h => List.mem_cons_of_mem _ (List.mem_append_left _ (List.mem_append_left _ (List.mem_append_left _ (List.mem_append_left _ (List.mem_append_left _ (List.mem_append_left _ (List.mem_append_right _ h)))))))
  have hinX2 : ∀ x ∈ u_ws RX2 TX2 5, x ∈ wsX11_digest := fun x h => List.mem_cons_of_mem _ (List.mem_append_left _ (List.mem_append_left _ (List.mem_append_left _ (List.mem_append_left _ (List.mem_append_right _ h)))))
  have hinX4 : ∀ x ∈ u_ws RX4 TX4 2, x ∈ wsX11_digest := fun x h => List.mem_cons_of_mem _ (List.mem_append_left _ (List.mem_append_left _ (List.mem_append_right _ h)))
  have hinX8 : ∀ x ∈ u_ws RX8 TX8 5, x ∈ wsX11_digest := fun x h => List.mem_cons_of_mem _ (List.mem_append_left _ (List.mem_append_left _ (List.mem_append_left _ (List.mem_append_left _ (List.mem_append_left _ (List.mem_append_right _ h))))))
  have lk0 : Cond.constantLong RX11 242 (967) ∈ wsX11_digest := by decide +kernel
  have lk1 : Cond.fieldLink RX11 43 "CowsOwed" "now" "LCowsOwed$Times;" ∈ wsX11_digest := by decide +kernel
  have lk2 : Cond.fieldLink RX11 97 "CowsOwed$Times" "herds" "LCowsOwed$Herds;" ∈ wsX11_digest := by decide +kernel
  have lk3 : Cond.fieldLink RX11 241 "CowsOwed$Herds" "size" "I" ∈ wsX11_digest := by decide +kernel
  have lk4 : Cond.fieldLink RX11 244 "CowsOwed" "CLAN_PARTS" "[I" ∈ wsX11_digest := by decide +kernel
  have lk5 : Cond.fieldLink RX11 147 "CowsOwed$Times" "weddings" "LCowsOwed$Weddings;" ∈ wsX11_digest := by decide +kernel
  have lk6 : Cond.fieldLink RX11 151 "CowsOwed$Weddings" "size" "I" ∈ wsX11_digest := by decide +kernel
  have lk7 : Cond.fieldLink RX11 34 "CowsOwed" "page" "LCowsOwed$Page;" ∈ wsX11_digest := by decide +kernel
  have lk8 : Cond.fieldLink RX11 65 "CowsOwed$Page" "size" "I" ∈ wsX11_digest := by decide +kernel
  have lk9 : Cond.fieldLink RX11 267 "CowsOwed$Page" "codes" "[I" ∈ wsX11_digest := by decide +kernel
  have hl : lv_has ls 8 [(0, .ref (a 0))] := hl
  refine lv_ldc2 (v := 967) hx hb hown (hts _ lk0) dX11_digest_0 ?_
  refine lv_lstore_n (lv' := [(1, .long 967), (0, .ref (a 0))]) hx hb dX11_digest_3 rfl hl (by decide) rfl (fun ls hl => ?_)
  refine lv_iconst (v := 0) hx hb dX11_digest_4 (by decide) ?_
  refine lv_istore_n (lv' := [(3, .int 0), (1, .long 967), (0, .ref (a 0))]) hx hb dX11_digest_5 rfl hl (by decide) rfl (fun ls hl => ?_)
  have L6 : ∀ (n6 i6 : Nat) (x6_1 : Int64) (H : Heap) (locs : List Loc) (ls : Array Slot), i6 + n6 = n → X_digest_L6 κ σ n wd pl tm pm n6 i6 x6_1 = X_digest_L6 κ σ n wd pl tm pm n 0 967 → gw D (tysX cI cC cI2) A s H locs (wX cI cC cI2 a κ σ) → lv_has ls 8 [(3, .int (nI i6)), (1, .long x6_1), (0, .ref (a 0))] → W p l e (gR 8) s m ([.ref (a 0)] : List Value).toArray below meth C H locs 0 0 (MQ below (gQl D (tysX cI cC cI2) (X_digest_r κ σ n wd pl tm pm) (wX cI cC cI2 a κ (X_digest_s κ σ n wd pl tm pm)) A) ([.ref (a 0)] : List Value).toArray s 0 0 A) (F0 m 6 ls []) := by
    intro n6
    induction n6 with
    | zero =>
      intro i6 x6_1 H locs ls hi6 hF6 hw hl
      refine lv_iload_n hx hb dX11_digest_6 rfl (lv_at hl 0 rfl) ?_
      refine lv_aload_n hx hb dX11_digest_7 rfl (lv_at hl 2 rfl) ?_
      refine g_get S hw hinX11 (fs := fX0 a σ) 0 rfl rfl 3 (by decide) lk1 (v := .ref (a 31)) rfl dX11_digest_8 ?_
      refine g_get S hw hinX8 (fs := fX31 a σ) 31 rfl rfl 0 (by decide) lk2 (v := .ref (a 10)) rfl dX11_digest_11 ?_
      refine g_get S hw hinX2 (fs := fX10 a σ) 10 rfl rfl 3 (by decide) lk3 (v := .int (nI n)) (congrArg (fun z => some (Value.int z)) (hn)) dX11_digest_14 ?_
      refine ln_ge (x := i6) (y := n) hx hb (by omega) (by omega) (tgt := 72) dX11_digest_17 (by decide) (fun c_x => ?_) (fun c_x => absurd (by omega) c_x)
      have hz6 : n = i6 := by omega
      subst hz6
      have e6_0 : (X_digest_L6 κ σ n wd pl tm pm n 0 967) = x6_1 := hF6.symm
      subst e6_0
      refine lv_iconst (v := 0) hx hb dX11_digest_72 (by decide) ?_
      refine lv_istore_n (lv' := [(3, .int 0), (1, .long (X_digest_L6 κ σ n wd pl tm pm n 0 967)), (0, .ref (a 0))]) hx hb dX11_digest_73 rfl hl (by decide) rfl (fun ls hl => ?_)
      have L74 : ∀ (n74 i74 : Nat) (x74_1 : Int64) (H : Heap) (locs : List Loc) (ls : Array Slot), i74 + n74 = wd → X_digest_L74 κ σ n wd pl tm pm n74 i74 x74_1 = X_digest_L74 κ σ n wd pl tm pm wd 0 (X_digest_L6 κ σ n wd pl tm pm n 0 967) → gw D (tysX cI cC cI2) A s H locs (wX cI cC cI2 a κ σ) → lv_has ls 8 [(3, .int (nI i74)), (1, .long x74_1), (0, .ref (a 0))] → W p l e (gR 8) s m ([.ref (a 0)] : List Value).toArray below meth C H locs 0 0 (MQ below (gQl D (tysX cI cC cI2) (X_digest_r κ σ n wd pl tm pm) (wX cI cC cI2 a κ (X_digest_s κ σ n wd pl tm pm)) A) ([.ref (a 0)] : List Value).toArray s 0 0 A) (F0 m 74 ls []) := by
        intro n74
        induction n74 with
        | zero =>
          intro i74 x74_1 H locs ls hi74 hF74 hw hl
          refine lv_iload_n hx hb dX11_digest_74 rfl (lv_at hl 0 rfl) ?_
          refine lv_aload_n hx hb dX11_digest_75 rfl (lv_at hl 2 rfl) ?_
          refine g_get S hw hinX11 (fs := fX0 a σ) 0 rfl rfl 3 (by decide) lk1 (v := .ref (a 31)) rfl dX11_digest_76 ?_
          refine g_get S hw hinX8 (fs := fX31 a σ) 31 rfl rfl 1 (by decide) lk5 (v := .ref (a 32)) rfl dX11_digest_79 ?_
          refine g_get S hw hinX10 (fs := fX32 a σ) 32 rfl rfl 4 (by decide) lk6 (v := .int (nI wd)) (congrArg (fun z => some (Value.int z)) (hw0)) dX11_digest_82 ?_
          refine ln_ge (x := i74) (y := wd) hx hb (by omega) (by omega) (tgt := 122) dX11_digest_85 (by decide) (fun c_x => ?_) (fun c_x => absurd (by omega) c_x)
          have hz74 : wd = i74 := by omega
          subst hz74
          have e74_0 : (X_digest_L74 κ σ n wd pl tm pm wd 0 (X_digest_L6 κ σ n wd pl tm pm n 0 967)) = x74_1 := hF74.symm
          subst e74_0
          refine lv_aload_n hx hb dX11_digest_122 rfl (lv_at hl 2 rfl) ?_
          refine g_callVi S hw (c_X_hasHills l D cI cC cI2 a κ σ) gX11_digest_X11_hasHills rfl 0 rfl rfl 0 rfl (by decide +kernel) (by decide) (by decide) hl.1 rfl (Nat.le_of_ble_eq_true rfl) dX11_digest_123 (fun H locs hw => ?_)
          refine lv_if_eq hx hb (tgt := 135) dX11_digest_126 (by decide) (fun c_9 => ?_) (fun c_9 => ?_)
          · refine lv_lload_n hx hb dX11_digest_135 rfl (lv_at hl 1 rfl) ?_
            refine lv_aload_n hx hb dX11_digest_136 rfl (lv_at hl 2 rfl) ?_
            refine g_callVi S hw (c_X_which l D cI cC cI2 a κ σ tm (ht0) (by omega)) gX11_digest_X11_which rfl 0 rfl rfl 0 rfl (by decide +kernel) (by decide) (by decide) hl.1 rfl (Nat.le_of_ble_eq_true rfl) dX11_digest_137 (fun H locs hw => ?_)
            refine lv_i2l hx hb dX11_digest_140 rfl ?_
            refine g_callSl S hw (c_X_mixed l D (tysX cI cC cI2) (wX cI cC cI2 a κ σ) (X_digest_L74 κ σ n wd pl tm pm wd 0 (X_digest_L6 κ σ n wd pl tm pm n 0 967)) ((X_which_r κ σ tm).toInt64)) gX11_digest_X11_mixed rfl 2 rfl (by decide +kernel) (by decide) (by decide) hl.1 rfl (Nat.le_of_ble_eq_true rfl) dX11_digest_141 (fun H locs hw => ?_)
            refine lv_lstore_n (lv' := [(1, .long (X_mixed_r (X_digest_L74 κ σ n wd pl tm pm wd 0 (X_digest_L6 κ σ n wd pl tm pm n 0 967)) ((X_which_r κ σ tm).toInt64))), (3, .int (nI wd)), (0, .ref (a 0))]) hx hb dX11_digest_144 rfl hl (by decide) rfl (fun ls hl => ?_)
            refine lv_lload_n hx hb dX11_digest_145 rfl (lv_at hl 0 rfl) ?_
            refine lv_aload_n hx hb dX11_digest_146 rfl (lv_at hl 2 rfl) ?_
            refine g_callVi S hw (c_X_ask l D cI cC cI2 a κ σ tm (ht0) (by omega)) gX11_digest_X11_ask rfl 0 rfl rfl 0 rfl (by decide +kernel) (by decide) (by decide) hl.1 rfl (Nat.le_of_ble_eq_true rfl) dX11_digest_147 (fun H locs hw => ?_)
            refine lv_i2l hx hb dX11_digest_150 rfl ?_
            refine g_callSl S hw (c_X_mixed l D (tysX cI cC cI2) (wX cI cC cI2 a κ σ) (X_mixed_r (X_digest_L74 κ σ n wd pl tm pm wd 0 (X_digest_L6 κ σ n wd pl tm pm n 0 967)) ((X_which_r κ σ tm).toInt64)) ((X_ask_r κ σ tm).toInt64)) gX11_digest_X11_mixed rfl 2 rfl (by decide +kernel) (by decide) (by decide) hl.1 rfl (Nat.le_of_ble_eq_true rfl) dX11_digest_151 (fun H locs hw => ?_)
            refine lv_lstore_n (lv' := [(1, .long (X_mixed_r (X_mixed_r (X_digest_L74 κ σ n wd pl tm pm wd 0 (X_digest_L6 κ σ n wd pl tm pm n 0 967)) ((X_which_r κ σ tm).toInt64)) ((X_ask_r κ σ tm).toInt64))), (3, .int (nI wd)), (0, .ref (a 0))]) hx hb dX11_digest_154 rfl hl (by decide) rfl (fun ls hl => ?_)
            refine lv_iconst (v := 0) hx hb dX11_digest_155 (by decide) ?_
            refine lv_istore_n (lv' := [(3, .int 0), (1, .long (X_mixed_r (X_mixed_r (X_digest_L74 κ σ n wd pl tm pm wd 0 (X_digest_L6 κ σ n wd pl tm pm n 0 967)) ((X_which_r κ σ tm).toInt64)) ((X_ask_r κ σ tm).toInt64))), (0, .ref (a 0))]) hx hb dX11_digest_156 rfl hl (by decide) rfl (fun ls hl => ?_)
            have L157 : ∀ (n157 i157 : Nat) (x157_1 : Int64) (H : Heap) (locs : List Loc) (ls : Array Slot), i157 + n157 = pm → X_digest_L157 κ σ n wd pl tm pm n157 i157 x157_1 = X_digest_L157 κ σ n wd pl tm pm pm 0 (X_mixed_r (X_mixed_r (X_digest_L74 κ σ n wd pl tm pm wd 0 (X_digest_L6 κ σ n wd pl tm pm n 0 967)) ((X_which_r κ σ tm).toInt64)) ((X_ask_r κ σ tm).toInt64)) → gw D (tysX cI cC cI2) A s H locs (wX cI cC cI2 a κ σ) → lv_has ls 8 [(3, .int (nI i157)), (1, .long x157_1), (0, .ref (a 0))] → W p l e (gR 8) s m ([.ref (a 0)] : List Value).toArray below meth C H locs 0 0 (MQ below (gQl D (tysX cI cC cI2) (X_digest_r κ σ n wd pl tm pm) (wX cI cC cI2 a κ (X_digest_s κ σ n wd pl tm pm)) A) ([.ref (a 0)] : List Value).toArray s 0 0 A) (F0 m 157 ls []) := by
              intro n157
              induction n157 with
              | zero =>
                intro i157 x157_1 H locs ls hi157 hF157 hw hl
                refine lv_iload_n hx hb dX11_digest_157 rfl (lv_at hl 0 rfl) ?_
                refine lv_aload_n hx hb dX11_digest_158 rfl (lv_at hl 2 rfl) ?_
                refine g_get S hw hinX11 (fs := fX0 a σ) 0 rfl rfl 2 (by decide) lk7 (v := .ref (a 8)) rfl dX11_digest_159 ?_
                refine g_get S hw hinX4 (fs := fX8 a σ) 8 rfl rfl 1 (by decide) lk8 (v := .int (nI pm)) (congrArg (fun z => some (Value.int z)) (hpm)) dX11_digest_162 ?_
                refine ln_ge (x := i157) (y := pm) hx hb (by omega) (by omega) (tgt := 189) dX11_digest_165 (by decide) (fun c_x => ?_) (fun c_x => absurd (by omega) c_x)
                have hz157 : pm = i157 := by omega
                subst hz157
                have e157_0 : (X_digest_L157 κ σ n wd pl tm pm pm 0 (X_mixed_r (X_mixed_r (X_digest_L74 κ σ n wd pl tm pm wd 0 (X_digest_L6 κ σ n wd pl tm pm n 0 967)) ((X_which_r κ σ tm).toInt64)) ((X_ask_r κ σ tm).toInt64))) = x157_1 := hF157.symm
                subst e157_0
                refine lv_iconst (v := 0) hx hb dX11_digest_189 (by decide) ?_
                refine lv_istore_n (lv' := [(3, .int 0), (1, .long (X_digest_L157 κ σ n wd pl tm pm pm 0 (X_mixed_r (X_mixed_r (X_digest_L74 κ σ n wd pl tm pm wd 0 (X_digest_L6 κ σ n wd pl tm pm n 0 967)) ((X_which_r κ σ tm).toInt64)) ((X_ask_r κ σ tm).toInt64)))), (0, .ref (a 0))]) hx hb dX11_digest_190 rfl hl (by decide) rfl (fun ls hl => ?_)
                have L191 : ∀ (n191 i191 : Nat) (x191_1 : Int64) (H : Heap) (locs : List Loc) (ls : Array Slot), i191 + n191 = 10 → X_digest_L191 κ σ n wd pl tm pm n191 i191 x191_1 = X_digest_L191 κ σ n wd pl tm pm 10 0 (X_digest_L157 κ σ n wd pl tm pm pm 0 (X_mixed_r (X_mixed_r (X_digest_L74 κ σ n wd pl tm pm wd 0 (X_digest_L6 κ σ n wd pl tm pm n 0 967)) ((X_which_r κ σ tm).toInt64)) ((X_ask_r κ σ tm).toInt64))) → gw D (tysX cI cC cI2) A s H locs (wX cI cC cI2 a κ σ) → lv_has ls 8 [(3, .int (nI i191)), (1, .long x191_1), (0, .ref (a 0))] → W p l e (gR 8) s m ([.ref (a 0)] : List Value).toArray below meth C H locs 0 0 (MQ below (gQl D (tysX cI cC cI2) (X_digest_r κ σ n wd pl tm pm) (wX cI cC cI2 a κ (X_digest_s κ σ n wd pl tm pm)) A) ([.ref (a 0)] : List Value).toArray s 0 0 A) (F0 m 191 ls []) := by
                  intro n191
                  induction n191 with
                  | zero =>
                    intro i191 x191_1 H locs ls hi191 hF191 hw hl
                    refine lv_iload_n hx hb dX11_digest_191 rfl (lv_at hl 0 rfl) ?_
                    refine lv_bipush (v := 10) hx hb dX11_digest_192 (by decide) ?_
                    refine ln_ge (x := i191) (y := 10) hx hb (by omega) (by omega) (tgt := 214) dX11_digest_194 (by decide) (fun c_x => ?_) (fun c_x => absurd (by omega) c_x)
                    have hz191 : 10 = i191 := by omega
                    subst hz191
                    have e191_0 : (X_digest_L191 κ σ n wd pl tm pm 10 0 (X_digest_L157 κ σ n wd pl tm pm pm 0 (X_mixed_r (X_mixed_r (X_digest_L74 κ σ n wd pl tm pm wd 0 (X_digest_L6 κ σ n wd pl tm pm n 0 967)) ((X_which_r κ σ tm).toInt64)) ((X_ask_r κ σ tm).toInt64)))) = x191_1 := hF191.symm
                    subst e191_0
                    refine lv_lload_n hx hb dX11_digest_214 rfl (lv_at hl 1 rfl) ?_
                    exact g_lret S hr hlk hw (by simp only [X_digest_r, if_pos c_9]) (by simp only [X_digest_s, if_pos c_9]) dX11_digest_215
                  | succ n191 ih191 =>
                    intro i191 x191_1 H locs ls hi191 hF191 hw hl
                    refine lv_iload_n hx hb dX11_digest_191 rfl (lv_at hl 0 rfl) ?_
                    refine lv_bipush (v := 10) hx hb dX11_digest_192 (by decide) ?_
                    refine ln_ge (x := i191) (y := 10) hx hb (by omega) (by omega) (tgt := 214) dX11_digest_194 (by decide) (fun c_x => absurd c_x (by omega)) (fun c_x => ?_)
                    refine lv_lload_n hx hb dX11_digest_197 rfl (lv_at hl 1 rfl) ?_
                    refine lv_aload_n hx hb dX11_digest_198 rfl (lv_at hl 2 rfl) ?_
                    refine lv_iload_n hx hb dX11_digest_199 rfl (lv_at hl 0 rfl) ?_
                    refine g_callVi S hw (c_X_count l D cI cC cI2 a κ σ n (nI i191) (hn) (by omega)) gX11_digest_X11_count rfl 0 rfl rfl 1 rfl (by decide +kernel) (by decide) (by decide) hl.1 rfl (Nat.le_of_ble_eq_true rfl) dX11_digest_200 (fun H locs hw => ?_)
                    refine lv_i2l hx hb dX11_digest_203 rfl ?_
                    refine g_callSl S hw (c_X_mixed l D (tysX cI cC cI2) (wX cI cC cI2 a κ σ) x191_1 ((X_count_r κ σ n (nI i191)).toInt64)) gX11_digest_X11_mixed rfl 2 rfl (by decide +kernel) (by decide) (by decide) hl.1 rfl (Nat.le_of_ble_eq_true rfl) dX11_digest_204 (fun H locs hw => ?_)
                    refine lv_lstore_n (lv' := [(1, .long (X_mixed_r x191_1 ((X_count_r κ σ n (nI i191)).toInt64))), (3, .int (nI i191)), (0, .ref (a 0))]) hx hb dX11_digest_207 rfl hl (by decide) rfl (fun ls hl => ?_)
                    refine lv_iinc (v := nI (i191 + 1)) (lv' := [(3, .int (nI (i191 + 1))), (1, .long (X_mixed_r x191_1 ((X_count_r κ σ n (nI i191)).toInt64))), (0, .ref (a 0))]) hx hb dX11_digest_208 hl (k := 1) rfl (nI_1 _) (by decide) rfl (fun ls hl => ?_)
                    refine lv_goto (tgt := 191) hx hb dX11_digest_211 (by decide) ?_
                    exact ih191 (i191 + 1) (X_mixed_r x191_1 ((X_count_r κ σ n (nI i191)).toInt64)) _ _ _ (by omega) hF191 hw (lv_sub hl [0, 1, 2] rfl)
                exact L191 10 0 (X_digest_L157 κ σ n wd pl tm pm pm 0 (X_mixed_r (X_mixed_r (X_digest_L74 κ σ n wd pl tm pm wd 0 (X_digest_L6 κ σ n wd pl tm pm n 0 967)) ((X_which_r κ σ tm).toInt64)) ((X_ask_r κ σ tm).toInt64))) _ _ _ (by omega) rfl hw (lv_sub hl [0, 1, 2] rfl)
              | succ n157 ih157 =>
                intro i157 x157_1 H locs ls hi157 hF157 hw hl
                refine lv_iload_n hx hb dX11_digest_157 rfl (lv_at hl 0 rfl) ?_
                refine lv_aload_n hx hb dX11_digest_158 rfl (lv_at hl 2 rfl) ?_
                refine g_get S hw hinX11 (fs := fX0 a σ) 0 rfl rfl 2 (by decide) lk7 (v := .ref (a 8)) rfl dX11_digest_159 ?_
                refine g_get S hw hinX4 (fs := fX8 a σ) 8 rfl rfl 1 (by decide) lk8 (v := .int (nI pm)) (congrArg (fun z => some (Value.int z)) (hpm)) dX11_digest_162 ?_
                refine ln_ge (x := i157) (y := pm) hx hb (by omega) (by omega) (tgt := 189) dX11_digest_165 (by decide) (fun c_x => absurd c_x (by omega)) (fun c_x => ?_)
                refine lv_lload_n hx hb dX11_digest_168 rfl (lv_at hl 1 rfl) ?_
                refine lv_aload_n hx hb dX11_digest_169 rfl (lv_at hl 2 rfl) ?_
                refine g_get S hw hinX11 (fs := fX0 a σ) 0 rfl rfl 2 (by decide) lk7 (v := .ref (a 8)) rfl dX11_digest_170 ?_
                refine g_get S hw hinX4 (fs := fX8 a σ) 8 rfl rfl 0 (by decide) lk9 (v := .ref (a 9)) rfl dX11_digest_173 ?_
                refine lv_iload_n hx hb dX11_digest_176 rfl (lv_at hl 0 rfl) ?_
                refine g_iald S hw (f := σ 9) (i := i157) (x := σ 9 i157) 9 0 rfl rfl (by omega) (by decide) rfl dX11_digest_177 ?_
                refine lv_i2l hx hb dX11_digest_178 rfl ?_
                refine g_callSl S hw (c_X_mixed l D (tysX cI cC cI2) (wX cI cC cI2 a κ σ) x157_1 ((σ 9 i157).toInt64)) gX11_digest_X11_mixed rfl 2 rfl (by decide +kernel) (by decide) (by decide) hl.1 rfl (Nat.le_of_ble_eq_true rfl) dX11_digest_179 (fun H locs hw => ?_)
                refine lv_lstore_n (lv' := [(1, .long (X_mixed_r x157_1 ((σ 9 i157).toInt64))), (3, .int (nI i157)), (0, .ref (a 0))]) hx hb dX11_digest_182 rfl hl (by decide) rfl (fun ls hl => ?_)
                refine lv_iinc (v := nI (i157 + 1)) (lv' := [(3, .int (nI (i157 + 1))), (1, .long (X_mixed_r x157_1 ((σ 9 i157).toInt64))), (0, .ref (a 0))]) hx hb dX11_digest_183 hl (k := 1) rfl (nI_1 _) (by decide) rfl (fun ls hl => ?_)
                refine lv_goto (tgt := 157) hx hb dX11_digest_186 (by decide) ?_
                exact ih157 (i157 + 1) (X_mixed_r x157_1 ((σ 9 i157).toInt64)) _ _ _ (by omega) hF157 hw (lv_sub hl [0, 1, 2] rfl)
            exact L157 pm 0 (X_mixed_r (X_mixed_r (X_digest_L74 κ σ n wd pl tm pm wd 0 (X_digest_L6 κ σ n wd pl tm pm n 0 967)) ((X_which_r κ σ tm).toInt64)) ((X_ask_r κ σ tm).toInt64)) _ _ _ (by omega) rfl hw (lv_sub hl [0, 1, 2] rfl)
          · refine lv_aload_n hx hb dX11_digest_129 rfl (lv_at hl 2 rfl) ?_
            refine lv_lload_n hx hb dX11_digest_130 rfl (lv_at hl 1 rfl) ?_
            refine g_callVl S hw (c_X_mixedShallBe l D cI cC cI2 a κ σ pl n (X_digest_L74 κ σ n wd pl tm pm wd 0 (X_digest_L6 κ σ n wd pl tm pm n 0 967)) (hp0) (by omega) (hn) (by omega) (h38) (h39) hk) gX11_digest_X11_mixedShallBe rfl 0 rfl rfl 1 rfl (by decide +kernel) (by decide) (by decide) hl.1 rfl (Nat.le_of_ble_eq_true rfl) dX11_digest_131 (fun H locs hw => ?_)
            refine lv_lstore_n (lv' := [(1, .long (X_mixedShallBe_r κ σ pl n (X_digest_L74 κ σ n wd pl tm pm wd 0 (X_digest_L6 κ σ n wd pl tm pm n 0 967)))), (3, .int (nI wd)), (0, .ref (a 0))]) hx hb dX11_digest_134 rfl hl (by decide) rfl (fun ls hl => ?_)
            refine lv_lload_n hx hb dX11_digest_135 rfl (lv_at hl 0 rfl) ?_
            refine lv_aload_n hx hb dX11_digest_136 rfl (lv_at hl 2 rfl) ?_
            refine g_callVi S hw (c_X_which l D cI cC cI2 a κ (X_mixedShallBe_s κ σ pl n (X_digest_L74 κ σ n wd pl tm pm wd 0 (X_digest_L6 κ σ n wd pl tm pm n 0 967))) tm ((congrFun (X_mixedShallBe_s_k κ σ pl n (X_digest_L74 κ σ n wd pl tm pm wd 0 (X_digest_L6 κ σ n wd pl tm pm n 0 967)) 42 (by omega) (by omega) (by omega) (by omega) (by omega) (by omega)) 2).trans (ht0)) (by omega)) gX11_digest_X11_which rfl 0 rfl rfl 0 rfl (by decide +kernel) (by decide) (by decide) hl.1 rfl (Nat.le_of_ble_eq_true rfl) dX11_digest_137 (fun H locs hw => ?_)
            refine lv_i2l hx hb dX11_digest_140 rfl ?_
            refine g_callSl S hw (c_X_mixed l D (tysX cI cC cI2) (wX cI cC cI2 a κ (X_mixedShallBe_s κ σ pl n (X_digest_L74 κ σ n wd pl tm pm wd 0 (X_digest_L6 κ σ n wd pl tm pm n 0 967)))) (X_mixedShallBe_r κ σ pl n (X_digest_L74 κ σ n wd pl tm pm wd 0 (X_digest_L6 κ σ n wd pl tm pm n 0 967))) ((X_which_r κ (X_mixedShallBe_s κ σ pl n (X_digest_L74 κ σ n wd pl tm pm wd 0 (X_digest_L6 κ σ n wd pl tm pm n 0 967))) tm).toInt64)) gX11_digest_X11_mixed rfl 2 rfl (by decide +kernel) (by decide) (by decide) hl.1 rfl (Nat.le_of_ble_eq_true rfl) dX11_digest_141 (fun H locs hw => ?_)
            refine lv_lstore_n (lv' := [(1, .long (X_mixed_r (X_mixedShallBe_r κ σ pl n (X_digest_L74 κ σ n wd pl tm pm wd 0 (X_digest_L6 κ σ n wd pl tm pm n 0 967))) ((X_which_r κ (X_mixedShallBe_s κ σ pl n (X_digest_L74 κ σ n wd pl tm pm wd 0 (X_digest_L6 κ σ n wd pl tm pm n 0 967))) tm).toInt64))), (3, .int (nI wd)), (0, .ref (a 0))]) hx hb dX11_digest_144 rfl hl (by decide) rfl (fun ls hl => ?_)
            refine lv_lload_n hx hb dX11_digest_145 rfl (lv_at hl 0 rfl) ?_
            refine lv_aload_n hx hb dX11_digest_146 rfl (lv_at hl 2 rfl) ?_
            refine g_callVi S hw (c_X_ask l D cI cC cI2 a κ (X_mixedShallBe_s κ σ pl n (X_digest_L74 κ σ n wd pl tm pm wd 0 (X_digest_L6 κ σ n wd pl tm pm n 0 967))) tm ((congrFun (X_mixedShallBe_s_k κ σ pl n (X_digest_L74 κ σ n wd pl tm pm wd 0 (X_digest_L6 κ σ n wd pl tm pm n 0 967)) 42 (by omega) (by omega) (by omega) (by omega) (by omega) (by omega)) 2).trans (ht0)) (by omega)) gX11_digest_X11_ask rfl 0 rfl rfl 0 rfl (by decide +kernel) (by decide) (by decide) hl.1 rfl (Nat.le_of_ble_eq_true rfl) dX11_digest_147 (fun H locs hw => ?_)
            refine lv_i2l hx hb dX11_digest_150 rfl ?_
            refine g_callSl S hw (c_X_mixed l D (tysX cI cC cI2) (wX cI cC cI2 a κ (X_mixedShallBe_s κ σ pl n (X_digest_L74 κ σ n wd pl tm pm wd 0 (X_digest_L6 κ σ n wd pl tm pm n 0 967)))) (X_mixed_r (X_mixedShallBe_r κ σ pl n (X_digest_L74 κ σ n wd pl tm pm wd 0 (X_digest_L6 κ σ n wd pl tm pm n 0 967))) ((X_which_r κ (X_mixedShallBe_s κ σ pl n (X_digest_L74 κ σ n wd pl tm pm wd 0 (X_digest_L6 κ σ n wd pl tm pm n 0 967))) tm).toInt64)) ((X_ask_r κ (X_mixedShallBe_s κ σ pl n (X_digest_L74 κ σ n wd pl tm pm wd 0 (X_digest_L6 κ σ n wd pl tm pm n 0 967))) tm).toInt64)) gX11_digest_X11_mixed rfl 2 rfl (by decide +kernel) (by decide) (by decide) hl.1 rfl (Nat.le_of_ble_eq_true rfl) dX11_digest_151 (fun H locs hw => ?_)
            refine lv_lstore_n (lv' := [(1, .long (X_mixed_r (X_mixed_r (X_mixedShallBe_r κ σ pl n (X_digest_L74 κ σ n wd pl tm pm wd 0 (X_digest_L6 κ σ n wd pl tm pm n 0 967))) ((X_which_r κ (X_mixedShallBe_s κ σ pl n (X_digest_L74 κ σ n wd pl tm pm wd 0 (X_digest_L6 κ σ n wd pl tm pm n 0 967))) tm).toInt64)) ((X_ask_r κ (X_mixedShallBe_s κ σ pl n (X_digest_L74 κ σ n wd pl tm pm wd 0 (X_digest_L6 κ σ n wd pl tm pm n 0 967))) tm).toInt64))), (3, .int (nI wd)), (0, .ref (a 0))]) hx hb dX11_digest_154 rfl hl (by decide) rfl (fun ls hl => ?_)
            refine lv_iconst (v := 0) hx hb dX11_digest_155 (by decide) ?_
            refine lv_istore_n (lv' := [(3, .int 0), (1, .long (X_mixed_r (X_mixed_r (X_mixedShallBe_r κ σ pl n (X_digest_L74 κ σ n wd pl tm pm wd 0 (X_digest_L6 κ σ n wd pl tm pm n 0 967))) ((X_which_r κ (X_mixedShallBe_s κ σ pl n (X_digest_L74 κ σ n wd pl tm pm wd 0 (X_digest_L6 κ σ n wd pl tm pm n 0 967))) tm).toInt64)) ((X_ask_r κ (X_mixedShallBe_s κ σ pl n (X_digest_L74 κ σ n wd pl tm pm wd 0 (X_digest_L6 κ σ n wd pl tm pm n 0 967))) tm).toInt64))), (0, .ref (a 0))]) hx hb dX11_digest_156 rfl hl (by decide) rfl (fun ls hl => ?_)
            have L157 : ∀ (n157 i157 : Nat) (x157_1 : Int64) (H : Heap) (locs : List Loc) (ls : Array Slot), i157 + n157 = pm → X_digest_L157 κ (X_mixedShallBe_s κ σ pl n (X_digest_L74 κ σ n wd pl tm pm wd 0 (X_digest_L6 κ σ n wd pl tm pm n 0 967))) n wd pl tm pm n157 i157 x157_1 = X_digest_L157 κ (X_mixedShallBe_s κ σ pl n (X_digest_L74 κ σ n wd pl tm pm wd 0 (X_digest_L6 κ σ n wd pl tm pm n 0 967))) n wd pl tm pm pm 0 (X_mixed_r (X_mixed_r (X_mixedShallBe_r κ σ pl n (X_digest_L74 κ σ n wd pl tm pm wd 0 (X_digest_L6 κ σ n wd pl tm pm n 0 967))) ((X_which_r κ (X_mixedShallBe_s κ σ pl n (X_digest_L74 κ σ n wd pl tm pm wd 0 (X_digest_L6 κ σ n wd pl tm pm n 0 967))) tm).toInt64)) ((X_ask_r κ (X_mixedShallBe_s κ σ pl n (X_digest_L74 κ σ n wd pl tm pm wd 0 (X_digest_L6 κ σ n wd pl tm pm n 0 967))) tm).toInt64)) → gw D (tysX cI cC cI2) A s H locs (wX cI cC cI2 a κ (X_mixedShallBe_s κ σ pl n (X_digest_L74 κ σ n wd pl tm pm wd 0 (X_digest_L6 κ σ n wd pl tm pm n 0 967)))) → lv_has ls 8 [(3, .int (nI i157)), (1, .long x157_1), (0, .ref (a 0))] → W p l e (gR 8) s m ([.ref (a 0)] : List Value).toArray below meth C H locs 0 0 (MQ below (gQl D (tysX cI cC cI2) (X_digest_r κ σ n wd pl tm pm) (wX cI cC cI2 a κ (X_digest_s κ σ n wd pl tm pm)) A) ([.ref (a 0)] : List Value).toArray s 0 0 A) (F0 m 157 ls []) := by
              intro n157
              induction n157 with
              | zero =>
                intro i157 x157_1 H locs ls hi157 hF157 hw hl
                refine lv_iload_n hx hb dX11_digest_157 rfl (lv_at hl 0 rfl) ?_
                refine lv_aload_n hx hb dX11_digest_158 rfl (lv_at hl 2 rfl) ?_
                refine g_get S hw hinX11 (fs := fX0 a (X_mixedShallBe_s κ σ pl n (X_digest_L74 κ σ n wd pl tm pm wd 0 (X_digest_L6 κ σ n wd pl tm pm n 0 967)))) 0 rfl rfl 2 (by decide) lk7 (v := .ref (a 8)) rfl dX11_digest_159 ?_
                refine g_get S hw hinX4 (fs := fX8 a (X_mixedShallBe_s κ σ pl n (X_digest_L74 κ σ n wd pl tm pm wd 0 (X_digest_L6 κ σ n wd pl tm pm n 0 967)))) 8 rfl rfl 1 (by decide) lk8 (v := .int (nI pm)) (congrArg (fun z => some (Value.int z)) ((congrFun (X_mixedShallBe_s_k κ σ pl n (X_digest_L74 κ σ n wd pl tm pm wd 0 (X_digest_L6 κ σ n wd pl tm pm n 0 967)) 8 (by omega) (by omega) (by omega) (by omega) (by omega) (by omega)) 1).trans (hpm))) dX11_digest_162 ?_
                refine ln_ge (x := i157) (y := pm) hx hb (by omega) (by omega) (tgt := 189) dX11_digest_165 (by decide) (fun c_x => ?_) (fun c_x => absurd (by omega) c_x)
                have hz157 : pm = i157 := by omega
                subst hz157
                have e157_0 : (X_digest_L157 κ (X_mixedShallBe_s κ σ pl n (X_digest_L74 κ σ n wd pl tm pm wd 0 (X_digest_L6 κ σ n wd pl tm pm n 0 967))) n wd pl tm pm pm 0 (X_mixed_r (X_mixed_r (X_mixedShallBe_r κ σ pl n (X_digest_L74 κ σ n wd pl tm pm wd 0 (X_digest_L6 κ σ n wd pl tm pm n 0 967))) ((X_which_r κ (X_mixedShallBe_s κ σ pl n (X_digest_L74 κ σ n wd pl tm pm wd 0 (X_digest_L6 κ σ n wd pl tm pm n 0 967))) tm).toInt64)) ((X_ask_r κ (X_mixedShallBe_s κ σ pl n (X_digest_L74 κ σ n wd pl tm pm wd 0 (X_digest_L6 κ σ n wd pl tm pm n 0 967))) tm).toInt64))) = x157_1 := hF157.symm
                subst e157_0
                refine lv_iconst (v := 0) hx hb dX11_digest_189 (by decide) ?_
                refine lv_istore_n (lv' := [(3, .int 0), (1, .long (X_digest_L157 κ (X_mixedShallBe_s κ σ pl n (X_digest_L74 κ σ n wd pl tm pm wd 0 (X_digest_L6 κ σ n wd pl tm pm n 0 967))) n wd pl tm pm pm 0 (X_mixed_r (X_mixed_r (X_mixedShallBe_r κ σ pl n (X_digest_L74 κ σ n wd pl tm pm wd 0 (X_digest_L6 κ σ n wd pl tm pm n 0 967))) ((X_which_r κ (X_mixedShallBe_s κ σ pl n (X_digest_L74 κ σ n wd pl tm pm wd 0 (X_digest_L6 κ σ n wd pl tm pm n 0 967))) tm).toInt64)) ((X_ask_r κ (X_mixedShallBe_s κ σ pl n (X_digest_L74 κ σ n wd pl tm pm wd 0 (X_digest_L6 κ σ n wd pl tm pm n 0 967))) tm).toInt64)))), (0, .ref (a 0))]) hx hb dX11_digest_190 rfl hl (by decide) rfl (fun ls hl => ?_)
                have L191 : ∀ (n191 i191 : Nat) (x191_1 : Int64) (H : Heap) (locs : List Loc) (ls : Array Slot), i191 + n191 = 10 → X_digest_L191 κ (X_mixedShallBe_s κ σ pl n (X_digest_L74 κ σ n wd pl tm pm wd 0 (X_digest_L6 κ σ n wd pl tm pm n 0 967))) n wd pl tm pm n191 i191 x191_1 = X_digest_L191 κ (X_mixedShallBe_s κ σ pl n (X_digest_L74 κ σ n wd pl tm pm wd 0 (X_digest_L6 κ σ n wd pl tm pm n 0 967))) n wd pl tm pm 10 0 (X_digest_L157 κ (X_mixedShallBe_s κ σ pl n (X_digest_L74 κ σ n wd pl tm pm wd 0 (X_digest_L6 κ σ n wd pl tm pm n 0 967))) n wd pl tm pm pm 0 (X_mixed_r (X_mixed_r (X_mixedShallBe_r κ σ pl n (X_digest_L74 κ σ n wd pl tm pm wd 0 (X_digest_L6 κ σ n wd pl tm pm n 0 967))) ((X_which_r κ (X_mixedShallBe_s κ σ pl n (X_digest_L74 κ σ n wd pl tm pm wd 0 (X_digest_L6 κ σ n wd pl tm pm n 0 967))) tm).toInt64)) ((X_ask_r κ (X_mixedShallBe_s κ σ pl n (X_digest_L74 κ σ n wd pl tm pm wd 0 (X_digest_L6 κ σ n wd pl tm pm n 0 967))) tm).toInt64))) → gw D (tysX cI cC cI2) A s H locs (wX cI cC cI2 a κ (X_mixedShallBe_s κ σ pl n (X_digest_L74 κ σ n wd pl tm pm wd 0 (X_digest_L6 κ σ n wd pl tm pm n 0 967)))) → lv_has ls 8 [(3, .int (nI i191)), (1, .long x191_1), (0, .ref (a 0))] → W p l e (gR 8) s m ([.ref (a 0)] : List Value).toArray below meth C H locs 0 0 (MQ below (gQl D (tysX cI cC cI2) (X_digest_r κ σ n wd pl tm pm) (wX cI cC cI2 a κ (X_digest_s κ σ n wd pl tm pm)) A) ([.ref (a 0)] : List Value).toArray s 0 0 A) (F0 m 191 ls []) := by
                  intro n191
                  induction n191 with
                  | zero =>
                    intro i191 x191_1 H locs ls hi191 hF191 hw hl
                    refine lv_iload_n hx hb dX11_digest_191 rfl (lv_at hl 0 rfl) ?_
                    refine lv_bipush (v := 10) hx hb dX11_digest_192 (by decide) ?_
                    refine ln_ge (x := i191) (y := 10) hx hb (by omega) (by omega) (tgt := 214) dX11_digest_194 (by decide) (fun c_x => ?_) (fun c_x => absurd (by omega) c_x)
                    have hz191 : 10 = i191 := by omega
                    subst hz191
                    have e191_0 : (X_digest_L191 κ (X_mixedShallBe_s κ σ pl n (X_digest_L74 κ σ n wd pl tm pm wd 0 (X_digest_L6 κ σ n wd pl tm pm n 0 967))) n wd pl tm pm 10 0 (X_digest_L157 κ (X_mixedShallBe_s κ σ pl n (X_digest_L74 κ σ n wd pl tm pm wd 0 (X_digest_L6 κ σ n wd pl tm pm n 0 967))) n wd pl tm pm pm 0 (X_mixed_r (X_mixed_r (X_mixedShallBe_r κ σ pl n (X_digest_L74 κ σ n wd pl tm pm wd 0 (X_digest_L6 κ σ n wd pl tm pm n 0 967))) ((X_which_r κ (X_mixedShallBe_s κ σ pl n (X_digest_L74 κ σ n wd pl tm pm wd 0 (X_digest_L6 κ σ n wd pl tm pm n 0 967))) tm).toInt64)) ((X_ask_r κ (X_mixedShallBe_s κ σ pl n (X_digest_L74 κ σ n wd pl tm pm wd 0 (X_digest_L6 κ σ n wd pl tm pm n 0 967))) tm).toInt64)))) = x191_1 := hF191.symm
                    subst e191_0
                    refine lv_lload_n hx hb dX11_digest_214 rfl (lv_at hl 1 rfl) ?_
                    exact g_lret S hr hlk hw (by simp only [X_digest_r, if_neg c_9]) (by simp only [X_digest_s, if_neg c_9]) dX11_digest_215
                  | succ n191 ih191 =>
                    intro i191 x191_1 H locs ls hi191 hF191 hw hl
                    refine lv_iload_n hx hb dX11_digest_191 rfl (lv_at hl 0 rfl) ?_
                    refine lv_bipush (v := 10) hx hb dX11_digest_192 (by decide) ?_
                    refine ln_ge (x := i191) (y := 10) hx hb (by omega) (by omega) (tgt := 214) dX11_digest_194 (by decide) (fun c_x => absurd c_x (by omega)) (fun c_x => ?_)
                    refine lv_lload_n hx hb dX11_digest_197 rfl (lv_at hl 1 rfl) ?_
                    refine lv_aload_n hx hb dX11_digest_198 rfl (lv_at hl 2 rfl) ?_
                    refine lv_iload_n hx hb dX11_digest_199 rfl (lv_at hl 0 rfl) ?_
                    refine g_callVi S hw (c_X_count l D cI cC cI2 a κ (X_mixedShallBe_s κ σ pl n (X_digest_L74 κ σ n wd pl tm pm wd 0 (X_digest_L6 κ σ n wd pl tm pm n 0 967))) n (nI i191) ((congrFun (X_mixedShallBe_s_k κ σ pl n (X_digest_L74 κ σ n wd pl tm pm wd 0 (X_digest_L6 κ σ n wd pl tm pm n 0 967)) 10 (by omega) (by omega) (by omega) (by omega) (by omega) (by omega)) 3).trans (hn)) (by omega)) gX11_digest_X11_count rfl 0 rfl rfl 1 rfl (by decide +kernel) (by decide) (by decide) hl.1 rfl (Nat.le_of_ble_eq_true rfl) dX11_digest_200 (fun H locs hw => ?_)
                    refine lv_i2l hx hb dX11_digest_203 rfl ?_
                    refine g_callSl S hw (c_X_mixed l D (tysX cI cC cI2) (wX cI cC cI2 a κ (X_mixedShallBe_s κ σ pl n (X_digest_L74 κ σ n wd pl tm pm wd 0 (X_digest_L6 κ σ n wd pl tm pm n 0 967)))) x191_1 ((X_count_r κ (X_mixedShallBe_s κ σ pl n (X_digest_L74 κ σ n wd pl tm pm wd 0 (X_digest_L6 κ σ n wd pl tm pm n 0 967))) n (nI i191)).toInt64)) gX11_digest_X11_mixed rfl 2 rfl (by decide +kernel) (by decide) (by decide) hl.1 rfl (Nat.le_of_ble_eq_true rfl) dX11_digest_204 (fun H locs hw => ?_)
                    refine lv_lstore_n (lv' := [(1, .long (X_mixed_r x191_1 ((X_count_r κ (X_mixedShallBe_s κ σ pl n (X_digest_L74 κ σ n wd pl tm pm wd 0 (X_digest_L6 κ σ n wd pl tm pm n 0 967))) n (nI i191)).toInt64))), (3, .int (nI i191)), (0, .ref (a 0))]) hx hb dX11_digest_207 rfl hl (by decide) rfl (fun ls hl => ?_)
                    refine lv_iinc (v := nI (i191 + 1)) (lv' := [(3, .int (nI (i191 + 1))), (1, .long (X_mixed_r x191_1 ((X_count_r κ (X_mixedShallBe_s κ σ pl n (X_digest_L74 κ σ n wd pl tm pm wd 0 (X_digest_L6 κ σ n wd pl tm pm n 0 967))) n (nI i191)).toInt64))), (0, .ref (a 0))]) hx hb dX11_digest_208 hl (k := 1) rfl (nI_1 _) (by decide) rfl (fun ls hl => ?_)
                    refine lv_goto (tgt := 191) hx hb dX11_digest_211 (by decide) ?_
                    exact ih191 (i191 + 1) (X_mixed_r x191_1 ((X_count_r κ (X_mixedShallBe_s κ σ pl n (X_digest_L74 κ σ n wd pl tm pm wd 0 (X_digest_L6 κ σ n wd pl tm pm n 0 967))) n (nI i191)).toInt64)) _ _ _ (by omega) hF191 hw (lv_sub hl [0, 1, 2] rfl)
                exact L191 10 0 (X_digest_L157 κ (X_mixedShallBe_s κ σ pl n (X_digest_L74 κ σ n wd pl tm pm wd 0 (X_digest_L6 κ σ n wd pl tm pm n 0 967))) n wd pl tm pm pm 0 (X_mixed_r (X_mixed_r (X_mixedShallBe_r κ σ pl n (X_digest_L74 κ σ n wd pl tm pm wd 0 (X_digest_L6 κ σ n wd pl tm pm n 0 967))) ((X_which_r κ (X_mixedShallBe_s κ σ pl n (X_digest_L74 κ σ n wd pl tm pm wd 0 (X_digest_L6 κ σ n wd pl tm pm n 0 967))) tm).toInt64)) ((X_ask_r κ (X_mixedShallBe_s κ σ pl n (X_digest_L74 κ σ n wd pl tm pm wd 0 (X_digest_L6 κ σ n wd pl tm pm n 0 967))) tm).toInt64))) _ _ _ (by omega) rfl hw (lv_sub hl [0, 1, 2] rfl)
              | succ n157 ih157 =>
                intro i157 x157_1 H locs ls hi157 hF157 hw hl
                refine lv_iload_n hx hb dX11_digest_157 rfl (lv_at hl 0 rfl) ?_
                refine lv_aload_n hx hb dX11_digest_158 rfl (lv_at hl 2 rfl) ?_
                refine g_get S hw hinX11 (fs := fX0 a (X_mixedShallBe_s κ σ pl n (X_digest_L74 κ σ n wd pl tm pm wd 0 (X_digest_L6 κ σ n wd pl tm pm n 0 967)))) 0 rfl rfl 2 (by decide) lk7 (v := .ref (a 8)) rfl dX11_digest_159 ?_
                refine g_get S hw hinX4 (fs := fX8 a (X_mixedShallBe_s κ σ pl n (X_digest_L74 κ σ n wd pl tm pm wd 0 (X_digest_L6 κ σ n wd pl tm pm n 0 967)))) 8 rfl rfl 1 (by decide) lk8 (v := .int (nI pm)) (congrArg (fun z => some (Value.int z)) ((congrFun (X_mixedShallBe_s_k κ σ pl n (X_digest_L74 κ σ n wd pl tm pm wd 0 (X_digest_L6 κ σ n wd pl tm pm n 0 967)) 8 (by omega) (by omega) (by omega) (by omega) (by omega) (by omega)) 1).trans (hpm))) dX11_digest_162 ?_
                refine ln_ge (x := i157) (y := pm) hx hb (by omega) (by omega) (tgt := 189) dX11_digest_165 (by decide) (fun c_x => absurd c_x (by omega)) (fun c_x => ?_)
                refine lv_lload_n hx hb dX11_digest_168 rfl (lv_at hl 1 rfl) ?_
                refine lv_aload_n hx hb dX11_digest_169 rfl (lv_at hl 2 rfl) ?_
                refine g_get S hw hinX11 (fs := fX0 a (X_mixedShallBe_s κ σ pl n (X_digest_L74 κ σ n wd pl tm pm wd 0 (X_digest_L6 κ σ n wd pl tm pm n 0 967)))) 0 rfl rfl 2 (by decide) lk7 (v := .ref (a 8)) rfl dX11_digest_170 ?_
                refine g_get S hw hinX4 (fs := fX8 a (X_mixedShallBe_s κ σ pl n (X_digest_L74 κ σ n wd pl tm pm wd 0 (X_digest_L6 κ σ n wd pl tm pm n 0 967)))) 8 rfl rfl 0 (by decide) lk9 (v := .ref (a 9)) rfl dX11_digest_173 ?_
                refine lv_iload_n hx hb dX11_digest_176 rfl (lv_at hl 0 rfl) ?_
                refine g_iald S hw (f := (X_mixedShallBe_s κ σ pl n (X_digest_L74 κ σ n wd pl tm pm wd 0 (X_digest_L6 κ σ n wd pl tm pm n 0 967))) 9) (i := i157) (x := (X_mixedShallBe_s κ σ pl n (X_digest_L74 κ σ n wd pl tm pm wd 0 (X_digest_L6 κ σ n wd pl tm pm n 0 967))) 9 i157) 9 0 rfl rfl (by omega) (by decide) rfl dX11_digest_177 ?_
                refine lv_i2l hx hb dX11_digest_178 rfl ?_
                refine g_callSl S hw (c_X_mixed l D (tysX cI cC cI2) (wX cI cC cI2 a κ (X_mixedShallBe_s κ σ pl n (X_digest_L74 κ σ n wd pl tm pm wd 0 (X_digest_L6 κ σ n wd pl tm pm n 0 967)))) x157_1 (((X_mixedShallBe_s κ σ pl n (X_digest_L74 κ σ n wd pl tm pm wd 0 (X_digest_L6 κ σ n wd pl tm pm n 0 967))) 9 i157).toInt64)) gX11_digest_X11_mixed rfl 2 rfl (by decide +kernel) (by decide) (by decide) hl.1 rfl (Nat.le_of_ble_eq_true rfl) dX11_digest_179 (fun H locs hw => ?_)
                refine lv_lstore_n (lv' := [(1, .long (X_mixed_r x157_1 (((X_mixedShallBe_s κ σ pl n (X_digest_L74 κ σ n wd pl tm pm wd 0 (X_digest_L6 κ σ n wd pl tm pm n 0 967))) 9 i157).toInt64))), (3, .int (nI i157)), (0, .ref (a 0))]) hx hb dX11_digest_182 rfl hl (by decide) rfl (fun ls hl => ?_)
                refine lv_iinc (v := nI (i157 + 1)) (lv' := [(3, .int (nI (i157 + 1))), (1, .long (X_mixed_r x157_1 (((X_mixedShallBe_s κ σ pl n (X_digest_L74 κ σ n wd pl tm pm wd 0 (X_digest_L6 κ σ n wd pl tm pm n 0 967))) 9 i157).toInt64))), (0, .ref (a 0))]) hx hb dX11_digest_183 hl (k := 1) rfl (nI_1 _) (by decide) rfl (fun ls hl => ?_)
                refine lv_goto (tgt := 157) hx hb dX11_digest_186 (by decide) ?_
                exact ih157 (i157 + 1) (X_mixed_r x157_1 (((X_mixedShallBe_s κ σ pl n (X_digest_L74 κ σ n wd pl tm pm wd 0 (X_digest_L6 κ σ n wd pl tm pm n 0 967))) 9 i157).toInt64)) _ _ _ (by omega) hF157 hw (lv_sub hl [0, 1, 2] rfl)
            exact L157 pm 0 (X_mixed_r (X_mixed_r (X_mixedShallBe_r κ σ pl n (X_digest_L74 κ σ n wd pl tm pm wd 0 (X_digest_L6 κ σ n wd pl tm pm n 0 967))) ((X_which_r κ (X_mixedShallBe_s κ σ pl n (X_digest_L74 κ σ n wd pl tm pm wd 0 (X_digest_L6 κ σ n wd pl tm pm n 0 967))) tm).toInt64)) ((X_ask_r κ (X_mixedShallBe_s κ σ pl n (X_digest_L74 κ σ n wd pl tm pm wd 0 (X_digest_L6 κ σ n wd pl tm pm n 0 967))) tm).toInt64)) _ _ _ (by omega) rfl hw (lv_sub hl [0, 1, 2] rfl)
        | succ n74 ih74 =>
          intro i74 x74_1 H locs ls hi74 hF74 hw hl
          refine lv_iload_n hx hb dX11_digest_74 rfl (lv_at hl 0 rfl) ?_
          refine lv_aload_n hx hb dX11_digest_75 rfl (lv_at hl 2 rfl) ?_
          refine g_get S hw hinX11 (fs := fX0 a σ) 0 rfl rfl 3 (by decide) lk1 (v := .ref (a 31)) rfl dX11_digest_76 ?_
          refine g_get S hw hinX8 (fs := fX31 a σ) 31 rfl rfl 1 (by decide) lk5 (v := .ref (a 32)) rfl dX11_digest_79 ?_
          refine g_get S hw hinX10 (fs := fX32 a σ) 32 rfl rfl 4 (by decide) lk6 (v := .int (nI wd)) (congrArg (fun z => some (Value.int z)) (hw0)) dX11_digest_82 ?_
          refine ln_ge (x := i74) (y := wd) hx hb (by omega) (by omega) (tgt := 122) dX11_digest_85 (by decide) (fun c_x => absurd c_x (by omega)) (fun c_x => ?_)
          refine lv_iconst (v := 0) hx hb dX11_digest_88 (by decide) ?_
          refine lv_istore (lv' := [(4, .int 0), (3, .int (nI i74)), (1, .long x74_1), (0, .ref (a 0))]) hx hb dX11_digest_89 hl (by decide) rfl (fun ls hl => ?_)
          have L91 : ∀ (n91 i91 : Nat) (x91_1 : Int64) (H : Heap) (locs : List Loc) (ls : Array Slot), i91 + n91 = 4 → X_digest_L91 κ σ n wd pl tm pm i74 x74_1 n91 i91 x91_1 = X_digest_L91 κ σ n wd pl tm pm i74 x74_1 4 0 x74_1 → gw D (tysX cI cC cI2) A s H locs (wX cI cC cI2 a κ σ) → lv_has ls 8 [(4, .int (nI i91)), (3, .int (nI i74)), (1, .long x91_1), (0, .ref (a 0))] → W p l e (gR 8) s m ([.ref (a 0)] : List Value).toArray below meth C H locs 0 0 (MQ below (gQl D (tysX cI cC cI2) (X_digest_r κ σ n wd pl tm pm) (wX cI cC cI2 a κ (X_digest_s κ σ n wd pl tm pm)) A) ([.ref (a 0)] : List Value).toArray s 0 0 A) (F0 m 91 ls []) := by
            intro n91
            induction n91 with
            | zero =>
              intro i91 x91_1 H locs ls hi91 hF91 hw hl
              refine lv_iload hx hb dX11_digest_91 (lv_at hl 0 rfl) ?_
              refine lv_iconst (v := 4) hx hb dX11_digest_93 (by decide) ?_
              refine ln_ge (x := i91) (y := 4) hx hb (by omega) (by omega) (tgt := 116) dX11_digest_94 (by decide) (fun c_x => ?_) (fun c_x => absurd (by omega) c_x)
              have hz91 : 4 = i91 := by omega
              subst hz91
              have e91_0 : (X_digest_L91 κ σ n wd pl tm pm i74 x74_1 4 0 x74_1) = x91_1 := hF91.symm
              subst e91_0
              refine lv_iinc (v := nI (i74 + 1)) (lv' := [(3, .int (nI (i74 + 1))), (4, .int 4), (1, .long (X_digest_L91 κ σ n wd pl tm pm i74 x74_1 4 0 x74_1)), (0, .ref (a 0))]) hx hb dX11_digest_116 hl (k := 1) rfl (nI_1 _) (by decide) rfl (fun ls hl => ?_)
              refine lv_goto (tgt := 74) hx hb dX11_digest_119 (by decide) ?_
              exact ih74 (i74 + 1) (X_digest_L91 κ σ n wd pl tm pm i74 x74_1 4 0 x74_1) _ _ _ (by omega) hF74 hw (lv_sub hl [0, 2, 3] rfl)
            | succ n91 ih91 =>
              intro i91 x91_1 H locs ls hi91 hF91 hw hl
              refine lv_iload hx hb dX11_digest_91 (lv_at hl 0 rfl) ?_
              refine lv_iconst (v := 4) hx hb dX11_digest_93 (by decide) ?_
              refine ln_ge (x := i91) (y := 4) hx hb (by omega) (by omega) (tgt := 116) dX11_digest_94 (by decide) (fun c_x => absurd c_x (by omega)) (fun c_x => ?_)
              refine lv_lload_n hx hb dX11_digest_97 rfl (lv_at hl 2 rfl) ?_
              refine lv_aload_n hx hb dX11_digest_98 rfl (lv_at hl 3 rfl) ?_
              refine lv_iload_n hx hb dX11_digest_99 rfl (lv_at hl 1 rfl) ?_
              refine lv_iload hx hb dX11_digest_100 (lv_at hl 0 rfl) ?_
              refine g_callVi S hw (c_X_wedding l D cI cC cI2 a κ σ wd (nI i74) (nI i91) (hw0) (by omega)) gX11_digest_X11_wedding rfl 0 rfl rfl 2 rfl (by decide +kernel) (by decide) (by decide) hl.1 rfl (Nat.le_of_ble_eq_true rfl) dX11_digest_102 (fun H locs hw => ?_)
              refine lv_i2l hx hb dX11_digest_105 rfl ?_
              refine g_callSl S hw (c_X_mixed l D (tysX cI cC cI2) (wX cI cC cI2 a κ σ) x91_1 ((X_wedding_r κ σ wd (nI i74) (nI i91)).toInt64)) gX11_digest_X11_mixed rfl 2 rfl (by decide +kernel) (by decide) (by decide) hl.1 rfl (Nat.le_of_ble_eq_true rfl) dX11_digest_106 (fun H locs hw => ?_)
              refine lv_lstore_n (lv' := [(1, .long (X_mixed_r x91_1 ((X_wedding_r κ σ wd (nI i74) (nI i91)).toInt64))), (4, .int (nI i91)), (3, .int (nI i74)), (0, .ref (a 0))]) hx hb dX11_digest_109 rfl hl (by decide) rfl (fun ls hl => ?_)
              refine lv_iinc (v := nI (i91 + 1)) (lv' := [(4, .int (nI (i91 + 1))), (1, .long (X_mixed_r x91_1 ((X_wedding_r κ σ wd (nI i74) (nI i91)).toInt64))), (3, .int (nI i74)), (0, .ref (a 0))]) hx hb dX11_digest_110 hl (k := 1) rfl (nI_1 _) (by decide) rfl (fun ls hl => ?_)
              refine lv_goto (tgt := 91) hx hb dX11_digest_113 (by decide) ?_
              exact ih91 (i91 + 1) (X_mixed_r x91_1 ((X_wedding_r κ σ wd (nI i74) (nI i91)).toInt64)) _ _ _ (by omega) hF91 hw (lv_sub hl [0, 2, 1, 3] rfl)
          exact L91 4 0 x74_1 _ _ _ (by omega) rfl hw (lv_sub hl [0, 1, 2, 3] rfl)
      exact L74 wd 0 (X_digest_L6 κ σ n wd pl tm pm n 0 967) _ _ _ (by omega) rfl hw (lv_sub hl [0, 1, 2] rfl)
    | succ n6 ih6 =>
      intro i6 x6_1 H locs ls hi6 hF6 hw hl
      refine lv_iload_n hx hb dX11_digest_6 rfl (lv_at hl 0 rfl) ?_
      refine lv_aload_n hx hb dX11_digest_7 rfl (lv_at hl 2 rfl) ?_
      refine g_get S hw hinX11 (fs := fX0 a σ) 0 rfl rfl 3 (by decide) lk1 (v := .ref (a 31)) rfl dX11_digest_8 ?_
      refine g_get S hw hinX8 (fs := fX31 a σ) 31 rfl rfl 0 (by decide) lk2 (v := .ref (a 10)) rfl dX11_digest_11 ?_
      refine g_get S hw hinX2 (fs := fX10 a σ) 10 rfl rfl 3 (by decide) lk3 (v := .int (nI n)) (congrArg (fun z => some (Value.int z)) (hn)) dX11_digest_14 ?_
      refine ln_ge (x := i6) (y := n) hx hb (by omega) (by omega) (tgt := 72) dX11_digest_17 (by decide) (fun c_x => absurd c_x (by omega)) (fun c_x => ?_)
      refine va_gets hx hb hE.2.2.1.1 hw.2.2.2.1 hown (hts _ lk4) (fun x h => h) dX11_digest_20 ?_
      refine lv_astore (lv' := [(4, .ref (z 2)), (3, .int (nI i6)), (1, .long x6_1), (0, .ref (a 0))]) hx hb dX11_digest_23 hl (by decide) rfl (fun ls hl => ?_)
      refine lv_aload hx hb dX11_digest_25 (lv_at hl 0 rfl) ?_
      refine va_tlen hx hb hE.2.2.1.2 hw.2.2.2.1 (v := 11) rfl dX11_digest_27 ?_
      refine lv_istore (lv' := [(5, .int 11), (4, .ref (z 2)), (3, .int (nI i6)), (1, .long x6_1), (0, .ref (a 0))]) hx hb dX11_digest_28 hl (by decide) rfl (fun ls hl => ?_)
      refine lv_iconst (v := 0) hx hb dX11_digest_30 (by decide) ?_
      refine lv_istore (lv' := [(6, .int 0), (5, .int 11), (4, .ref (z 2)), (3, .int (nI i6)), (1, .long x6_1), (0, .ref (a 0))]) hx hb dX11_digest_31 hl (by decide) rfl (fun ls hl => ?_)
      have L33 : ∀ (n33 i33 : Nat) (x33_1 : Int64) (H : Heap) (locs : List Loc) (ls : Array Slot), i33 + n33 = 11 → X_digest_L33 κ σ n wd pl tm pm i6 x6_1 n33 i33 x33_1 = X_digest_L33 κ σ n wd pl tm pm i6 x6_1 11 0 x6_1 → gw D (tysX cI cC cI2) A s H locs (wX cI cC cI2 a κ σ) → lv_has ls 8 [(6, .int (nI i33)), (5, .int 11), (4, .ref (z 2)), (3, .int (nI i6)), (1, .long x33_1), (0, .ref (a 0))] → W p l e (gR 8) s m ([.ref (a 0)] : List Value).toArray below meth C H locs 0 0 (MQ below (gQl D (tysX cI cC cI2) (X_digest_r κ σ n wd pl tm pm) (wX cI cC cI2 a κ (X_digest_s κ σ n wd pl tm pm)) A) ([.ref (a 0)] : List Value).toArray s 0 0 A) (F0 m 33 ls []) := by
        intro n33
        induction n33 with
        | zero =>
          intro i33 x33_1 H locs ls hi33 hF33 hw hl
          refine lv_iload hx hb dX11_digest_33 (lv_at hl 0 rfl) ?_
          refine lv_iload hx hb dX11_digest_35 (lv_at hl 1 rfl) ?_
          refine ln_ge (x := i33) (y := 11) hx hb (by omega) (by omega) (tgt := 66) dX11_digest_37 (by decide) (fun c_x => ?_) (fun c_x => absurd (by omega) c_x)
          have hz33 : 11 = i33 := by omega
          subst hz33
          have e33_0 : (X_digest_L33 κ σ n wd pl tm pm i6 x6_1 11 0 x6_1) = x33_1 := hF33.symm
          subst e33_0
          refine lv_iinc (v := nI (i6 + 1)) (lv' := [(3, .int (nI (i6 + 1))), (6, .int 11), (5, .int 11), (4, .ref (z 2)), (1, .long (X_digest_L33 κ σ n wd pl tm pm i6 x6_1 11 0 x6_1)), (0, .ref (a 0))]) hx hb dX11_digest_66 hl (k := 3) rfl (nI_1 _) (by decide) rfl (fun ls hl => ?_)
          refine lv_goto (tgt := 6) hx hb dX11_digest_69 (by decide) ?_
          exact ih6 (i6 + 1) (X_digest_L33 κ σ n wd pl tm pm i6 x6_1 11 0 x6_1) _ _ _ (by omega) hF6 hw (lv_sub hl [0, 4, 5] rfl)
        | succ n33 ih33 =>
          intro i33 x33_1 H locs ls hi33 hF33 hw hl
          refine lv_iload hx hb dX11_digest_33 (lv_at hl 0 rfl) ?_
          refine lv_iload hx hb dX11_digest_35 (lv_at hl 1 rfl) ?_
          refine ln_ge (x := i33) (y := 11) hx hb (by omega) (by omega) (tgt := 66) dX11_digest_37 (by decide) (fun c_x => absurd c_x (by omega)) (fun c_x => ?_)
          refine lv_aload hx hb dX11_digest_40 (lv_at hl 2 rfl) ?_
          refine lv_iload hx hb dX11_digest_42 (lv_at hl 0 rfl) ?_
          refine va_ti hx hb hE.2.2.1.2 hw.2.2.2.1 (i := nI i33) (vp_in_nI (by omega) (by decide)) (v := .int (partI i33)) (by rw [nI_clamp (by omega)]; rfl) dX11_digest_44 ?_
          refine lv_istore (lv' := [(7, .int (partI i33)), (6, .int (nI i33)), (5, .int 11), (4, .ref (z 2)), (3, .int (nI i6)), (1, .long x33_1), (0, .ref (a 0))]) hx hb dX11_digest_45 hl (by decide) rfl (fun ls hl => ?_)
          refine lv_lload_n hx hb dX11_digest_47 rfl (lv_at hl 5 rfl) ?_
          refine lv_aload_n hx hb dX11_digest_48 rfl (lv_at hl 6 rfl) ?_
          refine lv_iload_n hx hb dX11_digest_49 rfl (lv_at hl 4 rfl) ?_
          refine lv_iload hx hb dX11_digest_50 (lv_at hl 0 rfl) ?_
          refine g_callVi S hw (c_X_clan l D cI cC cI2 a κ σ n (nI i6) (partI i33) (hn) (by omega) hk) gX11_digest_X11_clan rfl 0 rfl rfl 2 rfl (by decide +kernel) (by decide) (by decide) hl.1 rfl (Nat.le_of_ble_eq_true rfl) dX11_digest_52 (fun H locs hw => ?_)
          refine lv_i2l hx hb dX11_digest_55 rfl ?_
          refine g_callSl S hw (c_X_mixed l D (tysX cI cC cI2) (wX cI cC cI2 a κ σ) x33_1 ((X_clan_r κ σ n (nI i6) (partI i33)).toInt64)) gX11_digest_X11_mixed rfl 2 rfl (by decide +kernel) (by decide) (by decide) hl.1 rfl (Nat.le_of_ble_eq_true rfl) dX11_digest_56 (fun H locs hw => ?_)
          refine lv_lstore_n (lv' := [(1, .long (X_mixed_r x33_1 ((X_clan_r κ σ n (nI i6) (partI i33)).toInt64))), (7, .int (partI i33)), (6, .int (nI i33)), (5, .int 11), (4, .ref (z 2)), (3, .int (nI i6)), (0, .ref (a 0))]) hx hb dX11_digest_59 rfl hl (by decide) rfl (fun ls hl => ?_)
          refine lv_iinc (v := nI (i33 + 1)) (lv' := [(6, .int (nI (i33 + 1))), (1, .long (X_mixed_r x33_1 ((X_clan_r κ σ n (nI i6) (partI i33)).toInt64))), (7, .int (partI i33)), (5, .int 11), (4, .ref (z 2)), (3, .int (nI i6)), (0, .ref (a 0))]) hx hb dX11_digest_60 hl (k := 2) rfl (nI_1 _) (by decide) rfl (fun ls hl => ?_)
          refine lv_goto (tgt := 33) hx hb dX11_digest_63 (by decide) ?_
          exact ih33 (i33 + 1) (X_mixed_r x33_1 ((X_clan_r κ σ n (nI i6) (partI i33)).toInt64)) _ _ _ (by omega) hF33 hw (lv_sub hl [0, 3, 4, 5, 1, 6] rfl)
      exact L33 11 0 x6_1 _ _ _ (by omega) rfl hw (lv_sub hl [0, 1, 2, 3, 4, 5] rfl)
  exact L6 n 0 967 _ _ _ (by omega) rfl hw (lv_sub hl [0, 1, 2] rfl)
