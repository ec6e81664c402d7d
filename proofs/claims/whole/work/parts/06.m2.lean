def M_clanOf_r (σ : Nat → Nat → Int32) (c : Nat) (what : Int32) : Int32 := if (M_in_r what.toInt64 10 13) = 0 then (if what = 0 then (σ 3 c) else (if what = 1 then (σ 4 c) else (if what = 2 then (M_asksBy_r (σ 3 c) (σ 0 7)) else (if what = 3 then (M_spareOf_r σ c) else (if what = 4 then (M_owesOf_r σ c) else (if what = 5 then (M_owedTo_r σ c) else (if what = 6 then (((1000 + (σ 4 c)) + (M_owedTo_r σ c)) - (M_owesOf_r σ c)) else (-102)))))))) else (σ 5 (((4 * c) + what.toNatClampNeg) - 10))
set_option maxHeartbeats 4000000 in
set_option maxRecDepth 100000 in
theorem c_M_clanOf (l : Launch) (D : va_G) (cI : ClassId) (a : Nat → Nat) (σ : Nat → Nat → Int32) (h : Int64) (c : Nat) (what : Int32) (hc : c < 4) : gI l D [(cI, .int)] yX12_clanOf wsX12_clanOf 2 [.ref (a 0), .int (nI c), .int what] (wM cI a σ h) (M_clanOf_r σ c what) (wM cI a σ h) := by
  refine g_start (cc := cX12_clanOf) (maxL := 3) (ret := some .int) (Qc := gQi D [(cI, .int)] (M_clanOf_r σ c what) (wM cI a σ h)) (by decide) rfl (Nat.le_of_ble_eq_true rfl) ?_
  intro p e s m below meth C A ls S hr hlk hw hl
  obtain ⟨hx, hb, hml, hown, hts⟩ := id S
  have hinX12 : ∀ x ∈ u_ws RX12 TX12 38, x ∈ wsX12_clanOf := fun x h => List.mem_cons_of_mem _ (List.mem_append_right _ h)
  have lk0 : Cond.constantLong RX12 136 (10) ∈ wsX12_clanOf := by decide +kernel
  have lk1 : Cond.constantLong RX12 138 (13) ∈ wsX12_clanOf := by decide +kernel
  have lk2 : Cond.fieldLink RX12 16 "CowsOwedModel" "kinds" "[I" ∈ wsX12_clanOf := by decide +kernel
  have lk3 : Cond.fieldLink RX12 19 "CowsOwedModel" "herds" "[I" ∈ wsX12_clanOf := by decide +kernel
  have lk4 : Cond.fieldLink RX12 108 "CowsOwedModel" "rateNow" "I" ∈ wsX12_clanOf := by decide +kernel
  have lk5 : Cond.fieldLink RX12 22 "CowsOwedModel" "debts" "[I" ∈ wsX12_clanOf := by decide +kernel
  have hl : lv_has ls 3 [(0, .ref (a 0)), (1, .int (nI c)), (2, .int what)] := hl
  refine lv_iload_n hx hb dX12_clanOf_0 rfl (lv_at hl 2 rfl) ?_
  refine lv_i2l hx hb dX12_clanOf_1 rfl ?_
  refine lv_ldc2 (v := 10) hx hb hown (hts _ lk0) dX12_clanOf_2 ?_
  refine lv_ldc2 (v := 13) hx hb hown (hts _ lk1) dX12_clanOf_5 ?_
  refine g_callSi S hw (c_M_in l D [(cI, .int)] (wM cI a σ h) what.toInt64 10 13) gX12_clanOf_X12_in rfl 3 rfl (by decide +kernel) (by decide) (by decide) hl.1 rfl (Nat.le_of_ble_eq_true rfl) dX12_clanOf_8 (fun H locs hw => ?_)
  refine lv_if_eq hx hb (tgt := 28) dX12_clanOf_11 (by decide) (fun c_1 => ?_) (fun c_1 => ?_)
  · refine lv_iload_n hx hb dX12_clanOf_28 rfl (lv_at hl 2 rfl) ?_
    by_cases s_2 : what = 0
    · refine lv_tableIn (off := 43) (tgt := 72) hx hb dX12_clanOf_29 (by rw [s_2]; decide) (by rw [s_2]; decide) (by rw [s_2]; rfl) (by decide) ?_
      refine lv_aload_n hx hb dX12_clanOf_72 rfl (lv_at hl 0 rfl) ?_
      refine g_get S hw hinX12 (fs := fM a σ h) 0 rfl rfl 10 (by decide) lk2 (v := .ref (a 3)) rfl dX12_clanOf_73 ?_
      refine lv_iload_n hx hb dX12_clanOf_76 rfl (lv_at hl 1 rfl) ?_
      refine g_iald S hw (f := σ 3) (i := c) (x := σ 3 c) 3 0 rfl rfl (by omega) (by decide) rfl dX12_clanOf_77 ?_
      exact g_iret S hr hlk hw (by simp only [M_clanOf_r, if_pos c_1, if_pos s_2]) rfl dX12_clanOf_78
    · by_cases s_3 : what = 1
      · refine lv_tableIn (off := 50) (tgt := 79) hx hb dX12_clanOf_29 (by rw [s_3]; decide) (by rw [s_3]; decide) (by rw [s_3]; rfl) (by decide) ?_
        refine lv_aload_n hx hb dX12_clanOf_79 rfl (lv_at hl 0 rfl) ?_
        refine g_get S hw hinX12 (fs := fM a σ h) 0 rfl rfl 11 (by decide) lk3 (v := .ref (a 4)) rfl dX12_clanOf_80 ?_
        refine lv_iload_n hx hb dX12_clanOf_83 rfl (lv_at hl 1 rfl) ?_
        refine g_iald S hw (f := σ 4) (i := c) (x := σ 4 c) 4 0 rfl rfl (by omega) (by decide) rfl dX12_clanOf_84 ?_
        exact g_iret S hr hlk hw (by simp only [M_clanOf_r, if_pos c_1, if_neg s_2, if_pos s_3]) rfl dX12_clanOf_85
      · by_cases s_4 : what = 2
        · refine lv_tableIn (off := 57) (tgt := 86) hx hb dX12_clanOf_29 (by rw [s_4]; decide) (by rw [s_4]; decide) (by rw [s_4]; rfl) (by decide) ?_
          refine lv_aload_n hx hb dX12_clanOf_86 rfl (lv_at hl 0 rfl) ?_
          refine g_get S hw hinX12 (fs := fM a σ h) 0 rfl rfl 10 (by decide) lk2 (v := .ref (a 3)) rfl dX12_clanOf_87 ?_
          refine lv_iload_n hx hb dX12_clanOf_90 rfl (lv_at hl 1 rfl) ?_
          refine g_iald S hw (f := σ 3) (i := c) (x := σ 3 c) 3 0 rfl rfl (by omega) (by decide) rfl dX12_clanOf_91 ?_
          refine lv_aload_n hx hb dX12_clanOf_92 rfl (lv_at hl 0 rfl) ?_
          refine g_get S hw hinX12 (fs := fM a σ h) 0 rfl rfl 7 (by decide) lk4 (v := .int (σ 0 7)) rfl dX12_clanOf_93 ?_
          refine g_callSi S hw (c_M_asksBy l D [(cI, .int)] (wM cI a σ h) (σ 3 c) (σ 0 7)) gX12_clanOf_X12_asksBy rfl 2 rfl (by decide +kernel) (by decide) (by decide) hl.1 rfl (Nat.le_of_ble_eq_true rfl) dX12_clanOf_96 (fun H locs hw => ?_)
          exact g_iret S hr hlk hw (by simp only [M_clanOf_r, if_pos c_1, if_neg s_2, if_neg s_3, if_pos s_4]) rfl dX12_clanOf_99
        · by_cases s_5 : what = 3
          · refine lv_tableIn (off := 71) (tgt := 100) hx hb dX12_clanOf_29 (by rw [s_5]; decide) (by rw [s_5]; decide) (by rw [s_5]; rfl) (by decide) ?_
            refine lv_aload_n hx hb dX12_clanOf_100 rfl (lv_at hl 0 rfl) ?_
            refine lv_iload_n hx hb dX12_clanOf_101 rfl (lv_at hl 1 rfl) ?_
            refine g_callVi S hw (c_M_spareOf l D cI a σ h c (by omega)) gX12_clanOf_X12_spareOf rfl 0 rfl rfl 1 rfl (by decide +kernel) (by decide) (by decide) hl.1 rfl (Nat.le_of_ble_eq_true rfl) dX12_clanOf_102 (fun H locs hw => ?_)
            exact g_iret S hr hlk hw (by simp only [M_clanOf_r, if_pos c_1, if_neg s_2, if_neg s_3, if_neg s_4, if_pos s_5]) rfl dX12_clanOf_105
          · by_cases s_6 : what = 4
            · refine lv_tableIn (off := 77) (tgt := 106) hx hb dX12_clanOf_29 (by rw [s_6]; decide) (by rw [s_6]; decide) (by rw [s_6]; rfl) (by decide) ?_
              refine lv_aload_n hx hb dX12_clanOf_106 rfl (lv_at hl 0 rfl) ?_
              refine lv_iload_n hx hb dX12_clanOf_107 rfl (lv_at hl 1 rfl) ?_
              refine g_callVi S hw (c_M_owesOf l D cI a σ h c (by omega)) gX12_clanOf_X12_owesOf rfl 0 rfl rfl 1 rfl (by decide +kernel) (by decide) (by decide) hl.1 rfl (Nat.le_of_ble_eq_true rfl) dX12_clanOf_108 (fun H locs hw => ?_)
              exact g_iret S hr hlk hw (by simp only [M_clanOf_r, if_pos c_1, if_neg s_2, if_neg s_3, if_neg s_4, if_neg s_5, if_pos s_6]) rfl dX12_clanOf_111
            · by_cases s_7 : what = 5
              · refine lv_tableIn (off := 83) (tgt := 112) hx hb dX12_clanOf_29 (by rw [s_7]; decide) (by rw [s_7]; decide) (by rw [s_7]; rfl) (by decide) ?_
                refine lv_aload_n hx hb dX12_clanOf_112 rfl (lv_at hl 0 rfl) ?_
                refine lv_iload_n hx hb dX12_clanOf_113 rfl (lv_at hl 1 rfl) ?_
                refine g_callVi S hw (c_M_owedTo l D cI a σ h c (by omega)) gX12_clanOf_X12_owedTo rfl 0 rfl rfl 1 rfl (by decide +kernel) (by decide) (by decide) hl.1 rfl (Nat.le_of_ble_eq_true rfl) dX12_clanOf_114 (fun H locs hw => ?_)
                exact g_iret S hr hlk hw (by simp only [M_clanOf_r, if_pos c_1, if_neg s_2, if_neg s_3, if_neg s_4, if_neg s_5, if_neg s_6, if_pos s_7]) rfl dX12_clanOf_117
              · by_cases s_8 : what = 6
                · refine lv_tableIn (off := 89) (tgt := 118) hx hb dX12_clanOf_29 (by rw [s_8]; decide) (by rw [s_8]; decide) (by rw [s_8]; rfl) (by decide) ?_
                  refine lv_sipush (v := 1000) hx hb dX12_clanOf_118 (by decide) ?_
                  refine lv_aload_n hx hb dX12_clanOf_121 rfl (lv_at hl 0 rfl) ?_
                  refine g_get S hw hinX12 (fs := fM a σ h) 0 rfl rfl 11 (by decide) lk3 (v := .ref (a 4)) rfl dX12_clanOf_122 ?_
                  refine lv_iload_n hx hb dX12_clanOf_125 rfl (lv_at hl 1 rfl) ?_
                  refine g_iald S hw (f := σ 4) (i := c) (x := σ 4 c) 4 0 rfl rfl (by omega) (by decide) rfl dX12_clanOf_126 ?_
                  refine lv_iadd hx hb dX12_clanOf_127 ?_
                  refine lv_aload_n hx hb dX12_clanOf_128 rfl (lv_at hl 0 rfl) ?_
                  refine lv_iload_n hx hb dX12_clanOf_129 rfl (lv_at hl 1 rfl) ?_
                  refine g_callVi S hw (c_M_owedTo l D cI a σ h c (by omega)) gX12_clanOf_X12_owedTo rfl 0 rfl rfl 1 rfl (by decide +kernel) (by decide) (by decide) hl.1 rfl (Nat.le_of_ble_eq_true rfl) dX12_clanOf_130 (fun H locs hw => ?_)
                  refine lv_iadd hx hb dX12_clanOf_133 ?_
                  refine lv_aload_n hx hb dX12_clanOf_134 rfl (lv_at hl 0 rfl) ?_
                  refine lv_iload_n hx hb dX12_clanOf_135 rfl (lv_at hl 1 rfl) ?_
                  refine g_callVi S hw (c_M_owesOf l D cI a σ h c (by omega)) gX12_clanOf_X12_owesOf rfl 0 rfl rfl 1 rfl (by decide +kernel) (by decide) (by decide) hl.1 rfl (Nat.le_of_ble_eq_true rfl) dX12_clanOf_136 (fun H locs hw => ?_)
                  refine lv_isub hx hb dX12_clanOf_139 ?_
                  exact g_iret S hr hlk hw (by simp only [M_clanOf_r, if_pos c_1, if_neg s_2, if_neg s_3, if_neg s_4, if_neg s_5, if_neg s_6, if_neg s_7, if_pos s_8]) rfl dX12_clanOf_140
                · refine lv_tableOut (tgt := 141) hx hb dX12_clanOf_29 (by have q0 := lv_neT (a := 0) s_2 (by decide); have q1 := lv_neT (a := 1) s_3 (by decide); have q2 := lv_neT (a := 2) s_4 (by decide); have q3 := lv_neT (a := 3) s_5 (by decide); have q4 := lv_neT (a := 4) s_6 (by decide); have q5 := lv_neT (a := 5) s_7 (by decide); have q6 := lv_neT (a := 6) s_8 (by decide); omega) (by decide) ?_
                  refine lv_bipush (v := (-102)) hx hb dX12_clanOf_141 (by decide) ?_
                  exact g_iret S hr hlk hw (by simp only [M_clanOf_r, if_pos c_1, if_neg s_2, if_neg s_3, if_neg s_4, if_neg s_5, if_neg s_6, if_neg s_7, if_neg s_8]) rfl dX12_clanOf_143
  · obtain ⟨e1, b1, b2⟩ := M_in_nat (l := 10) (h := 13) rfl rfl c_1
    have hl : lv_has ls 3 [(0, .ref (a 0)), (1, .int (nI c)), (2, .int (nI what.toNatClampNeg))] := by rw [← e1]; exact hl
    refine lv_aload_n hx hb dX12_clanOf_14 rfl (lv_at hl 0 rfl) ?_
    refine g_get S hw hinX12 (fs := fM a σ h) 0 rfl rfl 12 (by decide) lk5 (v := .ref (a 5)) rfl dX12_clanOf_15 ?_
    refine lv_iconst (v := 4) hx hb dX12_clanOf_18 (by decide) ?_
    refine lv_iload_n hx hb dX12_clanOf_19 rfl (lv_at hl 1 rfl) ?_
    refine ln_imul (x := 4) (y := c) hx hb dX12_clanOf_20 ?_
    refine lv_iload_n hx hb dX12_clanOf_21 rfl (lv_at hl 2 rfl) ?_
    refine ln_iadd (x := 4 * c) (y := what.toNatClampNeg) hx hb dX12_clanOf_22 ?_
    refine lv_bipush (v := 10) hx hb dX12_clanOf_23 (by decide) ?_
    refine ln_isub (x := (4 * c) + what.toNatClampNeg) (y := 10) hx hb (by omega) dX12_clanOf_25 ?_
    refine g_iald S hw (f := σ 5) (i := ((4 * c) + what.toNatClampNeg) - 10) (x := σ 5 (((4 * c) + what.toNatClampNeg) - 10)) 5 0 rfl rfl (by omega) (by decide) rfl dX12_clanOf_26 ?_
    exact g_iret S hr hlk hw (by simp only [M_clanOf_r, if_neg c_1]) rfl dX12_clanOf_27

def M_clan_r (σ : Nat → Nat → Int32) (n : Nat) (c : Int32) (what : Int32) : Int32 := if (M_isClan_r σ c) = 0 then (-101) else (M_clanOf_r σ c.toNatClampNeg what)
set_option maxHeartbeats 4000000 in
set_option maxRecDepth 100000 in
theorem c_M_clan (l : Launch) (D : va_G) (cI : ClassId) (a : Nat → Nat) (σ : Nat → Nat → Int32) (h : Int64) (n : Nat) (c : Int32) (what : Int32) (hn : σ 0 6 = nI n) (hnb : n ≤ 4) : gI l D [(cI, .int)] yX12_clan wsX12_clan 3 [.ref (a 0), .int c, .int what] (wM cI a σ h) (M_clan_r σ n c what) (wM cI a σ h) := by
  refine g_start (cc := cX12_clan) (maxL := 3) (ret := some .int) (Qc := gQi D [(cI, .int)] (M_clan_r σ n c what) (wM cI a σ h)) (by decide) rfl (Nat.le_of_ble_eq_true rfl) ?_
  intro p e s m below meth C A ls S hr hlk hw hl
  obtain ⟨hx, hb, hml, hown, hts⟩ := id S
  have hl : lv_has ls 3 [(0, .ref (a 0)), (1, .int c), (2, .int what)] := hl
  refine lv_aload_n hx hb dX12_clan_0 rfl (lv_at hl 0 rfl) ?_
  refine lv_iload_n hx hb dX12_clan_1 rfl (lv_at hl 1 rfl) ?_
  refine g_callVi S hw (c_M_isClan l D cI a σ h c) gX12_clan_X12_isClan rfl 0 rfl rfl 1 rfl (by decide +kernel) (by decide) (by decide) hl.1 rfl (Nat.le_of_ble_eq_true rfl) dX12_clan_2 (fun H locs hw => ?_)
  refine lv_if_eq hx hb (tgt := 17) dX12_clan_5 (by decide) (fun c_1 => ?_) (fun c_1 => ?_)
  · refine lv_bipush (v := (-101)) hx hb dX12_clan_17 (by decide) ?_
    exact g_iret S hr hlk hw (by simp only [M_clan_r, if_pos c_1]) rfl dX12_clan_19
  · obtain ⟨e1, b1⟩ := M_isClan_ok hn hnb c_1
    have hl : lv_has ls 3 [(0, .ref (a 0)), (1, .int (nI c.toNatClampNeg)), (2, .int what)] := by rw [← e1]; exact hl
    refine lv_aload_n hx hb dX12_clan_8 rfl (lv_at hl 0 rfl) ?_
    refine lv_iload_n hx hb dX12_clan_9 rfl (lv_at hl 1 rfl) ?_
    refine lv_iload_n hx hb dX12_clan_10 rfl (lv_at hl 2 rfl) ?_
    refine g_callVi S hw (c_M_clanOf l D cI a σ h c.toNatClampNeg what (by omega)) gX12_clan_X12_clanOf rfl 0 rfl rfl 2 rfl (by decide +kernel) (by decide) (by decide) hl.1 rfl (Nat.le_of_ble_eq_true rfl) dX12_clan_11 (fun H locs hw => ?_)
    refine lv_goto (tgt := 19) hx hb dX12_clan_14 (by decide) ?_
    exact g_iret S hr hlk hw (by simp only [M_clan_r, if_neg c_1]) rfl dX12_clan_19

def M_as_r (σ : Nat → Nat → Int32) (n : Nat) (c : Int32) (kind : Int32) : Int32 := if (M_isClan_r σ c) = 0 then (-101) else (if (M_in_r kind.toInt64 0 4) = 0 then (-102) else (if kind = 0 then (nI c.toNatClampNeg) else (if kind = (σ 3 c.toNatClampNeg) then (nI c.toNatClampNeg) else (if kind = 1 then (if (σ 3 c.toNatClampNeg) = 4 then (nI c.toNatClampNeg) else (-1)) else (-1)))))
set_option maxHeartbeats 4000000 in
set_option maxRecDepth 100000 in
theorem c_M_as (l : Launch) (D : va_G) (cI : ClassId) (a : Nat → Nat) (σ : Nat → Nat → Int32) (h : Int64) (n : Nat) (c : Int32) (kind : Int32) (hn : σ 0 6 = nI n) (hnb : n ≤ 4) : gI l D [(cI, .int)] yX12_as wsX12_as 3 [.ref (a 0), .int c, .int kind] (wM cI a σ h) (M_as_r σ n c kind) (wM cI a σ h) := by
  refine g_start (cc := cX12_as) (maxL := 4) (ret := some .int) (Qc := gQi D [(cI, .int)] (M_as_r σ n c kind) (wM cI a σ h)) (by decide) rfl (Nat.le_of_ble_eq_true rfl) ?_
  intro p e s m below meth C A ls S hr hlk hw hl
  obtain ⟨hx, hb, hml, hown, hts⟩ := id S
  have hinX12 : ∀ x ∈ u_ws RX12 TX12 38, x ∈ wsX12_as := fun x h => List.mem_cons_of_mem _ (List.mem_append_right _ h)
  have lk0 : Cond.constantLong RX12 153 (4) ∈ wsX12_as := by decide +kernel
  have lk1 : Cond.fieldLink RX12 16 "CowsOwedModel" "kinds" "[I" ∈ wsX12_as := by decide +kernel
  have hl : lv_has ls 4 [(0, .ref (a 0)), (1, .int c), (2, .int kind)] := hl
  refine lv_aload_n hx hb dX12_as_0 rfl (lv_at hl 0 rfl) ?_
  refine lv_iload_n hx hb dX12_as_1 rfl (lv_at hl 1 rfl) ?_
  refine g_callVi S hw (c_M_isClan l D cI a σ h c) gX12_as_X12_isClan rfl 0 rfl rfl 1 rfl (by decide +kernel) (by decide) (by decide) hl.1 rfl (Nat.le_of_ble_eq_true rfl) dX12_as_2 (fun H locs hw => ?_)
  refine lv_if_ne hx hb (tgt := 11) dX12_as_5 (by decide) (fun c_1 => ?_) (fun c_1 => ?_)
  · obtain ⟨e1, b1⟩ := M_isClan_ok hn hnb c_1
    have hl : lv_has ls 4 [(0, .ref (a 0)), (1, .int (nI c.toNatClampNeg)), (2, .int kind)] := by rw [← e1]; exact hl
    refine lv_iload_n hx hb dX12_as_11 rfl (lv_at hl 2 rfl) ?_
    refine lv_i2l hx hb dX12_as_12 rfl ?_
    refine lv_lconst (v := 0) hx hb dX12_as_13 (by decide) ?_
    refine lv_ldc2 (v := 4) hx hb hown (hts _ lk0) dX12_as_14 ?_
    refine g_callSi S hw (c_M_in l D [(cI, .int)] (wM cI a σ h) kind.toInt64 0 4) gX12_as_X12_in rfl 3 rfl (by decide +kernel) (by decide) (by decide) hl.1 rfl (Nat.le_of_ble_eq_true rfl) dX12_as_17 (fun H locs hw => ?_)
    refine lv_if_ne hx hb (tgt := 26) dX12_as_20 (by decide) (fun c_2 => ?_) (fun c_2 => ?_)
    · refine lv_iload_n hx hb dX12_as_26 rfl (lv_at hl 2 rfl) ?_
      refine lv_if_eq hx hb (tgt := 55) dX12_as_27 (by decide) (fun c_3 => ?_) (fun c_3 => ?_)
      · refine lv_iconst (v := 1) hx hb dX12_as_55 (by decide) ?_
        refine lv_goto (tgt := 60) hx hb dX12_as_56 (by decide) ?_
        refine lv_istore_n (lv' := [(3, .int 1), (0, .ref (a 0)), (1, .int (nI c.toNatClampNeg)), (2, .int kind)]) hx hb dX12_as_60 rfl hl (by decide) rfl (fun ls hl => ?_)
        refine lv_iload_n hx hb dX12_as_61 rfl (lv_at hl 0 rfl) ?_
        refine lv_if_eq hx hb (tgt := 69) dX12_as_62 (by decide) (fun c_x => absurd c_x (by decide)) (fun c_x => ?_)
        refine lv_iload_n hx hb dX12_as_65 rfl (lv_at hl 2 rfl) ?_
        refine lv_goto (tgt := 70) hx hb dX12_as_66 (by decide) ?_
        exact g_iret S hr hlk hw (by simp only [M_as_r, if_neg c_1, if_neg c_2, if_pos c_3]) rfl dX12_as_70
      · refine lv_iload_n hx hb dX12_as_30 rfl (lv_at hl 2 rfl) ?_
        refine lv_aload_n hx hb dX12_as_31 rfl (lv_at hl 0 rfl) ?_
        refine g_get S hw hinX12 (fs := fM a σ h) 0 rfl rfl 10 (by decide) lk1 (v := .ref (a 3)) rfl dX12_as_32 ?_
        refine lv_iload_n hx hb dX12_as_35 rfl (lv_at hl 1 rfl) ?_
        refine g_iald S hw (f := σ 3) (i := c.toNatClampNeg) (x := σ 3 c.toNatClampNeg) 3 0 rfl rfl (by omega) (by decide) rfl dX12_as_36 ?_
        refine lv_icmp_eq hx hb (tgt := 55) dX12_as_37 (by decide) (fun c_5 => ?_) (fun c_5 => ?_)
        · refine lv_iconst (v := 1) hx hb dX12_as_55 (by decide) ?_
          refine lv_goto (tgt := 60) hx hb dX12_as_56 (by decide) ?_
          refine lv_istore_n (lv' := [(3, .int 1), (0, .ref (a 0)), (1, .int (nI c.toNatClampNeg)), (2, .int kind)]) hx hb dX12_as_60 rfl hl (by decide) rfl (fun ls hl => ?_)
          refine lv_iload_n hx hb dX12_as_61 rfl (lv_at hl 0 rfl) ?_
          refine lv_if_eq hx hb (tgt := 69) dX12_as_62 (by decide) (fun c_x => absurd c_x (by decide)) (fun c_x => ?_)
          refine lv_iload_n hx hb dX12_as_65 rfl (lv_at hl 2 rfl) ?_
          refine lv_goto (tgt := 70) hx hb dX12_as_66 (by decide) ?_
          exact g_iret S hr hlk hw (by simp only [M_as_r, if_neg c_1, if_neg c_2, if_neg c_3, if_pos c_5]) rfl dX12_as_70
        · refine lv_iload_n hx hb dX12_as_40 rfl (lv_at hl 2 rfl) ?_
          refine lv_iconst (v := 1) hx hb dX12_as_41 (by decide) ?_
          refine lv_icmp_ne hx hb (tgt := 59) dX12_as_42 (by decide) (fun c_7 => ?_) (fun c_7 => ?_)
          · refine lv_iconst (v := 0) hx hb dX12_as_59 (by decide) ?_
            refine lv_istore_n (lv' := [(3, .int 0), (0, .ref (a 0)), (1, .int (nI c.toNatClampNeg)), (2, .int kind)]) hx hb dX12_as_60 rfl hl (by decide) rfl (fun ls hl => ?_)
            refine lv_iload_n hx hb dX12_as_61 rfl (lv_at hl 0 rfl) ?_
            refine lv_if_eq hx hb (tgt := 69) dX12_as_62 (by decide) (fun c_x => ?_) (fun c_x => absurd (by decide) c_x)
            refine lv_iconst (v := (-1)) hx hb dX12_as_69 (by decide) ?_
            exact g_iret S hr hlk hw (by simp only [M_as_r, if_neg c_1, if_neg c_2, if_neg c_3, if_neg c_5, if_neg c_7]) rfl dX12_as_70
          · refine lv_aload_n hx hb dX12_as_45 rfl (lv_at hl 0 rfl) ?_
            refine g_get S hw hinX12 (fs := fM a σ h) 0 rfl rfl 10 (by decide) lk1 (v := .ref (a 3)) rfl dX12_as_46 ?_
            refine lv_iload_n hx hb dX12_as_49 rfl (lv_at hl 1 rfl) ?_
            refine g_iald S hw (f := σ 3) (i := c.toNatClampNeg) (x := σ 3 c.toNatClampNeg) 3 0 rfl rfl (by omega) (by decide) rfl dX12_as_50 ?_
            refine lv_iconst (v := 4) hx hb dX12_as_51 (by decide) ?_
            refine lv_icmp_ne hx hb (tgt := 59) dX12_as_52 (by decide) (fun c_9 => ?_) (fun c_9 => ?_)
            · refine lv_iconst (v := 0) hx hb dX12_as_59 (by decide) ?_
              refine lv_istore_n (lv' := [(3, .int 0), (0, .ref (a 0)), (1, .int (nI c.toNatClampNeg)), (2, .int kind)]) hx hb dX12_as_60 rfl hl (by decide) rfl (fun ls hl => ?_)
              refine lv_iload_n hx hb dX12_as_61 rfl (lv_at hl 0 rfl) ?_
              refine lv_if_eq hx hb (tgt := 69) dX12_as_62 (by decide) (fun c_x => ?_) (fun c_x => absurd (by decide) c_x)
              refine lv_iconst (v := (-1)) hx hb dX12_as_69 (by decide) ?_
              exact g_iret S hr hlk hw (by simp only [M_as_r, if_neg c_1, if_neg c_2, if_neg c_3, if_neg c_5, if_pos c_7, if_neg c_9]) rfl dX12_as_70
            · refine lv_iconst (v := 1) hx hb dX12_as_55 (by decide) ?_
              refine lv_goto (tgt := 60) hx hb dX12_as_56 (by decide) ?_
              refine lv_istore_n (lv' := [(3, .int 1), (0, .ref (a 0)), (1, .int (nI c.toNatClampNeg)), (2, .int kind)]) hx hb dX12_as_60 rfl hl (by decide) rfl (fun ls hl => ?_)
              refine lv_iload_n hx hb dX12_as_61 rfl (lv_at hl 0 rfl) ?_
              refine lv_if_eq hx hb (tgt := 69) dX12_as_62 (by decide) (fun c_x => absurd c_x (by decide)) (fun c_x => ?_)
              refine lv_iload_n hx hb dX12_as_65 rfl (lv_at hl 2 rfl) ?_
              refine lv_goto (tgt := 70) hx hb dX12_as_66 (by decide) ?_
              exact g_iret S hr hlk hw (by simp only [M_as_r, if_neg c_1, if_neg c_2, if_neg c_3, if_neg c_5, if_pos c_7, if_pos c_9]) rfl dX12_as_70
    · refine lv_bipush (v := (-102)) hx hb dX12_as_23 (by decide) ?_
      exact g_iret S hr hlk hw (by simp only [M_as_r, if_neg c_1, if_pos c_2]) rfl dX12_as_25
  · refine lv_bipush (v := (-101)) hx hb dX12_as_8 (by decide) ?_
    exact g_iret S hr hlk hw (by simp only [M_as_r, if_pos c_1]) rfl dX12_as_10

def M_rate_r (σ : Nat → Nat → Int32) (v : Int32) : Int32 := if (M_in_r v.toInt64 1 9) = 0 then (-102) else (if (M_lacks_r σ) = 0 then (σ 0 7) else (-103))
def M_rate_s (σ : Nat → Nat → Int32) (v : Int32) : Nat → Nat → Int32 := if (M_in_r v.toInt64 1 9) = 0 then σ else (if (M_lacks_r σ) = 0 then (up2 σ 0 7 v) else σ)
theorem M_rate_s_k1 (σ : Nat → Nat → Int32) (v : Int32) : M_rate_s σ v 1 = σ 1 := by
  unfold M_rate_s
  by_cases z1 : (M_in_r v.toInt64 1 9) = 0
  · refine Eq.trans (congrFun (if_pos z1) 1) ?_
    exact rfl
  · refine Eq.trans (congrFun (if_neg z1) 1) ?_
    by_cases z2 : (M_lacks_r σ) = 0
    · refine Eq.trans (congrFun (if_pos z2) 1) ?_
      exact up2_n _ _ _ (by decide)
    · refine Eq.trans (congrFun (if_neg z2) 1) ?_
      exact rfl
theorem M_rate_s_k2 (σ : Nat → Nat → Int32) (v : Int32) : M_rate_s σ v 2 = σ 2 := by
  unfold M_rate_s
  by_cases z1 : (M_in_r v.toInt64 1 9) = 0
  · refine Eq.trans (congrFun (if_pos z1) 2) ?_
    exact rfl
  · refine Eq.trans (congrFun (if_neg z1) 2) ?_
    by_cases z2 : (M_lacks_r σ) = 0
    · refine Eq.trans (congrFun (if_pos z2) 2) ?_
      exact up2_n _ _ _ (by decide)
    · refine Eq.trans (congrFun (if_neg z2) 2) ?_
      exact rfl
theorem M_rate_s_k3 (σ : Nat → Nat → Int32) (v : Int32) : M_rate_s σ v 3 = σ 3 := by
  unfold M_rate_s
  by_cases z1 : (M_in_r v.toInt64 1 9) = 0
  · refine Eq.trans (congrFun (if_pos z1) 3) ?_
    exact rfl
  · refine Eq.trans (congrFun (if_neg z1) 3) ?_
    by_cases z2 : (M_lacks_r σ) = 0
    · refine Eq.trans (congrFun (if_pos z2) 3) ?_
      exact up2_n _ _ _ (by decide)
    · refine Eq.trans (congrFun (if_neg z2) 3) ?_
      exact rfl
theorem M_rate_s_k4 (σ : Nat → Nat → Int32) (v : Int32) : M_rate_s σ v 4 = σ 4 := by
  unfold M_rate_s
  by_cases z1 : (M_in_r v.toInt64 1 9) = 0
  · refine Eq.trans (congrFun (if_pos z1) 4) ?_
    exact rfl
  · refine Eq.trans (congrFun (if_neg z1) 4) ?_
    by_cases z2 : (M_lacks_r σ) = 0
    · refine Eq.trans (congrFun (if_pos z2) 4) ?_
      exact up2_n _ _ _ (by decide)
    · refine Eq.trans (congrFun (if_neg z2) 4) ?_
      exact rfl
theorem M_rate_s_k5 (σ : Nat → Nat → Int32) (v : Int32) : M_rate_s σ v 5 = σ 5 := by
  unfold M_rate_s
  by_cases z1 : (M_in_r v.toInt64 1 9) = 0
  · refine Eq.trans (congrFun (if_pos z1) 5) ?_
    exact rfl
  · refine Eq.trans (congrFun (if_neg z1) 5) ?_
    by_cases z2 : (M_lacks_r σ) = 0
    · refine Eq.trans (congrFun (if_pos z2) 5) ?_
      exact up2_n _ _ _ (by decide)
    · refine Eq.trans (congrFun (if_neg z2) 5) ?_
      exact rfl
theorem M_rate_s_k6 (σ : Nat → Nat → Int32) (v : Int32) : M_rate_s σ v 6 = σ 6 := by
  unfold M_rate_s
  by_cases z1 : (M_in_r v.toInt64 1 9) = 0
  · refine Eq.trans (congrFun (if_pos z1) 6) ?_
    exact rfl
  · refine Eq.trans (congrFun (if_neg z1) 6) ?_
    by_cases z2 : (M_lacks_r σ) = 0
    · refine Eq.trans (congrFun (if_pos z2) 6) ?_
      exact up2_n _ _ _ (by decide)
    · refine Eq.trans (congrFun (if_neg z2) 6) ?_
      exact rfl
theorem M_rate_s_k7 (σ : Nat → Nat → Int32) (v : Int32) : M_rate_s σ v 7 = σ 7 := by
  unfold M_rate_s
  by_cases z1 : (M_in_r v.toInt64 1 9) = 0
  · refine Eq.trans (congrFun (if_pos z1) 7) ?_
    exact rfl
  · refine Eq.trans (congrFun (if_neg z1) 7) ?_
    by_cases z2 : (M_lacks_r σ) = 0
    · refine Eq.trans (congrFun (if_pos z2) 7) ?_
      exact up2_n _ _ _ (by decide)
    · refine Eq.trans (congrFun (if_neg z2) 7) ?_
      exact rfl
theorem M_rate_s_k8 (σ : Nat → Nat → Int32) (v : Int32) : M_rate_s σ v 8 = σ 8 := by
  unfold M_rate_s
  by_cases z1 : (M_in_r v.toInt64 1 9) = 0
  · refine Eq.trans (congrFun (if_pos z1) 8) ?_
    exact rfl
  · refine Eq.trans (congrFun (if_neg z1) 8) ?_
    by_cases z2 : (M_lacks_r σ) = 0
    · refine Eq.trans (congrFun (if_pos z2) 8) ?_
      exact up2_n _ _ _ (by decide)
    · refine Eq.trans (congrFun (if_neg z2) 8) ?_
      exact rfl
theorem M_rate_s_k9 (σ : Nat → Nat → Int32) (v : Int32) : M_rate_s σ v 9 = σ 9 := by
  unfold M_rate_s
  by_cases z1 : (M_in_r v.toInt64 1 9) = 0
  · refine Eq.trans (congrFun (if_pos z1) 9) ?_
    exact rfl
  · refine Eq.trans (congrFun (if_neg z1) 9) ?_
    by_cases z2 : (M_lacks_r σ) = 0
    · refine Eq.trans (congrFun (if_pos z2) 9) ?_
      exact up2_n _ _ _ (by decide)
    · refine Eq.trans (congrFun (if_neg z2) 9) ?_
      exact rfl
theorem M_rate_s_k10 (σ : Nat → Nat → Int32) (v : Int32) : M_rate_s σ v 10 = σ 10 := by
  unfold M_rate_s
  by_cases z1 : (M_in_r v.toInt64 1 9) = 0
  · refine Eq.trans (congrFun (if_pos z1) 10) ?_
    exact rfl
  · refine Eq.trans (congrFun (if_neg z1) 10) ?_
    by_cases z2 : (M_lacks_r σ) = 0
    · refine Eq.trans (congrFun (if_pos z2) 10) ?_
      exact up2_n _ _ _ (by decide)
    · refine Eq.trans (congrFun (if_neg z2) 10) ?_
      exact rfl
theorem M_rate_s_k11 (σ : Nat → Nat → Int32) (v : Int32) : M_rate_s σ v 11 = σ 11 := by
  unfold M_rate_s
  by_cases z1 : (M_in_r v.toInt64 1 9) = 0
  · refine Eq.trans (congrFun (if_pos z1) 11) ?_
    exact rfl
  · refine Eq.trans (congrFun (if_neg z1) 11) ?_
    by_cases z2 : (M_lacks_r σ) = 0
    · refine Eq.trans (congrFun (if_pos z2) 11) ?_
      exact up2_n _ _ _ (by decide)
    · refine Eq.trans (congrFun (if_neg z2) 11) ?_
      exact rfl
theorem M_rate_s_k12 (σ : Nat → Nat → Int32) (v : Int32) : M_rate_s σ v 12 = σ 12 := by
  unfold M_rate_s
  by_cases z1 : (M_in_r v.toInt64 1 9) = 0
  · refine Eq.trans (congrFun (if_pos z1) 12) ?_
    exact rfl
  · refine Eq.trans (congrFun (if_neg z1) 12) ?_
    by_cases z2 : (M_lacks_r σ) = 0
    · refine Eq.trans (congrFun (if_pos z2) 12) ?_
      exact up2_n _ _ _ (by decide)
    · refine Eq.trans (congrFun (if_neg z2) 12) ?_
      exact rfl
theorem M_rate_s_k13 (σ : Nat → Nat → Int32) (v : Int32) : M_rate_s σ v 13 = σ 13 := by
  unfold M_rate_s
  by_cases z1 : (M_in_r v.toInt64 1 9) = 0
  · refine Eq.trans (congrFun (if_pos z1) 13) ?_
    exact rfl
  · refine Eq.trans (congrFun (if_neg z1) 13) ?_
    by_cases z2 : (M_lacks_r σ) = 0
    · refine Eq.trans (congrFun (if_pos z2) 13) ?_
      exact up2_n _ _ _ (by decide)
    · refine Eq.trans (congrFun (if_neg z2) 13) ?_
      exact rfl
theorem M_rate_s_k14 (σ : Nat → Nat → Int32) (v : Int32) : M_rate_s σ v 14 = σ 14 := by
  unfold M_rate_s
  by_cases z1 : (M_in_r v.toInt64 1 9) = 0
  · refine Eq.trans (congrFun (if_pos z1) 14) ?_
    exact rfl
  · refine Eq.trans (congrFun (if_neg z1) 14) ?_
    by_cases z2 : (M_lacks_r σ) = 0
    · refine Eq.trans (congrFun (if_pos z2) 14) ?_
      exact up2_n _ _ _ (by decide)
    · refine Eq.trans (congrFun (if_neg z2) 14) ?_
      exact rfl
theorem M_rate_s_k15 (σ : Nat → Nat → Int32) (v : Int32) : M_rate_s σ v 15 = σ 15 := by
  unfold M_rate_s
  by_cases z1 : (M_in_r v.toInt64 1 9) = 0
  · refine Eq.trans (congrFun (if_pos z1) 15) ?_
    exact rfl
  · refine Eq.trans (congrFun (if_neg z1) 15) ?_
    by_cases z2 : (M_lacks_r σ) = 0
    · refine Eq.trans (congrFun (if_pos z2) 15) ?_
      exact up2_n _ _ _ (by decide)
    · refine Eq.trans (congrFun (if_neg z2) 15) ?_
      exact rfl
theorem M_rate_s_k16 (σ : Nat → Nat → Int32) (v : Int32) : M_rate_s σ v 16 = σ 16 := by
  unfold M_rate_s
  by_cases z1 : (M_in_r v.toInt64 1 9) = 0
  · refine Eq.trans (congrFun (if_pos z1) 16) ?_
    exact rfl
  · refine Eq.trans (congrFun (if_neg z1) 16) ?_
    by_cases z2 : (M_lacks_r σ) = 0
    · refine Eq.trans (congrFun (if_pos z2) 16) ?_
      exact up2_n _ _ _ (by decide)
    · refine Eq.trans (congrFun (if_neg z2) 16) ?_
      exact rfl
theorem M_rate_s_k17 (σ : Nat → Nat → Int32) (v : Int32) : M_rate_s σ v 17 = σ 17 := by
  unfold M_rate_s
  by_cases z1 : (M_in_r v.toInt64 1 9) = 0
  · refine Eq.trans (congrFun (if_pos z1) 17) ?_
    exact rfl
  · refine Eq.trans (congrFun (if_neg z1) 17) ?_
    by_cases z2 : (M_lacks_r σ) = 0
    · refine Eq.trans (congrFun (if_pos z2) 17) ?_
      exact up2_n _ _ _ (by decide)
    · refine Eq.trans (congrFun (if_neg z2) 17) ?_
      exact rfl
theorem M_rate_s_k18 (σ : Nat → Nat → Int32) (v : Int32) : M_rate_s σ v 18 = σ 18 := by
  unfold M_rate_s
  by_cases z1 : (M_in_r v.toInt64 1 9) = 0
  · refine Eq.trans (congrFun (if_pos z1) 18) ?_
    exact rfl
  · refine Eq.trans (congrFun (if_neg z1) 18) ?_
    by_cases z2 : (M_lacks_r σ) = 0
    · refine Eq.trans (congrFun (if_pos z2) 18) ?_
      exact up2_n _ _ _ (by decide)
    · refine Eq.trans (congrFun (if_neg z2) 18) ?_
      exact rfl
theorem M_rate_s_k19 (σ : Nat → Nat → Int32) (v : Int32) : M_rate_s σ v 19 = σ 19 := by
  unfold M_rate_s
  by_cases z1 : (M_in_r v.toInt64 1 9) = 0
  · refine Eq.trans (congrFun (if_pos z1) 19) ?_
    exact rfl
  · refine Eq.trans (congrFun (if_neg z1) 19) ?_
    by_cases z2 : (M_lacks_r σ) = 0
    · refine Eq.trans (congrFun (if_pos z2) 19) ?_
      exact up2_n _ _ _ (by decide)
    · refine Eq.trans (congrFun (if_neg z2) 19) ?_
      exact rfl
set_option maxHeartbeats 4000000 in
set_option maxRecDepth 100000 in
theorem c_M_rate (l : Launch) (D : va_G) (cI : ClassId) (a : Nat → Nat) (σ : Nat → Nat → Int32) (h : Int64) (v : Int32) : gI l D [(cI, .int)] yX12_rate wsX12_rate 2 [.ref (a 0), .int v] (wM cI a σ h) (M_rate_r σ v) (wM cI a (M_rate_s σ v) h) := by
  refine g_start (cc := cX12_rate) (maxL := 3) (ret := some .int) (Qc := gQi D [(cI, .int)] (M_rate_r σ v) (wM cI a (M_rate_s σ v) h)) (by decide) rfl (Nat.le_of_ble_eq_true rfl) ?_
  intro p e s m below meth C A ls S hr hlk hw hl
  obtain ⟨hx, hb, hml, hown, hts⟩ := id S
  have hinX12 : ∀ x ∈ u_ws RX12 TX12 38, x ∈ wsX12_rate := fun x h => List.mem_cons_of_mem _ (List.mem_append_right _ h)
  have lk0 : Cond.constantLong RX12 90 (9) ∈ wsX12_rate := by decide +kernel
  have lk1 : Cond.fieldLink RX12 108 "CowsOwedModel" "rateNow" "I" ∈ wsX12_rate := by decide +kernel
  have hl : lv_has ls 3 [(0, .ref (a 0)), (1, .int v)] := hl
  refine lv_iload_n hx hb dX12_rate_0 rfl (lv_at hl 1 rfl) ?_
  refine lv_i2l hx hb dX12_rate_1 rfl ?_
  refine lv_lconst (v := 1) hx hb dX12_rate_2 (by decide) ?_
  refine lv_ldc2 (v := 9) hx hb hown (hts _ lk0) dX12_rate_3 ?_
  refine g_callSi S hw (c_M_in l D [(cI, .int)] (wM cI a σ h) v.toInt64 1 9) gX12_rate_X12_in rfl 3 rfl (by decide +kernel) (by decide) (by decide) hl.1 rfl (Nat.le_of_ble_eq_true rfl) dX12_rate_6 (fun H locs hw => ?_)
  refine lv_if_ne hx hb (tgt := 15) dX12_rate_9 (by decide) (fun c_1 => ?_) (fun c_1 => ?_)
  · refine lv_aload_n hx hb dX12_rate_15 rfl (lv_at hl 0 rfl) ?_
    refine g_callVi S hw (c_M_lacks l D cI a σ h) gX12_rate_X12_lacks rfl 0 rfl rfl 0 rfl (by decide +kernel) (by decide) (by decide) hl.1 rfl (Nat.le_of_ble_eq_true rfl) dX12_rate_16 (fun H locs hw => ?_)
    refine lv_if_eq hx hb (tgt := 25) dX12_rate_19 (by decide) (fun c_2 => ?_) (fun c_2 => ?_)
    · refine lv_aload_n hx hb dX12_rate_25 rfl (lv_at hl 0 rfl) ?_
      refine g_get S hw hinX12 (fs := fM a σ h) 0 rfl rfl 7 (by decide) lk1 (v := .int (σ 0 7)) rfl dX12_rate_26 ?_
      refine lv_istore_n (lv' := [(2, .int (σ 0 7)), (0, .ref (a 0)), (1, .int v)]) hx hb dX12_rate_29 rfl hl (by decide) rfl (fun ls hl => ?_)
      refine lv_aload_n hx hb dX12_rate_30 rfl (lv_at hl 1 rfl) ?_
      refine lv_iload_n hx hb dX12_rate_31 rfl (lv_at hl 2 rfl) ?_
      refine g_put S hw hinX12 tyX12 tyX12_ok nmX12 (fs := fM a σ h) 0 rfl rfl 7 (by decide) lk1 rfl rfl rfl (Nat.le_of_ble_eq_true rfl) (w2 := wM cI a (up2 σ 0 7 v) h) (wM_f7 _ _ _ _ _) dX12_rate_32 (fun H locs hw => ?_)
      refine lv_iload_n hx hb dX12_rate_35 rfl (lv_at hl 0 rfl) ?_
      exact g_iret S hr hlk hw (by simp only [M_rate_r, if_neg c_1, if_pos c_2]) (by simp only [M_rate_s, if_neg c_1, if_pos c_2]) dX12_rate_36
    · refine lv_bipush (v := (-103)) hx hb dX12_rate_22 (by decide) ?_
      exact g_iret S hr hlk hw (by simp only [M_rate_r, if_neg c_1, if_neg c_2]) (by simp only [M_rate_s, if_neg c_1, if_neg c_2]) dX12_rate_24
  · refine lv_bipush (v := (-102)) hx hb dX12_rate_12 (by decide) ?_
    exact g_iret S hr hlk hw (by simp only [M_rate_r, if_pos c_1]) (by simp only [M_rate_s, if_pos c_1]) dX12_rate_14

def M_marry_r (σ : Nat → Nat → Int32) (c : Nat) (d : Nat) (rate : Int32) : Int32 := M_pays_r σ c d (M_asksBy_r (σ 3 d) rate)
def M_marry_s (σ : Nat → Nat → Int32) (c : Nat) (d : Nat) (rate : Int32) : Nat → Nat → Int32 := M_pays_s σ c d (M_asksBy_r (σ 3 d) rate)
theorem M_marry_s_k0 (σ : Nat → Nat → Int32) (c : Nat) (d : Nat) (rate : Int32) : M_marry_s σ c d rate 0 = σ 0 := by
  unfold M_marry_s
  exact M_pays_s_k0 σ c d (M_asksBy_r (σ 3 d) rate)
theorem M_marry_s_k1 (σ : Nat → Nat → Int32) (c : Nat) (d : Nat) (rate : Int32) : M_marry_s σ c d rate 1 = σ 1 := by
  unfold M_marry_s
  exact M_pays_s_k1 σ c d (M_asksBy_r (σ 3 d) rate)
theorem M_marry_s_k2 (σ : Nat → Nat → Int32) (c : Nat) (d : Nat) (rate : Int32) : M_marry_s σ c d rate 2 = σ 2 := by
  unfold M_marry_s
  exact M_pays_s_k2 σ c d (M_asksBy_r (σ 3 d) rate)
theorem M_marry_s_k3 (σ : Nat → Nat → Int32) (c : Nat) (d : Nat) (rate : Int32) : M_marry_s σ c d rate 3 = σ 3 := by
  unfold M_marry_s
  exact M_pays_s_k3 σ c d (M_asksBy_r (σ 3 d) rate)
theorem M_marry_s_k6 (σ : Nat → Nat → Int32) (c : Nat) (d : Nat) (rate : Int32) : M_marry_s σ c d rate 6 = σ 6 := by
  unfold M_marry_s
  exact M_pays_s_k6 σ c d (M_asksBy_r (σ 3 d) rate)
theorem M_marry_s_k7 (σ : Nat → Nat → Int32) (c : Nat) (d : Nat) (rate : Int32) : M_marry_s σ c d rate 7 = σ 7 := by
  unfold M_marry_s
  exact M_pays_s_k7 σ c d (M_asksBy_r (σ 3 d) rate)
theorem M_marry_s_k8 (σ : Nat → Nat → Int32) (c : Nat) (d : Nat) (rate : Int32) : M_marry_s σ c d rate 8 = σ 8 := by
  unfold M_marry_s
  exact M_pays_s_k8 σ c d (M_asksBy_r (σ 3 d) rate)
theorem M_marry_s_k9 (σ : Nat → Nat → Int32) (c : Nat) (d : Nat) (rate : Int32) : M_marry_s σ c d rate 9 = σ 9 := by
  unfold M_marry_s
  exact M_pays_s_k9 σ c d (M_asksBy_r (σ 3 d) rate)
theorem M_marry_s_k10 (σ : Nat → Nat → Int32) (c : Nat) (d : Nat) (rate : Int32) : M_marry_s σ c d rate 10 = σ 10 := by
  unfold M_marry_s
  exact M_pays_s_k10 σ c d (M_asksBy_r (σ 3 d) rate)
theorem M_marry_s_k11 (σ : Nat → Nat → Int32) (c : Nat) (d : Nat) (rate : Int32) : M_marry_s σ c d rate 11 = σ 11 := by
  unfold M_marry_s
  exact M_pays_s_k11 σ c d (M_asksBy_r (σ 3 d) rate)
theorem M_marry_s_k12 (σ : Nat → Nat → Int32) (c : Nat) (d : Nat) (rate : Int32) : M_marry_s σ c d rate 12 = σ 12 := by
  unfold M_marry_s
  exact M_pays_s_k12 σ c d (M_asksBy_r (σ 3 d) rate)
theorem M_marry_s_k13 (σ : Nat → Nat → Int32) (c : Nat) (d : Nat) (rate : Int32) : M_marry_s σ c d rate 13 = σ 13 := by
  unfold M_marry_s
  exact M_pays_s_k13 σ c d (M_asksBy_r (σ 3 d) rate)
theorem M_marry_s_k14 (σ : Nat → Nat → Int32) (c : Nat) (d : Nat) (rate : Int32) : M_marry_s σ c d rate 14 = σ 14 := by
  unfold M_marry_s
  exact M_pays_s_k14 σ c d (M_asksBy_r (σ 3 d) rate)
theorem M_marry_s_k15 (σ : Nat → Nat → Int32) (c : Nat) (d : Nat) (rate : Int32) : M_marry_s σ c d rate 15 = σ 15 := by
  unfold M_marry_s
  exact M_pays_s_k15 σ c d (M_asksBy_r (σ 3 d) rate)
theorem M_marry_s_k16 (σ : Nat → Nat → Int32) (c : Nat) (d : Nat) (rate : Int32) : M_marry_s σ c d rate 16 = σ 16 := by
  unfold M_marry_s
  exact M_pays_s_k16 σ c d (M_asksBy_r (σ 3 d) rate)
theorem M_marry_s_k17 (σ : Nat → Nat → Int32) (c : Nat) (d : Nat) (rate : Int32) : M_marry_s σ c d rate 17 = σ 17 := by
  unfold M_marry_s
  exact M_pays_s_k17 σ c d (M_asksBy_r (σ 3 d) rate)
theorem M_marry_s_k18 (σ : Nat → Nat → Int32) (c : Nat) (d : Nat) (rate : Int32) : M_marry_s σ c d rate 18 = σ 18 := by
  unfold M_marry_s
  exact M_pays_s_k18 σ c d (M_asksBy_r (σ 3 d) rate)
theorem M_marry_s_k19 (σ : Nat → Nat → Int32) (c : Nat) (d : Nat) (rate : Int32) : M_marry_s σ c d rate 19 = σ 19 := by
  unfold M_marry_s
  exact M_pays_s_k19 σ c d (M_asksBy_r (σ 3 d) rate)
set_option maxHeartbeats 4000000 in
set_option maxRecDepth 100000 in
theorem c_M_marry (l : Launch) (D : va_G) (cI : ClassId) (a : Nat → Nat) (σ : Nat → Nat → Int32) (h : Int64) (c : Nat) (d : Nat) (rate : Int32) (hc : c < 4) (hd : d < 4) : gI l D [(cI, .int)] yX12_marry wsX12_marry 4 [.ref (a 0), .int (nI c), .int (nI d), .int rate] (wM cI a σ h) (M_marry_r σ c d rate) (wM cI a (M_marry_s σ c d rate) h) := by
  refine g_start (cc := cX12_marry) (maxL := 4) (ret := some .int) (Qc := gQi D [(cI, .int)] (M_marry_r σ c d rate) (wM cI a (M_marry_s σ c d rate) h)) (by decide) rfl (Nat.le_of_ble_eq_true rfl) ?_
  intro p e s m below meth C A ls S hr hlk hw hl
  obtain ⟨hx, hb, hml, hown, hts⟩ := id S
  have hinX12 : ∀ x ∈ u_ws RX12 TX12 38, x ∈ wsX12_marry := fun x h => List.mem_cons_of_mem _ (List.mem_append_right _ h)
  have lk0 : Cond.fieldLink RX12 16 "CowsOwedModel" "kinds" "[I" ∈ wsX12_marry := by decide +kernel
  have hl : lv_has ls 4 [(0, .ref (a 0)), (1, .int (nI c)), (2, .int (nI d)), (3, .int rate)] := hl
  refine lv_aload_n hx hb dX12_marry_0 rfl (lv_at hl 0 rfl) ?_
  refine lv_iload_n hx hb dX12_marry_1 rfl (lv_at hl 1 rfl) ?_
  refine lv_iload_n hx hb dX12_marry_2 rfl (lv_at hl 2 rfl) ?_
  refine lv_aload_n hx hb dX12_marry_3 rfl (lv_at hl 0 rfl) ?_
  refine g_get S hw hinX12 (fs := fM a σ h) 0 rfl rfl 10 (by decide) lk0 (v := .ref (a 3)) rfl dX12_marry_4 ?_
  refine lv_iload_n hx hb dX12_marry_7 rfl (lv_at hl 2 rfl) ?_
  refine g_iald S hw (f := σ 3) (i := d) (x := σ 3 d) 3 0 rfl rfl (by omega) (by decide) rfl dX12_marry_8 ?_
  refine lv_iload_n hx hb dX12_marry_9 rfl (lv_at hl 3 rfl) ?_
  refine g_callSi S hw (c_M_asksBy l D [(cI, .int)] (wM cI a σ h) (σ 3 d) rate) gX12_marry_X12_asksBy rfl 2 rfl (by decide +kernel) (by decide) (by decide) hl.1 rfl (Nat.le_of_ble_eq_true rfl) dX12_marry_10 (fun H locs hw => ?_)
  refine g_callVi S hw (c_M_pays l D cI a σ h c d (M_asksBy_r (σ 3 d) rate) (by omega) (by omega)) gX12_marry_X12_pays rfl 0 rfl rfl 3 rfl (by decide +kernel) (by decide) (by decide) hl.1 rfl (Nat.le_of_ble_eq_true rfl) dX12_marry_13 (fun H locs hw => ?_)
  exact g_iret S hr hlk hw (by simp only [M_marry_r]) (by simp only [M_marry_s]) dX12_marry_16

def M_wed_r (σ : Nat → Nat → Int32) (n : Nat) (wd : Nat) (his : Int32) (hers : Int32) : Int32 := if (M_areTwo_r σ his hers) = 0 then (-101) else (if wd = 12 then (-104) else (nI ((wd + 1) - 1)))
def M_wed_s (σ : Nat → Nat → Int32) (n : Nat) (wd : Nat) (his : Int32) (hers : Int32) : Nat → Nat → Int32 := if (M_areTwo_r σ his hers) = 0 then σ else (if wd = 12 then σ else (M_marry_s (up2 (up2 (up2 (up2 (up2 σ 6 (4 * wd) (nI his.toNatClampNeg)) 6 ((4 * wd) + 1) (nI hers.toNatClampNeg)) 6 ((4 * wd) + 2) (M_asksBy_r (σ 3 hers.toNatClampNeg) (σ 0 7))) 6 ((4 * wd) + 3) 0) 0 13 (nI (wd + 1))) his.toNatClampNeg hers.toNatClampNeg (σ 0 7)))
theorem M_wed_s_k1 (σ : Nat → Nat → Int32) (n : Nat) (wd : Nat) (his : Int32) (hers : Int32) : M_wed_s σ n wd his hers 1 = σ 1 := by
  unfold M_wed_s
  by_cases z1 : (M_areTwo_r σ his hers) = 0
  · refine Eq.trans (congrFun (if_pos z1) 1) ?_
    exact rfl
  · refine Eq.trans (congrFun (if_neg z1) 1) ?_
    by_cases z2 : wd = 12
    · refine Eq.trans (congrFun (if_pos z2) 1) ?_
      exact rfl
    · refine Eq.trans (congrFun (if_neg z2) 1) ?_
      exact (M_marry_s_k1 (up2 (up2 (up2 (up2 (up2 σ 6 (4 * wd) (nI his.toNatClampNeg)) 6 ((4 * wd) + 1) (nI hers.toNatClampNeg)) 6 ((4 * wd) + 2) (M_asksBy_r (σ 3 hers.toNatClampNeg) (σ 0 7))) 6 ((4 * wd) + 3) 0) 0 13 (nI (wd + 1))) his.toNatClampNeg hers.toNatClampNeg (σ 0 7)).trans ((up2_n _ _ _ (by decide)).trans ((up2_n _ _ _ (by decide)).trans ((up2_n _ _ _ (by decide)).trans ((up2_n _ _ _ (by decide)).trans (up2_n _ _ _ (by decide))))))
theorem M_wed_s_k2 (σ : Nat → Nat → Int32) (n : Nat) (wd : Nat) (his : Int32) (hers : Int32) : M_wed_s σ n wd his hers 2 = σ 2 := by
  unfold M_wed_s
  by_cases z1 : (M_areTwo_r σ his hers) = 0
  · refine Eq.trans (congrFun (if_pos z1) 2) ?_
    exact rfl
  · refine Eq.trans (congrFun (if_neg z1) 2) ?_
    by_cases z2 : wd = 12
    · refine Eq.trans (congrFun (if_pos z2) 2) ?_
      exact rfl
    · refine Eq.trans (congrFun (if_neg z2) 2) ?_
      exact (M_marry_s_k2 (up2 (up2 (up2 (up2 (up2 σ 6 (4 * wd) (nI his.toNatClampNeg)) 6 ((4 * wd) + 1) (nI hers.toNatClampNeg)) 6 ((4 * wd) + 2) (M_asksBy_r (σ 3 hers.toNatClampNeg) (σ 0 7))) 6 ((4 * wd) + 3) 0) 0 13 (nI (wd + 1))) his.toNatClampNeg hers.toNatClampNeg (σ 0 7)).trans ((up2_n _ _ _ (by decide)).trans ((up2_n _ _ _ (by decide)).trans ((up2_n _ _ _ (by decide)).trans ((up2_n _ _ _ (by decide)).trans (up2_n _ _ _ (by decide))))))
theorem M_wed_s_k3 (σ : Nat → Nat → Int32) (n : Nat) (wd : Nat) (his : Int32) (hers : Int32) : M_wed_s σ n wd his hers 3 = σ 3 := by
  unfold M_wed_s
  by_cases z1 : (M_areTwo_r σ his hers) = 0
  · refine Eq.trans (congrFun (if_pos z1) 3) ?_
    exact rfl
  · refine Eq.trans (congrFun (if_neg z1) 3) ?_
    by_cases z2 : wd = 12
    · refine Eq.trans (congrFun (if_pos z2) 3) ?_
      exact rfl
    · refine Eq.trans (congrFun (if_neg z2) 3) ?_
      exact (M_marry_s_k3 (up2 (up2 (up2 (up2 (up2 σ 6 (4 * wd) (nI his.toNatClampNeg)) 6 ((4 * wd) + 1) (nI hers.toNatClampNeg)) 6 ((4 * wd) + 2) (M_asksBy_r (σ 3 hers.toNatClampNeg) (σ 0 7))) 6 ((4 * wd) + 3) 0) 0 13 (nI (wd + 1))) his.toNatClampNeg hers.toNatClampNeg (σ 0 7)).trans ((up2_n _ _ _ (by decide)).trans ((up2_n _ _ _ (by decide)).trans ((up2_n _ _ _ (by decide)).trans ((up2_n _ _ _ (by decide)).trans (up2_n _ _ _ (by decide))))))
theorem M_wed_s_k7 (σ : Nat → Nat → Int32) (n : Nat) (wd : Nat) (his : Int32) (hers : Int32) : M_wed_s σ n wd his hers 7 = σ 7 := by
  unfold M_wed_s
  by_cases z1 : (M_areTwo_r σ his hers) = 0
  · refine Eq.trans (congrFun (if_pos z1) 7) ?_
    exact rfl
  · refine Eq.trans (congrFun (if_neg z1) 7) ?_
    by_cases z2 : wd = 12
    · refine Eq.trans (congrFun (if_pos z2) 7) ?_
      exact rfl
    · refine Eq.trans (congrFun (if_neg z2) 7) ?_
      exact (M_marry_s_k7 (up2 (up2 (up2 (up2 (up2 σ 6 (4 * wd) (nI his.toNatClampNeg)) 6 ((4 * wd) + 1) (nI hers.toNatClampNeg)) 6 ((4 * wd) + 2) (M_asksBy_r (σ 3 hers.toNatClampNeg) (σ 0 7))) 6 ((4 * wd) + 3) 0) 0 13 (nI (wd + 1))) his.toNatClampNeg hers.toNatClampNeg (σ 0 7)).trans ((up2_n _ _ _ (by decide)).trans ((up2_n _ _ _ (by decide)).trans ((up2_n _ _ _ (by decide)).trans ((up2_n _ _ _ (by decide)).trans (up2_n _ _ _ (by decide))))))
theorem M_wed_s_k8 (σ : Nat → Nat → Int32) (n : Nat) (wd : Nat) (his : Int32) (hers : Int32) : M_wed_s σ n wd his hers 8 = σ 8 := by
  unfold M_wed_s
  by_cases z1 : (M_areTwo_r σ his hers) = 0
  · refine Eq.trans (congrFun (if_pos z1) 8) ?_
    exact rfl
  · refine Eq.trans (congrFun (if_neg z1) 8) ?_
    by_cases z2 : wd = 12
    · refine Eq.trans (congrFun (if_pos z2) 8) ?_
      exact rfl
    · refine Eq.trans (congrFun (if_neg z2) 8) ?_
      exact (M_marry_s_k8 (up2 (up2 (up2 (up2 (up2 σ 6 (4 * wd) (nI his.toNatClampNeg)) 6 ((4 * wd) + 1) (nI hers.toNatClampNeg)) 6 ((4 * wd) + 2) (M_asksBy_r (σ 3 hers.toNatClampNeg) (σ 0 7))) 6 ((4 * wd) + 3) 0) 0 13 (nI (wd + 1))) his.toNatClampNeg hers.toNatClampNeg (σ 0 7)).trans ((up2_n _ _ _ (by decide)).trans ((up2_n _ _ _ (by decide)).trans ((up2_n _ _ _ (by decide)).trans ((up2_n _ _ _ (by decide)).trans (up2_n _ _ _ (by decide))))))
theorem M_wed_s_k9 (σ : Nat → Nat → Int32) (n : Nat) (wd : Nat) (his : Int32) (hers : Int32) : M_wed_s σ n wd his hers 9 = σ 9 := by
  unfold M_wed_s
  by_cases z1 : (M_areTwo_r σ his hers) = 0
  · refine Eq.trans (congrFun (if_pos z1) 9) ?_
    exact rfl
  · refine Eq.trans (congrFun (if_neg z1) 9) ?_
    by_cases z2 : wd = 12
    · refine Eq.trans (congrFun (if_pos z2) 9) ?_
      exact rfl
    · refine Eq.trans (congrFun (if_neg z2) 9) ?_
      exact (M_marry_s_k9 (up2 (up2 (up2 (up2 (up2 σ 6 (4 * wd) (nI his.toNatClampNeg)) 6 ((4 * wd) + 1) (nI hers.toNatClampNeg)) 6 ((4 * wd) + 2) (M_asksBy_r (σ 3 hers.toNatClampNeg) (σ 0 7))) 6 ((4 * wd) + 3) 0) 0 13 (nI (wd + 1))) his.toNatClampNeg hers.toNatClampNeg (σ 0 7)).trans ((up2_n _ _ _ (by decide)).trans ((up2_n _ _ _ (by decide)).trans ((up2_n _ _ _ (by decide)).trans ((up2_n _ _ _ (by decide)).trans (up2_n _ _ _ (by decide))))))
theorem M_wed_s_k10 (σ : Nat → Nat → Int32) (n : Nat) (wd : Nat) (his : Int32) (hers : Int32) : M_wed_s σ n wd his hers 10 = σ 10 := by
  unfold M_wed_s
  by_cases z1 : (M_areTwo_r σ his hers) = 0
  · refine Eq.trans (congrFun (if_pos z1) 10) ?_
    exact rfl
  · refine Eq.trans (congrFun (if_neg z1) 10) ?_
    by_cases z2 : wd = 12
    · refine Eq.trans (congrFun (if_pos z2) 10) ?_
      exact rfl
    · refine Eq.trans (congrFun (if_neg z2) 10) ?_
      exact (M_marry_s_k10 (up2 (up2 (up2 (up2 (up2 σ 6 (4 * wd) (nI his.toNatClampNeg)) 6 ((4 * wd) + 1) (nI hers.toNatClampNeg)) 6 ((4 * wd) + 2) (M_asksBy_r (σ 3 hers.toNatClampNeg) (σ 0 7))) 6 ((4 * wd) + 3) 0) 0 13 (nI (wd + 1))) his.toNatClampNeg hers.toNatClampNeg (σ 0 7)).trans ((up2_n _ _ _ (by decide)).trans ((up2_n _ _ _ (by decide)).trans ((up2_n _ _ _ (by decide)).trans ((up2_n _ _ _ (by decide)).trans (up2_n _ _ _ (by decide))))))
theorem M_wed_s_k11 (σ : Nat → Nat → Int32) (n : Nat) (wd : Nat) (his : Int32) (hers : Int32) : M_wed_s σ n wd his hers 11 = σ 11 := by
  unfold M_wed_s
  by_cases z1 : (M_areTwo_r σ his hers) = 0
  · refine Eq.trans (congrFun (if_pos z1) 11) ?_
    exact rfl
  · refine Eq.trans (congrFun (if_neg z1) 11) ?_
    by_cases z2 : wd = 12
    · refine Eq.trans (congrFun (if_pos z2) 11) ?_
      exact rfl
    · refine Eq.trans (congrFun (if_neg z2) 11) ?_
      exact (M_marry_s_k11 (up2 (up2 (up2 (up2 (up2 σ 6 (4 * wd) (nI his.toNatClampNeg)) 6 ((4 * wd) + 1) (nI hers.toNatClampNeg)) 6 ((4 * wd) + 2) (M_asksBy_r (σ 3 hers.toNatClampNeg) (σ 0 7))) 6 ((4 * wd) + 3) 0) 0 13 (nI (wd + 1))) his.toNatClampNeg hers.toNatClampNeg (σ 0 7)).trans ((up2_n _ _ _ (by decide)).trans ((up2_n _ _ _ (by decide)).trans ((up2_n _ _ _ (by decide)).trans ((up2_n _ _ _ (by decide)).trans (up2_n _ _ _ (by decide))))))
theorem M_wed_s_k12 (σ : Nat → Nat → Int32) (n : Nat) (wd : Nat) (his : Int32) (hers : Int32) : M_wed_s σ n wd his hers 12 = σ 12 := by
  unfold M_wed_s
  by_cases z1 : (M_areTwo_r σ his hers) = 0
  · refine Eq.trans (congrFun (if_pos z1) 12) ?_
    exact rfl
  · refine Eq.trans (congrFun (if_neg z1) 12) ?_
    by_cases z2 : wd = 12
    · refine Eq.trans (congrFun (if_pos z2) 12) ?_
      exact rfl
    · refine Eq.trans (congrFun (if_neg z2) 12) ?_
      exact (M_marry_s_k12 (up2 (up2 (up2 (up2 (up2 σ 6 (4 * wd) (nI his.toNatClampNeg)) 6 ((4 * wd) + 1) (nI hers.toNatClampNeg)) 6 ((4 * wd) + 2) (M_asksBy_r (σ 3 hers.toNatClampNeg) (σ 0 7))) 6 ((4 * wd) + 3) 0) 0 13 (nI (wd + 1))) his.toNatClampNeg hers.toNatClampNeg (σ 0 7)).trans ((up2_n _ _ _ (by decide)).trans ((up2_n _ _ _ (by decide)).trans ((up2_n _ _ _ (by decide)).trans ((up2_n _ _ _ (by decide)).trans (up2_n _ _ _ (by decide))))))
theorem M_wed_s_k13 (σ : Nat → Nat → Int32) (n : Nat) (wd : Nat) (his : Int32) (hers : Int32) : M_wed_s σ n wd his hers 13 = σ 13 := by
  unfold M_wed_s
  by_cases z1 : (M_areTwo_r σ his hers) = 0
  · refine Eq.trans (congrFun (if_pos z1) 13) ?_
    exact rfl
  · refine Eq.trans (congrFun (if_neg z1) 13) ?_
    by_cases z2 : wd = 12
    · refine Eq.trans (congrFun (if_pos z2) 13) ?_
      exact rfl
    · refine Eq.trans (congrFun (if_neg z2) 13) ?_
      exact (M_marry_s_k13 (up2 (up2 (up2 (up2 (up2 σ 6 (4 * wd) (nI his.toNatClampNeg)) 6 ((4 * wd) + 1) (nI hers.toNatClampNeg)) 6 ((4 * wd) + 2) (M_asksBy_r (σ 3 hers.toNatClampNeg) (σ 0 7))) 6 ((4 * wd) + 3) 0) 0 13 (nI (wd + 1))) his.toNatClampNeg hers.toNatClampNeg (σ 0 7)).trans ((up2_n _ _ _ (by decide)).trans ((up2_n _ _ _ (by decide)).trans ((up2_n _ _ _ (by decide)).trans ((up2_n _ _ _ (by decide)).trans (up2_n _ _ _ (by decide))))))
theorem M_wed_s_k14 (σ : Nat → Nat → Int32) (n : Nat) (wd : Nat) (his : Int32) (hers : Int32) : M_wed_s σ n wd his hers 14 = σ 14 := by
  unfold M_wed_s
  by_cases z1 : (M_areTwo_r σ his hers) = 0
  · refine Eq.trans (congrFun (if_pos z1) 14) ?_
    exact rfl
  · refine Eq.trans (congrFun (if_neg z1) 14) ?_
    by_cases z2 : wd = 12
    · refine Eq.trans (congrFun (if_pos z2) 14) ?_
      exact rfl
    · refine Eq.trans (congrFun (if_neg z2) 14) ?_
      exact (M_marry_s_k14 (up2 (up2 (up2 (up2 (up2 σ 6 (4 * wd) (nI his.toNatClampNeg)) 6 ((4 * wd) + 1) (nI hers.toNatClampNeg)) 6 ((4 * wd) + 2) (M_asksBy_r (σ 3 hers.toNatClampNeg) (σ 0 7))) 6 ((4 * wd) + 3) 0) 0 13 (nI (wd + 1))) his.toNatClampNeg hers.toNatClampNeg (σ 0 7)).trans ((up2_n _ _ _ (by decide)).trans ((up2_n _ _ _ (by decide)).trans ((up2_n _ _ _ (by decide)).trans ((up2_n _ _ _ (by decide)).trans (up2_n _ _ _ (by decide))))))
theorem M_wed_s_k15 (σ : Nat → Nat → Int32) (n : Nat) (wd : Nat) (his : Int32) (hers : Int32) : M_wed_s σ n wd his hers 15 = σ 15 := by
  unfold M_wed_s
  by_cases z1 : (M_areTwo_r σ his hers) = 0
  · refine Eq.trans (congrFun (if_pos z1) 15) ?_
    exact rfl
  · refine Eq.trans (congrFun (if_neg z1) 15) ?_
    by_cases z2 : wd = 12
    · refine Eq.trans (congrFun (if_pos z2) 15) ?_
      exact rfl
    · refine Eq.trans (congrFun (if_neg z2) 15) ?_
      exact (M_marry_s_k15 (up2 (up2 (up2 (up2 (up2 σ 6 (4 * wd) (nI his.toNatClampNeg)) 6 ((4 * wd) + 1) (nI hers.toNatClampNeg)) 6 ((4 * wd) + 2) (M_asksBy_r (σ 3 hers.toNatClampNeg) (σ 0 7))) 6 ((4 * wd) + 3) 0) 0 13 (nI (wd + 1))) his.toNatClampNeg hers.toNatClampNeg (σ 0 7)).trans ((up2_n _ _ _ (by decide)).trans ((up2_n _ _ _ (by decide)).trans ((up2_n _ _ _ (by decide)).trans ((up2_n _ _ _ (by decide)).trans (up2_n _ _ _ (by decide))))))
theorem M_wed_s_k16 (σ : Nat → Nat → Int32) (n : Nat) (wd : Nat) (his : Int32) (hers : Int32) : M_wed_s σ n wd his hers 16 = σ 16 := by
  unfold M_wed_s
  by_cases z1 : (M_areTwo_r σ his hers) = 0
  · refine Eq.trans (congrFun (if_pos z1) 16) ?_
    exact rfl
  · refine Eq.trans (congrFun (if_neg z1) 16) ?_
    by_cases z2 : wd = 12
    · refine Eq.trans (congrFun (if_pos z2) 16) ?_
      exact rfl
    · refine Eq.trans (congrFun (if_neg z2) 16) ?_
      exact (M_marry_s_k16 (up2 (up2 (up2 (up2 (up2 σ 6 (4 * wd) (nI his.toNatClampNeg)) 6 ((4 * wd) + 1) (nI hers.toNatClampNeg)) 6 ((4 * wd) + 2) (M_asksBy_r (σ 3 hers.toNatClampNeg) (σ 0 7))) 6 ((4 * wd) + 3) 0) 0 13 (nI (wd + 1))) his.toNatClampNeg hers.toNatClampNeg (σ 0 7)).trans ((up2_n _ _ _ (by decide)).trans ((up2_n _ _ _ (by decide)).trans ((up2_n _ _ _ (by decide)).trans ((up2_n _ _ _ (by decide)).trans (up2_n _ _ _ (by decide))))))
theorem M_wed_s_k17 (σ : Nat → Nat → Int32) (n : Nat) (wd : Nat) (his : Int32) (hers : Int32) : M_wed_s σ n wd his hers 17 = σ 17 := by
  unfold M_wed_s
  by_cases z1 : (M_areTwo_r σ his hers) = 0
  · refine Eq.trans (congrFun (if_pos z1) 17) ?_
    exact rfl
  · refine Eq.trans (congrFun (if_neg z1) 17) ?_
    by_cases z2 : wd = 12
    · refine Eq.trans (congrFun (if_pos z2) 17) ?_
      exact rfl
    · refine Eq.trans (congrFun (if_neg z2) 17) ?_
      exact (M_marry_s_k17 (up2 (up2 (up2 (up2 (up2 σ 6 (4 * wd) (nI his.toNatClampNeg)) 6 ((4 * wd) + 1) (nI hers.toNatClampNeg)) 6 ((4 * wd) + 2) (M_asksBy_r (σ 3 hers.toNatClampNeg) (σ 0 7))) 6 ((4 * wd) + 3) 0) 0 13 (nI (wd + 1))) his.toNatClampNeg hers.toNatClampNeg (σ 0 7)).trans ((up2_n _ _ _ (by decide)).trans ((up2_n _ _ _ (by decide)).trans ((up2_n _ _ _ (by decide)).trans ((up2_n _ _ _ (by decide)).trans (up2_n _ _ _ (by decide))))))
theorem M_wed_s_k18 (σ : Nat → Nat → Int32) (n : Nat) (wd : Nat) (his : Int32) (hers : Int32) : M_wed_s σ n wd his hers 18 = σ 18 := by
  unfold M_wed_s
  by_cases z1 : (M_areTwo_r σ his hers) = 0
  · refine Eq.trans (congrFun (if_pos z1) 18) ?_
    exact rfl
  · refine Eq.trans (congrFun (if_neg z1) 18) ?_
    by_cases z2 : wd = 12
    · refine Eq.trans (congrFun (if_pos z2) 18) ?_
      exact rfl
    · refine Eq.trans (congrFun (if_neg z2) 18) ?_
      exact (M_marry_s_k18 (up2 (up2 (up2 (up2 (up2 σ 6 (4 * wd) (nI his.toNatClampNeg)) 6 ((4 * wd) + 1) (nI hers.toNatClampNeg)) 6 ((4 * wd) + 2) (M_asksBy_r (σ 3 hers.toNatClampNeg) (σ 0 7))) 6 ((4 * wd) + 3) 0) 0 13 (nI (wd + 1))) his.toNatClampNeg hers.toNatClampNeg (σ 0 7)).trans ((up2_n _ _ _ (by decide)).trans ((up2_n _ _ _ (by decide)).trans ((up2_n _ _ _ (by decide)).trans ((up2_n _ _ _ (by decide)).trans (up2_n _ _ _ (by decide))))))
theorem M_wed_s_k19 (σ : Nat → Nat → Int32) (n : Nat) (wd : Nat) (his : Int32) (hers : Int32) : M_wed_s σ n wd his hers 19 = σ 19 := by
  unfold M_wed_s
  by_cases z1 : (M_areTwo_r σ his hers) = 0
  · refine Eq.trans (congrFun (if_pos z1) 19) ?_
    exact rfl
  · refine Eq.trans (congrFun (if_neg z1) 19) ?_
    by_cases z2 : wd = 12
    · refine Eq.trans (congrFun (if_pos z2) 19) ?_
      exact rfl
    · refine Eq.trans (congrFun (if_neg z2) 19) ?_
      exact (M_marry_s_k19 (up2 (up2 (up2 (up2 (up2 σ 6 (4 * wd) (nI his.toNatClampNeg)) 6 ((4 * wd) + 1) (nI hers.toNatClampNeg)) 6 ((4 * wd) + 2) (M_asksBy_r (σ 3 hers.toNatClampNeg) (σ 0 7))) 6 ((4 * wd) + 3) 0) 0 13 (nI (wd + 1))) his.toNatClampNeg hers.toNatClampNeg (σ 0 7)).trans ((up2_n _ _ _ (by decide)).trans ((up2_n _ _ _ (by decide)).trans ((up2_n _ _ _ (by decide)).trans ((up2_n _ _ _ (by decide)).trans (up2_n _ _ _ (by decide))))))
set_option maxHeartbeats 4000000 in
set_option maxRecDepth 100000 in
theorem c_M_wed (l : Launch) (D : va_G) (cI : ClassId) (a : Nat → Nat) (σ : Nat → Nat → Int32) (h : Int64) (n : Nat) (wd : Nat) (his : Int32) (hers : Int32) (hn : σ 0 6 = nI n) (hnb : n ≤ 4) (hw0 : σ 0 13 = nI wd) (hw0b : wd ≤ 12) : gI l D [(cI, .int)] yX12_wed wsX12_wed 5 [.ref (a 0), .int his, .int hers] (wM cI a σ h) (M_wed_r σ n wd his hers) (wM cI a (M_wed_s σ n wd his hers) h) := by
  refine g_start (cc := cX12_wed) (maxL := 4) (ret := some .int) (Qc := gQi D [(cI, .int)] (M_wed_r σ n wd his hers) (wM cI a (M_wed_s σ n wd his hers) h)) (by decide) rfl (Nat.le_of_ble_eq_true rfl) ?_
  intro p e s m below meth C A ls S hr hlk hw hl
  obtain ⟨hx, hb, hml, hown, hts⟩ := id S
  have hinX12 : ∀ x ∈ u_ws RX12 TX12 38, x ∈ wsX12_wed := fun x h => List.mem_cons_of_mem _ (List.mem_append_right _ h)
  have lk0 : Cond.fieldLink RX12 114 "CowsOwedModel" "weddings" "I" ∈ wsX12_wed := by decide +kernel
  have lk1 : Cond.fieldLink RX12 25 "CowsOwedModel" "rows" "[I" ∈ wsX12_wed := by decide +kernel
  have lk2 : Cond.fieldLink RX12 16 "CowsOwedModel" "kinds" "[I" ∈ wsX12_wed := by decide +kernel
  have lk3 : Cond.fieldLink RX12 108 "CowsOwedModel" "rateNow" "I" ∈ wsX12_wed := by decide +kernel
  have hl : lv_has ls 4 [(0, .ref (a 0)), (1, .int his), (2, .int hers)] := hl
  refine lv_aload_n hx hb dX12_wed_0 rfl (lv_at hl 0 rfl) ?_
  refine lv_iload_n hx hb dX12_wed_1 rfl (lv_at hl 1 rfl) ?_
  refine lv_iload_n hx hb dX12_wed_2 rfl (lv_at hl 2 rfl) ?_
  refine g_callVi S hw (c_M_areTwo l D cI a σ h his hers) gX12_wed_X12_areTwo rfl 0 rfl rfl 2 rfl (by decide +kernel) (by decide) (by decide) hl.1 rfl (Nat.le_of_ble_eq_true rfl) dX12_wed_3 (fun H locs hw => ?_)
  refine lv_if_ne hx hb (tgt := 12) dX12_wed_6 (by decide) (fun c_1 => ?_) (fun c_1 => ?_)
  · obtain ⟨e1, b1, e2, b2, ne⟩ := M_areTwo_ok hn hnb c_1
    have hl : lv_has ls 4 [(0, .ref (a 0)), (1, .int (nI his.toNatClampNeg)), (2, .int (nI hers.toNatClampNeg))] := by rw [← e1, ← e2]; exact hl
    refine lv_aload_n hx hb dX12_wed_12 rfl (lv_at hl 0 rfl) ?_
    refine g_get S hw hinX12 (fs := fM a σ h) 0 rfl rfl 13 (by decide) lk0 (v := .int (nI wd)) (congrArg (fun z => some (Value.int z)) (hw0)) dX12_wed_13 ?_
    refine lv_bipush (v := 12) hx hb dX12_wed_16 (by decide) ?_
    refine ln_ne (x := wd) (y := 12) hx hb (by omega) (by omega) (tgt := 24) dX12_wed_18 (by decide) (fun c_2 => ?_) (fun c_2 => ?_)
    · refine lv_aload_n hx hb dX12_wed_24 rfl (lv_at hl 0 rfl) ?_
      refine g_get S hw hinX12 (fs := fM a σ h) 0 rfl rfl 14 (by decide) lk1 (v := .ref (a 6)) rfl dX12_wed_25 ?_
      refine lv_iconst (v := 4) hx hb dX12_wed_28 (by decide) ?_
      refine lv_aload_n hx hb dX12_wed_29 rfl (lv_at hl 0 rfl) ?_
      refine g_get S hw hinX12 (fs := fM a σ h) 0 rfl rfl 13 (by decide) lk0 (v := .int (nI wd)) (congrArg (fun z => some (Value.int z)) (hw0)) dX12_wed_30 ?_
      refine ln_imul (x := 4) (y := wd) hx hb dX12_wed_33 ?_
      refine lv_iload_n hx hb dX12_wed_34 rfl (lv_at hl 1 rfl) ?_
      refine g_iast S hw (f := σ 6) (i := 4 * wd) 6 0 rfl rfl (by omega) (by decide) (w2 := wM cI a (up2 σ 6 (4 * wd) (nI his.toNatClampNeg)) h) (wM_a6 _ _ _ _ _ _) dX12_wed_35 (fun H locs hw => ?_)
      refine lv_aload_n hx hb dX12_wed_36 rfl (lv_at hl 0 rfl) ?_
      refine g_get S hw hinX12 (fs := fM a (up2 σ 6 (4 * wd) (nI his.toNatClampNeg)) h) 0 rfl rfl 14 (by decide) lk1 (v := .ref (a 6)) rfl dX12_wed_37 ?_
      refine lv_iconst (v := 4) hx hb dX12_wed_40 (by decide) ?_
      refine lv_aload_n hx hb dX12_wed_41 rfl (lv_at hl 0 rfl) ?_
      refine g_get S hw hinX12 (fs := fM a (up2 σ 6 (4 * wd) (nI his.toNatClampNeg)) h) 0 rfl rfl 13 (by decide) lk0 (v := .int (nI wd)) (congrArg (fun z => some (Value.int z)) ((up2_rn (by decide)).trans (hw0))) dX12_wed_42 ?_
      refine ln_imul (x := 4) (y := wd) hx hb dX12_wed_45 ?_
      refine lv_iconst (v := 1) hx hb dX12_wed_46 (by decide) ?_
      refine ln_iadd (x := 4 * wd) (y := 1) hx hb dX12_wed_47 ?_
      refine lv_iload_n hx hb dX12_wed_48 rfl (lv_at hl 2 rfl) ?_
      refine g_iast S hw (f := (up2 σ 6 (4 * wd) (nI his.toNatClampNeg)) 6) (i := (4 * wd) + 1) 6 0 rfl rfl (by omega) (by decide) (w2 := wM cI a (up2 (up2 σ 6 (4 * wd) (nI his.toNatClampNeg)) 6 ((4 * wd) + 1) (nI hers.toNatClampNeg)) h) (wM_a6 _ _ _ _ _ _) dX12_wed_49 (fun H locs hw => ?_)
      refine lv_aload_n hx hb dX12_wed_50 rfl (lv_at hl 0 rfl) ?_
      refine g_get S hw hinX12 (fs := fM a (up2 (up2 σ 6 (4 * wd) (nI his.toNatClampNeg)) 6 ((4 * wd) + 1) (nI hers.toNatClampNeg)) h) 0 rfl rfl 14 (by decide) lk1 (v := .ref (a 6)) rfl dX12_wed_51 ?_
      refine lv_iconst (v := 4) hx hb dX12_wed_54 (by decide) ?_
      refine lv_aload_n hx hb dX12_wed_55 rfl (lv_at hl 0 rfl) ?_
      refine g_get S hw hinX12 (fs := fM a (up2 (up2 σ 6 (4 * wd) (nI his.toNatClampNeg)) 6 ((4 * wd) + 1) (nI hers.toNatClampNeg)) h) 0 rfl rfl 13 (by decide) lk0 (v := .int (nI wd)) (congrArg (fun z => some (Value.int z)) (((up2_rn (by decide)).trans (up2_rn (by decide))).trans (hw0))) dX12_wed_56 ?_
      refine ln_imul (x := 4) (y := wd) hx hb dX12_wed_59 ?_
      refine lv_iconst (v := 2) hx hb dX12_wed_60 (by decide) ?_
      refine ln_iadd (x := 4 * wd) (y := 2) hx hb dX12_wed_61 ?_
      refine lv_aload_n hx hb dX12_wed_62 rfl (lv_at hl 0 rfl) ?_
      refine g_get S hw hinX12 (fs := fM a (up2 (up2 σ 6 (4 * wd) (nI his.toNatClampNeg)) 6 ((4 * wd) + 1) (nI hers.toNatClampNeg)) h) 0 rfl rfl 10 (by decide) lk2 (v := .ref (a 3)) rfl dX12_wed_63 ?_
      refine lv_iload_n hx hb dX12_wed_66 rfl (lv_at hl 2 rfl) ?_
      refine g_iald S hw (f := (up2 (up2 σ 6 (4 * wd) (nI his.toNatClampNeg)) 6 ((4 * wd) + 1) (nI hers.toNatClampNeg)) 3) (i := hers.toNatClampNeg) (x := σ 3 hers.toNatClampNeg) 3 0 rfl rfl (by omega) (by decide) ((up2_rn (by decide)).trans (up2_rn (by decide))) dX12_wed_67 ?_
      refine lv_aload_n hx hb dX12_wed_68 rfl (lv_at hl 0 rfl) ?_
      refine g_get S hw hinX12 (fs := fM a (up2 (up2 σ 6 (4 * wd) (nI his.toNatClampNeg)) 6 ((4 * wd) + 1) (nI hers.toNatClampNeg)) h) 0 rfl rfl 7 (by decide) lk3 (v := .int (σ 0 7)) (congrArg (fun z => some (Value.int z)) ((up2_rn (by decide)).trans (up2_rn (by decide)))) dX12_wed_69 ?_
      refine g_callSi S hw (c_M_asksBy l D [(cI, .int)] (wM cI a (up2 (up2 σ 6 (4 * wd) (nI his.toNatClampNeg)) 6 ((4 * wd) + 1) (nI hers.toNatClampNeg)) h) (σ 3 hers.toNatClampNeg) (σ 0 7)) gX12_wed_X12_asksBy rfl 2 rfl (by decide +kernel) (by decide) (by decide) hl.1 rfl (Nat.le_of_ble_eq_true rfl) dX12_wed_72 (fun H locs hw => ?_)
      refine g_iast S hw (f := (up2 (up2 σ 6 (4 * wd) (nI his.toNatClampNeg)) 6 ((4 * wd) + 1) (nI hers.toNatClampNeg)) 6) (i := (4 * wd) + 2) 6 0 rfl rfl (by omega) (by decide) (w2 := wM cI a (up2 (up2 (up2 σ 6 (4 * wd) (nI his.toNatClampNeg)) 6 ((4 * wd) + 1) (nI hers.toNatClampNeg)) 6 ((4 * wd) + 2) (M_asksBy_r (σ 3 hers.toNatClampNeg) (σ 0 7))) h) (wM_a6 _ _ _ _ _ _) dX12_wed_75 (fun H locs hw => ?_)
      refine lv_aload_n hx hb dX12_wed_76 rfl (lv_at hl 0 rfl) ?_
      refine g_get S hw hinX12 (fs := fM a (up2 (up2 (up2 σ 6 (4 * wd) (nI his.toNatClampNeg)) 6 ((4 * wd) + 1) (nI hers.toNatClampNeg)) 6 ((4 * wd) + 2) (M_asksBy_r (σ 3 hers.toNatClampNeg) (σ 0 7))) h) 0 rfl rfl 14 (by decide) lk1 (v := .ref (a 6)) rfl dX12_wed_77 ?_
      refine lv_iconst (v := 4) hx hb dX12_wed_80 (by decide) ?_
      refine lv_aload_n hx hb dX12_wed_81 rfl (lv_at hl 0 rfl) ?_
      refine g_get S hw hinX12 (fs := fM a (up2 (up2 (up2 σ 6 (4 * wd) (nI his.toNatClampNeg)) 6 ((4 * wd) + 1) (nI hers.toNatClampNeg)) 6 ((4 * wd) + 2) (M_asksBy_r (σ 3 hers.toNatClampNeg) (σ 0 7))) h) 0 rfl rfl 13 (by decide) lk0 (v := .int (nI wd)) (congrArg (fun z => some (Value.int z)) (((up2_rn (by decide)).trans ((up2_rn (by decide)).trans (up2_rn (by decide)))).trans (hw0))) dX12_wed_82 ?_
      refine ln_imul (x := 4) (y := wd) hx hb dX12_wed_85 ?_
      refine lv_iconst (v := 3) hx hb dX12_wed_86 (by decide) ?_
      refine ln_iadd (x := 4 * wd) (y := 3) hx hb dX12_wed_87 ?_
      refine lv_iconst (v := 0) hx hb dX12_wed_88 (by decide) ?_
      refine g_iast S hw (f := (up2 (up2 (up2 σ 6 (4 * wd) (nI his.toNatClampNeg)) 6 ((4 * wd) + 1) (nI hers.toNatClampNeg)) 6 ((4 * wd) + 2) (M_asksBy_r (σ 3 hers.toNatClampNeg) (σ 0 7))) 6) (i := (4 * wd) + 3) 6 0 rfl rfl (by omega) (by decide) (w2 := wM cI a (up2 (up2 (up2 (up2 σ 6 (4 * wd) (nI his.toNatClampNeg)) 6 ((4 * wd) + 1) (nI hers.toNatClampNeg)) 6 ((4 * wd) + 2) (M_asksBy_r (σ 3 hers.toNatClampNeg) (σ 0 7))) 6 ((4 * wd) + 3) 0) h) (wM_a6 _ _ _ _ _ _) dX12_wed_89 (fun H locs hw => ?_)
      refine lv_aload_n hx hb dX12_wed_90 rfl (lv_at hl 0 rfl) ?_
      refine lv_dup hx hb dX12_wed_91 rfl ?_
      refine g_get S hw hinX12 (fs := fM a (up2 (up2 (up2 (up2 σ 6 (4 * wd) (nI his.toNatClampNeg)) 6 ((4 * wd) + 1) (nI hers.toNatClampNeg)) 6 ((4 * wd) + 2) (M_asksBy_r (σ 3 hers.toNatClampNeg) (σ 0 7))) 6 ((4 * wd) + 3) 0) h) 0 rfl rfl 13 (by decide) lk0 (v := .int (nI wd)) (congrArg (fun z => some (Value.int z)) (((up2_rn (by decide)).trans ((up2_rn (by decide)).trans ((up2_rn (by decide)).trans (up2_rn (by decide))))).trans (hw0))) dX12_wed_92 ?_
      refine lv_iconst (v := 1) hx hb dX12_wed_95 (by decide) ?_
      refine ln_iadd (x := wd) (y := 1) hx hb dX12_wed_96 ?_
      refine g_put S hw hinX12 tyX12 tyX12_ok nmX12 (fs := fM a (up2 (up2 (up2 (up2 σ 6 (4 * wd) (nI his.toNatClampNeg)) 6 ((4 * wd) + 1) (nI hers.toNatClampNeg)) 6 ((4 * wd) + 2) (M_asksBy_r (σ 3 hers.toNatClampNeg) (σ 0 7))) 6 ((4 * wd) + 3) 0) h) 0 rfl rfl 13 (by decide) lk0 rfl rfl rfl (Nat.le_of_ble_eq_true rfl) (w2 := wM cI a (up2 (up2 (up2 (up2 (up2 σ 6 (4 * wd) (nI his.toNatClampNeg)) 6 ((4 * wd) + 1) (nI hers.toNatClampNeg)) 6 ((4 * wd) + 2) (M_asksBy_r (σ 3 hers.toNatClampNeg) (σ 0 7))) 6 ((4 * wd) + 3) 0) 0 13 (nI (wd + 1))) h) (wM_f13 _ _ _ _ _) dX12_wed_97 (fun H locs hw => ?_)
      refine lv_aload_n hx hb dX12_wed_100 rfl (lv_at hl 0 rfl) ?_
      refine lv_iload_n hx hb dX12_wed_101 rfl (lv_at hl 1 rfl) ?_
      refine lv_iload_n hx hb dX12_wed_102 rfl (lv_at hl 2 rfl) ?_
      refine lv_aload_n hx hb dX12_wed_103 rfl (lv_at hl 0 rfl) ?_
      refine g_get S hw hinX12 (fs := fM a (up2 (up2 (up2 (up2 (up2 σ 6 (4 * wd) (nI his.toNatClampNeg)) 6 ((4 * wd) + 1) (nI hers.toNatClampNeg)) 6 ((4 * wd) + 2) (M_asksBy_r (σ 3 hers.toNatClampNeg) (σ 0 7))) 6 ((4 * wd) + 3) 0) 0 13 (nI (wd + 1))) h) 0 rfl rfl 7 (by decide) lk3 (v := .int (σ 0 7)) (congrArg (fun z => some (Value.int z)) ((up2_rp (by decide)).trans ((up2_rn (by decide)).trans ((up2_rn (by decide)).trans ((up2_rn (by decide)).trans (up2_rn (by decide))))))) dX12_wed_104 ?_
      refine g_callVi S hw (c_M_marry l D cI a (up2 (up2 (up2 (up2 (up2 σ 6 (4 * wd) (nI his.toNatClampNeg)) 6 ((4 * wd) + 1) (nI hers.toNatClampNeg)) 6 ((4 * wd) + 2) (M_asksBy_r (σ 3 hers.toNatClampNeg) (σ 0 7))) 6 ((4 * wd) + 3) 0) 0 13 (nI (wd + 1))) h his.toNatClampNeg hers.toNatClampNeg (σ 0 7) (by omega) (by omega)) gX12_wed_X12_marry rfl 0 rfl rfl 3 rfl (by decide +kernel) (by decide) (by decide) hl.1 rfl (Nat.le_of_ble_eq_true rfl) dX12_wed_107 (fun H locs hw => ?_)
      refine lv_istore_n (lv' := [(3, .int (M_marry_r (up2 (up2 (up2 (up2 (up2 σ 6 (4 * wd) (nI his.toNatClampNeg)) 6 ((4 * wd) + 1) (nI hers.toNatClampNeg)) 6 ((4 * wd) + 2) (M_asksBy_r (σ 3 hers.toNatClampNeg) (σ 0 7))) 6 ((4 * wd) + 3) 0) 0 13 (nI (wd + 1))) his.toNatClampNeg hers.toNatClampNeg (σ 0 7))), (0, .ref (a 0)), (1, .int (nI his.toNatClampNeg)), (2, .int (nI hers.toNatClampNeg))]) hx hb dX12_wed_110 rfl hl (by decide) rfl (fun ls hl => ?_)
      refine lv_aload_n hx hb dX12_wed_111 rfl (lv_at hl 1 rfl) ?_
      refine g_get S hw hinX12 (fs := fM a (M_marry_s (up2 (up2 (up2 (up2 (up2 σ 6 (4 * wd) (nI his.toNatClampNeg)) 6 ((4 * wd) + 1) (nI hers.toNatClampNeg)) 6 ((4 * wd) + 2) (M_asksBy_r (σ 3 hers.toNatClampNeg) (σ 0 7))) 6 ((4 * wd) + 3) 0) 0 13 (nI (wd + 1))) his.toNatClampNeg hers.toNatClampNeg (σ 0 7)) h) 0 rfl rfl 13 (by decide) lk0 (v := .int (nI (wd + 1))) (congrArg (fun z => some (Value.int z)) ((congrFun (M_marry_s_k0 (up2 (up2 (up2 (up2 (up2 σ 6 (4 * wd) (nI his.toNatClampNeg)) 6 ((4 * wd) + 1) (nI hers.toNatClampNeg)) 6 ((4 * wd) + 2) (M_asksBy_r (σ 3 hers.toNatClampNeg) (σ 0 7))) 6 ((4 * wd) + 3) 0) 0 13 (nI (wd + 1))) his.toNatClampNeg hers.toNatClampNeg (σ 0 7)) 13).trans (up2_rs))) dX12_wed_112 ?_
      refine lv_iconst (v := 1) hx hb dX12_wed_115 (by decide) ?_
      refine ln_isub (x := wd + 1) (y := 1) hx hb (by omega) dX12_wed_116 ?_
      exact g_iret S hr hlk hw (by simp only [M_wed_r, if_neg c_1, if_neg c_2]) (by simp only [M_wed_s, if_neg c_1, if_neg c_2]) dX12_wed_117
    · refine lv_bipush (v := (-104)) hx hb dX12_wed_21 (by decide) ?_
      exact g_iret S hr hlk hw (by simp only [M_wed_r, if_neg c_1, if_pos c_2]) (by simp only [M_wed_s, if_neg c_1, if_pos c_2]) dX12_wed_23
  · refine lv_bipush (v := (-101)) hx hb dX12_wed_9 (by decide) ?_
    exact g_iret S hr hlk hw (by simp only [M_wed_r, if_pos c_1]) (by simp only [M_wed_s, if_pos c_1]) dX12_wed_11

def M_wedding_r (σ : Nat → Nat → Int32) (wd : Nat) (w : Int32) (what : Int32) : Int32 := if (M_in_r w.toInt64 0 (((nI wd) - 1).toInt64)) = 0 then (-101) else (if (M_in_r what.toInt64 0 3) = 0 then (-102) else (σ 6 ((4 * w.toNatClampNeg) + what.toNatClampNeg)))
set_option maxHeartbeats 4000000 in
set_option maxRecDepth 100000 in
theorem c_M_wedding (l : Launch) (D : va_G) (cI : ClassId) (a : Nat → Nat) (σ : Nat → Nat → Int32) (h : Int64) (wd : Nat) (w : Int32) (what : Int32) (hw0 : σ 0 13 = nI wd) (hw0b : wd ≤ 12) : gI l D [(cI, .int)] yX12_wedding wsX12_wedding 2 [.ref (a 0), .int w, .int what] (wM cI a σ h) (M_wedding_r σ wd w what) (wM cI a σ h) := by
  refine g_start (cc := cX12_wedding) (maxL := 3) (ret := some .int) (Qc := gQi D [(cI, .int)] (M_wedding_r σ wd w what) (wM cI a σ h)) (by decide) rfl (Nat.le_of_ble_eq_true rfl) ?_
  intro p e s m below meth C A ls S hr hlk hw hl
  obtain ⟨hx, hb, hml, hown, hts⟩ := id S
  have hinX12 : ∀ x ∈ u_ws RX12 TX12 38, x ∈ wsX12_wedding := fun x h => List.mem_cons_of_mem _ (List.mem_append_right _ h)
  have lk0 : Cond.fieldLink RX12 114 "CowsOwedModel" "weddings" "I" ∈ wsX12_wedding := by decide +kernel
  have lk1 : Cond.constantLong RX12 169 (3) ∈ wsX12_wedding := by decide +kernel
  have lk2 : Cond.fieldLink RX12 25 "CowsOwedModel" "rows" "[I" ∈ wsX12_wedding := by decide +kernel
  have hl : lv_has ls 3 [(0, .ref (a 0)), (1, .int w), (2, .int what)] := hl
  refine lv_iload_n hx hb dX12_wedding_0 rfl (lv_at hl 1 rfl) ?_
  refine lv_i2l hx hb dX12_wedding_1 rfl ?_
  refine lv_lconst (v := 0) hx hb dX12_wedding_2 (by decide) ?_
  refine lv_aload_n hx hb dX12_wedding_3 rfl (lv_at hl 0 rfl) ?_
  refine g_get S hw hinX12 (fs := fM a σ h) 0 rfl rfl 13 (by decide) lk0 (v := .int (nI wd)) (congrArg (fun z => some (Value.int z)) (hw0)) dX12_wedding_4 ?_
  refine lv_iconst (v := 1) hx hb dX12_wedding_7 (by decide) ?_
  refine lv_isub hx hb dX12_wedding_8 ?_
  refine lv_i2l hx hb dX12_wedding_9 rfl ?_
  refine g_callSi S hw (c_M_in l D [(cI, .int)] (wM cI a σ h) w.toInt64 0 (((nI wd) - 1).toInt64)) gX12_wedding_X12_in rfl 3 rfl (by decide +kernel) (by decide) (by decide) hl.1 rfl (Nat.le_of_ble_eq_true rfl) dX12_wedding_10 (fun H locs hw => ?_)
  refine lv_if_ne hx hb (tgt := 19) dX12_wedding_13 (by decide) (fun c_1 => ?_) (fun c_1 => ?_)
  · obtain ⟨e1, b1⟩ := M_in_lt (n := wd) (by omega) c_1
    have hl : lv_has ls 3 [(0, .ref (a 0)), (1, .int (nI w.toNatClampNeg)), (2, .int what)] := by rw [← e1]; exact hl
    refine lv_iload_n hx hb dX12_wedding_19 rfl (lv_at hl 2 rfl) ?_
    refine lv_i2l hx hb dX12_wedding_20 rfl ?_
    refine lv_lconst (v := 0) hx hb dX12_wedding_21 (by decide) ?_
    refine lv_ldc2 (v := 3) hx hb hown (hts _ lk1) dX12_wedding_22 ?_
    refine g_callSi S hw (c_M_in l D [(cI, .int)] (wM cI a σ h) what.toInt64 0 3) gX12_wedding_X12_in rfl 3 rfl (by decide +kernel) (by decide) (by decide) hl.1 rfl (Nat.le_of_ble_eq_true rfl) dX12_wedding_25 (fun H locs hw => ?_)
    refine lv_if_eq hx hb (tgt := 44) dX12_wedding_28 (by decide) (fun c_2 => ?_) (fun c_2 => ?_)
    · refine lv_bipush (v := (-102)) hx hb dX12_wedding_44 (by decide) ?_
      exact g_iret S hr hlk hw (by simp only [M_wedding_r, if_neg c_1, if_pos c_2]) rfl dX12_wedding_46
    · obtain ⟨e2, b2, b3⟩ := M_in_nat (l := 0) (h := 3) rfl rfl c_2
      have hl : lv_has ls 3 [(0, .ref (a 0)), (1, .int (nI w.toNatClampNeg)), (2, .int (nI what.toNatClampNeg))] := by rw [← e2]; exact hl
      refine lv_aload_n hx hb dX12_wedding_31 rfl (lv_at hl 0 rfl) ?_
      refine g_get S hw hinX12 (fs := fM a σ h) 0 rfl rfl 14 (by decide) lk2 (v := .ref (a 6)) rfl dX12_wedding_32 ?_
      refine lv_iconst (v := 4) hx hb dX12_wedding_35 (by decide) ?_
      refine lv_iload_n hx hb dX12_wedding_36 rfl (lv_at hl 1 rfl) ?_
      refine ln_imul (x := 4) (y := w.toNatClampNeg) hx hb dX12_wedding_37 ?_
      refine lv_iload_n hx hb dX12_wedding_38 rfl (lv_at hl 2 rfl) ?_
      refine ln_iadd (x := 4 * w.toNatClampNeg) (y := what.toNatClampNeg) hx hb dX12_wedding_39 ?_
      refine g_iald S hw (f := σ 6) (i := (4 * w.toNatClampNeg) + what.toNatClampNeg) (x := σ 6 ((4 * w.toNatClampNeg) + what.toNatClampNeg)) 6 0 rfl rfl (by omega) (by decide) rfl dX12_wedding_40 ?_
      refine lv_goto (tgt := 46) hx hb dX12_wedding_41 (by decide) ?_
      exact g_iret S hr hlk hw (by simp only [M_wedding_r, if_neg c_1, if_neg c_2]) rfl dX12_wedding_46
  · refine lv_bipush (v := (-101)) hx hb dX12_wedding_16 (by decide) ?_
    exact g_iret S hr hlk hw (by simp only [M_wedding_r, if_pos c_1]) rfl dX12_wedding_18

def M_divorce_r (σ : Nat → Nat → Int32) (wd : Nat) (w : Int32) : Int32 := if (M_in_r w.toInt64 0 (((nI wd) - 1).toInt64)) = 0 then (-101) else (if (σ 6 ((4 * w.toNatClampNeg) + 3)) = 1 then (-103) else (M_pays_r (up2 σ 6 ((4 * w.toNatClampNeg) + 3) 1) ((σ 6 (4 * w.toNatClampNeg + 1)).toNatClampNeg) ((σ 6 (4 * w.toNatClampNeg)).toNatClampNeg) (σ 6 (4 * w.toNatClampNeg + 2))))
def M_divorce_s (σ : Nat → Nat → Int32) (wd : Nat) (w : Int32) : Nat → Nat → Int32 := if (M_in_r w.toInt64 0 (((nI wd) - 1).toInt64)) = 0 then σ else (if (σ 6 ((4 * w.toNatClampNeg) + 3)) = 1 then σ else (M_pays_s (up2 σ 6 ((4 * w.toNatClampNeg) + 3) 1) ((σ 6 (4 * w.toNatClampNeg + 1)).toNatClampNeg) ((σ 6 (4 * w.toNatClampNeg)).toNatClampNeg) (σ 6 (4 * w.toNatClampNeg + 2))))
theorem M_divorce_s_k0 (σ : Nat → Nat → Int32) (wd : Nat) (w : Int32) : M_divorce_s σ wd w 0 = σ 0 := by
  unfold M_divorce_s
  by_cases z1 : (M_in_r w.toInt64 0 (((nI wd) - 1).toInt64)) = 0
  · refine Eq.trans (congrFun (if_pos z1) 0) ?_
    exact rfl
  · refine Eq.trans (congrFun (if_neg z1) 0) ?_
    by_cases z2 : (σ 6 ((4 * w.toNatClampNeg) + 3)) = 1
    · refine Eq.trans (congrFun (if_pos z2) 0) ?_
      exact rfl
    · refine Eq.trans (congrFun (if_neg z2) 0) ?_
      exact (M_pays_s_k0 (up2 σ 6 ((4 * w.toNatClampNeg) + 3) 1) ((σ 6 (4 * w.toNatClampNeg + 1)).toNatClampNeg) ((σ 6 (4 * w.toNatClampNeg)).toNatClampNeg) (σ 6 (4 * w.toNatClampNeg + 2))).trans (up2_n _ _ _ (by decide))
theorem M_divorce_s_k1 (σ : Nat → Nat → Int32) (wd : Nat) (w : Int32) : M_divorce_s σ wd w 1 = σ 1 := by
  unfold M_divorce_s
  by_cases z1 : (M_in_r w.toInt64 0 (((nI wd) - 1).toInt64)) = 0
  · refine Eq.trans (congrFun (if_pos z1) 1) ?_
    exact rfl
  · refine Eq.trans (congrFun (if_neg z1) 1) ?_
    by_cases z2 : (σ 6 ((4 * w.toNatClampNeg) + 3)) = 1
    · refine Eq.trans (congrFun (if_pos z2) 1) ?_
      exact rfl
    · refine Eq.trans (congrFun (if_neg z2) 1) ?_
      exact (M_pays_s_k1 (up2 σ 6 ((4 * w.toNatClampNeg) + 3) 1) ((σ 6 (4 * w.toNatClampNeg + 1)).toNatClampNeg) ((σ 6 (4 * w.toNatClampNeg)).toNatClampNeg) (σ 6 (4 * w.toNatClampNeg + 2))).trans (up2_n _ _ _ (by decide))
theorem M_divorce_s_k2 (σ : Nat → Nat → Int32) (wd : Nat) (w : Int32) : M_divorce_s σ wd w 2 = σ 2 := by
  unfold M_divorce_s
  by_cases z1 : (M_in_r w.toInt64 0 (((nI wd) - 1).toInt64)) = 0
  · refine Eq.trans (congrFun (if_pos z1) 2) ?_
    exact rfl
  · refine Eq.trans (congrFun (if_neg z1) 2) ?_
    by_cases z2 : (σ 6 ((4 * w.toNatClampNeg) + 3)) = 1
    · refine Eq.trans (congrFun (if_pos z2) 2) ?_
      exact rfl
    · refine Eq.trans (congrFun (if_neg z2) 2) ?_
      exact (M_pays_s_k2 (up2 σ 6 ((4 * w.toNatClampNeg) + 3) 1) ((σ 6 (4 * w.toNatClampNeg + 1)).toNatClampNeg) ((σ 6 (4 * w.toNatClampNeg)).toNatClampNeg) (σ 6 (4 * w.toNatClampNeg + 2))).trans (up2_n _ _ _ (by decide))
theorem M_divorce_s_k3 (σ : Nat → Nat → Int32) (wd : Nat) (w : Int32) : M_divorce_s σ wd w 3 = σ 3 := by
  unfold M_divorce_s
  by_cases z1 : (M_in_r w.toInt64 0 (((nI wd) - 1).toInt64)) = 0
  · refine Eq.trans (congrFun (if_pos z1) 3) ?_
    exact rfl
  · refine Eq.trans (congrFun (if_neg z1) 3) ?_
    by_cases z2 : (σ 6 ((4 * w.toNatClampNeg) + 3)) = 1
    · refine Eq.trans (congrFun (if_pos z2) 3) ?_
      exact rfl
    · refine Eq.trans (congrFun (if_neg z2) 3) ?_
      exact (M_pays_s_k3 (up2 σ 6 ((4 * w.toNatClampNeg) + 3) 1) ((σ 6 (4 * w.toNatClampNeg + 1)).toNatClampNeg) ((σ 6 (4 * w.toNatClampNeg)).toNatClampNeg) (σ 6 (4 * w.toNatClampNeg + 2))).trans (up2_n _ _ _ (by decide))
theorem M_divorce_s_k7 (σ : Nat → Nat → Int32) (wd : Nat) (w : Int32) : M_divorce_s σ wd w 7 = σ 7 := by
  unfold M_divorce_s
  by_cases z1 : (M_in_r w.toInt64 0 (((nI wd) - 1).toInt64)) = 0
  · refine Eq.trans (congrFun (if_pos z1) 7) ?_
    exact rfl
  · refine Eq.trans (congrFun (if_neg z1) 7) ?_
    by_cases z2 : (σ 6 ((4 * w.toNatClampNeg) + 3)) = 1
    · refine Eq.trans (congrFun (if_pos z2) 7) ?_
      exact rfl
    · refine Eq.trans (congrFun (if_neg z2) 7) ?_
      exact (M_pays_s_k7 (up2 σ 6 ((4 * w.toNatClampNeg) + 3) 1) ((σ 6 (4 * w.toNatClampNeg + 1)).toNatClampNeg) ((σ 6 (4 * w.toNatClampNeg)).toNatClampNeg) (σ 6 (4 * w.toNatClampNeg + 2))).trans (up2_n _ _ _ (by decide))
theorem M_divorce_s_k8 (σ : Nat → Nat → Int32) (wd : Nat) (w : Int32) : M_divorce_s σ wd w 8 = σ 8 := by
  unfold M_divorce_s
  by_cases z1 : (M_in_r w.toInt64 0 (((nI wd) - 1).toInt64)) = 0
  · refine Eq.trans (congrFun (if_pos z1) 8) ?_
    exact rfl
  · refine Eq.trans (congrFun (if_neg z1) 8) ?_
    by_cases z2 : (σ 6 ((4 * w.toNatClampNeg) + 3)) = 1
    · refine Eq.trans (congrFun (if_pos z2) 8) ?_
      exact rfl
    · refine Eq.trans (congrFun (if_neg z2) 8) ?_
      exact (M_pays_s_k8 (up2 σ 6 ((4 * w.toNatClampNeg) + 3) 1) ((σ 6 (4 * w.toNatClampNeg + 1)).toNatClampNeg) ((σ 6 (4 * w.toNatClampNeg)).toNatClampNeg) (σ 6 (4 * w.toNatClampNeg + 2))).trans (up2_n _ _ _ (by decide))
theorem M_divorce_s_k9 (σ : Nat → Nat → Int32) (wd : Nat) (w : Int32) : M_divorce_s σ wd w 9 = σ 9 := by
  unfold M_divorce_s
  by_cases z1 : (M_in_r w.toInt64 0 (((nI wd) - 1).toInt64)) = 0
  · refine Eq.trans (congrFun (if_pos z1) 9) ?_
    exact rfl
  · refine Eq.trans (congrFun (if_neg z1) 9) ?_
    by_cases z2 : (σ 6 ((4 * w.toNatClampNeg) + 3)) = 1
    · refine Eq.trans (congrFun (if_pos z2) 9) ?_
      exact rfl
    · refine Eq.trans (congrFun (if_neg z2) 9) ?_
      exact (M_pays_s_k9 (up2 σ 6 ((4 * w.toNatClampNeg) + 3) 1) ((σ 6 (4 * w.toNatClampNeg + 1)).toNatClampNeg) ((σ 6 (4 * w.toNatClampNeg)).toNatClampNeg) (σ 6 (4 * w.toNatClampNeg + 2))).trans (up2_n _ _ _ (by decide))
theorem M_divorce_s_k10 (σ : Nat → Nat → Int32) (wd : Nat) (w : Int32) : M_divorce_s σ wd w 10 = σ 10 := by
  unfold M_divorce_s
  by_cases z1 : (M_in_r w.toInt64 0 (((nI wd) - 1).toInt64)) = 0
  · refine Eq.trans (congrFun (if_pos z1) 10) ?_
    exact rfl
  · refine Eq.trans (congrFun (if_neg z1) 10) ?_
    by_cases z2 : (σ 6 ((4 * w.toNatClampNeg) + 3)) = 1
    · refine Eq.trans (congrFun (if_pos z2) 10) ?_
      exact rfl
    · refine Eq.trans (congrFun (if_neg z2) 10) ?_
      exact (M_pays_s_k10 (up2 σ 6 ((4 * w.toNatClampNeg) + 3) 1) ((σ 6 (4 * w.toNatClampNeg + 1)).toNatClampNeg) ((σ 6 (4 * w.toNatClampNeg)).toNatClampNeg) (σ 6 (4 * w.toNatClampNeg + 2))).trans (up2_n _ _ _ (by decide))
theorem M_divorce_s_k11 (σ : Nat → Nat → Int32) (wd : Nat) (w : Int32) : M_divorce_s σ wd w 11 = σ 11 := by
  unfold M_divorce_s
  by_cases z1 : (M_in_r w.toInt64 0 (((nI wd) - 1).toInt64)) = 0
  · refine Eq.trans (congrFun (if_pos z1) 11) ?_
    exact rfl
  · refine Eq.trans (congrFun (if_neg z1) 11) ?_
    by_cases z2 : (σ 6 ((4 * w.toNatClampNeg) + 3)) = 1
    · refine Eq.trans (congrFun (if_pos z2) 11) ?_
      exact rfl
    · refine Eq.trans (congrFun (if_neg z2) 11) ?_
      exact (M_pays_s_k11 (up2 σ 6 ((4 * w.toNatClampNeg) + 3) 1) ((σ 6 (4 * w.toNatClampNeg + 1)).toNatClampNeg) ((σ 6 (4 * w.toNatClampNeg)).toNatClampNeg) (σ 6 (4 * w.toNatClampNeg + 2))).trans (up2_n _ _ _ (by decide))
theorem M_divorce_s_k12 (σ : Nat → Nat → Int32) (wd : Nat) (w : Int32) : M_divorce_s σ wd w 12 = σ 12 := by
  unfold M_divorce_s
  by_cases z1 : (M_in_r w.toInt64 0 (((nI wd) - 1).toInt64)) = 0
  · refine Eq.trans (congrFun (if_pos z1) 12) ?_
    exact rfl
  · refine Eq.trans (congrFun (if_neg z1) 12) ?_
    by_cases z2 : (σ 6 ((4 * w.toNatClampNeg) + 3)) = 1
    · refine Eq.trans (congrFun (if_pos z2) 12) ?_
      exact rfl
    · refine Eq.trans (congrFun (if_neg z2) 12) ?_
      exact (M_pays_s_k12 (up2 σ 6 ((4 * w.toNatClampNeg) + 3) 1) ((σ 6 (4 * w.toNatClampNeg + 1)).toNatClampNeg) ((σ 6 (4 * w.toNatClampNeg)).toNatClampNeg) (σ 6 (4 * w.toNatClampNeg + 2))).trans (up2_n _ _ _ (by decide))
theorem M_divorce_s_k13 (σ : Nat → Nat → Int32) (wd : Nat) (w : Int32) : M_divorce_s σ wd w 13 = σ 13 := by
  unfold M_divorce_s
  by_cases z1 : (M_in_r w.toInt64 0 (((nI wd) - 1).toInt64)) = 0
  · refine Eq.trans (congrFun (if_pos z1) 13) ?_
    exact rfl
  · refine Eq.trans (congrFun (if_neg z1) 13) ?_
    by_cases z2 : (σ 6 ((4 * w.toNatClampNeg) + 3)) = 1
    · refine Eq.trans (congrFun (if_pos z2) 13) ?_
      exact rfl
    · refine Eq.trans (congrFun (if_neg z2) 13) ?_
      exact (M_pays_s_k13 (up2 σ 6 ((4 * w.toNatClampNeg) + 3) 1) ((σ 6 (4 * w.toNatClampNeg + 1)).toNatClampNeg) ((σ 6 (4 * w.toNatClampNeg)).toNatClampNeg) (σ 6 (4 * w.toNatClampNeg + 2))).trans (up2_n _ _ _ (by decide))
theorem M_divorce_s_k14 (σ : Nat → Nat → Int32) (wd : Nat) (w : Int32) : M_divorce_s σ wd w 14 = σ 14 := by
  unfold M_divorce_s
  by_cases z1 : (M_in_r w.toInt64 0 (((nI wd) - 1).toInt64)) = 0
  · refine Eq.trans (congrFun (if_pos z1) 14) ?_
    exact rfl
  · refine Eq.trans (congrFun (if_neg z1) 14) ?_
    by_cases z2 : (σ 6 ((4 * w.toNatClampNeg) + 3)) = 1
    · refine Eq.trans (congrFun (if_pos z2) 14) ?_
      exact rfl
    · refine Eq.trans (congrFun (if_neg z2) 14) ?_
      exact (M_pays_s_k14 (up2 σ 6 ((4 * w.toNatClampNeg) + 3) 1) ((σ 6 (4 * w.toNatClampNeg + 1)).toNatClampNeg) ((σ 6 (4 * w.toNatClampNeg)).toNatClampNeg) (σ 6 (4 * w.toNatClampNeg + 2))).trans (up2_n _ _ _ (by decide))
theorem M_divorce_s_k15 (σ : Nat → Nat → Int32) (wd : Nat) (w : Int32) : M_divorce_s σ wd w 15 = σ 15 := by
  unfold M_divorce_s
  by_cases z1 : (M_in_r w.toInt64 0 (((nI wd) - 1).toInt64)) = 0
  · refine Eq.trans (congrFun (if_pos z1) 15) ?_
    exact rfl
  · refine Eq.trans (congrFun (if_neg z1) 15) ?_
    by_cases z2 : (σ 6 ((4 * w.toNatClampNeg) + 3)) = 1
    · refine Eq.trans (congrFun (if_pos z2) 15) ?_
      exact rfl
    · refine Eq.trans (congrFun (if_neg z2) 15) ?_
      exact (M_pays_s_k15 (up2 σ 6 ((4 * w.toNatClampNeg) + 3) 1) ((σ 6 (4 * w.toNatClampNeg + 1)).toNatClampNeg) ((σ 6 (4 * w.toNatClampNeg)).toNatClampNeg) (σ 6 (4 * w.toNatClampNeg + 2))).trans (up2_n _ _ _ (by decide))
theorem M_divorce_s_k16 (σ : Nat → Nat → Int32) (wd : Nat) (w : Int32) : M_divorce_s σ wd w 16 = σ 16 := by
  unfold M_divorce_s
  by_cases z1 : (M_in_r w.toInt64 0 (((nI wd) - 1).toInt64)) = 0
  · refine Eq.trans (congrFun (if_pos z1) 16) ?_
    exact rfl
  · refine Eq.trans (congrFun (if_neg z1) 16) ?_
    by_cases z2 : (σ 6 ((4 * w.toNatClampNeg) + 3)) = 1
    · refine Eq.trans (congrFun (if_pos z2) 16) ?_
      exact rfl
    · refine Eq.trans (congrFun (if_neg z2) 16) ?_
      exact (M_pays_s_k16 (up2 σ 6 ((4 * w.toNatClampNeg) + 3) 1) ((σ 6 (4 * w.toNatClampNeg + 1)).toNatClampNeg) ((σ 6 (4 * w.toNatClampNeg)).toNatClampNeg) (σ 6 (4 * w.toNatClampNeg + 2))).trans (up2_n _ _ _ (by decide))
theorem M_divorce_s_k17 (σ : Nat → Nat → Int32) (wd : Nat) (w : Int32) : M_divorce_s σ wd w 17 = σ 17 := by
  unfold M_divorce_s
  by_cases z1 : (M_in_r w.toInt64 0 (((nI wd) - 1).toInt64)) = 0
  · refine Eq.trans (congrFun (if_pos z1) 17) ?_
    exact rfl
  · refine Eq.trans (congrFun (if_neg z1) 17) ?_
    by_cases z2 : (σ 6 ((4 * w.toNatClampNeg) + 3)) = 1
    · refine Eq.trans (congrFun (if_pos z2) 17) ?_
      exact rfl
    · refine Eq.trans (congrFun (if_neg z2) 17) ?_
      exact (M_pays_s_k17 (up2 σ 6 ((4 * w.toNatClampNeg) + 3) 1) ((σ 6 (4 * w.toNatClampNeg + 1)).toNatClampNeg) ((σ 6 (4 * w.toNatClampNeg)).toNatClampNeg) (σ 6 (4 * w.toNatClampNeg + 2))).trans (up2_n _ _ _ (by decide))
theorem M_divorce_s_k18 (σ : Nat → Nat → Int32) (wd : Nat) (w : Int32) : M_divorce_s σ wd w 18 = σ 18 := by
  unfold M_divorce_s
  by_cases z1 : (M_in_r w.toInt64 0 (((nI wd) - 1).toInt64)) = 0
  · refine Eq.trans (congrFun (if_pos z1) 18) ?_
    exact rfl
  · refine Eq.trans (congrFun (if_neg z1) 18) ?_
    by_cases z2 : (σ 6 ((4 * w.toNatClampNeg) + 3)) = 1
    · refine Eq.trans (congrFun (if_pos z2) 18) ?_
      exact rfl
    · refine Eq.trans (congrFun (if_neg z2) 18) ?_
      exact (M_pays_s_k18 (up2 σ 6 ((4 * w.toNatClampNeg) + 3) 1) ((σ 6 (4 * w.toNatClampNeg + 1)).toNatClampNeg) ((σ 6 (4 * w.toNatClampNeg)).toNatClampNeg) (σ 6 (4 * w.toNatClampNeg + 2))).trans (up2_n _ _ _ (by decide))
theorem M_divorce_s_k19 (σ : Nat → Nat → Int32) (wd : Nat) (w : Int32) : M_divorce_s σ wd w 19 = σ 19 := by
  unfold M_divorce_s
  by_cases z1 : (M_in_r w.toInt64 0 (((nI wd) - 1).toInt64)) = 0
  · refine Eq.trans (congrFun (if_pos z1) 19) ?_
    exact rfl
  · refine Eq.trans (congrFun (if_neg z1) 19) ?_
    by_cases z2 : (σ 6 ((4 * w.toNatClampNeg) + 3)) = 1
    · refine Eq.trans (congrFun (if_pos z2) 19) ?_
      exact rfl
    · refine Eq.trans (congrFun (if_neg z2) 19) ?_
      exact (M_pays_s_k19 (up2 σ 6 ((4 * w.toNatClampNeg) + 3) 1) ((σ 6 (4 * w.toNatClampNeg + 1)).toNatClampNeg) ((σ 6 (4 * w.toNatClampNeg)).toNatClampNeg) (σ 6 (4 * w.toNatClampNeg + 2))).trans (up2_n _ _ _ (by decide))
set_option maxHeartbeats 4000000 in
set_option maxRecDepth 100000 in
theorem c_M_divorce (l : Launch) (D : va_G) (cI : ClassId) (a : Nat → Nat) (σ : Nat → Nat → Int32) (h : Int64) (wd : Nat) (w : Int32) (hw0 : σ 0 13 = nI wd) (hw0b : wd ≤ 12) (hrw : ∀ k, k < wd → (σ 6 (4 * k) = nI (σ 6 (4 * k)).toNatClampNeg ∧ (σ 6 (4 * k)).toNatClampNeg < 4) ∧ σ 6 (4 * k + 1) = nI (σ 6 (4 * k + 1)).toNatClampNeg ∧ (σ 6 (4 * k + 1)).toNatClampNeg < 4) : gI l D [(cI, .int)] yX12_divorce wsX12_divorce 4 [.ref (a 0), .int w] (wM cI a σ h) (M_divorce_r σ wd w) (wM cI a (M_divorce_s σ wd w) h) := by
  refine g_start (cc := cX12_divorce) (maxL := 2) (ret := some .int) (Qc := gQi D [(cI, .int)] (M_divorce_r σ wd w) (wM cI a (M_divorce_s σ wd w) h)) (by decide) rfl (Nat.le_of_ble_eq_true rfl) ?_
  intro p e s m below meth C A ls S hr hlk hw hl
  obtain ⟨hx, hb, hml, hown, hts⟩ := id S
  have hinX12 : ∀ x ∈ u_ws RX12 TX12 38, x ∈ wsX12_divorce := fun x h => List.mem_cons_of_mem _ (List.mem_append_right _ h)
  have lk0 : Cond.fieldLink RX12 114 "CowsOwedModel" "weddings" "I" ∈ wsX12_divorce := by decide +kernel
  have lk1 : Cond.fieldLink RX12 25 "CowsOwedModel" "rows" "[I" ∈ wsX12_divorce := by decide +kernel
  have hl : lv_has ls 2 [(0, .ref (a 0)), (1, .int w)] := hl
  refine lv_iload_n hx hb dX12_divorce_0 rfl (lv_at hl 1 rfl) ?_
  refine lv_i2l hx hb dX12_divorce_1 rfl ?_
  refine lv_lconst (v := 0) hx hb dX12_divorce_2 (by decide) ?_
  refine lv_aload_n hx hb dX12_divorce_3 rfl (lv_at hl 0 rfl) ?_
  refine g_get S hw hinX12 (fs := fM a σ h) 0 rfl rfl 13 (by decide) lk0 (v := .int (nI wd)) (congrArg (fun z => some (Value.int z)) (hw0)) dX12_divorce_4 ?_
  refine lv_iconst (v := 1) hx hb dX12_divorce_7 (by decide) ?_
  refine lv_isub hx hb dX12_divorce_8 ?_
  refine lv_i2l hx hb dX12_divorce_9 rfl ?_
  refine g_callSi S hw (c_M_in l D [(cI, .int)] (wM cI a σ h) w.toInt64 0 (((nI wd) - 1).toInt64)) gX12_divorce_X12_in rfl 3 rfl (by decide +kernel) (by decide) (by decide) hl.1 rfl (Nat.le_of_ble_eq_true rfl) dX12_divorce_10 (fun H locs hw => ?_)
  refine lv_if_ne hx hb (tgt := 19) dX12_divorce_13 (by decide) (fun c_1 => ?_) (fun c_1 => ?_)
  · obtain ⟨e1, b1⟩ := M_in_lt (n := wd) (by omega) c_1
    have hrw1 := hrw _ b1
    have hl : lv_has ls 2 [(0, .ref (a 0)), (1, .int (nI w.toNatClampNeg))] := by rw [← e1]; exact hl
    refine lv_aload_n hx hb dX12_divorce_19 rfl (lv_at hl 0 rfl) ?_
    refine g_get S hw hinX12 (fs := fM a σ h) 0 rfl rfl 14 (by decide) lk1 (v := .ref (a 6)) rfl dX12_divorce_20 ?_
    refine lv_iconst (v := 4) hx hb dX12_divorce_23 (by decide) ?_
    refine lv_iload_n hx hb dX12_divorce_24 rfl (lv_at hl 1 rfl) ?_
    refine ln_imul (x := 4) (y := w.toNatClampNeg) hx hb dX12_divorce_25 ?_
    refine lv_iconst (v := 3) hx hb dX12_divorce_26 (by decide) ?_
    refine ln_iadd (x := 4 * w.toNatClampNeg) (y := 3) hx hb dX12_divorce_27 ?_
    refine g_iald S hw (f := σ 6) (i := (4 * w.toNatClampNeg) + 3) (x := σ 6 ((4 * w.toNatClampNeg) + 3)) 6 0 rfl rfl (by omega) (by decide) rfl dX12_divorce_28 ?_
    refine lv_iconst (v := 1) hx hb dX12_divorce_29 (by decide) ?_
    refine lv_icmp_ne hx hb (tgt := 36) dX12_divorce_30 (by decide) (fun c_2 => ?_) (fun c_2 => ?_)
    · refine lv_aload_n hx hb dX12_divorce_36 rfl (lv_at hl 0 rfl) ?_
      refine g_get S hw hinX12 (fs := fM a σ h) 0 rfl rfl 14 (by decide) lk1 (v := .ref (a 6)) rfl dX12_divorce_37 ?_
      refine lv_iconst (v := 4) hx hb dX12_divorce_40 (by decide) ?_
      refine lv_iload_n hx hb dX12_divorce_41 rfl (lv_at hl 1 rfl) ?_
      refine ln_imul (x := 4) (y := w.toNatClampNeg) hx hb dX12_divorce_42 ?_
      refine lv_iconst (v := 3) hx hb dX12_divorce_43 (by decide) ?_
      refine ln_iadd (x := 4 * w.toNatClampNeg) (y := 3) hx hb dX12_divorce_44 ?_
      refine lv_iconst (v := 1) hx hb dX12_divorce_45 (by decide) ?_
      refine g_iast S hw (f := σ 6) (i := (4 * w.toNatClampNeg) + 3) 6 0 rfl rfl (by omega) (by decide) (w2 := wM cI a (up2 σ 6 ((4 * w.toNatClampNeg) + 3) 1) h) (wM_a6 _ _ _ _ _ _) dX12_divorce_46 (fun H locs hw => ?_)
      refine lv_aload_n hx hb dX12_divorce_47 rfl (lv_at hl 0 rfl) ?_
      refine lv_aload_n hx hb dX12_divorce_48 rfl (lv_at hl 0 rfl) ?_
      refine g_get S hw hinX12 (fs := fM a (up2 σ 6 ((4 * w.toNatClampNeg) + 3) 1) h) 0 rfl rfl 14 (by decide) lk1 (v := .ref (a 6)) rfl dX12_divorce_49 ?_
      refine lv_iconst (v := 4) hx hb dX12_divorce_52 (by decide) ?_
      refine lv_iload_n hx hb dX12_divorce_53 rfl (lv_at hl 1 rfl) ?_
      refine ln_imul (x := 4) (y := w.toNatClampNeg) hx hb dX12_divorce_54 ?_
      refine lv_iconst (v := 1) hx hb dX12_divorce_55 (by decide) ?_
      refine ln_iadd (x := 4 * w.toNatClampNeg) (y := 1) hx hb dX12_divorce_56 ?_
      refine g_iald S hw (f := (up2 σ 6 ((4 * w.toNatClampNeg) + 3) 1) 6) (i := (4 * w.toNatClampNeg) + 1) (x := nI ((σ 6 (4 * w.toNatClampNeg + 1)).toNatClampNeg)) 6 0 rfl rfl (by omega) (by decide) ((pk_un (by omega)).trans (hrw _ b1).2.1) dX12_divorce_57 ?_
      refine lv_aload_n hx hb dX12_divorce_58 rfl (lv_at hl 0 rfl) ?_
      refine g_get S hw hinX12 (fs := fM a (up2 σ 6 ((4 * w.toNatClampNeg) + 3) 1) h) 0 rfl rfl 14 (by decide) lk1 (v := .ref (a 6)) rfl dX12_divorce_59 ?_
      refine lv_iconst (v := 4) hx hb dX12_divorce_62 (by decide) ?_
      refine lv_iload_n hx hb dX12_divorce_63 rfl (lv_at hl 1 rfl) ?_
      refine ln_imul (x := 4) (y := w.toNatClampNeg) hx hb dX12_divorce_64 ?_
      refine g_iald S hw (f := (up2 σ 6 ((4 * w.toNatClampNeg) + 3) 1) 6) (i := 4 * w.toNatClampNeg) (x := nI ((σ 6 (4 * w.toNatClampNeg)).toNatClampNeg)) 6 0 rfl rfl (by omega) (by decide) ((pk_un (by omega)).trans (hrw _ b1).1.1) dX12_divorce_65 ?_
      refine lv_aload_n hx hb dX12_divorce_66 rfl (lv_at hl 0 rfl) ?_
      refine g_get S hw hinX12 (fs := fM a (up2 σ 6 ((4 * w.toNatClampNeg) + 3) 1) h) 0 rfl rfl 14 (by decide) lk1 (v := .ref (a 6)) rfl dX12_divorce_67 ?_
      refine lv_iconst (v := 4) hx hb dX12_divorce_70 (by decide) ?_
      refine lv_iload_n hx hb dX12_divorce_71 rfl (lv_at hl 1 rfl) ?_
      refine ln_imul (x := 4) (y := w.toNatClampNeg) hx hb dX12_divorce_72 ?_
      refine lv_iconst (v := 2) hx hb dX12_divorce_73 (by decide) ?_
      refine ln_iadd (x := 4 * w.toNatClampNeg) (y := 2) hx hb dX12_divorce_74 ?_
      refine g_iald S hw (f := (up2 σ 6 ((4 * w.toNatClampNeg) + 3) 1) 6) (i := (4 * w.toNatClampNeg) + 2) (x := σ 6 (4 * w.toNatClampNeg + 2)) 6 0 rfl rfl (by omega) (by decide) (pk_un (by omega)) dX12_divorce_75 ?_
      refine g_callVi S hw (c_M_pays l D cI a (up2 σ 6 ((4 * w.toNatClampNeg) + 3) 1) h ((σ 6 (4 * w.toNatClampNeg + 1)).toNatClampNeg) ((σ 6 (4 * w.toNatClampNeg)).toNatClampNeg) (σ 6 (4 * w.toNatClampNeg + 2)) (by omega) (by omega)) gX12_divorce_X12_pays rfl 0 rfl rfl 3 rfl (by decide +kernel) (by decide) (by decide) hl.1 rfl (Nat.le_of_ble_eq_true rfl) dX12_divorce_76 (fun H locs hw => ?_)
      exact g_iret S hr hlk hw (by simp only [M_divorce_r, if_neg c_1, if_neg c_2]) (by simp only [M_divorce_s, if_neg c_1, if_neg c_2]) dX12_divorce_79
    · refine lv_bipush (v := (-103)) hx hb dX12_divorce_33 (by decide) ?_
      exact g_iret S hr hlk hw (by simp only [M_divorce_r, if_neg c_1, if_pos c_2]) (by simp only [M_divorce_s, if_neg c_1, if_pos c_2]) dX12_divorce_35
  · refine lv_bipush (v := (-101)) hx hb dX12_divorce_16 (by decide) ?_
    exact g_iret S hr hlk hw (by simp only [M_divorce_r, if_pos c_1]) (by simp only [M_divorce_s, if_pos c_1]) dX12_divorce_18

def M_plan_r (σ : Nat → Nat → Int32) (n : Nat) (pl : Nat) (his : Int32) (hers : Int32) : Int32 := if (M_areTwo_r σ his hers) = 0 then (-101) else (if pl = 4 then (-104) else (nI (pl + 1)))
def M_plan_s (σ : Nat → Nat → Int32) (n : Nat) (pl : Nat) (his : Int32) (hers : Int32) : Nat → Nat → Int32 := if (M_areTwo_r σ his hers) = 0 then σ else (if pl = 4 then σ else (up2 (up2 (up2 σ 7 (2 * pl) (nI his.toNatClampNeg)) 7 ((2 * pl) + 1) (nI hers.toNatClampNeg)) 0 15 (nI (pl + 1))))
theorem M_plan_s_k1 (σ : Nat → Nat → Int32) (n : Nat) (pl : Nat) (his : Int32) (hers : Int32) : M_plan_s σ n pl his hers 1 = σ 1 := by
  unfold M_plan_s
  by_cases z1 : (M_areTwo_r σ his hers) = 0
  · refine Eq.trans (congrFun (if_pos z1) 1) ?_
    exact rfl
  · refine Eq.trans (congrFun (if_neg z1) 1) ?_
    by_cases z2 : pl = 4
    · refine Eq.trans (congrFun (if_pos z2) 1) ?_
      exact rfl
    · refine Eq.trans (congrFun (if_neg z2) 1) ?_
      exact (up2_n _ _ _ (by decide)).trans ((up2_n _ _ _ (by decide)).trans (up2_n _ _ _ (by decide)))
theorem M_plan_s_k2 (σ : Nat → Nat → Int32) (n : Nat) (pl : Nat) (his : Int32) (hers : Int32) : M_plan_s σ n pl his hers 2 = σ 2 := by
  unfold M_plan_s
  by_cases z1 : (M_areTwo_r σ his hers) = 0
  · refine Eq.trans (congrFun (if_pos z1) 2) ?_
    exact rfl
  · refine Eq.trans (congrFun (if_neg z1) 2) ?_
    by_cases z2 : pl = 4
    · refine Eq.trans (congrFun (if_pos z2) 2) ?_
      exact rfl
    · refine Eq.trans (congrFun (if_neg z2) 2) ?_
      exact (up2_n _ _ _ (by decide)).trans ((up2_n _ _ _ (by decide)).trans (up2_n _ _ _ (by decide)))
theorem M_plan_s_k3 (σ : Nat → Nat → Int32) (n : Nat) (pl : Nat) (his : Int32) (hers : Int32) : M_plan_s σ n pl his hers 3 = σ 3 := by
  unfold M_plan_s
  by_cases z1 : (M_areTwo_r σ his hers) = 0
  · refine Eq.trans (congrFun (if_pos z1) 3) ?_
    exact rfl
  · refine Eq.trans (congrFun (if_neg z1) 3) ?_
    by_cases z2 : pl = 4
    · refine Eq.trans (congrFun (if_pos z2) 3) ?_
      exact rfl
    · refine Eq.trans (congrFun (if_neg z2) 3) ?_
      exact (up2_n _ _ _ (by decide)).trans ((up2_n _ _ _ (by decide)).trans (up2_n _ _ _ (by decide)))
theorem M_plan_s_k4 (σ : Nat → Nat → Int32) (n : Nat) (pl : Nat) (his : Int32) (hers : Int32) : M_plan_s σ n pl his hers 4 = σ 4 := by
  unfold M_plan_s
  by_cases z1 : (M_areTwo_r σ his hers) = 0
  · refine Eq.trans (congrFun (if_pos z1) 4) ?_
    exact rfl
  · refine Eq.trans (congrFun (if_neg z1) 4) ?_
    by_cases z2 : pl = 4
    · refine Eq.trans (congrFun (if_pos z2) 4) ?_
      exact rfl
    · refine Eq.trans (congrFun (if_neg z2) 4) ?_
      exact (up2_n _ _ _ (by decide)).trans ((up2_n _ _ _ (by decide)).trans (up2_n _ _ _ (by decide)))
theorem M_plan_s_k5 (σ : Nat → Nat → Int32) (n : Nat) (pl : Nat) (his : Int32) (hers : Int32) : M_plan_s σ n pl his hers 5 = σ 5 := by
  unfold M_plan_s
  by_cases z1 : (M_areTwo_r σ his hers) = 0
  · refine Eq.trans (congrFun (if_pos z1) 5) ?_
    exact rfl
  · refine Eq.trans (congrFun (if_neg z1) 5) ?_
    by_cases z2 : pl = 4
    · refine Eq.trans (congrFun (if_pos z2) 5) ?_
      exact rfl
    · refine Eq.trans (congrFun (if_neg z2) 5) ?_
      exact (up2_n _ _ _ (by decide)).trans ((up2_n _ _ _ (by decide)).trans (up2_n _ _ _ (by decide)))
theorem M_plan_s_k6 (σ : Nat → Nat → Int32) (n : Nat) (pl : Nat) (his : Int32) (hers : Int32) : M_plan_s σ n pl his hers 6 = σ 6 := by
  unfold M_plan_s
  by_cases z1 : (M_areTwo_r σ his hers) = 0
  · refine Eq.trans (congrFun (if_pos z1) 6) ?_
    exact rfl
  · refine Eq.trans (congrFun (if_neg z1) 6) ?_
    by_cases z2 : pl = 4
    · refine Eq.trans (congrFun (if_pos z2) 6) ?_
      exact rfl
    · refine Eq.trans (congrFun (if_neg z2) 6) ?_
      exact (up2_n _ _ _ (by decide)).trans ((up2_n _ _ _ (by decide)).trans (up2_n _ _ _ (by decide)))
theorem M_plan_s_k8 (σ : Nat → Nat → Int32) (n : Nat) (pl : Nat) (his : Int32) (hers : Int32) : M_plan_s σ n pl his hers 8 = σ 8 := by
  unfold M_plan_s
  by_cases z1 : (M_areTwo_r σ his hers) = 0
  · refine Eq.trans (congrFun (if_pos z1) 8) ?_
    exact rfl
  · refine Eq.trans (congrFun (if_neg z1) 8) ?_
    by_cases z2 : pl = 4
    · refine Eq.trans (congrFun (if_pos z2) 8) ?_
      exact rfl
    · refine Eq.trans (congrFun (if_neg z2) 8) ?_
      exact (up2_n _ _ _ (by decide)).trans ((up2_n _ _ _ (by decide)).trans (up2_n _ _ _ (by decide)))
theorem M_plan_s_k9 (σ : Nat → Nat → Int32) (n : Nat) (pl : Nat) (his : Int32) (hers : Int32) : M_plan_s σ n pl his hers 9 = σ 9 := by
  unfold M_plan_s
  by_cases z1 : (M_areTwo_r σ his hers) = 0
  · refine Eq.trans (congrFun (if_pos z1) 9) ?_
    exact rfl
  · refine Eq.trans (congrFun (if_neg z1) 9) ?_
    by_cases z2 : pl = 4
    · refine Eq.trans (congrFun (if_pos z2) 9) ?_
      exact rfl
    · refine Eq.trans (congrFun (if_neg z2) 9) ?_
      exact (up2_n _ _ _ (by decide)).trans ((up2_n _ _ _ (by decide)).trans (up2_n _ _ _ (by decide)))
theorem M_plan_s_k10 (σ : Nat → Nat → Int32) (n : Nat) (pl : Nat) (his : Int32) (hers : Int32) : M_plan_s σ n pl his hers 10 = σ 10 := by
  unfold M_plan_s
  by_cases z1 : (M_areTwo_r σ his hers) = 0
  · refine Eq.trans (congrFun (if_pos z1) 10) ?_
    exact rfl
  · refine Eq.trans (congrFun (if_neg z1) 10) ?_
    by_cases z2 : pl = 4
    · refine Eq.trans (congrFun (if_pos z2) 10) ?_
      exact rfl
    · refine Eq.trans (congrFun (if_neg z2) 10) ?_
      exact (up2_n _ _ _ (by decide)).trans ((up2_n _ _ _ (by decide)).trans (up2_n _ _ _ (by decide)))
theorem M_plan_s_k11 (σ : Nat → Nat → Int32) (n : Nat) (pl : Nat) (his : Int32) (hers : Int32) : M_plan_s σ n pl his hers 11 = σ 11 := by
  unfold M_plan_s
  by_cases z1 : (M_areTwo_r σ his hers) = 0
  · refine Eq.trans (congrFun (if_pos z1) 11) ?_
    exact rfl
  · refine Eq.trans (congrFun (if_neg z1) 11) ?_
    by_cases z2 : pl = 4
    · refine Eq.trans (congrFun (if_pos z2) 11) ?_
      exact rfl
    · refine Eq.trans (congrFun (if_neg z2) 11) ?_
      exact (up2_n _ _ _ (by decide)).trans ((up2_n _ _ _ (by decide)).trans (up2_n _ _ _ (by decide)))
theorem M_plan_s_k12 (σ : Nat → Nat → Int32) (n : Nat) (pl : Nat) (his : Int32) (hers : Int32) : M_plan_s σ n pl his hers 12 = σ 12 := by
  unfold M_plan_s
  by_cases z1 : (M_areTwo_r σ his hers) = 0
  · refine Eq.trans (congrFun (if_pos z1) 12) ?_
    exact rfl
  · refine Eq.trans (congrFun (if_neg z1) 12) ?_
    by_cases z2 : pl = 4
    · refine Eq.trans (congrFun (if_pos z2) 12) ?_
      exact rfl
    · refine Eq.trans (congrFun (if_neg z2) 12) ?_
      exact (up2_n _ _ _ (by decide)).trans ((up2_n _ _ _ (by decide)).trans (up2_n _ _ _ (by decide)))
theorem M_plan_s_k13 (σ : Nat → Nat → Int32) (n : Nat) (pl : Nat) (his : Int32) (hers : Int32) : M_plan_s σ n pl his hers 13 = σ 13 := by
  unfold M_plan_s
  by_cases z1 : (M_areTwo_r σ his hers) = 0
  · refine Eq.trans (congrFun (if_pos z1) 13) ?_
    exact rfl
  · refine Eq.trans (congrFun (if_neg z1) 13) ?_
    by_cases z2 : pl = 4
    · refine Eq.trans (congrFun (if_pos z2) 13) ?_
      exact rfl
    · refine Eq.trans (congrFun (if_neg z2) 13) ?_
      exact (up2_n _ _ _ (by decide)).trans ((up2_n _ _ _ (by decide)).trans (up2_n _ _ _ (by decide)))
theorem M_plan_s_k14 (σ : Nat → Nat → Int32) (n : Nat) (pl : Nat) (his : Int32) (hers : Int32) : M_plan_s σ n pl his hers 14 = σ 14 := by
  unfold M_plan_s
  by_cases z1 : (M_areTwo_r σ his hers) = 0
  · refine Eq.trans (congrFun (if_pos z1) 14) ?_
    exact rfl
  · refine Eq.trans (congrFun (if_neg z1) 14) ?_
    by_cases z2 : pl = 4
    · refine Eq.trans (congrFun (if_pos z2) 14) ?_
      exact rfl
    · refine Eq.trans (congrFun (if_neg z2) 14) ?_
      exact (up2_n _ _ _ (by decide)).trans ((up2_n _ _ _ (by decide)).trans (up2_n _ _ _ (by decide)))
theorem M_plan_s_k15 (σ : Nat → Nat → Int32) (n : Nat) (pl : Nat) (his : Int32) (hers : Int32) : M_plan_s σ n pl his hers 15 = σ 15 := by
  unfold M_plan_s
  by_cases z1 : (M_areTwo_r σ his hers) = 0
  · refine Eq.trans (congrFun (if_pos z1) 15) ?_
    exact rfl
  · refine Eq.trans (congrFun (if_neg z1) 15) ?_
    by_cases z2 : pl = 4
    · refine Eq.trans (congrFun (if_pos z2) 15) ?_
      exact rfl
    · refine Eq.trans (congrFun (if_neg z2) 15) ?_
      exact (up2_n _ _ _ (by decide)).trans ((up2_n _ _ _ (by decide)).trans (up2_n _ _ _ (by decide)))
theorem M_plan_s_k16 (σ : Nat → Nat → Int32) (n : Nat) (pl : Nat) (his : Int32) (hers : Int32) : M_plan_s σ n pl his hers 16 = σ 16 := by
  unfold M_plan_s
  by_cases z1 : (M_areTwo_r σ his hers) = 0
  · refine Eq.trans (congrFun (if_pos z1) 16) ?_
    exact rfl
  · refine Eq.trans (congrFun (if_neg z1) 16) ?_
    by_cases z2 : pl = 4
    · refine Eq.trans (congrFun (if_pos z2) 16) ?_
      exact rfl
    · refine Eq.trans (congrFun (if_neg z2) 16) ?_
      exact (up2_n _ _ _ (by decide)).trans ((up2_n _ _ _ (by decide)).trans (up2_n _ _ _ (by decide)))
theorem M_plan_s_k17 (σ : Nat → Nat → Int32) (n : Nat) (pl : Nat) (his : Int32) (hers : Int32) : M_plan_s σ n pl his hers 17 = σ 17 := by
  unfold M_plan_s
  by_cases z1 : (M_areTwo_r σ his hers) = 0
  · refine Eq.trans (congrFun (if_pos z1) 17) ?_
    exact rfl
  · refine Eq.trans (congrFun (if_neg z1) 17) ?_
    by_cases z2 : pl = 4
    · refine Eq.trans (congrFun (if_pos z2) 17) ?_
      exact rfl
    · refine Eq.trans (congrFun (if_neg z2) 17) ?_
      exact (up2_n _ _ _ (by decide)).trans ((up2_n _ _ _ (by decide)).trans (up2_n _ _ _ (by decide)))
theorem M_plan_s_k18 (σ : Nat → Nat → Int32) (n : Nat) (pl : Nat) (his : Int32) (hers : Int32) : M_plan_s σ n pl his hers 18 = σ 18 := by
  unfold M_plan_s
  by_cases z1 : (M_areTwo_r σ his hers) = 0
  · refine Eq.trans (congrFun (if_pos z1) 18) ?_
    exact rfl
  · refine Eq.trans (congrFun (if_neg z1) 18) ?_
    by_cases z2 : pl = 4
    · refine Eq.trans (congrFun (if_pos z2) 18) ?_
      exact rfl
    · refine Eq.trans (congrFun (if_neg z2) 18) ?_
      exact (up2_n _ _ _ (by decide)).trans ((up2_n _ _ _ (by decide)).trans (up2_n _ _ _ (by decide)))
theorem M_plan_s_k19 (σ : Nat → Nat → Int32) (n : Nat) (pl : Nat) (his : Int32) (hers : Int32) : M_plan_s σ n pl his hers 19 = σ 19 := by
  unfold M_plan_s
  by_cases z1 : (M_areTwo_r σ his hers) = 0
  · refine Eq.trans (congrFun (if_pos z1) 19) ?_
    exact rfl
  · refine Eq.trans (congrFun (if_neg z1) 19) ?_
    by_cases z2 : pl = 4
    · refine Eq.trans (congrFun (if_pos z2) 19) ?_
      exact rfl
    · refine Eq.trans (congrFun (if_neg z2) 19) ?_
      exact (up2_n _ _ _ (by decide)).trans ((up2_n _ _ _ (by decide)).trans (up2_n _ _ _ (by decide)))
set_option maxHeartbeats 4000000 in
set_option maxRecDepth 100000 in
theorem c_M_plan (l : Launch) (D : va_G) (cI : ClassId) (a : Nat → Nat) (σ : Nat → Nat → Int32) (h : Int64) (n : Nat) (pl : Nat) (his : Int32) (hers : Int32) (hn : σ 0 6 = nI n) (hnb : n ≤ 4) (hp0 : σ 0 15 = nI pl) (hp0b : pl ≤ 4) : gI l D [(cI, .int)] yX12_plan wsX12_plan 4 [.ref (a 0), .int his, .int hers] (wM cI a σ h) (M_plan_r σ n pl his hers) (wM cI a (M_plan_s σ n pl his hers) h) := by
  refine g_start (cc := cX12_plan) (maxL := 3) (ret := some .int) (Qc := gQi D [(cI, .int)] (M_plan_r σ n pl his hers) (wM cI a (M_plan_s σ n pl his hers) h)) (by decide) rfl (Nat.le_of_ble_eq_true rfl) ?_
  intro p e s m below meth C A ls S hr hlk hw hl
  obtain ⟨hx, hb, hml, hown, hts⟩ := id S
  have hinX12 : ∀ x ∈ u_ws RX12 TX12 38, x ∈ wsX12_plan := fun x h => List.mem_cons_of_mem _ (List.mem_append_right _ h)
  have lk0 : Cond.fieldLink RX12 117 "CowsOwedModel" "plans" "I" ∈ wsX12_plan := by decide +kernel
  have lk1 : Cond.fieldLink RX12 28 "CowsOwedModel" "planned" "[I" ∈ wsX12_plan := by decide +kernel
  have hl : lv_has ls 3 [(0, .ref (a 0)), (1, .int his), (2, .int hers)] := hl
  refine lv_aload_n hx hb dX12_plan_0 rfl (lv_at hl 0 rfl) ?_
  refine lv_iload_n hx hb dX12_plan_1 rfl (lv_at hl 1 rfl) ?_
  refine lv_iload_n hx hb dX12_plan_2 rfl (lv_at hl 2 rfl) ?_
  refine g_callVi S hw (c_M_areTwo l D cI a σ h his hers) gX12_plan_X12_areTwo rfl 0 rfl rfl 2 rfl (by decide +kernel) (by decide) (by decide) hl.1 rfl (Nat.le_of_ble_eq_true rfl) dX12_plan_3 (fun H locs hw => ?_)
  refine lv_if_ne hx hb (tgt := 12) dX12_plan_6 (by decide) (fun c_1 => ?_) (fun c_1 => ?_)
  · obtain ⟨e1, b1, e2, b2, ne⟩ := M_areTwo_ok hn hnb c_1
    have hl : lv_has ls 3 [(0, .ref (a 0)), (1, .int (nI his.toNatClampNeg)), (2, .int (nI hers.toNatClampNeg))] := by rw [← e1, ← e2]; exact hl
    refine lv_aload_n hx hb dX12_plan_12 rfl (lv_at hl 0 rfl) ?_
    refine g_get S hw hinX12 (fs := fM a σ h) 0 rfl rfl 15 (by decide) lk0 (v := .int (nI pl)) (congrArg (fun z => some (Value.int z)) (hp0)) dX12_plan_13 ?_
    refine lv_iconst (v := 4) hx hb dX12_plan_16 (by decide) ?_
    refine ln_ne (x := pl) (y := 4) hx hb (by omega) (by omega) (tgt := 23) dX12_plan_17 (by decide) (fun c_2 => ?_) (fun c_2 => ?_)
    · refine lv_aload_n hx hb dX12_plan_23 rfl (lv_at hl 0 rfl) ?_
      refine g_get S hw hinX12 (fs := fM a σ h) 0 rfl rfl 16 (by decide) lk1 (v := .ref (a 7)) rfl dX12_plan_24 ?_
      refine lv_iconst (v := 2) hx hb dX12_plan_27 (by decide) ?_
      refine lv_aload_n hx hb dX12_plan_28 rfl (lv_at hl 0 rfl) ?_
      refine g_get S hw hinX12 (fs := fM a σ h) 0 rfl rfl 15 (by decide) lk0 (v := .int (nI pl)) (congrArg (fun z => some (Value.int z)) (hp0)) dX12_plan_29 ?_
      refine ln_imul (x := 2) (y := pl) hx hb dX12_plan_32 ?_
      refine lv_iload_n hx hb dX12_plan_33 rfl (lv_at hl 1 rfl) ?_
      refine g_iast S hw (f := σ 7) (i := 2 * pl) 7 0 rfl rfl (by omega) (by decide) (w2 := wM cI a (up2 σ 7 (2 * pl) (nI his.toNatClampNeg)) h) (wM_a7 _ _ _ _ _ _) dX12_plan_34 (fun H locs hw => ?_)
      refine lv_aload_n hx hb dX12_plan_35 rfl (lv_at hl 0 rfl) ?_
      refine g_get S hw hinX12 (fs := fM a (up2 σ 7 (2 * pl) (nI his.toNatClampNeg)) h) 0 rfl rfl 16 (by decide) lk1 (v := .ref (a 7)) rfl dX12_plan_36 ?_
      refine lv_iconst (v := 2) hx hb dX12_plan_39 (by decide) ?_
      refine lv_aload_n hx hb dX12_plan_40 rfl (lv_at hl 0 rfl) ?_
      refine g_get S hw hinX12 (fs := fM a (up2 σ 7 (2 * pl) (nI his.toNatClampNeg)) h) 0 rfl rfl 15 (by decide) lk0 (v := .int (nI pl)) (congrArg (fun z => some (Value.int z)) ((up2_rn (by decide)).trans (hp0))) dX12_plan_41 ?_
      refine ln_imul (x := 2) (y := pl) hx hb dX12_plan_44 ?_
      refine lv_iconst (v := 1) hx hb dX12_plan_45 (by decide) ?_
      refine ln_iadd (x := 2 * pl) (y := 1) hx hb dX12_plan_46 ?_
      refine lv_iload_n hx hb dX12_plan_47 rfl (lv_at hl 2 rfl) ?_
      refine g_iast S hw (f := (up2 σ 7 (2 * pl) (nI his.toNatClampNeg)) 7) (i := (2 * pl) + 1) 7 0 rfl rfl (by omega) (by decide) (w2 := wM cI a (up2 (up2 σ 7 (2 * pl) (nI his.toNatClampNeg)) 7 ((2 * pl) + 1) (nI hers.toNatClampNeg)) h) (wM_a7 _ _ _ _ _ _) dX12_plan_48 (fun H locs hw => ?_)
      refine lv_aload_n hx hb dX12_plan_49 rfl (lv_at hl 0 rfl) ?_
      refine lv_dup hx hb dX12_plan_50 rfl ?_
      refine g_get S hw hinX12 (fs := fM a (up2 (up2 σ 7 (2 * pl) (nI his.toNatClampNeg)) 7 ((2 * pl) + 1) (nI hers.toNatClampNeg)) h) 0 rfl rfl 15 (by decide) lk0 (v := .int (nI pl)) (congrArg (fun z => some (Value.int z)) (((up2_rn (by decide)).trans (up2_rn (by decide))).trans (hp0))) dX12_plan_51 ?_
      refine lv_iconst (v := 1) hx hb dX12_plan_54 (by decide) ?_
      refine ln_iadd (x := pl) (y := 1) hx hb dX12_plan_55 ?_
      refine g_put S hw hinX12 tyX12 tyX12_ok nmX12 (fs := fM a (up2 (up2 σ 7 (2 * pl) (nI his.toNatClampNeg)) 7 ((2 * pl) + 1) (nI hers.toNatClampNeg)) h) 0 rfl rfl 15 (by decide) lk0 rfl rfl rfl (Nat.le_of_ble_eq_true rfl) (w2 := wM cI a (up2 (up2 (up2 σ 7 (2 * pl) (nI his.toNatClampNeg)) 7 ((2 * pl) + 1) (nI hers.toNatClampNeg)) 0 15 (nI (pl + 1))) h) (wM_f15 _ _ _ _ _) dX12_plan_56 (fun H locs hw => ?_)
      refine lv_aload_n hx hb dX12_plan_59 rfl (lv_at hl 0 rfl) ?_
      refine g_get S hw hinX12 (fs := fM a (up2 (up2 (up2 σ 7 (2 * pl) (nI his.toNatClampNeg)) 7 ((2 * pl) + 1) (nI hers.toNatClampNeg)) 0 15 (nI (pl + 1))) h) 0 rfl rfl 15 (by decide) lk0 (v := .int (nI (pl + 1))) (congrArg (fun z => some (Value.int z)) (up2_rs)) dX12_plan_60 ?_
      exact g_iret S hr hlk hw (by simp only [M_plan_r, if_neg c_1, if_neg c_2]) (by simp only [M_plan_s, if_neg c_1, if_neg c_2]) dX12_plan_63
    · refine lv_bipush (v := (-104)) hx hb dX12_plan_20 (by decide) ?_
      exact g_iret S hr hlk hw (by simp only [M_plan_r, if_neg c_1, if_pos c_2]) (by simp only [M_plan_s, if_neg c_1, if_pos c_2]) dX12_plan_22
  · refine lv_bipush (v := (-101)) hx hb dX12_plan_9 (by decide) ?_
    exact g_iret S hr hlk hw (by simp only [M_plan_r, if_pos c_1]) (by simp only [M_plan_s, if_pos c_1]) dX12_plan_11

def M_dream_r (σ : Nat → Nat → Int32) : Int32 := σ 0 15
def M_dream_s (σ : Nat → Nat → Int32) : Nat → Nat → Int32 := up2 σ 0 15 0
theorem M_dream_s_k1 (σ : Nat → Nat → Int32) : M_dream_s σ 1 = σ 1 := by
  unfold M_dream_s
  exact up2_n _ _ _ (by decide)
theorem M_dream_s_k2 (σ : Nat → Nat → Int32) : M_dream_s σ 2 = σ 2 := by
  unfold M_dream_s
  exact up2_n _ _ _ (by decide)
theorem M_dream_s_k3 (σ : Nat → Nat → Int32) : M_dream_s σ 3 = σ 3 := by
  unfold M_dream_s
  exact up2_n _ _ _ (by decide)
theorem M_dream_s_k4 (σ : Nat → Nat → Int32) : M_dream_s σ 4 = σ 4 := by
  unfold M_dream_s
  exact up2_n _ _ _ (by decide)
theorem M_dream_s_k5 (σ : Nat → Nat → Int32) : M_dream_s σ 5 = σ 5 := by
  unfold M_dream_s
  exact up2_n _ _ _ (by decide)
theorem M_dream_s_k6 (σ : Nat → Nat → Int32) : M_dream_s σ 6 = σ 6 := by
  unfold M_dream_s
  exact up2_n _ _ _ (by decide)
theorem M_dream_s_k7 (σ : Nat → Nat → Int32) : M_dream_s σ 7 = σ 7 := by
  unfold M_dream_s
  exact up2_n _ _ _ (by decide)
theorem M_dream_s_k8 (σ : Nat → Nat → Int32) : M_dream_s σ 8 = σ 8 := by
  unfold M_dream_s
  exact up2_n _ _ _ (by decide)
theorem M_dream_s_k9 (σ : Nat → Nat → Int32) : M_dream_s σ 9 = σ 9 := by
  unfold M_dream_s
  exact up2_n _ _ _ (by decide)
theorem M_dream_s_k10 (σ : Nat → Nat → Int32) : M_dream_s σ 10 = σ 10 := by
  unfold M_dream_s
  exact up2_n _ _ _ (by decide)
theorem M_dream_s_k11 (σ : Nat → Nat → Int32) : M_dream_s σ 11 = σ 11 := by
  unfold M_dream_s
  exact up2_n _ _ _ (by decide)
theorem M_dream_s_k12 (σ : Nat → Nat → Int32) : M_dream_s σ 12 = σ 12 := by
  unfold M_dream_s
  exact up2_n _ _ _ (by decide)
theorem M_dream_s_k13 (σ : Nat → Nat → Int32) : M_dream_s σ 13 = σ 13 := by
  unfold M_dream_s
  exact up2_n _ _ _ (by decide)
theorem M_dream_s_k14 (σ : Nat → Nat → Int32) : M_dream_s σ 14 = σ 14 := by
  unfold M_dream_s
  exact up2_n _ _ _ (by decide)
theorem M_dream_s_k15 (σ : Nat → Nat → Int32) : M_dream_s σ 15 = σ 15 := by
  unfold M_dream_s
  exact up2_n _ _ _ (by decide)
theorem M_dream_s_k16 (σ : Nat → Nat → Int32) : M_dream_s σ 16 = σ 16 := by
  unfold M_dream_s
  exact up2_n _ _ _ (by decide)
theorem M_dream_s_k17 (σ : Nat → Nat → Int32) : M_dream_s σ 17 = σ 17 := by
  unfold M_dream_s
  exact up2_n _ _ _ (by decide)
theorem M_dream_s_k18 (σ : Nat → Nat → Int32) : M_dream_s σ 18 = σ 18 := by
  unfold M_dream_s
  exact up2_n _ _ _ (by decide)
theorem M_dream_s_k19 (σ : Nat → Nat → Int32) : M_dream_s σ 19 = σ 19 := by
  unfold M_dream_s
  exact up2_n _ _ _ (by decide)
set_option maxHeartbeats 4000000 in
set_option maxRecDepth 100000 in
theorem c_M_dream (l : Launch) (D : va_G) (cI : ClassId) (a : Nat → Nat) (σ : Nat → Nat → Int32) (h : Int64) : gI l D [(cI, .int)] yX12_dream wsX12_dream 1 [.ref (a 0)] (wM cI a σ h) (M_dream_r σ) (wM cI a (M_dream_s σ) h) := by
  refine g_start (cc := cX12_dream) (maxL := 2) (ret := some .int) (Qc := gQi D [(cI, .int)] (M_dream_r σ) (wM cI a (M_dream_s σ) h)) (by decide) rfl (Nat.le_of_ble_eq_true rfl) ?_
  intro p e s m below meth C A ls S hr hlk hw hl
  obtain ⟨hx, hb, hml, hown, hts⟩ := id S
  have hinX12 : ∀ x ∈ u_ws RX12 TX12 38, x ∈ wsX12_dream := fun x h => List.mem_cons_of_mem _ (List.mem_append_right _ h)
  have lk0 : Cond.fieldLink RX12 117 "CowsOwedModel" "plans" "I" ∈ wsX12_dream := by decide +kernel
  have hl : lv_has ls 2 [(0, .ref (a 0))] := hl
  refine lv_aload_n hx hb dX12_dream_0 rfl (lv_at hl 0 rfl) ?_
  refine g_get S hw hinX12 (fs := fM a σ h) 0 rfl rfl 15 (by decide) lk0 (v := .int (σ 0 15)) rfl dX12_dream_1 ?_
  refine lv_istore_n (lv' := [(1, .int (σ 0 15)), (0, .ref (a 0))]) hx hb dX12_dream_4 rfl hl (by decide) rfl (fun ls hl => ?_)
  refine lv_aload_n hx hb dX12_dream_5 rfl (lv_at hl 1 rfl) ?_
  refine lv_iconst (v := 0) hx hb dX12_dream_6 (by decide) ?_
  refine g_put S hw hinX12 tyX12 tyX12_ok nmX12 (fs := fM a σ h) 0 rfl rfl 15 (by decide) lk0 rfl rfl rfl (Nat.le_of_ble_eq_true rfl) (w2 := wM cI a (up2 σ 0 15 0) h) (wM_f15 _ _ _ _ _) dX12_dream_7 (fun H locs hw => ?_)
  refine lv_iload_n hx hb dX12_dream_10 rfl (lv_at hl 0 rfl) ?_
  exact g_iret S hr hlk hw (by simp only [M_dream_r]) (by simp only [M_dream_s]) dX12_dream_11

def M_tell_r (σ : Nat → Nat → Int32) (tm : Nat) (rate : Int32) (asked : Int32) : Int32 := if (M_in_r rate.toInt64 1 9) = 0 then (-102) else (if (M_in_r asked.toInt64 1 20) = 0 then (-102) else (if tm = 6 then (-104) else (nI (tm + 1))))
def M_tell_s (σ : Nat → Nat → Int32) (tm : Nat) (rate : Int32) (asked : Int32) : Nat → Nat → Int32 := if (M_in_r rate.toInt64 1 9) = 0 then σ else (if (M_in_r asked.toInt64 1 20) = 0 then σ else (if tm = 6 then σ else (up2 (up2 (up2 σ 13 (2 * tm) rate) 13 ((2 * tm) + 1) asked) 0 22 (nI (tm + 1)))))
theorem M_tell_s_k1 (σ : Nat → Nat → Int32) (tm : Nat) (rate : Int32) (asked : Int32) : M_tell_s σ tm rate asked 1 = σ 1 := by
  unfold M_tell_s
  by_cases z1 : (M_in_r rate.toInt64 1 9) = 0
  · refine Eq.trans (congrFun (if_pos z1) 1) ?_
    exact rfl
  · refine Eq.trans (congrFun (if_neg z1) 1) ?_
    by_cases z2 : (M_in_r asked.toInt64 1 20) = 0
    · refine Eq.trans (congrFun (if_pos z2) 1) ?_
      exact rfl
    · refine Eq.trans (congrFun (if_neg z2) 1) ?_
      by_cases z3 : tm = 6
      · refine Eq.trans (congrFun (if_pos z3) 1) ?_
        exact rfl
      · refine Eq.trans (congrFun (if_neg z3) 1) ?_
        exact (up2_n _ _ _ (by decide)).trans ((up2_n _ _ _ (by decide)).trans (up2_n _ _ _ (by decide)))
theorem M_tell_s_k2 (σ : Nat → Nat → Int32) (tm : Nat) (rate : Int32) (asked : Int32) : M_tell_s σ tm rate asked 2 = σ 2 := by
  unfold M_tell_s
  by_cases z1 : (M_in_r rate.toInt64 1 9) = 0
  · refine Eq.trans (congrFun (if_pos z1) 2) ?_
    exact rfl
  · refine Eq.trans (congrFun (if_neg z1) 2) ?_
    by_cases z2 : (M_in_r asked.toInt64 1 20) = 0
    · refine Eq.trans (congrFun (if_pos z2) 2) ?_
      exact rfl
    · refine Eq.trans (congrFun (if_neg z2) 2) ?_
      by_cases z3 : tm = 6
      · refine Eq.trans (congrFun (if_pos z3) 2) ?_
        exact rfl
      · refine Eq.trans (congrFun (if_neg z3) 2) ?_
        exact (up2_n _ _ _ (by decide)).trans ((up2_n _ _ _ (by decide)).trans (up2_n _ _ _ (by decide)))
theorem M_tell_s_k3 (σ : Nat → Nat → Int32) (tm : Nat) (rate : Int32) (asked : Int32) : M_tell_s σ tm rate asked 3 = σ 3 := by
  unfold M_tell_s
  by_cases z1 : (M_in_r rate.toInt64 1 9) = 0
  · refine Eq.trans (congrFun (if_pos z1) 3) ?_
    exact rfl
  · refine Eq.trans (congrFun (if_neg z1) 3) ?_
    by_cases z2 : (M_in_r asked.toInt64 1 20) = 0
    · refine Eq.trans (congrFun (if_pos z2) 3) ?_
      exact rfl
    · refine Eq.trans (congrFun (if_neg z2) 3) ?_
      by_cases z3 : tm = 6
      · refine Eq.trans (congrFun (if_pos z3) 3) ?_
        exact rfl
      · refine Eq.trans (congrFun (if_neg z3) 3) ?_
        exact (up2_n _ _ _ (by decide)).trans ((up2_n _ _ _ (by decide)).trans (up2_n _ _ _ (by decide)))
theorem M_tell_s_k4 (σ : Nat → Nat → Int32) (tm : Nat) (rate : Int32) (asked : Int32) : M_tell_s σ tm rate asked 4 = σ 4 := by
  unfold M_tell_s
  by_cases z1 : (M_in_r rate.toInt64 1 9) = 0
  · refine Eq.trans (congrFun (if_pos z1) 4) ?_
    exact rfl
  · refine Eq.trans (congrFun (if_neg z1) 4) ?_
    by_cases z2 : (M_in_r asked.toInt64 1 20) = 0
    · refine Eq.trans (congrFun (if_pos z2) 4) ?_
      exact rfl
    · refine Eq.trans (congrFun (if_neg z2) 4) ?_
      by_cases z3 : tm = 6
      · refine Eq.trans (congrFun (if_pos z3) 4) ?_
        exact rfl
      · refine Eq.trans (congrFun (if_neg z3) 4) ?_
        exact (up2_n _ _ _ (by decide)).trans ((up2_n _ _ _ (by decide)).trans (up2_n _ _ _ (by decide)))
theorem M_tell_s_k5 (σ : Nat → Nat → Int32) (tm : Nat) (rate : Int32) (asked : Int32) : M_tell_s σ tm rate asked 5 = σ 5 := by
  unfold M_tell_s
  by_cases z1 : (M_in_r rate.toInt64 1 9) = 0
  · refine Eq.trans (congrFun (if_pos z1) 5) ?_
    exact rfl
  · refine Eq.trans (congrFun (if_neg z1) 5) ?_
    by_cases z2 : (M_in_r asked.toInt64 1 20) = 0
    · refine Eq.trans (congrFun (if_pos z2) 5) ?_
      exact rfl
    · refine Eq.trans (congrFun (if_neg z2) 5) ?_
      by_cases z3 : tm = 6
      · refine Eq.trans (congrFun (if_pos z3) 5) ?_
        exact rfl
      · refine Eq.trans (congrFun (if_neg z3) 5) ?_
        exact (up2_n _ _ _ (by decide)).trans ((up2_n _ _ _ (by decide)).trans (up2_n _ _ _ (by decide)))
theorem M_tell_s_k6 (σ : Nat → Nat → Int32) (tm : Nat) (rate : Int32) (asked : Int32) : M_tell_s σ tm rate asked 6 = σ 6 := by
  unfold M_tell_s
  by_cases z1 : (M_in_r rate.toInt64 1 9) = 0
  · refine Eq.trans (congrFun (if_pos z1) 6) ?_
    exact rfl
  · refine Eq.trans (congrFun (if_neg z1) 6) ?_
    by_cases z2 : (M_in_r asked.toInt64 1 20) = 0
    · refine Eq.trans (congrFun (if_pos z2) 6) ?_
      exact rfl
    · refine Eq.trans (congrFun (if_neg z2) 6) ?_
      by_cases z3 : tm = 6
      · refine Eq.trans (congrFun (if_pos z3) 6) ?_
        exact rfl
      · refine Eq.trans (congrFun (if_neg z3) 6) ?_
        exact (up2_n _ _ _ (by decide)).trans ((up2_n _ _ _ (by decide)).trans (up2_n _ _ _ (by decide)))
theorem M_tell_s_k7 (σ : Nat → Nat → Int32) (tm : Nat) (rate : Int32) (asked : Int32) : M_tell_s σ tm rate asked 7 = σ 7 := by
  unfold M_tell_s
  by_cases z1 : (M_in_r rate.toInt64 1 9) = 0
  · refine Eq.trans (congrFun (if_pos z1) 7) ?_
    exact rfl
  · refine Eq.trans (congrFun (if_neg z1) 7) ?_
    by_cases z2 : (M_in_r asked.toInt64 1 20) = 0
    · refine Eq.trans (congrFun (if_pos z2) 7) ?_
      exact rfl
    · refine Eq.trans (congrFun (if_neg z2) 7) ?_
      by_cases z3 : tm = 6
      · refine Eq.trans (congrFun (if_pos z3) 7) ?_
        exact rfl
      · refine Eq.trans (congrFun (if_neg z3) 7) ?_
        exact (up2_n _ _ _ (by decide)).trans ((up2_n _ _ _ (by decide)).trans (up2_n _ _ _ (by decide)))
theorem M_tell_s_k8 (σ : Nat → Nat → Int32) (tm : Nat) (rate : Int32) (asked : Int32) : M_tell_s σ tm rate asked 8 = σ 8 := by
  unfold M_tell_s
  by_cases z1 : (M_in_r rate.toInt64 1 9) = 0
  · refine Eq.trans (congrFun (if_pos z1) 8) ?_
    exact rfl
  · refine Eq.trans (congrFun (if_neg z1) 8) ?_
    by_cases z2 : (M_in_r asked.toInt64 1 20) = 0
    · refine Eq.trans (congrFun (if_pos z2) 8) ?_
      exact rfl
    · refine Eq.trans (congrFun (if_neg z2) 8) ?_
      by_cases z3 : tm = 6
      · refine Eq.trans (congrFun (if_pos z3) 8) ?_
        exact rfl
      · refine Eq.trans (congrFun (if_neg z3) 8) ?_
        exact (up2_n _ _ _ (by decide)).trans ((up2_n _ _ _ (by decide)).trans (up2_n _ _ _ (by decide)))
theorem M_tell_s_k9 (σ : Nat → Nat → Int32) (tm : Nat) (rate : Int32) (asked : Int32) : M_tell_s σ tm rate asked 9 = σ 9 := by
  unfold M_tell_s
  by_cases z1 : (M_in_r rate.toInt64 1 9) = 0
  · refine Eq.trans (congrFun (if_pos z1) 9) ?_
    exact rfl
  · refine Eq.trans (congrFun (if_neg z1) 9) ?_
    by_cases z2 : (M_in_r asked.toInt64 1 20) = 0
    · refine Eq.trans (congrFun (if_pos z2) 9) ?_
      exact rfl
    · refine Eq.trans (congrFun (if_neg z2) 9) ?_
      by_cases z3 : tm = 6
      · refine Eq.trans (congrFun (if_pos z3) 9) ?_
        exact rfl
      · refine Eq.trans (congrFun (if_neg z3) 9) ?_
        exact (up2_n _ _ _ (by decide)).trans ((up2_n _ _ _ (by decide)).trans (up2_n _ _ _ (by decide)))
theorem M_tell_s_k10 (σ : Nat → Nat → Int32) (tm : Nat) (rate : Int32) (asked : Int32) : M_tell_s σ tm rate asked 10 = σ 10 := by
  unfold M_tell_s
  by_cases z1 : (M_in_r rate.toInt64 1 9) = 0
  · refine Eq.trans (congrFun (if_pos z1) 10) ?_
    exact rfl
  · refine Eq.trans (congrFun (if_neg z1) 10) ?_
    by_cases z2 : (M_in_r asked.toInt64 1 20) = 0
    · refine Eq.trans (congrFun (if_pos z2) 10) ?_
      exact rfl
    · refine Eq.trans (congrFun (if_neg z2) 10) ?_
      by_cases z3 : tm = 6
      · refine Eq.trans (congrFun (if_pos z3) 10) ?_
        exact rfl
      · refine Eq.trans (congrFun (if_neg z3) 10) ?_
        exact (up2_n _ _ _ (by decide)).trans ((up2_n _ _ _ (by decide)).trans (up2_n _ _ _ (by decide)))
theorem M_tell_s_k11 (σ : Nat → Nat → Int32) (tm : Nat) (rate : Int32) (asked : Int32) : M_tell_s σ tm rate asked 11 = σ 11 := by
  unfold M_tell_s
  by_cases z1 : (M_in_r rate.toInt64 1 9) = 0
  · refine Eq.trans (congrFun (if_pos z1) 11) ?_
    exact rfl
  · refine Eq.trans (congrFun (if_neg z1) 11) ?_
    by_cases z2 : (M_in_r asked.toInt64 1 20) = 0
    · refine Eq.trans (congrFun (if_pos z2) 11) ?_
      exact rfl
    · refine Eq.trans (congrFun (if_neg z2) 11) ?_
      by_cases z3 : tm = 6
      · refine Eq.trans (congrFun (if_pos z3) 11) ?_
        exact rfl
      · refine Eq.trans (congrFun (if_neg z3) 11) ?_
        exact (up2_n _ _ _ (by decide)).trans ((up2_n _ _ _ (by decide)).trans (up2_n _ _ _ (by decide)))
theorem M_tell_s_k12 (σ : Nat → Nat → Int32) (tm : Nat) (rate : Int32) (asked : Int32) : M_tell_s σ tm rate asked 12 = σ 12 := by
  unfold M_tell_s
  by_cases z1 : (M_in_r rate.toInt64 1 9) = 0
  · refine Eq.trans (congrFun (if_pos z1) 12) ?_
    exact rfl
  · refine Eq.trans (congrFun (if_neg z1) 12) ?_
    by_cases z2 : (M_in_r asked.toInt64 1 20) = 0
    · refine Eq.trans (congrFun (if_pos z2) 12) ?_
      exact rfl
    · refine Eq.trans (congrFun (if_neg z2) 12) ?_
      by_cases z3 : tm = 6
      · refine Eq.trans (congrFun (if_pos z3) 12) ?_
        exact rfl
      · refine Eq.trans (congrFun (if_neg z3) 12) ?_
        exact (up2_n _ _ _ (by decide)).trans ((up2_n _ _ _ (by decide)).trans (up2_n _ _ _ (by decide)))
theorem M_tell_s_k14 (σ : Nat → Nat → Int32) (tm : Nat) (rate : Int32) (asked : Int32) : M_tell_s σ tm rate asked 14 = σ 14 := by
  unfold M_tell_s
  by_cases z1 : (M_in_r rate.toInt64 1 9) = 0
  · refine Eq.trans (congrFun (if_pos z1) 14) ?_
    exact rfl
  · refine Eq.trans (congrFun (if_neg z1) 14) ?_
    by_cases z2 : (M_in_r asked.toInt64 1 20) = 0
    · refine Eq.trans (congrFun (if_pos z2) 14) ?_
      exact rfl
    · refine Eq.trans (congrFun (if_neg z2) 14) ?_
      by_cases z3 : tm = 6
      · refine Eq.trans (congrFun (if_pos z3) 14) ?_
        exact rfl
      · refine Eq.trans (congrFun (if_neg z3) 14) ?_
        exact (up2_n _ _ _ (by decide)).trans ((up2_n _ _ _ (by decide)).trans (up2_n _ _ _ (by decide)))
theorem M_tell_s_k15 (σ : Nat → Nat → Int32) (tm : Nat) (rate : Int32) (asked : Int32) : M_tell_s σ tm rate asked 15 = σ 15 := by
  unfold M_tell_s
  by_cases z1 : (M_in_r rate.toInt64 1 9) = 0
  · refine Eq.trans (congrFun (if_pos z1) 15) ?_
    exact rfl
  · refine Eq.trans (congrFun (if_neg z1) 15) ?_
    by_cases z2 : (M_in_r asked.toInt64 1 20) = 0
    · refine Eq.trans (congrFun (if_pos z2) 15) ?_
      exact rfl
    · refine Eq.trans (congrFun (if_neg z2) 15) ?_
      by_cases z3 : tm = 6
      · refine Eq.trans (congrFun (if_pos z3) 15) ?_
        exact rfl
      · refine Eq.trans (congrFun (if_neg z3) 15) ?_
        exact (up2_n _ _ _ (by decide)).trans ((up2_n _ _ _ (by decide)).trans (up2_n _ _ _ (by decide)))
theorem M_tell_s_k16 (σ : Nat → Nat → Int32) (tm : Nat) (rate : Int32) (asked : Int32) : M_tell_s σ tm rate asked 16 = σ 16 := by
  unfold M_tell_s
  by_cases z1 : (M_in_r rate.toInt64 1 9) = 0
  · refine Eq.trans (congrFun (if_pos z1) 16) ?_
    exact rfl
  · refine Eq.trans (congrFun (if_neg z1) 16) ?_
    by_cases z2 : (M_in_r asked.toInt64 1 20) = 0
    · refine Eq.trans (congrFun (if_pos z2) 16) ?_
      exact rfl
    · refine Eq.trans (congrFun (if_neg z2) 16) ?_
      by_cases z3 : tm = 6
      · refine Eq.trans (congrFun (if_pos z3) 16) ?_
        exact rfl
      · refine Eq.trans (congrFun (if_neg z3) 16) ?_
        exact (up2_n _ _ _ (by decide)).trans ((up2_n _ _ _ (by decide)).trans (up2_n _ _ _ (by decide)))
theorem M_tell_s_k17 (σ : Nat → Nat → Int32) (tm : Nat) (rate : Int32) (asked : Int32) : M_tell_s σ tm rate asked 17 = σ 17 := by
  unfold M_tell_s
  by_cases z1 : (M_in_r rate.toInt64 1 9) = 0
  · refine Eq.trans (congrFun (if_pos z1) 17) ?_
    exact rfl
  · refine Eq.trans (congrFun (if_neg z1) 17) ?_
    by_cases z2 : (M_in_r asked.toInt64 1 20) = 0
    · refine Eq.trans (congrFun (if_pos z2) 17) ?_
      exact rfl
    · refine Eq.trans (congrFun (if_neg z2) 17) ?_
      by_cases z3 : tm = 6
      · refine Eq.trans (congrFun (if_pos z3) 17) ?_
        exact rfl
      · refine Eq.trans (congrFun (if_neg z3) 17) ?_
        exact (up2_n _ _ _ (by decide)).trans ((up2_n _ _ _ (by decide)).trans (up2_n _ _ _ (by decide)))
theorem M_tell_s_k18 (σ : Nat → Nat → Int32) (tm : Nat) (rate : Int32) (asked : Int32) : M_tell_s σ tm rate asked 18 = σ 18 := by
  unfold M_tell_s
  by_cases z1 : (M_in_r rate.toInt64 1 9) = 0
  · refine Eq.trans (congrFun (if_pos z1) 18) ?_
    exact rfl
  · refine Eq.trans (congrFun (if_neg z1) 18) ?_
    by_cases z2 : (M_in_r asked.toInt64 1 20) = 0
    · refine Eq.trans (congrFun (if_pos z2) 18) ?_
      exact rfl
    · refine Eq.trans (congrFun (if_neg z2) 18) ?_
      by_cases z3 : tm = 6
      · refine Eq.trans (congrFun (if_pos z3) 18) ?_
        exact rfl
      · refine Eq.trans (congrFun (if_neg z3) 18) ?_
        exact (up2_n _ _ _ (by decide)).trans ((up2_n _ _ _ (by decide)).trans (up2_n _ _ _ (by decide)))
theorem M_tell_s_k19 (σ : Nat → Nat → Int32) (tm : Nat) (rate : Int32) (asked : Int32) : M_tell_s σ tm rate asked 19 = σ 19 := by
  unfold M_tell_s
  by_cases z1 : (M_in_r rate.toInt64 1 9) = 0
  · refine Eq.trans (congrFun (if_pos z1) 19) ?_
    exact rfl
  · refine Eq.trans (congrFun (if_neg z1) 19) ?_
    by_cases z2 : (M_in_r asked.toInt64 1 20) = 0
    · refine Eq.trans (congrFun (if_pos z2) 19) ?_
      exact rfl
    · refine Eq.trans (congrFun (if_neg z2) 19) ?_
      by_cases z3 : tm = 6
      · refine Eq.trans (congrFun (if_pos z3) 19) ?_
        exact rfl
      · refine Eq.trans (congrFun (if_neg z3) 19) ?_
        exact (up2_n _ _ _ (by decide)).trans ((up2_n _ _ _ (by decide)).trans (up2_n _ _ _ (by decide)))
set_option maxHeartbeats 4000000 in
set_option maxRecDepth 100000 in
theorem c_M_tell (l : Launch) (D : va_G) (cI : ClassId) (a : Nat → Nat) (σ : Nat → Nat → Int32) (h : Int64) (tm : Nat) (rate : Int32) (asked : Int32) (ht0 : σ 0 22 = nI tm) (ht0b : tm ≤ 6) : gI l D [(cI, .int)] yX12_tell wsX12_tell 2 [.ref (a 0), .int rate, .int asked] (wM cI a σ h) (M_tell_r σ tm rate asked) (wM cI a (M_tell_s σ tm rate asked) h) := by
  refine g_start (cc := cX12_tell) (maxL := 3) (ret := some .int) (Qc := gQi D [(cI, .int)] (M_tell_r σ tm rate asked) (wM cI a (M_tell_s σ tm rate asked) h)) (by decide) rfl (Nat.le_of_ble_eq_true rfl) ?_
  intro p e s m below meth C A ls S hr hlk hw hl
  obtain ⟨hx, hb, hml, hown, hts⟩ := id S
  have hinX12 : ∀ x ∈ u_ws RX12 TX12 38, x ∈ wsX12_tell := fun x h => List.mem_cons_of_mem _ (List.mem_append_right _ h)
  have lk0 : Cond.constantLong RX12 90 (9) ∈ wsX12_tell := by decide +kernel
  have lk1 : Cond.constantLong RX12 202 (20) ∈ wsX12_tell := by decide +kernel
  have lk2 : Cond.fieldLink RX12 120 "CowsOwedModel" "toldMany" "I" ∈ wsX12_tell := by decide +kernel
  have lk3 : Cond.fieldLink RX12 46 "CowsOwedModel" "told" "[I" ∈ wsX12_tell := by decide +kernel
  have hl : lv_has ls 3 [(0, .ref (a 0)), (1, .int rate), (2, .int asked)] := hl
  refine lv_iload_n hx hb dX12_tell_0 rfl (lv_at hl 1 rfl) ?_
  refine lv_i2l hx hb dX12_tell_1 rfl ?_
  refine lv_lconst (v := 1) hx hb dX12_tell_2 (by decide) ?_
  refine lv_ldc2 (v := 9) hx hb hown (hts _ lk0) dX12_tell_3 ?_
  refine g_callSi S hw (c_M_in l D [(cI, .int)] (wM cI a σ h) rate.toInt64 1 9) gX12_tell_X12_in rfl 3 rfl (by decide +kernel) (by decide) (by decide) hl.1 rfl (Nat.le_of_ble_eq_true rfl) dX12_tell_6 (fun H locs hw => ?_)
  refine lv_if_eq hx hb (tgt := 24) dX12_tell_9 (by decide) (fun c_1 => ?_) (fun c_1 => ?_)
  · refine lv_bipush (v := (-102)) hx hb dX12_tell_24 (by decide) ?_
    exact g_iret S hr hlk hw (by simp only [M_tell_r, if_pos c_1]) (by simp only [M_tell_s, if_pos c_1]) dX12_tell_26
  · refine lv_iload_n hx hb dX12_tell_12 rfl (lv_at hl 2 rfl) ?_
    refine lv_i2l hx hb dX12_tell_13 rfl ?_
    refine lv_lconst (v := 1) hx hb dX12_tell_14 (by decide) ?_
    refine lv_ldc2 (v := 20) hx hb hown (hts _ lk1) dX12_tell_15 ?_
    refine g_callSi S hw (c_M_in l D [(cI, .int)] (wM cI a σ h) asked.toInt64 1 20) gX12_tell_X12_in rfl 3 rfl (by decide +kernel) (by decide) (by decide) hl.1 rfl (Nat.le_of_ble_eq_true rfl) dX12_tell_18 (fun H locs hw => ?_)
    refine lv_if_ne hx hb (tgt := 27) dX12_tell_21 (by decide) (fun c_2 => ?_) (fun c_2 => ?_)
    · refine lv_aload_n hx hb dX12_tell_27 rfl (lv_at hl 0 rfl) ?_
      refine g_get S hw hinX12 (fs := fM a σ h) 0 rfl rfl 22 (by decide) lk2 (v := .int (nI tm)) (congrArg (fun z => some (Value.int z)) (ht0)) dX12_tell_28 ?_
      refine lv_bipush (v := 6) hx hb dX12_tell_31 (by decide) ?_
      refine ln_ne (x := tm) (y := 6) hx hb (by omega) (by omega) (tgt := 39) dX12_tell_33 (by decide) (fun c_3 => ?_) (fun c_3 => ?_)
      · refine lv_aload_n hx hb dX12_tell_39 rfl (lv_at hl 0 rfl) ?_
        refine g_get S hw hinX12 (fs := fM a σ h) 0 rfl rfl 23 (by decide) lk3 (v := .ref (a 13)) rfl dX12_tell_40 ?_
        refine lv_iconst (v := 2) hx hb dX12_tell_43 (by decide) ?_
        refine lv_aload_n hx hb dX12_tell_44 rfl (lv_at hl 0 rfl) ?_
        refine g_get S hw hinX12 (fs := fM a σ h) 0 rfl rfl 22 (by decide) lk2 (v := .int (nI tm)) (congrArg (fun z => some (Value.int z)) (ht0)) dX12_tell_45 ?_
        refine ln_imul (x := 2) (y := tm) hx hb dX12_tell_48 ?_
        refine lv_iload_n hx hb dX12_tell_49 rfl (lv_at hl 1 rfl) ?_
        refine g_iast S hw (f := σ 13) (i := 2 * tm) 13 0 rfl rfl (by omega) (by decide) (w2 := wM cI a (up2 σ 13 (2 * tm) rate) h) (wM_a13 _ _ _ _ _ _) dX12_tell_50 (fun H locs hw => ?_)
        refine lv_aload_n hx hb dX12_tell_51 rfl (lv_at hl 0 rfl) ?_
        refine g_get S hw hinX12 (fs := fM a (up2 σ 13 (2 * tm) rate) h) 0 rfl rfl 23 (by decide) lk3 (v := .ref (a 13)) rfl dX12_tell_52 ?_
        refine lv_iconst (v := 2) hx hb dX12_tell_55 (by decide) ?_
        refine lv_aload_n hx hb dX12_tell_56 rfl (lv_at hl 0 rfl) ?_
        refine g_get S hw hinX12 (fs := fM a (up2 σ 13 (2 * tm) rate) h) 0 rfl rfl 22 (by decide) lk2 (v := .int (nI tm)) (congrArg (fun z => some (Value.int z)) ((up2_rn (by decide)).trans (ht0))) dX12_tell_57 ?_
        refine ln_imul (x := 2) (y := tm) hx hb dX12_tell_60 ?_
        refine lv_iconst (v := 1) hx hb dX12_tell_61 (by decide) ?_
        refine ln_iadd (x := 2 * tm) (y := 1) hx hb dX12_tell_62 ?_
        refine lv_iload_n hx hb dX12_tell_63 rfl (lv_at hl 2 rfl) ?_
        refine g_iast S hw (f := (up2 σ 13 (2 * tm) rate) 13) (i := (2 * tm) + 1) 13 0 rfl rfl (by omega) (by decide) (w2 := wM cI a (up2 (up2 σ 13 (2 * tm) rate) 13 ((2 * tm) + 1) asked) h) (wM_a13 _ _ _ _ _ _) dX12_tell_64 (fun H locs hw => ?_)
        refine lv_aload_n hx hb dX12_tell_65 rfl (lv_at hl 0 rfl) ?_
        refine lv_dup hx hb dX12_tell_66 rfl ?_
        refine g_get S hw hinX12 (fs := fM a (up2 (up2 σ 13 (2 * tm) rate) 13 ((2 * tm) + 1) asked) h) 0 rfl rfl 22 (by decide) lk2 (v := .int (nI tm)) (congrArg (fun z => some (Value.int z)) (((up2_rn (by decide)).trans (up2_rn (by decide))).trans (ht0))) dX12_tell_67 ?_
        refine lv_iconst (v := 1) hx hb dX12_tell_70 (by decide) ?_
        refine ln_iadd (x := tm) (y := 1) hx hb dX12_tell_71 ?_
        refine g_put S hw hinX12 tyX12 tyX12_ok nmX12 (fs := fM a (up2 (up2 σ 13 (2 * tm) rate) 13 ((2 * tm) + 1) asked) h) 0 rfl rfl 22 (by decide) lk2 rfl rfl rfl (Nat.le_of_ble_eq_true rfl) (w2 := wM cI a (up2 (up2 (up2 σ 13 (2 * tm) rate) 13 ((2 * tm) + 1) asked) 0 22 (nI (tm + 1))) h) (wM_f22 _ _ _ _ _) dX12_tell_72 (fun H locs hw => ?_)
        refine lv_aload_n hx hb dX12_tell_75 rfl (lv_at hl 0 rfl) ?_
        refine g_get S hw hinX12 (fs := fM a (up2 (up2 (up2 σ 13 (2 * tm) rate) 13 ((2 * tm) + 1) asked) 0 22 (nI (tm + 1))) h) 0 rfl rfl 22 (by decide) lk2 (v := .int (nI (tm + 1))) (congrArg (fun z => some (Value.int z)) (up2_rs)) dX12_tell_76 ?_
        exact g_iret S hr hlk hw (by simp only [M_tell_r, if_neg c_1, if_neg c_2, if_neg c_3]) (by simp only [M_tell_s, if_neg c_1, if_neg c_2, if_neg c_3]) dX12_tell_79
      · refine lv_bipush (v := (-104)) hx hb dX12_tell_36 (by decide) ?_
        exact g_iret S hr hlk hw (by simp only [M_tell_r, if_neg c_1, if_neg c_2, if_pos c_3]) (by simp only [M_tell_s, if_neg c_1, if_neg c_2, if_pos c_3]) dX12_tell_38
    · refine lv_bipush (v := (-102)) hx hb dX12_tell_24 (by decide) ?_
      exact g_iret S hr hlk hw (by simp only [M_tell_r, if_neg c_1, if_pos c_2]) (by simp only [M_tell_s, if_neg c_1, if_pos c_2]) dX12_tell_26

def M_forget_r (σ : Nat → Nat → Int32) : Int32 := σ 0 22
def M_forget_s (σ : Nat → Nat → Int32) : Nat → Nat → Int32 := up2 σ 0 22 0
theorem M_forget_s_k1 (σ : Nat → Nat → Int32) : M_forget_s σ 1 = σ 1 := by
  unfold M_forget_s
  exact up2_n _ _ _ (by decide)
theorem M_forget_s_k2 (σ : Nat → Nat → Int32) : M_forget_s σ 2 = σ 2 := by
  unfold M_forget_s
  exact up2_n _ _ _ (by decide)
theorem M_forget_s_k3 (σ : Nat → Nat → Int32) : M_forget_s σ 3 = σ 3 := by
  unfold M_forget_s
  exact up2_n _ _ _ (by decide)
theorem M_forget_s_k4 (σ : Nat → Nat → Int32) : M_forget_s σ 4 = σ 4 := by
  unfold M_forget_s
  exact up2_n _ _ _ (by decide)
theorem M_forget_s_k5 (σ : Nat → Nat → Int32) : M_forget_s σ 5 = σ 5 := by
  unfold M_forget_s
  exact up2_n _ _ _ (by decide)
theorem M_forget_s_k6 (σ : Nat → Nat → Int32) : M_forget_s σ 6 = σ 6 := by
  unfold M_forget_s
  exact up2_n _ _ _ (by decide)
theorem M_forget_s_k7 (σ : Nat → Nat → Int32) : M_forget_s σ 7 = σ 7 := by
  unfold M_forget_s
  exact up2_n _ _ _ (by decide)
theorem M_forget_s_k8 (σ : Nat → Nat → Int32) : M_forget_s σ 8 = σ 8 := by
  unfold M_forget_s
  exact up2_n _ _ _ (by decide)
theorem M_forget_s_k9 (σ : Nat → Nat → Int32) : M_forget_s σ 9 = σ 9 := by
  unfold M_forget_s
  exact up2_n _ _ _ (by decide)
theorem M_forget_s_k10 (σ : Nat → Nat → Int32) : M_forget_s σ 10 = σ 10 := by
  unfold M_forget_s
  exact up2_n _ _ _ (by decide)
theorem M_forget_s_k11 (σ : Nat → Nat → Int32) : M_forget_s σ 11 = σ 11 := by
  unfold M_forget_s
  exact up2_n _ _ _ (by decide)
theorem M_forget_s_k12 (σ : Nat → Nat → Int32) : M_forget_s σ 12 = σ 12 := by
  unfold M_forget_s
  exact up2_n _ _ _ (by decide)
theorem M_forget_s_k13 (σ : Nat → Nat → Int32) : M_forget_s σ 13 = σ 13 := by
  unfold M_forget_s
  exact up2_n _ _ _ (by decide)
theorem M_forget_s_k14 (σ : Nat → Nat → Int32) : M_forget_s σ 14 = σ 14 := by
  unfold M_forget_s
  exact up2_n _ _ _ (by decide)
theorem M_forget_s_k15 (σ : Nat → Nat → Int32) : M_forget_s σ 15 = σ 15 := by
  unfold M_forget_s
  exact up2_n _ _ _ (by decide)
theorem M_forget_s_k16 (σ : Nat → Nat → Int32) : M_forget_s σ 16 = σ 16 := by
  unfold M_forget_s
  exact up2_n _ _ _ (by decide)
theorem M_forget_s_k17 (σ : Nat → Nat → Int32) : M_forget_s σ 17 = σ 17 := by
  unfold M_forget_s
  exact up2_n _ _ _ (by decide)
theorem M_forget_s_k18 (σ : Nat → Nat → Int32) : M_forget_s σ 18 = σ 18 := by
  unfold M_forget_s
  exact up2_n _ _ _ (by decide)
theorem M_forget_s_k19 (σ : Nat → Nat → Int32) : M_forget_s σ 19 = σ 19 := by
  unfold M_forget_s
  exact up2_n _ _ _ (by decide)
set_option maxHeartbeats 4000000 in
set_option maxRecDepth 100000 in
theorem c_M_forget (l : Launch) (D : va_G) (cI : ClassId) (a : Nat → Nat) (σ : Nat → Nat → Int32) (h : Int64) : gI l D [(cI, .int)] yX12_forget wsX12_forget 1 [.ref (a 0)] (wM cI a σ h) (M_forget_r σ) (wM cI a (M_forget_s σ) h) := by
  refine g_start (cc := cX12_forget) (maxL := 2) (ret := some .int) (Qc := gQi D [(cI, .int)] (M_forget_r σ) (wM cI a (M_forget_s σ) h)) (by decide) rfl (Nat.le_of_ble_eq_true rfl) ?_
  intro p e s m below meth C A ls S hr hlk hw hl
  obtain ⟨hx, hb, hml, hown, hts⟩ := id S
  have hinX12 : ∀ x ∈ u_ws RX12 TX12 38, x ∈ wsX12_forget := fun x h => List.mem_cons_of_mem _ (List.mem_append_right _ h)
  have lk0 : Cond.fieldLink RX12 120 "CowsOwedModel" "toldMany" "I" ∈ wsX12_forget := by decide +kernel
  have hl : lv_has ls 2 [(0, .ref (a 0))] := hl
  refine lv_aload_n hx hb dX12_forget_0 rfl (lv_at hl 0 rfl) ?_
  refine g_get S hw hinX12 (fs := fM a σ h) 0 rfl rfl 22 (by decide) lk0 (v := .int (σ 0 22)) rfl dX12_forget_1 ?_
  refine lv_istore_n (lv' := [(1, .int (σ 0 22)), (0, .ref (a 0))]) hx hb dX12_forget_4 rfl hl (by decide) rfl (fun ls hl => ?_)
  refine lv_aload_n hx hb dX12_forget_5 rfl (lv_at hl 1 rfl) ?_
  refine lv_iconst (v := 0) hx hb dX12_forget_6 (by decide) ?_
  refine g_put S hw hinX12 tyX12 tyX12_ok nmX12 (fs := fM a σ h) 0 rfl rfl 22 (by decide) lk0 rfl rfl rfl (Nat.le_of_ble_eq_true rfl) (w2 := wM cI a (up2 σ 0 22 0) h) (wM_f22 _ _ _ _ _) dX12_forget_7 (fun H locs hw => ?_)
  refine lv_iload_n hx hb dX12_forget_10 rfl (lv_at hl 0 rfl) ?_
  exact g_iret S hr hlk hw (by simp only [M_forget_r]) (by simp only [M_forget_s]) dX12_forget_11
