def XH_drawn_n (b : Nat) (κ : Nat → Nat) (σ : Nat → Nat → Int32) (n : Nat) (sd : Nat) : Nat := (sd / 65536) % n
set_option maxHeartbeats 4000000 in
set_option maxRecDepth 100000 in
theorem c_XH_drawn_24 (l : Launch) (D : va_G) (cI cC cI2 : ClassId) (a : Nat → Nat) (κ : Nat → Nat) (σ : Nat → Nat → Int32) (n : Nat) (sd : Nat) (hn : σ 24 3 = nI n) (hnb : n ≤ 4) (hn0 : 0 < n) (hs : sd < 2147483648) : gI l D (tysX cI cC cI2) yX2_drawn wsX2_drawn 1 [.ref (a 24), .int (nI sd)] (wX cI cC cI2 a κ σ) (nI (XH_drawn_n 24 κ σ n sd)) (wX cI cC cI2 a κ σ) := by
  refine g_start (cc := cX2_drawn) (maxL := 2) (ret := some .int) (Qc := gQi D (tysX cI cC cI2) (nI (XH_drawn_n 24 κ σ n sd)) (wX cI cC cI2 a κ σ)) (by decide) rfl (Nat.le_of_ble_eq_true rfl) ?_
  intro p e s m below meth C A ls S hr hlk hw hl
  obtain ⟨hx, hb, hml, hown, hts⟩ := id S
  have hinX2 : ∀ x ∈ u_ws RX2 TX2 5, x ∈ wsX2_drawn := fun x h => List.mem_cons_of_mem _ (List.mem_append_right _ h)
  have lk0 : Cond.fieldLink RX2 20 "CowsOwed$Herds" "size" "I" ∈ wsX2_drawn := by decide +kernel
  have lk1 : Cond.constant RX2 92 (65536) ∈ wsX2_drawn := by decide +kernel
  have hl : lv_has ls 2 [(0, .ref (a 24)), (1, .int (nI sd))] := hl
  refine lv_aload_n hx hb dX2_drawn_0 rfl (lv_at hl 0 rfl) ?_
  refine g_get S hw hinX2 (fs := fX24 a σ) 24 rfl rfl 3 (by decide) lk0 (v := .int (nI n)) (congrArg (fun z => some (Value.int z)) (hn)) dX2_drawn_1 ?_
  refine lv_iconst (v := 1) hx hb dX2_drawn_4 (by decide) ?_
  refine ln_ge (x := n) (y := 1) hx hb (by omega) (by omega) (tgt := 12) dX2_drawn_5 (by decide) (fun c_x => ?_) (fun c_x => absurd (by omega) c_x)
  refine lv_iload_n hx hb dX2_drawn_12 rfl (lv_at hl 1 rfl) ?_
  refine lv_ldc (v := 65536) hx hb hown (hts _ lk1) dX2_drawn_13 ?_
  refine ln_idiv (x := sd) (y := 65536) hx hb (by omega) (by omega) (by omega) dX2_drawn_15 ?_
  refine lv_aload_n hx hb dX2_drawn_16 rfl (lv_at hl 0 rfl) ?_
  refine g_get S hw hinX2 (fs := fX24 a σ) 24 rfl rfl 3 (by decide) lk0 (v := .int (nI n)) (congrArg (fun z => some (Value.int z)) (hn)) dX2_drawn_17 ?_
  refine ln_irem (x := sd / 65536) (y := n) hx hb (by omega) (by omega) (by omega) dX2_drawn_20 ?_
  exact g_iret S hr hlk hw (by simp only [XH_drawn_n, Nat.reduceAdd]) rfl dX2_drawn_21
theorem XH_drawn_lt (b : Nat) (κ : Nat → Nat) (σ : Nat → Nat → Int32) {n sd : Nat} (h : 0 < n) : XH_drawn_n b κ σ n sd < n := Nat.mod_lt _ h
def XH_live_S5_0 (b : Nat) (κ : Nat → Nat) (n : Nat) (years : Nat) (sd : Nat) (i5 : Nat) (x5_3 : Nat) (σ5 : Nat → Nat → Int32) : Nat := if (XH_knowsCouple_r b κ σ5 (nI (XH_drawn_n b κ σ5 n (seedN x5_3))) (nI (XH_drawn_n b κ σ5 n (seedN (seedN x5_3))))) = 0 then (seedN (seedN x5_3)) else (seedN (seedN x5_3))
def XH_live_S5_1 (b : Nat) (κ : Nat → Nat) (n : Nat) (years : Nat) (sd : Nat) (i5 : Nat) (x5_3 : Nat) (σ5 : Nat → Nat → Int32) : Nat → Nat → Int32 := if (XH_knowsCouple_r b κ σ5 (nI (XH_drawn_n b κ σ5 n (seedN x5_3))) (nI (XH_drawn_n b κ σ5 n (seedN (seedN x5_3))))) = 0 then (XH_passYear_s b κ σ5 n) else (XH_passYear_s b κ (XH_marry_s b κ σ5 (XH_drawn_n b κ σ5 n (seedN x5_3)) (XH_drawn_n b κ σ5 n (seedN (seedN x5_3)))) n)
def XH_live_L5 (b : Nat) (κ : Nat → Nat) (n : Nat) (years : Nat) (sd : Nat) : Nat → Nat → (Nat) → (Nat → Nat → Int32) → (Nat) × (Nat → Nat → Int32)
  | 0, _, x5_3, σ5 => (x5_3, σ5)
  | n5 + 1, i5, x5_3, σ5 => XH_live_L5 b κ n years sd n5 (i5 + 1) (XH_live_S5_0 b κ n years sd i5 x5_3 σ5) (XH_live_S5_1 b κ n years sd i5 x5_3 σ5)
theorem XH_live_S5_k (b : Nat) (κ : Nat → Nat) (n : Nat) (years : Nat) (sd : Nat) (c9 : Nat) (q0 : c9 ≠ (b + 1)) (q1 : c9 ≠ (b + 2)) (i5 : Nat) (x5_3 : Nat) (σ5 : Nat → Nat → Int32) : XH_live_S5_1 b κ n years sd i5 x5_3 σ5 c9 = σ5 c9 := by
  unfold XH_live_S5_1
  by_cases z1 : (XH_knowsCouple_r b κ σ5 (nI (XH_drawn_n b κ σ5 n (seedN x5_3))) (nI (XH_drawn_n b κ σ5 n (seedN (seedN x5_3))))) = 0
  · refine Eq.trans (congrFun (if_pos z1) c9) ?_
    exact XH_passYear_s_k b κ σ5 n c9 q0 q1
  · refine Eq.trans (congrFun (if_neg z1) c9) ?_
    exact (XH_passYear_s_k b κ (XH_marry_s b κ σ5 (XH_drawn_n b κ σ5 n (seedN x5_3)) (XH_drawn_n b κ σ5 n (seedN (seedN x5_3)))) n c9 q0 q1).trans (XH_marry_s_k b κ σ5 (XH_drawn_n b κ σ5 n (seedN x5_3)) (XH_drawn_n b κ σ5 n (seedN (seedN x5_3))) c9 q0 q1)
theorem XH_live_L5_k (b : Nat) (κ : Nat → Nat) (n : Nat) (years : Nat) (sd : Nat) (c9 : Nat) (q0 : c9 ≠ (b + 1)) (q1 : c9 ≠ (b + 2)) : ∀ (n5 i5 : Nat) (x5_3 : Nat) (σ5 : Nat → Nat → Int32), (XH_live_L5 b κ n years sd n5 i5 x5_3 σ5).2 c9 = σ5 c9 := by
  intro n5
  induction n5 with
  | zero => intros; rfl
  | succ n5 ih => intro i5 x5_3 σ5; exact (ih (i5 + 1) (XH_live_S5_0 b κ n years sd i5 x5_3 σ5) (XH_live_S5_1 b κ n years sd i5 x5_3 σ5)).trans (XH_live_S5_k b κ n years sd c9 q0 q1 i5 x5_3 σ5)
def XH_live_n (b : Nat) (κ : Nat → Nat) (σ : Nat → Nat → Int32) (n : Nat) (years : Nat) (sd : Nat) : Nat := (XH_live_L5 b κ n years sd years 0 sd σ).1
def XH_live_s (b : Nat) (κ : Nat → Nat) (σ : Nat → Nat → Int32) (n : Nat) (years : Nat) (sd : Nat) : Nat → Nat → Int32 := (XH_live_L5 b κ n years sd years 0 sd σ).2
theorem XH_live_s_k (b : Nat) (κ : Nat → Nat) (σ : Nat → Nat → Int32) (n : Nat) (years : Nat) (sd : Nat) (c9 : Nat) (q0 : c9 ≠ (b + 1)) (q1 : c9 ≠ (b + 2)) : XH_live_s b κ σ n years sd c9 = σ c9 := by
  unfold XH_live_s
  exact XH_live_L5_k b κ n years sd c9 q0 q1 years 0 sd σ
set_option maxHeartbeats 4000000 in
set_option maxRecDepth 100000 in
theorem c_XH_live_24 (l : Launch) (D : va_G) (cI cC cI2 : ClassId) (a : Nat → Nat) (κ : Nat → Nat) (σ : Nat → Nat → Int32) (n : Nat) (years : Nat) (sd : Nat) (hn : σ 24 3 = nI n) (hnb : n ≤ 4) (hn0 : 0 < n) (hs : sd < 2147483648) (hy : years ≤ 40) (hk : ∀ i, i < 4 → κ i < 5) : gI l D (tysX cI cC cI2) yX2_live wsX2_live 6 [.ref (a 24), .int (nI years), .int (nI sd)] (wX cI cC cI2 a κ σ) (nI (XH_live_n 24 κ σ n years sd)) (wX cI cC cI2 a κ (XH_live_s 24 κ σ n years sd)) := by
  refine g_start (cc := cX2_live) (maxL := 7) (ret := some .int) (Qc := gQi D (tysX cI cC cI2) (nI (XH_live_n 24 κ σ n years sd)) (wX cI cC cI2 a κ (XH_live_s 24 κ σ n years sd))) (by decide) rfl (Nat.le_of_ble_eq_true rfl) ?_
  intro p e s m below meth C A ls S hr hlk hw hl
  obtain ⟨hx, hb, hml, hown, hts⟩ := id S
  have hl : lv_has ls 7 [(0, .ref (a 24)), (1, .int (nI years)), (2, .int (nI sd))] := hl
  refine lv_iload_n hx hb dX2_live_0 rfl (lv_at hl 2 rfl) ?_
  refine lv_istore_n (lv' := [(3, .int (nI sd)), (0, .ref (a 24)), (1, .int (nI years)), (2, .int (nI sd))]) hx hb dX2_live_1 rfl hl (by decide) rfl (fun ls hl => ?_)
  refine lv_iconst (v := 0) hx hb dX2_live_2 (by decide) ?_
  refine lv_istore (lv' := [(4, .int 0), (3, .int (nI sd)), (0, .ref (a 24)), (1, .int (nI years)), (2, .int (nI sd))]) hx hb dX2_live_3 hl (by decide) rfl (fun ls hl => ?_)
  have L5 : ∀ (n5 i5 : Nat) (x5_3 : Nat) (σ5 : Nat → Nat → Int32) (H : Heap) (locs : List Loc) (ls : Array Slot), i5 + n5 = years → σ5 24 = σ 24 → x5_3 < 2147483648 → XH_live_L5 24 κ n years sd n5 i5 x5_3 σ5 = XH_live_L5 24 κ n years sd years 0 sd σ → gw D (tysX cI cC cI2) A s H locs (wX cI cC cI2 a κ σ5) → lv_has ls 7 [(4, .int (nI i5)), (3, .int (nI x5_3)), (0, .ref (a 24)), (1, .int (nI years)), (2, .int (nI sd))] → W p l e (gR 6) s m ([.ref (a 24), .int (nI years), .int (nI sd)] : List Value).toArray below meth C H locs 0 0 (MQ below (gQi D (tysX cI cC cI2) (nI (XH_live_n 24 κ σ n years sd)) (wX cI cC cI2 a κ (XH_live_s 24 κ σ n years sd)) A) ([.ref (a 24), .int (nI years), .int (nI sd)] : List Value).toArray s 0 0 A) (F0 m 5 ls []) := by
    intro n5
    induction n5 with
    | zero =>
      intro i5 x5_3 σ5 H locs ls hi5 k5_0 hv hF5 hw hl
      refine lv_iload hx hb dX2_live_5 (lv_at hl 0 rfl) ?_
      refine lv_iload_n hx hb dX2_live_7 rfl (lv_at hl 3 rfl) ?_
      refine ln_ge (x := i5) (y := years) hx hb (by omega) (by omega) (tgt := 65) dX2_live_8 (by decide) (fun c_x => ?_) (fun c_x => absurd (by omega) c_x)
      have hz5 : years = i5 := by omega
      subst hz5
      have e5_0 : (XH_live_L5 24 κ n years sd years 0 sd σ).1 = x5_3 := (congrArg (fun z => z.1) hF5).symm
      have e5_1 : (XH_live_L5 24 κ n years sd years 0 sd σ).2 = σ5 := (congrArg (fun z => z.2) hF5).symm
      subst e5_0
      subst e5_1
      refine lv_iload_n hx hb dX2_live_65 rfl (lv_at hl 1 rfl) ?_
      exact g_iret S hr hlk hw (by simp only [XH_live_n, Nat.reduceAdd]) (by simp only [XH_live_s, Nat.reduceAdd]) dX2_live_66
    | succ n5 ih5 =>
      intro i5 x5_3 σ5 H locs ls hi5 k5_0 hv hF5 hw hl
      refine lv_iload hx hb dX2_live_5 (lv_at hl 0 rfl) ?_
      refine lv_iload_n hx hb dX2_live_7 rfl (lv_at hl 3 rfl) ?_
      refine ln_ge (x := i5) (y := years) hx hb (by omega) (by omega) (tgt := 65) dX2_live_8 (by decide) (fun c_x => absurd c_x (by omega)) (fun c_x => ?_)
      refine lv_iload_n hx hb dX2_live_11 rfl (lv_at hl 1 rfl) ?_
      refine g_callSi S hw (c_XH_nextSeed l D (tysX cI cC cI2) (wX cI cC cI2 a κ σ5) (nI x5_3)) gX2_live_X2_nextSeed rfl 1 rfl (by decide +kernel) (by decide) (by decide) hl.1 rfl (Nat.le_of_ble_eq_true rfl) dX2_live_12 (fun H locs hw => ?_)
      refine lv_istore_n (lv' := [(3, .int (XH_nextSeed_r (nI x5_3))), (4, .int (nI i5)), (0, .ref (a 24)), (1, .int (nI years)), (2, .int (nI sd))]) hx hb dX2_live_15 rfl hl (by decide) rfl (fun ls hl => ?_)
      have e16 := XH_nextSeed_nat (s := x5_3) (by omega)
      have s16 := seedN_lt x5_3
      have hl : lv_has ls 7 [(3, .int (nI (seedN x5_3))), (4, .int (nI i5)), (0, .ref (a 24)), (1, .int (nI years)), (2, .int (nI sd))] := by rw [← e16]; exact hl
      refine lv_aload_n hx hb dX2_live_16 rfl (lv_at hl 2 rfl) ?_
      refine lv_iload_n hx hb dX2_live_17 rfl (lv_at hl 0 rfl) ?_
      refine g_callVi S hw (c_XH_drawn_24 l D cI cC cI2 a κ σ5 n (seedN x5_3) ((congrFun k5_0 3).trans (hn)) (by omega) (by omega) (by omega)) gX2_live_X2_drawn rfl 24 rfl rfl 1 rfl (by decide +kernel) (by decide) (by decide) hl.1 rfl (Nat.le_of_ble_eq_true rfl) dX2_live_18 (fun H locs hw => ?_)
      refine lv_istore (lv' := [(5, .int (nI (XH_drawn_n 24 κ σ5 n (seedN x5_3)))), (3, .int (nI (seedN x5_3))), (4, .int (nI i5)), (0, .ref (a 24)), (1, .int (nI years)), (2, .int (nI sd))]) hx hb dX2_live_21 hl (by decide) rfl (fun ls hl => ?_)
      have d23 := XH_drawn_lt 24 κ σ5 hn0 (sd := seedN x5_3)
      refine lv_iload_n hx hb dX2_live_23 rfl (lv_at hl 1 rfl) ?_
      refine g_callSi S hw (c_XH_nextSeed l D (tysX cI cC cI2) (wX cI cC cI2 a κ σ5) (nI (seedN x5_3))) gX2_live_X2_nextSeed rfl 1 rfl (by decide +kernel) (by decide) (by decide) hl.1 rfl (Nat.le_of_ble_eq_true rfl) dX2_live_24 (fun H locs hw => ?_)
      refine lv_istore_n (lv' := [(3, .int (XH_nextSeed_r (nI (seedN x5_3)))), (5, .int (nI (XH_drawn_n 24 κ σ5 n (seedN x5_3)))), (4, .int (nI i5)), (0, .ref (a 24)), (1, .int (nI years)), (2, .int (nI sd))]) hx hb dX2_live_27 rfl hl (by decide) rfl (fun ls hl => ?_)
      have e28 := XH_nextSeed_nat (s := seedN x5_3) (by omega)
      have s28 := seedN_lt (seedN x5_3)
      have hl : lv_has ls 7 [(3, .int (nI (seedN (seedN x5_3)))), (5, .int (nI (XH_drawn_n 24 κ σ5 n (seedN x5_3)))), (4, .int (nI i5)), (0, .ref (a 24)), (1, .int (nI years)), (2, .int (nI sd))] := by rw [← e28]; exact hl
      refine lv_aload_n hx hb dX2_live_28 rfl (lv_at hl 3 rfl) ?_
      refine lv_iload_n hx hb dX2_live_29 rfl (lv_at hl 0 rfl) ?_
      refine g_callVi S hw (c_XH_drawn_24 l D cI cC cI2 a κ σ5 n (seedN (seedN x5_3)) ((congrFun k5_0 3).trans (hn)) (by omega) (by omega) (by omega)) gX2_live_X2_drawn rfl 24 rfl rfl 1 rfl (by decide +kernel) (by decide) (by decide) hl.1 rfl (Nat.le_of_ble_eq_true rfl) dX2_live_30 (fun H locs hw => ?_)
      refine lv_istore (lv' := [(6, .int (nI (XH_drawn_n 24 κ σ5 n (seedN (seedN x5_3))))), (3, .int (nI (seedN (seedN x5_3)))), (5, .int (nI (XH_drawn_n 24 κ σ5 n (seedN x5_3)))), (4, .int (nI i5)), (0, .ref (a 24)), (1, .int (nI years)), (2, .int (nI sd))]) hx hb dX2_live_33 hl (by decide) rfl (fun ls hl => ?_)
      have d35 := XH_drawn_lt 24 κ σ5 hn0 (sd := seedN (seedN x5_3))
      refine lv_aload_n hx hb dX2_live_35 rfl (lv_at hl 4 rfl) ?_
      refine lv_iload hx hb dX2_live_36 (lv_at hl 2 rfl) ?_
      refine lv_iload hx hb dX2_live_38 (lv_at hl 0 rfl) ?_
      refine g_callVi S hw (c_XH_knowsCouple_24 l D cI cC cI2 a κ σ5 (nI (XH_drawn_n 24 κ σ5 n (seedN x5_3))) (nI (XH_drawn_n 24 κ σ5 n (seedN (seedN x5_3))))) gX2_live_X2_knowsCouple rfl 24 rfl rfl 2 rfl (by decide +kernel) (by decide) (by decide) hl.1 rfl (Nat.le_of_ble_eq_true rfl) dX2_live_40 (fun H locs hw => ?_)
      refine lv_if_eq hx hb (tgt := 55) dX2_live_43 (by decide) (fun c_2 => ?_) (fun c_2 => ?_)
      · refine lv_aload_n hx hb dX2_live_55 rfl (lv_at hl 4 rfl) ?_
        refine g_callVv S hw (c_XH_passYear_24 l D cI cC cI2 a κ σ5 n ((congrFun k5_0 3).trans (hn)) (by omega) hk) gX2_live_X2_passYear rfl 24 rfl rfl 0 rfl (by decide +kernel) (by decide) (by decide) hl.1 rfl (Nat.le_of_ble_eq_true rfl) dX2_live_56 (fun H locs hw => ?_)
        refine lv_iinc (v := nI (i5 + 1)) (lv' := [(4, .int (nI (i5 + 1))), (6, .int (nI (XH_drawn_n 24 κ σ5 n (seedN (seedN x5_3))))), (3, .int (nI (seedN (seedN x5_3)))), (5, .int (nI (XH_drawn_n 24 κ σ5 n (seedN x5_3)))), (0, .ref (a 24)), (1, .int (nI years)), (2, .int (nI sd))]) hx hb dX2_live_59 hl (k := 3) rfl (nI_1 _) (by decide) rfl (fun ls hl => ?_)
        refine lv_goto (tgt := 5) hx hb dX2_live_62 (by decide) ?_
        exact ih5 (i5 + 1) (seedN (seedN x5_3)) (XH_passYear_s 24 κ σ5 n) _ _ _ (by omega) ((XH_passYear_s_k 24 κ σ5 n 24 (by omega) (by omega)).trans (k5_0)) (seedN_lt _) (by have q := hF5; simp only [XH_live_L5, XH_live_S5_0, XH_live_S5_1, Nat.reduceAdd, if_pos c_2] at q; exact q) hw (lv_sub hl [0, 2, 4, 5, 6] rfl)
      · refine lv_aload_n hx hb dX2_live_46 rfl (lv_at hl 4 rfl) ?_
        refine lv_iload hx hb dX2_live_47 (lv_at hl 2 rfl) ?_
        refine lv_iload hx hb dX2_live_49 (lv_at hl 0 rfl) ?_
        refine g_callVi S hw (c_XH_marry_24 l D cI cC cI2 a κ σ5 (XH_drawn_n 24 κ σ5 n (seedN x5_3)) (XH_drawn_n 24 κ σ5 n (seedN (seedN x5_3))) (by omega) (by omega) hk) gX2_live_X2_marry rfl 24 rfl rfl 2 rfl (by decide +kernel) (by decide) (by decide) hl.1 rfl (Nat.le_of_ble_eq_true rfl) dX2_live_51 (fun H locs hw => ?_)
        refine lv_pop hx hb dX2_live_54 rfl ?_
        refine lv_aload_n hx hb dX2_live_55 rfl (lv_at hl 4 rfl) ?_
        refine g_callVv S hw (c_XH_passYear_24 l D cI cC cI2 a κ (XH_marry_s 24 κ σ5 (XH_drawn_n 24 κ σ5 n (seedN x5_3)) (XH_drawn_n 24 κ σ5 n (seedN (seedN x5_3)))) n ((congrFun (XH_marry_s_k 24 κ σ5 (XH_drawn_n 24 κ σ5 n (seedN x5_3)) (XH_drawn_n 24 κ σ5 n (seedN (seedN x5_3))) 24 (by omega) (by omega)) 3).trans ((congrFun k5_0 3).trans (hn))) (by omega) hk) gX2_live_X2_passYear rfl 24 rfl rfl 0 rfl (by decide +kernel) (by decide) (by decide) hl.1 rfl (Nat.le_of_ble_eq_true rfl) dX2_live_56 (fun H locs hw => ?_)
        refine lv_iinc (v := nI (i5 + 1)) (lv' := [(4, .int (nI (i5 + 1))), (6, .int (nI (XH_drawn_n 24 κ σ5 n (seedN (seedN x5_3))))), (3, .int (nI (seedN (seedN x5_3)))), (5, .int (nI (XH_drawn_n 24 κ σ5 n (seedN x5_3)))), (0, .ref (a 24)), (1, .int (nI years)), (2, .int (nI sd))]) hx hb dX2_live_59 hl (k := 3) rfl (nI_1 _) (by decide) rfl (fun ls hl => ?_)
        refine lv_goto (tgt := 5) hx hb dX2_live_62 (by decide) ?_
        exact ih5 (i5 + 1) (seedN (seedN x5_3)) (XH_passYear_s 24 κ (XH_marry_s 24 κ σ5 (XH_drawn_n 24 κ σ5 n (seedN x5_3)) (XH_drawn_n 24 κ σ5 n (seedN (seedN x5_3)))) n) _ _ _ (by omega) ((XH_passYear_s_k 24 κ (XH_marry_s 24 κ σ5 (XH_drawn_n 24 κ σ5 n (seedN x5_3)) (XH_drawn_n 24 κ σ5 n (seedN (seedN x5_3)))) n 24 (by omega) (by omega)).trans ((XH_marry_s_k 24 κ σ5 (XH_drawn_n 24 κ σ5 n (seedN x5_3)) (XH_drawn_n 24 κ σ5 n (seedN (seedN x5_3))) 24 (by omega) (by omega)).trans (k5_0))) (seedN_lt _) (by have q := hF5; simp only [XH_live_L5, XH_live_S5_0, XH_live_S5_1, Nat.reduceAdd, if_neg c_2] at q; exact q) hw (lv_sub hl [0, 2, 4, 5, 6] rfl)
  exact L5 years 0 sd σ _ _ _ (by omega) rfl (hs) rfl hw (lv_sub hl [0, 1, 2, 3, 4] rfl)
def XP_marryInOrder_S2_0 (κ : Nat → Nat) (pl : Nat) (i2 : Nat) (σ2 : Nat → Nat → Int32) : Nat → Nat → Int32 := XH_marry_s 24 κ σ2 ((σ2 38 ((σ2 40 i2).toNatClampNeg)).toNatClampNeg) ((σ2 39 ((σ2 40 i2).toNatClampNeg)).toNatClampNeg)
def XP_marryInOrder_L2 (κ : Nat → Nat) (pl : Nat) : Nat → Nat → (Nat → Nat → Int32) → (Nat → Nat → Int32)
  | 0, _, σ2 => σ2
  | n2 + 1, i2, σ2 => XP_marryInOrder_L2 κ pl n2 (i2 + 1) (XP_marryInOrder_S2_0 κ pl i2 σ2)
theorem XP_marryInOrder_S2_k (κ : Nat → Nat) (pl : Nat) (c9 : Nat) (q0 : c9 ≠ 25) (q1 : c9 ≠ 26) (i2 : Nat) (σ2 : Nat → Nat → Int32) : XP_marryInOrder_S2_0 κ pl i2 σ2 c9 = σ2 c9 := by
  unfold XP_marryInOrder_S2_0
  exact XH_marry_s_k 24 κ σ2 ((σ2 38 ((σ2 40 i2).toNatClampNeg)).toNatClampNeg) ((σ2 39 ((σ2 40 i2).toNatClampNeg)).toNatClampNeg) c9 q0 q1
theorem XP_marryInOrder_L2_k (κ : Nat → Nat) (pl : Nat) (c9 : Nat) (q0 : c9 ≠ 25) (q1 : c9 ≠ 26) : ∀ (n2 i2 : Nat) (σ2 : Nat → Nat → Int32), (XP_marryInOrder_L2 κ pl n2 i2 σ2) c9 = σ2 c9 := by
  intro n2
  induction n2 with
  | zero => intros; rfl
  | succ n2 ih => intro i2 σ2; exact (ih (i2 + 1) (XP_marryInOrder_S2_0 κ pl i2 σ2)).trans (XP_marryInOrder_S2_k κ pl c9 q0 q1 i2 σ2)
def XP_marryInOrder_s (κ : Nat → Nat) (σ : Nat → Nat → Int32) (pl : Nat) : Nat → Nat → Int32 := (XP_marryInOrder_L2 κ pl pl 0 σ)
theorem XP_marryInOrder_s_k (κ : Nat → Nat) (σ : Nat → Nat → Int32) (pl : Nat) (c9 : Nat) (q0 : c9 ≠ 25) (q1 : c9 ≠ 26) : XP_marryInOrder_s κ σ pl c9 = σ c9 := by
  unfold XP_marryInOrder_s
  exact XP_marryInOrder_L2_k κ pl c9 q0 q1 pl 0 σ
set_option maxHeartbeats 4000000 in
set_option maxRecDepth 100000 in
theorem c_XP_marryInOrder (l : Launch) (D : va_G) (cI cC cI2 : ClassId) (a : Nat → Nat) (κ : Nat → Nat) (σ : Nat → Nat → Int32) (pl : Nat) (hp0 : σ 37 4 = nI pl) (hp0b : pl ≤ 4) (h38 : natRow (σ 38) pl 4) (h39 : natRow (σ 39) pl 4) (h40 : natRow (σ 40) pl pl) (hk : ∀ i, i < 4 → κ i < 5) : gV l D (tysX cI cC cI2) yX5_marryInOrder wsX5_marryInOrder 5 [.ref (a 37), .ref (a 24)] (wX cI cC cI2 a κ σ)  (wX cI cC cI2 a κ (XP_marryInOrder_s κ σ pl)) := by
  refine g_start (cc := cX5_marryInOrder) (maxL := 4) (ret := none) (Qc := gQv D (tysX cI cC cI2) (wX cI cC cI2 a κ (XP_marryInOrder_s κ σ pl))) (by decide) rfl (Nat.le_of_ble_eq_true rfl) ?_
  intro p e s m below meth C A ls S hr hlk hw hl
  obtain ⟨hx, hb, hml, hown, hts⟩ := id S
  have hinX5 : ∀ x ∈ u_ws RX5 TX5 6, x ∈ wsX5_marryInOrder := fun x h => List.mem_cons_of_mem _ (List.mem_append_left _ (List.mem_append_right _ h))
  have lk0 : Cond.fieldLink RX5 24 "CowsOwed$Plans" "size" "I" ∈ wsX5_marryInOrder := by decide +kernel
  have lk1 : Cond.fieldLink RX5 18 "CowsOwed$Plans" "tried" "[I" ∈ wsX5_marryInOrder := by decide +kernel
  have lk2 : Cond.fieldLink RX5 9 "CowsOwed$Plans" "his" "[I" ∈ wsX5_marryInOrder := by decide +kernel
  have lk3 : Cond.fieldLink RX5 15 "CowsOwed$Plans" "hers" "[I" ∈ wsX5_marryInOrder := by decide +kernel
  have hl : lv_has ls 4 [(0, .ref (a 37)), (1, .ref (a 24))] := hl
  refine lv_iconst (v := 0) hx hb dX5_marryInOrder_0 (by decide) ?_
  refine lv_istore_n (lv' := [(2, .int 0), (0, .ref (a 37)), (1, .ref (a 24))]) hx hb dX5_marryInOrder_1 rfl hl (by decide) rfl (fun ls hl => ?_)
  have L2 : ∀ (n2 i2 : Nat) (σ2 : Nat → Nat → Int32) (H : Heap) (locs : List Loc) (ls : Array Slot), i2 + n2 = pl → σ2 37 = σ 37 → natRow (σ2 38) pl 4 → natRow (σ2 39) pl 4 → natRow (σ2 40) pl pl → XP_marryInOrder_L2 κ pl n2 i2 σ2 = XP_marryInOrder_L2 κ pl pl 0 σ → gw D (tysX cI cC cI2) A s H locs (wX cI cC cI2 a κ σ2) → lv_has ls 4 [(2, .int (nI i2)), (0, .ref (a 37)), (1, .ref (a 24))] → W p l e (gR 5) s m ([.ref (a 37), .ref (a 24)] : List Value).toArray below meth C H locs 0 0 (MQ below (gQv D (tysX cI cC cI2) (wX cI cC cI2 a κ (XP_marryInOrder_s κ σ pl)) A) ([.ref (a 37), .ref (a 24)] : List Value).toArray s 0 0 A) (F0 m 2 ls []) := by
    intro n2
    induction n2 with
    | zero =>
      intro i2 σ2 H locs ls hi2 k2_37 r2_38 r2_39 r2_40 hF2 hw hl
      refine lv_iload_n hx hb dX5_marryInOrder_2 rfl (lv_at hl 0 rfl) ?_
      refine lv_aload_n hx hb dX5_marryInOrder_3 rfl (lv_at hl 1 rfl) ?_
      refine g_get S hw hinX5 (fs := fX37 a σ2) 37 rfl rfl 4 (by decide) lk0 (v := .int (nI pl)) (congrArg (fun z => some (Value.int z)) ((congrFun k2_37 4).trans (hp0))) dX5_marryInOrder_4 ?_
      refine ln_ge (x := i2) (y := pl) hx hb (by omega) (by omega) (tgt := 40) dX5_marryInOrder_7 (by decide) (fun c_x => ?_) (fun c_x => absurd (by omega) c_x)
      have hz2 : pl = i2 := by omega
      subst hz2
      have e2_0 : (XP_marryInOrder_L2 κ pl pl 0 σ) = σ2 := hF2.symm
      subst e2_0
      exact g_vret S hr hlk hw (by simp only [XP_marryInOrder_s]) dX5_marryInOrder_40
    | succ n2 ih2 =>
      intro i2 σ2 H locs ls hi2 k2_37 r2_38 r2_39 r2_40 hF2 hw hl
      refine lv_iload_n hx hb dX5_marryInOrder_2 rfl (lv_at hl 0 rfl) ?_
      refine lv_aload_n hx hb dX5_marryInOrder_3 rfl (lv_at hl 1 rfl) ?_
      refine g_get S hw hinX5 (fs := fX37 a σ2) 37 rfl rfl 4 (by decide) lk0 (v := .int (nI pl)) (congrArg (fun z => some (Value.int z)) ((congrFun k2_37 4).trans (hp0))) dX5_marryInOrder_4 ?_
      refine ln_ge (x := i2) (y := pl) hx hb (by omega) (by omega) (tgt := 40) dX5_marryInOrder_7 (by decide) (fun c_x => absurd c_x (by omega)) (fun c_x => ?_)
      refine lv_aload_n hx hb dX5_marryInOrder_10 rfl (lv_at hl 1 rfl) ?_
      refine g_get S hw hinX5 (fs := fX37 a σ2) 37 rfl rfl 2 (by decide) lk1 (v := .ref (a 40)) rfl dX5_marryInOrder_11 ?_
      refine lv_iload_n hx hb dX5_marryInOrder_14 rfl (lv_at hl 0 rfl) ?_
      have q2 := (r2_40) i2 (by omega)
      have q2b := q2.2
      refine g_iald S hw (f := σ2 40) (i := i2) (x := nI ((σ2 40 i2).toNatClampNeg)) 40 0 rfl rfl (by omega) (by decide) q2.1 dX5_marryInOrder_15 ?_
      refine lv_istore_n (lv' := [(3, .int (nI ((σ2 40 i2).toNatClampNeg))), (2, .int (nI i2)), (0, .ref (a 37)), (1, .ref (a 24))]) hx hb dX5_marryInOrder_16 rfl hl (by decide) rfl (fun ls hl => ?_)
      refine lv_aload_n hx hb dX5_marryInOrder_17 rfl (lv_at hl 3 rfl) ?_
      refine lv_aload_n hx hb dX5_marryInOrder_18 rfl (lv_at hl 2 rfl) ?_
      refine g_get S hw hinX5 (fs := fX37 a σ2) 37 rfl rfl 0 (by decide) lk2 (v := .ref (a 38)) rfl dX5_marryInOrder_19 ?_
      refine lv_iload_n hx hb dX5_marryInOrder_22 rfl (lv_at hl 0 rfl) ?_
      have q3 := (r2_38) ((σ2 40 i2).toNatClampNeg) (by omega)
      have q3b := q3.2
      refine g_iald S hw (f := σ2 38) (i := (σ2 40 i2).toNatClampNeg) (x := nI ((σ2 38 ((σ2 40 i2).toNatClampNeg)).toNatClampNeg)) 38 0 rfl rfl (by omega) (by decide) q3.1 dX5_marryInOrder_23 ?_
      refine lv_aload_n hx hb dX5_marryInOrder_24 rfl (lv_at hl 2 rfl) ?_
      refine g_get S hw hinX5 (fs := fX37 a σ2) 37 rfl rfl 1 (by decide) lk3 (v := .ref (a 39)) rfl dX5_marryInOrder_25 ?_
      refine lv_iload_n hx hb dX5_marryInOrder_28 rfl (lv_at hl 0 rfl) ?_
      have q4 := (r2_39) ((σ2 40 i2).toNatClampNeg) (by omega)
      have q4b := q4.2
      refine g_iald S hw (f := σ2 39) (i := (σ2 40 i2).toNatClampNeg) (x := nI ((σ2 39 ((σ2 40 i2).toNatClampNeg)).toNatClampNeg)) 39 0 rfl rfl (by omega) (by decide) q4.1 dX5_marryInOrder_29 ?_
      refine g_callVi S hw (c_XH_marry_24 l D cI cC cI2 a κ σ2 ((σ2 38 ((σ2 40 i2).toNatClampNeg)).toNatClampNeg) ((σ2 39 ((σ2 40 i2).toNatClampNeg)).toNatClampNeg) (by omega) (by omega) hk) gX5_marryInOrder_X2_marry rfl 24 rfl rfl 2 rfl (by decide +kernel) (by decide) (by decide) hl.1 rfl (Nat.le_of_ble_eq_true rfl) dX5_marryInOrder_30 (fun H locs hw => ?_)
      refine lv_pop hx hb dX5_marryInOrder_33 rfl ?_
      refine lv_iinc (v := nI (i2 + 1)) (lv' := [(2, .int (nI (i2 + 1))), (3, .int (nI ((σ2 40 i2).toNatClampNeg))), (0, .ref (a 37)), (1, .ref (a 24))]) hx hb dX5_marryInOrder_34 hl (k := 1) rfl (nI_1 _) (by decide) rfl (fun ls hl => ?_)
      refine lv_goto (tgt := 2) hx hb dX5_marryInOrder_37 (by decide) ?_
      exact ih2 (i2 + 1) (XH_marry_s 24 κ σ2 ((σ2 38 ((σ2 40 i2).toNatClampNeg)).toNatClampNeg) ((σ2 39 ((σ2 40 i2).toNatClampNeg)).toNatClampNeg)) _ _ _ (by omega) ((XH_marry_s_k 24 κ σ2 ((σ2 38 ((σ2 40 i2).toNatClampNeg)).toNatClampNeg) ((σ2 39 ((σ2 40 i2).toNatClampNeg)).toNatClampNeg) 37 (by omega) (by omega)).trans (k2_37)) (Eq.mpr (congrArg (fun z => natRow z pl 4) (XH_marry_s_k 24 κ σ2 ((σ2 38 ((σ2 40 i2).toNatClampNeg)).toNatClampNeg) ((σ2 39 ((σ2 40 i2).toNatClampNeg)).toNatClampNeg) 38 (by omega) (by omega))) r2_38) (Eq.mpr (congrArg (fun z => natRow z pl 4) (XH_marry_s_k 24 κ σ2 ((σ2 38 ((σ2 40 i2).toNatClampNeg)).toNatClampNeg) ((σ2 39 ((σ2 40 i2).toNatClampNeg)).toNatClampNeg) 39 (by omega) (by omega))) r2_39) (Eq.mpr (congrArg (fun z => natRow z pl pl) (XH_marry_s_k 24 κ σ2 ((σ2 38 ((σ2 40 i2).toNatClampNeg)).toNatClampNeg) ((σ2 39 ((σ2 40 i2).toNatClampNeg)).toNatClampNeg) 40 (by omega) (by omega))) r2_40) hF2 hw (lv_sub hl [0, 2, 3] rfl)
  exact L2 pl 0 σ _ _ _ (by omega) rfl (h38) (h39) (h40) rfl hw (lv_sub hl [0, 1, 2] rfl)
def XP_owesMore_L2 (κ : Nat → Nat) (σ : Nat → Nat → Int32) (n : Nat) : Nat → Nat → Int32
  | 0, i2 => 0
  | n2 + 1, i2 => if (XH_owedBy_r 24 κ σ n i2) ≤ (XH_owedBy_r 10 κ σ n i2) then (XP_owesMore_L2 κ σ n n2 (i2 + 1)) else 1
theorem XP_owesMore_L2_z (κ : Nat → Nat) (σ : Nat → Nat → Int32) (n : Nat) : ∀ (n2 i2 : Nat), XP_owesMore_L2 κ σ n n2 i2 = 0 ∨ XP_owesMore_L2 κ σ n n2 i2 = 1 := by
  intro n2
  induction n2 with
  | zero =>
    intro i2 
    first | exact Or.inl rfl | exact Or.inl trivial
  | succ n2 ih =>
    intro i2 
    by_cases z2 : (XH_owedBy_r 24 κ σ n i2) ≤ (XH_owedBy_r 10 κ σ n i2)
    · simp only [XP_owesMore_L2, if_pos z2]
      exact ih (i2 + 1) 
    · simp only [XP_owesMore_L2, if_neg z2]
      first | exact Or.inr rfl | exact Or.inr trivial
def XP_owesMore_r (κ : Nat → Nat) (σ : Nat → Nat → Int32) (n : Nat) : Int32 := XP_owesMore_L2 κ σ n n 0
theorem XP_owesMore_z (κ : Nat → Nat) (σ : Nat → Nat → Int32) (n : Nat) : XP_owesMore_r κ σ n = 0 ∨ XP_owesMore_r κ σ n = 1 := by
  unfold XP_owesMore_r
  exact XP_owesMore_L2_z κ σ n n 0
set_option maxHeartbeats 4000000 in
set_option maxRecDepth 100000 in
theorem c_XP_owesMore (l : Launch) (D : va_G) (cI cC cI2 : ClassId) (a : Nat → Nat) (κ : Nat → Nat) (σ : Nat → Nat → Int32) (n : Nat) (hn : σ 10 3 = nI n) (hnb : n ≤ 4) (hn2 : σ 24 3 = nI n) : gI l D (tysX cI cC cI2) yX5_owesMore wsX5_owesMore 2 [.ref (a 24), .ref (a 10)] (wX cI cC cI2 a κ σ) (XP_owesMore_r κ σ n) (wX cI cC cI2 a κ σ) := by
  refine g_start (cc := cX5_owesMore) (maxL := 3) (ret := some .boolean) (Qc := gQi D (tysX cI cC cI2) (XP_owesMore_r κ σ n) (wX cI cC cI2 a κ σ)) (by decide) rfl (Nat.le_of_ble_eq_true rfl) ?_
  intro p e s m below meth C A ls S hr hlk hw hl
  obtain ⟨hx, hb, hml, hown, hts⟩ := id S
  have hinX2 : ∀ x ∈ u_ws RX2 TX2 5, x ∈ wsX5_owesMore := fun x h => List.mem_cons_of_mem _ (List.mem_append_right _ h)
  have lk0 : Cond.fieldLink RX5 72 "CowsOwed$Herds" "size" "I" ∈ wsX5_owesMore := by decide +kernel
  have hl : lv_has ls 3 [(0, .ref (a 24)), (1, .ref (a 10))] := hl
  refine lv_iconst (v := 0) hx hb dX5_owesMore_0 (by decide) ?_
  refine lv_istore_n (lv' := [(2, .int 0), (0, .ref (a 24)), (1, .ref (a 10))]) hx hb dX5_owesMore_1 rfl hl (by decide) rfl (fun ls hl => ?_)
  have L2 : ∀ (n2 i2 : Nat)  (H : Heap) (locs : List Loc) (ls : Array Slot), i2 + n2 = n → XP_owesMore_L2 κ σ n n2 i2  = XP_owesMore_L2 κ σ n n 0 → gw D (tysX cI cC cI2) A s H locs (wX cI cC cI2 a κ σ) → lv_has ls 3 [(2, .int (nI i2)), (0, .ref (a 24)), (1, .ref (a 10))] → W p l e (gR 2) s m ([.ref (a 24), .ref (a 10)] : List Value).toArray below meth C H locs 0 0 (MQ below (gQi D (tysX cI cC cI2) (XP_owesMore_r κ σ n) (wX cI cC cI2 a κ σ) A) ([.ref (a 24), .ref (a 10)] : List Value).toArray s 0 0 A) (F0 m 2 ls []) := by
    intro n2
    induction n2 with
    | zero =>
      intro i2  H locs ls hi2 hF2 hw hl
      refine lv_iload_n hx hb dX5_owesMore_2 rfl (lv_at hl 0 rfl) ?_
      refine lv_aload_n hx hb dX5_owesMore_3 rfl (lv_at hl 2 rfl) ?_
      refine g_get S hw hinX2 (fs := fX10 a σ) 10 rfl rfl 3 (by decide) lk0 (v := .int (nI n)) (congrArg (fun z => some (Value.int z)) (hn)) dX5_owesMore_4 ?_
      refine ln_ge (x := i2) (y := n) hx hb (by omega) (by omega) (tgt := 31) dX5_owesMore_7 (by decide) (fun c_x => ?_) (fun c_x => absurd (by omega) c_x)
      have hz2 : n = i2 := by omega
      subst hz2
      refine lv_iconst (v := 0) hx hb dX5_owesMore_31 (by decide) ?_
      exact g_zret S hr hlk hw (by decide) (by simp only [XP_owesMore_r]; have q := hF2; simp only [XP_owesMore_L2] at q; exact q) rfl dX5_owesMore_32
    | succ n2 ih2 =>
      intro i2  H locs ls hi2 hF2 hw hl
      refine lv_iload_n hx hb dX5_owesMore_2 rfl (lv_at hl 0 rfl) ?_
      refine lv_aload_n hx hb dX5_owesMore_3 rfl (lv_at hl 2 rfl) ?_
      refine g_get S hw hinX2 (fs := fX10 a σ) 10 rfl rfl 3 (by decide) lk0 (v := .int (nI n)) (congrArg (fun z => some (Value.int z)) (hn)) dX5_owesMore_4 ?_
      refine ln_ge (x := i2) (y := n) hx hb (by omega) (by omega) (tgt := 31) dX5_owesMore_7 (by decide) (fun c_x => absurd c_x (by omega)) (fun c_x => ?_)
      refine lv_aload_n hx hb dX5_owesMore_10 rfl (lv_at hl 1 rfl) ?_
      refine lv_iload_n hx hb dX5_owesMore_11 rfl (lv_at hl 0 rfl) ?_
      refine g_callVi S hw (c_XH_owedBy_24 l D cI cC cI2 a κ σ n i2 (by omega) (hn2) (by omega)) gX5_owesMore_X2_owedBy rfl 24 rfl rfl 1 rfl (by decide +kernel) (by decide) (by decide) hl.1 rfl (Nat.le_of_ble_eq_true rfl) dX5_owesMore_12 (fun H locs hw => ?_)
      refine lv_aload_n hx hb dX5_owesMore_15 rfl (lv_at hl 2 rfl) ?_
      refine lv_iload_n hx hb dX5_owesMore_16 rfl (lv_at hl 0 rfl) ?_
      refine g_callVi S hw (c_XH_owedBy_10 l D cI cC cI2 a κ σ n i2 (by omega) (hn) (by omega)) gX5_owesMore_X2_owedBy rfl 10 rfl rfl 1 rfl (by decide +kernel) (by decide) (by decide) hl.1 rfl (Nat.le_of_ble_eq_true rfl) dX5_owesMore_17 (fun H locs hw => ?_)
      refine lv_icmp_le hx hb (tgt := 25) dX5_owesMore_20 (by decide) (fun c_2 => ?_) (fun c_2 => ?_)
      · refine lv_iinc (v := nI (i2 + 1)) (lv' := [(2, .int (nI (i2 + 1))), (0, .ref (a 24)), (1, .ref (a 10))]) hx hb dX5_owesMore_25 hl (k := 0) rfl (nI_1 _) (by decide) rfl (fun ls hl => ?_)
        refine lv_goto (tgt := 2) hx hb dX5_owesMore_28 (by decide) ?_
        exact ih2 (i2 + 1)  _ _ _ (by omega) (by have q := hF2; simp only [XP_owesMore_L2, if_pos c_2] at q; exact q) hw (lv_sub hl [0, 1, 2] rfl)
      · refine lv_iconst (v := 1) hx hb dX5_owesMore_23 (by decide) ?_
        exact g_zret S hr hlk hw (by decide) (by simp only [XP_owesMore_r]; have q := hF2; simp only [XP_owesMore_L2, if_neg c_2] at q; exact q) rfl dX5_owesMore_24
  exact L2 n 0  _ _ _ (by omega) rfl hw (lv_sub hl [0, 1, 2] rfl)
def XT_canBe_L2 (κ : Nat → Nat) (σ : Nat → Nat → Int32) (tm : Nat) (kd : Nat) : Nat → Nat → Int32
  | 0, i2 => 1
  | n2 + 1, i2 => if (X_asks kd (σ 43 i2)) = (σ 44 i2) then (XT_canBe_L2 κ σ tm kd n2 (i2 + 1)) else 0
theorem XT_canBe_L2_z (κ : Nat → Nat) (σ : Nat → Nat → Int32) (tm : Nat) (kd : Nat) : ∀ (n2 i2 : Nat), XT_canBe_L2 κ σ tm kd n2 i2 = 0 ∨ XT_canBe_L2 κ σ tm kd n2 i2 = 1 := by
  intro n2
  induction n2 with
  | zero =>
    intro i2 
    first | exact Or.inr rfl | exact Or.inr trivial
  | succ n2 ih =>
    intro i2 
    by_cases z2 : (X_asks kd (σ 43 i2)) = (σ 44 i2)
    · simp only [XT_canBe_L2, if_pos z2]
      exact ih (i2 + 1) 
    · simp only [XT_canBe_L2, if_neg z2]
      first | exact Or.inl rfl | exact Or.inl trivial
def XT_canBe_r (κ : Nat → Nat) (σ : Nat → Nat → Int32) (tm : Nat) (kd : Nat) : Int32 := XT_canBe_L2 κ σ tm kd tm 0
theorem XT_canBe_z (κ : Nat → Nat) (σ : Nat → Nat → Int32) (tm : Nat) (kd : Nat) : XT_canBe_r κ σ tm kd = 0 ∨ XT_canBe_r κ σ tm kd = 1 := by
  unfold XT_canBe_r
  exact XT_canBe_L2_z κ σ tm kd tm 0
set_option maxHeartbeats 4000000 in
set_option maxRecDepth 100000 in
theorem c_XT_canBe (l : Launch) (D : va_G) (cI cC cI2 : ClassId) (a : Nat → Nat) (κ : Nat → Nat) (σ : Nat → Nat → Int32) (tm : Nat) (kd : Nat) (ht0 : σ 42 2 = nI tm) (ht0b : tm ≤ 6) (hkd : kd < 5) : gI l D (tysX cI cC cI2) yX9_canBe wsX9_canBe 3 [.ref (a 42), .ref (a (3 + kd))] (wX cI cC cI2 a κ σ) (XT_canBe_r κ σ tm kd) (wX cI cC cI2 a κ σ) := by
  refine g_start (cc := cX9_canBe) (maxL := 3) (ret := some .boolean) (Qc := gQi D (tysX cI cC cI2) (XT_canBe_r κ σ tm kd) (wX cI cC cI2 a κ σ)) (by decide) rfl (Nat.le_of_ble_eq_true rfl) ?_
  intro p e s m below meth C A ls S hr hlk hw hl
  obtain ⟨hx, hb, hml, hown, hts⟩ := id S
  have hinX9 : ∀ x ∈ u_ws RX9 TX9 3, x ∈ wsX9_canBe := fun x h => List.mem_cons_of_mem _ (List.mem_append_right _ h)
  have lk0 : Cond.fieldLink RX9 18 "CowsOwed$Told" "size" "I" ∈ wsX9_canBe := by decide +kernel
  have lk1 : Cond.fieldLink RX9 9 "CowsOwed$Told" "rates" "[I" ∈ wsX9_canBe := by decide +kernel
  have lk2 : Cond.code ⟨"CowsOwed$Clan", "asks", "(I)I"⟩ cX1_asks 2 (some .int) ∈ wsX9_canBe := by decide +kernel
  have lk3 : Cond.fieldLink RX9 15 "CowsOwed$Told" "asked" "[I" ∈ wsX9_canBe := by decide +kernel
  have hl : lv_has ls 3 [(0, .ref (a 42)), (1, .ref (a (3 + kd)))] := hl
  refine lv_iconst (v := 0) hx hb dX9_canBe_0 (by decide) ?_
  refine lv_istore_n (lv' := [(2, .int 0), (0, .ref (a 42)), (1, .ref (a (3 + kd)))]) hx hb dX9_canBe_1 rfl hl (by decide) rfl (fun ls hl => ?_)
  have L2 : ∀ (n2 i2 : Nat)  (H : Heap) (locs : List Loc) (ls : Array Slot), i2 + n2 = tm → XT_canBe_L2 κ σ tm kd n2 i2  = XT_canBe_L2 κ σ tm kd tm 0 → gw D (tysX cI cC cI2) A s H locs (wX cI cC cI2 a κ σ) → lv_has ls 3 [(2, .int (nI i2)), (0, .ref (a 42)), (1, .ref (a (3 + kd)))] → W p l e (gR 3) s m ([.ref (a 42), .ref (a (3 + kd))] : List Value).toArray below meth C H locs 0 0 (MQ below (gQi D (tysX cI cC cI2) (XT_canBe_r κ σ tm kd) (wX cI cC cI2 a κ σ) A) ([.ref (a 42), .ref (a (3 + kd))] : List Value).toArray s 0 0 A) (F0 m 2 ls []) := by
    intro n2
    induction n2 with
    | zero =>
      intro i2  H locs ls hi2 hF2 hw hl
      refine lv_iload_n hx hb dX9_canBe_2 rfl (lv_at hl 0 rfl) ?_
      refine lv_aload_n hx hb dX9_canBe_3 rfl (lv_at hl 1 rfl) ?_
      refine g_get S hw hinX9 (fs := fX42 a σ) 42 rfl rfl 2 (by decide) lk0 (v := .int (nI tm)) (congrArg (fun z => some (Value.int z)) (ht0)) dX9_canBe_4 ?_
      refine ln_ge (x := i2) (y := tm) hx hb (by omega) (by omega) (tgt := 37) dX9_canBe_7 (by decide) (fun c_x => ?_) (fun c_x => absurd (by omega) c_x)
      have hz2 : tm = i2 := by omega
      subst hz2
      refine lv_iconst (v := 1) hx hb dX9_canBe_37 (by decide) ?_
      exact g_zret S hr hlk hw (by decide) (by simp only [XT_canBe_r]; have q := hF2; simp only [XT_canBe_L2] at q; exact q) rfl dX9_canBe_38
    | succ n2 ih2 =>
      intro i2  H locs ls hi2 hF2 hw hl
      refine lv_iload_n hx hb dX9_canBe_2 rfl (lv_at hl 0 rfl) ?_
      refine lv_aload_n hx hb dX9_canBe_3 rfl (lv_at hl 1 rfl) ?_
      refine g_get S hw hinX9 (fs := fX42 a σ) 42 rfl rfl 2 (by decide) lk0 (v := .int (nI tm)) (congrArg (fun z => some (Value.int z)) (ht0)) dX9_canBe_4 ?_
      refine ln_ge (x := i2) (y := tm) hx hb (by omega) (by omega) (tgt := 37) dX9_canBe_7 (by decide) (fun c_x => absurd c_x (by omega)) (fun c_x => ?_)
      refine lv_aload_n hx hb dX9_canBe_10 rfl (lv_at hl 2 rfl) ?_
      refine lv_aload_n hx hb dX9_canBe_11 rfl (lv_at hl 1 rfl) ?_
      refine g_get S hw hinX9 (fs := fX42 a σ) 42 rfl rfl 0 (by decide) lk1 (v := .ref (a 43)) rfl dX9_canBe_12 ?_
      refine lv_iload_n hx hb dX9_canBe_15 rfl (lv_at hl 0 rfl) ?_
      refine g_iald S hw (f := σ 43) (i := i2) (x := σ 43 i2) 43 0 rfl rfl (by omega) (by decide) rfl dX9_canBe_16 ?_
      refine g_kind5 (k := kd) (by omega) (G := fun j => ∀ (H : Heap) (locs : List Loc), gw D (tysX cI cC cI2) A s H locs (wX cI cC cI2 a κ σ) → W p l e (gR 3) s m ([.ref (a 42), .ref (a (3 + kd))] : List Value).toArray below meth C H locs 0 0 (MQ below (gQi D (tysX cI cC cI2) (XT_canBe_r κ σ tm kd) (wX cI cC cI2 a κ σ) A) ([.ref (a 42), .ref (a (3 + kd))] : List Value).toArray s 0 0 A) (F0 m 20 ls (.int (X_asks j (σ 43 i2)) :: []))) (P := fun j => W p l e (gR 3) s m ([.ref (a 42), .ref (a (3 + kd))] : List Value).toArray below meth C _ _ 0 0 (MQ below (gQi D (tysX cI cC cI2) (XT_canBe_r κ σ tm kd) (wX cI cC cI2 a κ σ) A) ([.ref (a 42), .ref (a (3 + kd))] : List Value).toArray s 0 0 A) (F0 m 17 ls (.int (σ 43 i2) :: .ref (a (3 + j)) :: []))) (fun kk => g_callVi S hw (c_X1_asks l D (tysX cI cC cI2) (wX cI cC cI2 a κ σ) (a 3) (σ 43 i2)) gX9_canBe_X1_asks rfl 3 rfl rfl 1 rfl (by decide +kernel) (by decide) (by decide) hl.1 rfl (Nat.le_of_ble_eq_true rfl) dX9_canBe_17 kk) (fun kk => g_callUi S hw (c_X7_asks l D (tysX cI cC cI2) (wX cI cC cI2 a κ σ) (a 4) (σ 43 i2)) (va_cwO 1 hts gX9_canBe_X7_asks_u26X7 rfl rfl rfl lk2 (by decide +kernel) (g_hR (by decide) (by decide))) 4 rfl rfl hl.1 rfl (Nat.le_of_ble_eq_true rfl) dX9_canBe_17 kk) (fun kk => g_callUi S hw (c_X6_asks l D (tysX cI cC cI2) (wX cI cC cI2 a κ σ) (a 5) (σ 43 i2)) (va_cwO 1 hts gX9_canBe_X6_asks_u26X6 rfl rfl rfl lk2 (by decide +kernel) (g_hR (by decide) (by decide))) 5 rfl rfl hl.1 rfl (Nat.le_of_ble_eq_true rfl) dX9_canBe_17 kk) (fun kk => g_callUi S hw (c_X1_asks l D (tysX cI cC cI2) (wX cI cC cI2 a κ σ) (a 6) (σ 43 i2)) (va_cwU 1 hts gX9_canBe_X1_asks_u26X0 rfl rfl rfl rfl (by decide +kernel) (g_hR (by decide) (by decide))) 6 rfl rfl hl.1 rfl (Nat.le_of_ble_eq_true rfl) dX9_canBe_17 kk) (fun kk => g_callUi S hw (c_X3_asks l D cI cC cI2 a κ σ (σ 43 i2)) (va_cwO 1 hts gX9_canBe_X3_asks_u26X3 rfl rfl rfl lk2 (by decide +kernel) (g_hR (by decide) (by decide))) 7 rfl rfl hl.1 rfl (Nat.le_of_ble_eq_true rfl) dX9_canBe_17 kk) ?_
      intro H locs hw
      refine lv_aload_n hx hb dX9_canBe_20 rfl (lv_at hl 1 rfl) ?_
      refine g_get S hw hinX9 (fs := fX42 a σ) 42 rfl rfl 1 (by decide) lk3 (v := .ref (a 44)) rfl dX9_canBe_21 ?_
      refine lv_iload_n hx hb dX9_canBe_24 rfl (lv_at hl 0 rfl) ?_
      refine g_iald S hw (f := σ 44) (i := i2) (x := σ 44 i2) 44 0 rfl rfl (by omega) (by decide) rfl dX9_canBe_25 ?_
      refine lv_icmp_eq hx hb (tgt := 31) dX9_canBe_26 (by decide) (fun c_2 => ?_) (fun c_2 => ?_)
      · refine lv_iinc (v := nI (i2 + 1)) (lv' := [(2, .int (nI (i2 + 1))), (0, .ref (a 42)), (1, .ref (a (3 + kd)))]) hx hb dX9_canBe_31 hl (k := 0) rfl (nI_1 _) (by decide) rfl (fun ls hl => ?_)
        refine lv_goto (tgt := 2) hx hb dX9_canBe_34 (by decide) ?_
        exact ih2 (i2 + 1)  _ _ _ (by omega) (by have q := hF2; simp only [XT_canBe_L2, if_pos c_2] at q; exact q) hw (lv_sub hl [0, 1, 2] rfl)
      · refine lv_iconst (v := 0) hx hb dX9_canBe_29 (by decide) ?_
        exact g_zret S hr hlk hw (by decide) (by simp only [XT_canBe_r]; have q := hF2; simp only [XT_canBe_L2, if_neg c_2] at q; exact q) rfl dX9_canBe_30
  exact L2 tm 0  _ _ _ (by omega) rfl hw (lv_sub hl [0, 1, 2] rfl)
def XT_kindsLeft_S4_0 (κ : Nat → Nat) (σ : Nat → Nat → Int32) (tm : Nat) (i4 : Nat) (x4_2 : Int32) : Int32 := if (XT_canBe_r κ σ tm i4) = 0 then x4_2 else (x4_2 ||| (1 <<< ((nI i4) &&& 31)))
def XT_kindsLeft_L4 (κ : Nat → Nat) (σ : Nat → Nat → Int32) (tm : Nat) : Nat → Nat → (Int32) → (Int32)
  | 0, _, x4_2 => x4_2
  | n4 + 1, i4, x4_2 => XT_kindsLeft_L4 κ σ tm n4 (i4 + 1) (XT_kindsLeft_S4_0 κ σ tm i4 x4_2)
def XT_kindsLeft_r (κ : Nat → Nat) (σ : Nat → Nat → Int32) (tm : Nat) : Int32 := (XT_kindsLeft_L4 κ σ tm 5 0 0)
set_option maxHeartbeats 4000000 in
set_option maxRecDepth 100000 in
theorem c_XT_kindsLeft (l : Launch) (D : va_G) (cI cC cI2 : ClassId) (a : Nat → Nat) (κ : Nat → Nat) (σ : Nat → Nat → Int32) (tm : Nat) (ht0 : σ 42 2 = nI tm) (ht0b : tm ≤ 6) : gI l D (tysX cI cC cI2) yX9_kindsLeft wsX9_kindsLeft 4 [.ref (a 42), .ref (a 1)] (wX cI cC cI2 a κ σ) (XT_kindsLeft_r κ σ tm) (wX cI cC cI2 a κ σ) := by
  refine g_start (cc := cX9_kindsLeft) (maxL := 4) (ret := some .int) (Qc := gQi D (tysX cI cC cI2) (XT_kindsLeft_r κ σ tm) (wX cI cC cI2 a κ σ)) (by decide) rfl (Nat.le_of_ble_eq_true rfl) ?_
  intro p e s m below meth C A ls S hr hlk hw hl
  obtain ⟨hx, hb, hml, hown, hts⟩ := id S
  have hl : lv_has ls 4 [(0, .ref (a 42)), (1, .ref (a 1))] := hl
  refine lv_iconst (v := 0) hx hb dX9_kindsLeft_0 (by decide) ?_
  refine lv_istore_n (lv' := [(2, .int 0), (0, .ref (a 42)), (1, .ref (a 1))]) hx hb dX9_kindsLeft_1 rfl hl (by decide) rfl (fun ls hl => ?_)
  refine lv_iconst (v := 0) hx hb dX9_kindsLeft_2 (by decide) ?_
  refine lv_istore_n (lv' := [(3, .int 0), (2, .int 0), (0, .ref (a 42)), (1, .ref (a 1))]) hx hb dX9_kindsLeft_3 rfl hl (by decide) rfl (fun ls hl => ?_)
  have L4 : ∀ (n4 i4 : Nat) (x4_2 : Int32) (H : Heap) (locs : List Loc) (ls : Array Slot), i4 + n4 = 5 → XT_kindsLeft_L4 κ σ tm n4 i4 x4_2 = XT_kindsLeft_L4 κ σ tm 5 0 0 → gw D (tysX cI cC cI2) A s H locs (wX cI cC cI2 a κ σ) → lv_has ls 4 [(3, .int (nI i4)), (2, .int x4_2), (0, .ref (a 42)), (1, .ref (a 1))] → W p l e (gR 4) s m ([.ref (a 42), .ref (a 1)] : List Value).toArray below meth C H locs 0 0 (MQ below (gQi D (tysX cI cC cI2) (XT_kindsLeft_r κ σ tm) (wX cI cC cI2 a κ σ) A) ([.ref (a 42), .ref (a 1)] : List Value).toArray s 0 0 A) (F0 m 4 ls []) := by
    intro n4
    induction n4 with
    | zero =>
      intro i4 x4_2 H locs ls hi4 hF4 hw hl
      refine lv_iload_n hx hb dX9_kindsLeft_4 rfl (lv_at hl 0 rfl) ?_
      refine lv_aload_n hx hb dX9_kindsLeft_5 rfl (lv_at hl 3 rfl) ?_
      refine g_alen S hw 1 1 rfl rfl dX9_kindsLeft_6 ?_
      refine ln_ge (x := i4) (y := 5) hx hb (by omega) (by omega) (tgt := 32) dX9_kindsLeft_7 (by decide) (fun c_x => ?_) (fun c_x => absurd (by omega) c_x)
      have hz4 : 5 = i4 := by omega
      subst hz4
      have e4_0 : (XT_kindsLeft_L4 κ σ tm 5 0 0) = x4_2 := hF4.symm
      subst e4_0
      refine lv_iload_n hx hb dX9_kindsLeft_32 rfl (lv_at hl 1 rfl) ?_
      exact g_iret S hr hlk hw (by simp only [XT_kindsLeft_r]) rfl dX9_kindsLeft_33
    | succ n4 ih4 =>
      intro i4 x4_2 H locs ls hi4 hF4 hw hl
      refine lv_iload_n hx hb dX9_kindsLeft_4 rfl (lv_at hl 0 rfl) ?_
      refine lv_aload_n hx hb dX9_kindsLeft_5 rfl (lv_at hl 3 rfl) ?_
      refine g_alen S hw 1 1 rfl rfl dX9_kindsLeft_6 ?_
      refine ln_ge (x := i4) (y := 5) hx hb (by omega) (by omega) (tgt := 32) dX9_kindsLeft_7 (by decide) (fun c_x => absurd c_x (by omega)) (fun c_x => ?_)
      refine lv_aload_n hx hb dX9_kindsLeft_10 rfl (lv_at hl 2 rfl) ?_
      refine lv_aload_n hx hb dX9_kindsLeft_11 rfl (lv_at hl 3 rfl) ?_
      refine lv_iload_n hx hb dX9_kindsLeft_12 rfl (lv_at hl 0 rfl) ?_
      refine g_aald S hw (f := fun i => some (a (3 + i))) (i := i4) (v := a (3 + i4)) 1 1 rfl rfl rfl (by omega) (by decide) rfl dX9_kindsLeft_13 ?_
      refine g_callVi S hw (c_XT_canBe l D cI cC cI2 a κ σ tm i4 (ht0) (by omega) (by omega)) gX9_kindsLeft_X9_canBe rfl 42 rfl rfl 1 rfl (by decide +kernel) (by decide) (by decide) hl.1 rfl (Nat.le_of_ble_eq_true rfl) dX9_kindsLeft_14 (fun H locs hw => ?_)
      refine lv_if_eq hx hb (tgt := 26) dX9_kindsLeft_17 (by decide) (fun c_2 => ?_) (fun c_2 => ?_)
      · refine lv_iinc (v := nI (i4 + 1)) (lv' := [(3, .int (nI (i4 + 1))), (2, .int x4_2), (0, .ref (a 42)), (1, .ref (a 1))]) hx hb dX9_kindsLeft_26 hl (k := 0) rfl (nI_1 _) (by decide) rfl (fun ls hl => ?_)
        refine lv_goto (tgt := 4) hx hb dX9_kindsLeft_29 (by decide) ?_
        exact ih4 (i4 + 1) x4_2 _ _ _ (by omega) (by have q := hF4; simp only [XT_kindsLeft_L4, XT_kindsLeft_S4_0, if_pos c_2] at q; exact q) hw (lv_sub hl [0, 1, 2, 3] rfl)
      · refine lv_iload_n hx hb dX9_kindsLeft_20 rfl (lv_at hl 1 rfl) ?_
        refine lv_iconst (v := 1) hx hb dX9_kindsLeft_21 (by decide) ?_
        refine lv_iload_n hx hb dX9_kindsLeft_22 rfl (lv_at hl 0 rfl) ?_
        refine lv_ishl hx hb dX9_kindsLeft_23 ?_
        refine lv_ior hx hb dX9_kindsLeft_24 ?_
        refine lv_istore_n (lv' := [(2, .int (x4_2 ||| (1 <<< ((nI i4) &&& 31)))), (3, .int (nI i4)), (0, .ref (a 42)), (1, .ref (a 1))]) hx hb dX9_kindsLeft_25 rfl hl (by decide) rfl (fun ls hl => ?_)
        refine lv_iinc (v := nI (i4 + 1)) (lv' := [(3, .int (nI (i4 + 1))), (2, .int (x4_2 ||| (1 <<< ((nI i4) &&& 31)))), (0, .ref (a 42)), (1, .ref (a 1))]) hx hb dX9_kindsLeft_26 hl (k := 1) rfl (nI_1 _) (by decide) rfl (fun ls hl => ?_)
        refine lv_goto (tgt := 4) hx hb dX9_kindsLeft_29 (by decide) ?_
        exact ih4 (i4 + 1) (x4_2 ||| (1 <<< ((nI i4) &&& 31))) _ _ _ (by omega) (by have q := hF4; simp only [XT_kindsLeft_L4, XT_kindsLeft_S4_0, if_neg c_2] at q; exact q) hw (lv_sub hl [0, 1, 2, 3] rfl)
  exact L4 5 0 0 _ _ _ (by omega) rfl hw (lv_sub hl [0, 1, 2, 3] rfl)
def XT_alike_S6_0 (κ : Nat → Nat) (σ : Nat → Nat → Int32) (left : Int32) (rate : Int32) (cows : Int32) (i6 : Nat) (x6_4 : Int32) : Int32 := if (XT_has_r left (nI i6)) = 0 then x6_4 else (if (X_asks i6 rate) = cows then (x6_4 + 1) else x6_4)
def XT_alike_L6 (κ : Nat → Nat) (σ : Nat → Nat → Int32) (left : Int32) (rate : Int32) (cows : Int32) : Nat → Nat → (Int32) → (Int32)
  | 0, _, x6_4 => x6_4
  | n6 + 1, i6, x6_4 => XT_alike_L6 κ σ left rate cows n6 (i6 + 1) (XT_alike_S6_0 κ σ left rate cows i6 x6_4)
def XT_alike_r (κ : Nat → Nat) (σ : Nat → Nat → Int32) (left : Int32) (rate : Int32) (cows : Int32) : Int32 := (XT_alike_L6 κ σ left rate cows 5 0 0)
set_option maxHeartbeats 4000000 in
set_option maxRecDepth 100000 in
theorem c_XT_alike (l : Launch) (D : va_G) (cI cC cI2 : ClassId) (a : Nat → Nat) (κ : Nat → Nat) (σ : Nat → Nat → Int32) (left : Int32) (rate : Int32) (cows : Int32) : gI l D (tysX cI cC cI2) yX9_alike wsX9_alike 3 [.ref (a 1), .int left, .int rate, .int cows] (wX cI cC cI2 a κ σ) (XT_alike_r κ σ left rate cows) (wX cI cC cI2 a κ σ) := by
  refine g_start (cc := cX9_alike) (maxL := 6) (ret := some .int) (Qc := gQi D (tysX cI cC cI2) (XT_alike_r κ σ left rate cows) (wX cI cC cI2 a κ σ)) (by decide) rfl (Nat.le_of_ble_eq_true rfl) ?_
  intro p e s m below meth C A ls S hr hlk hw hl
  obtain ⟨hx, hb, hml, hown, hts⟩ := id S
  have lk0 : Cond.code ⟨"CowsOwed$Clan", "asks", "(I)I"⟩ cX1_asks 2 (some .int) ∈ wsX9_alike := by decide +kernel
  have hl : lv_has ls 6 [(0, .ref (a 1)), (1, .int left), (2, .int rate), (3, .int cows)] := hl
  refine lv_iconst (v := 0) hx hb dX9_alike_0 (by decide) ?_
  refine lv_istore (lv' := [(4, .int 0), (0, .ref (a 1)), (1, .int left), (2, .int rate), (3, .int cows)]) hx hb dX9_alike_1 hl (by decide) rfl (fun ls hl => ?_)
  refine lv_iconst (v := 0) hx hb dX9_alike_3 (by decide) ?_
  refine lv_istore (lv' := [(5, .int 0), (4, .int 0), (0, .ref (a 1)), (1, .int left), (2, .int rate), (3, .int cows)]) hx hb dX9_alike_4 hl (by decide) rfl (fun ls hl => ?_)
  have L6 : ∀ (n6 i6 : Nat) (x6_4 : Int32) (H : Heap) (locs : List Loc) (ls : Array Slot), i6 + n6 = 5 → XT_alike_L6 κ σ left rate cows n6 i6 x6_4 = XT_alike_L6 κ σ left rate cows 5 0 0 → gw D (tysX cI cC cI2) A s H locs (wX cI cC cI2 a κ σ) → lv_has ls 6 [(5, .int (nI i6)), (4, .int x6_4), (0, .ref (a 1)), (1, .int left), (2, .int rate), (3, .int cows)] → W p l e (gR 3) s m ([.ref (a 1), .int left, .int rate, .int cows] : List Value).toArray below meth C H locs 0 0 (MQ below (gQi D (tysX cI cC cI2) (XT_alike_r κ σ left rate cows) (wX cI cC cI2 a κ σ) A) ([.ref (a 1), .int left, .int rate, .int cows] : List Value).toArray s 0 0 A) (F0 m 6 ls []) := by
    intro n6
    induction n6 with
    | zero =>
      intro i6 x6_4 H locs ls hi6 hF6 hw hl
      refine lv_iload hx hb dX9_alike_6 (lv_at hl 0 rfl) ?_
      refine lv_aload_n hx hb dX9_alike_8 rfl (lv_at hl 2 rfl) ?_
      refine g_alen S hw 1 1 rfl rfl dX9_alike_9 ?_
      refine ln_ge (x := i6) (y := 5) hx hb (by omega) (by omega) (tgt := 43) dX9_alike_10 (by decide) (fun c_x => ?_) (fun c_x => absurd (by omega) c_x)
      have hz6 : 5 = i6 := by omega
      subst hz6
      have e6_0 : (XT_alike_L6 κ σ left rate cows 5 0 0) = x6_4 := hF6.symm
      subst e6_0
      refine lv_iload hx hb dX9_alike_43 (lv_at hl 1 rfl) ?_
      exact g_iret S hr hlk hw (by simp only [XT_alike_r]) rfl dX9_alike_45
    | succ n6 ih6 =>
      intro i6 x6_4 H locs ls hi6 hF6 hw hl
      refine lv_iload hx hb dX9_alike_6 (lv_at hl 0 rfl) ?_
      refine lv_aload_n hx hb dX9_alike_8 rfl (lv_at hl 2 rfl) ?_
      refine g_alen S hw 1 1 rfl rfl dX9_alike_9 ?_
      refine ln_ge (x := i6) (y := 5) hx hb (by omega) (by omega) (tgt := 43) dX9_alike_10 (by decide) (fun c_x => absurd c_x (by omega)) (fun c_x => ?_)
      refine lv_iload_n hx hb dX9_alike_13 rfl (lv_at hl 3 rfl) ?_
      refine lv_iload hx hb dX9_alike_14 (lv_at hl 0 rfl) ?_
      refine g_callSi S hw (c_XT_has l D (tysX cI cC cI2) (wX cI cC cI2 a κ σ) left (nI i6)) gX9_alike_X9_has rfl 2 rfl (by decide +kernel) (by decide) (by decide) hl.1 rfl (Nat.le_of_ble_eq_true rfl) dX9_alike_16 (fun H locs hw => ?_)
      refine lv_if_eq hx hb (tgt := 37) dX9_alike_19 (by decide) (fun c_2 => ?_) (fun c_2 => ?_)
      · refine lv_iinc (v := nI (i6 + 1)) (lv' := [(5, .int (nI (i6 + 1))), (4, .int x6_4), (0, .ref (a 1)), (1, .int left), (2, .int rate), (3, .int cows)]) hx hb dX9_alike_37 hl (k := 0) rfl (nI_1 _) (by decide) rfl (fun ls hl => ?_)
        refine lv_goto (tgt := 6) hx hb dX9_alike_40 (by decide) ?_
        exact ih6 (i6 + 1) x6_4 _ _ _ (by omega) (by have q := hF6; simp only [XT_alike_L6, XT_alike_S6_0, if_pos c_2] at q; exact q) hw (lv_sub hl [0, 1, 2, 3, 4, 5] rfl)
      · refine lv_aload_n hx hb dX9_alike_22 rfl (lv_at hl 2 rfl) ?_
        refine lv_iload hx hb dX9_alike_23 (lv_at hl 0 rfl) ?_
        refine g_aald S hw (f := fun i => some (a (3 + i))) (i := i6) (v := a (3 + i6)) 1 1 rfl rfl rfl (by omega) (by decide) rfl dX9_alike_25 ?_
        refine lv_iload_n hx hb dX9_alike_26 rfl (lv_at hl 4 rfl) ?_
        refine g_kind5 (k := i6) (by omega) (G := fun j => ∀ (H : Heap) (locs : List Loc), gw D (tysX cI cC cI2) A s H locs (wX cI cC cI2 a κ σ) → W p l e (gR 3) s m ([.ref (a 1), .int left, .int rate, .int cows] : List Value).toArray below meth C H locs 0 0 (MQ below (gQi D (tysX cI cC cI2) (XT_alike_r κ σ left rate cows) (wX cI cC cI2 a κ σ) A) ([.ref (a 1), .int left, .int rate, .int cows] : List Value).toArray s 0 0 A) (F0 m 30 ls (.int (X_asks j rate) :: []))) (P := fun j => W p l e (gR 3) s m ([.ref (a 1), .int left, .int rate, .int cows] : List Value).toArray below meth C _ _ 0 0 (MQ below (gQi D (tysX cI cC cI2) (XT_alike_r κ σ left rate cows) (wX cI cC cI2 a κ σ) A) ([.ref (a 1), .int left, .int rate, .int cows] : List Value).toArray s 0 0 A) (F0 m 27 ls (.int rate :: .ref (a (3 + j)) :: []))) (fun kk => g_callVi S hw (c_X1_asks l D (tysX cI cC cI2) (wX cI cC cI2 a κ σ) (a 3) rate) gX9_alike_X1_asks rfl 3 rfl rfl 1 rfl (by decide +kernel) (by decide) (by decide) hl.1 rfl (Nat.le_of_ble_eq_true rfl) dX9_alike_27 kk) (fun kk => g_callUi S hw (c_X7_asks l D (tysX cI cC cI2) (wX cI cC cI2 a κ σ) (a 4) rate) (va_cwO 1 hts gX9_alike_X7_asks_u26X7 rfl rfl rfl lk0 (by decide +kernel) (g_hR (by decide) (by decide))) 4 rfl rfl hl.1 rfl (Nat.le_of_ble_eq_true rfl) dX9_alike_27 kk) (fun kk => g_callUi S hw (c_X6_asks l D (tysX cI cC cI2) (wX cI cC cI2 a κ σ) (a 5) rate) (va_cwO 1 hts gX9_alike_X6_asks_u26X6 rfl rfl rfl lk0 (by decide +kernel) (g_hR (by decide) (by decide))) 5 rfl rfl hl.1 rfl (Nat.le_of_ble_eq_true rfl) dX9_alike_27 kk) (fun kk => g_callUi S hw (c_X1_asks l D (tysX cI cC cI2) (wX cI cC cI2 a κ σ) (a 6) rate) (va_cwU 1 hts gX9_alike_X1_asks_u26X0 rfl rfl rfl rfl (by decide +kernel) (g_hR (by decide) (by decide))) 6 rfl rfl hl.1 rfl (Nat.le_of_ble_eq_true rfl) dX9_alike_27 kk) (fun kk => g_callUi S hw (c_X3_asks l D cI cC cI2 a κ σ rate) (va_cwO 1 hts gX9_alike_X3_asks_u26X3 rfl rfl rfl lk0 (by decide +kernel) (g_hR (by decide) (by decide))) 7 rfl rfl hl.1 rfl (Nat.le_of_ble_eq_true rfl) dX9_alike_27 kk) ?_
        intro H locs hw
        refine lv_iload_n hx hb dX9_alike_30 rfl (lv_at hl 5 rfl) ?_
        refine lv_icmp_ne hx hb (tgt := 37) dX9_alike_31 (by decide) (fun c_3 => ?_) (fun c_3 => ?_)
        · refine lv_iinc (v := nI (i6 + 1)) (lv' := [(5, .int (nI (i6 + 1))), (4, .int x6_4), (0, .ref (a 1)), (1, .int left), (2, .int rate), (3, .int cows)]) hx hb dX9_alike_37 hl (k := 0) rfl (nI_1 _) (by decide) rfl (fun ls hl => ?_)
          refine lv_goto (tgt := 6) hx hb dX9_alike_40 (by decide) ?_
          exact ih6 (i6 + 1) x6_4 _ _ _ (by omega) (by have q := hF6; simp only [XT_alike_L6, XT_alike_S6_0, if_neg c_2, if_neg c_3] at q; exact q) hw (lv_sub hl [0, 1, 2, 3, 4, 5] rfl)
        · refine lv_iinc (v := x6_4 + 1) (lv' := [(4, .int (x6_4 + 1)), (5, .int (nI i6)), (0, .ref (a 1)), (1, .int left), (2, .int rate), (3, .int cows)]) hx hb dX9_alike_34 hl (k := 1) rfl rfl (by decide) rfl (fun ls hl => ?_)
          refine lv_iinc (v := nI (i6 + 1)) (lv' := [(5, .int (nI (i6 + 1))), (4, .int (x6_4 + 1)), (0, .ref (a 1)), (1, .int left), (2, .int rate), (3, .int cows)]) hx hb dX9_alike_37 hl (k := 1) rfl (nI_1 _) (by decide) rfl (fun ls hl => ?_)
          refine lv_goto (tgt := 6) hx hb dX9_alike_40 (by decide) ?_
          exact ih6 (i6 + 1) (x6_4 + 1) _ _ _ (by omega) (by have q := hF6; simp only [XT_alike_L6, XT_alike_S6_0, if_neg c_2, if_pos c_3] at q; exact q) hw (lv_sub hl [0, 1, 2, 3, 4, 5] rfl)
  exact L6 5 0 0 _ _ _ (by omega) rfl hw (lv_sub hl [0, 1, 2, 3, 4, 5] rfl)
def XT_mostLeft_S5_0 (κ : Nat → Nat) (σ : Nat → Nat → Int32) (left : Int32) (rate : Int32) (i5 : Nat) (x5_3 : Int32) : Int32 := if (XT_has_r left (nI i5)) = 0 then x5_3 else (if x5_3 < (XT_alike_r κ σ left rate (X_asks i5 rate)) then XT_alike_r κ σ left rate (X_asks i5 rate) else x5_3)
def XT_mostLeft_L5 (κ : Nat → Nat) (σ : Nat → Nat → Int32) (left : Int32) (rate : Int32) : Nat → Nat → (Int32) → (Int32)
  | 0, _, x5_3 => x5_3
  | n5 + 1, i5, x5_3 => XT_mostLeft_L5 κ σ left rate n5 (i5 + 1) (XT_mostLeft_S5_0 κ σ left rate i5 x5_3)
def XT_mostLeft_r (κ : Nat → Nat) (σ : Nat → Nat → Int32) (left : Int32) (rate : Int32) : Int32 := (XT_mostLeft_L5 κ σ left rate 5 0 0)
set_option maxHeartbeats 4000000 in
set_option maxRecDepth 100000 in
theorem c_XT_mostLeft (l : Launch) (D : va_G) (cI cC cI2 : ClassId) (a : Nat → Nat) (κ : Nat → Nat) (σ : Nat → Nat → Int32) (left : Int32) (rate : Int32) : gI l D (tysX cI cC cI2) yX9_mostLeft wsX9_mostLeft 4 [.ref (a 1), .int left, .int rate] (wX cI cC cI2 a κ σ) (XT_mostLeft_r κ σ left rate) (wX cI cC cI2 a κ σ) := by
  refine g_start (cc := cX9_mostLeft) (maxL := 5) (ret := some .int) (Qc := gQi D (tysX cI cC cI2) (XT_mostLeft_r κ σ left rate) (wX cI cC cI2 a κ σ)) (by decide) rfl (Nat.le_of_ble_eq_true rfl) ?_
  intro p e s m below meth C A ls S hr hlk hw hl
  obtain ⟨hx, hb, hml, hown, hts⟩ := id S
  have lk0 : Cond.code ⟨"CowsOwed$Clan", "asks", "(I)I"⟩ cX1_asks 2 (some .int) ∈ wsX9_mostLeft := by decide +kernel
  have lk1 : Cond.methodLink RX9 48 Lib.Math.max.name ∈ wsX9_mostLeft := by decide +kernel
  have lk2 : Cond.static Lib.Math.max.name ∈ wsX9_mostLeft := by decide +kernel
  have lk3 : Cond.initialized "java/lang/Math" ∈ wsX9_mostLeft := by decide +kernel
  have lk4 : Cond.code Lib.Math.max.name Lib.Math.max.code 2 (some .int) ∈ wsX9_mostLeft := by decide +kernel
  have hl : lv_has ls 5 [(0, .ref (a 1)), (1, .int left), (2, .int rate)] := hl
  refine lv_iconst (v := 0) hx hb dX9_mostLeft_0 (by decide) ?_
  refine lv_istore_n (lv' := [(3, .int 0), (0, .ref (a 1)), (1, .int left), (2, .int rate)]) hx hb dX9_mostLeft_1 rfl hl (by decide) rfl (fun ls hl => ?_)
  refine lv_iconst (v := 0) hx hb dX9_mostLeft_2 (by decide) ?_
  refine lv_istore (lv' := [(4, .int 0), (3, .int 0), (0, .ref (a 1)), (1, .int left), (2, .int rate)]) hx hb dX9_mostLeft_3 hl (by decide) rfl (fun ls hl => ?_)
  have L5 : ∀ (n5 i5 : Nat) (x5_3 : Int32) (H : Heap) (locs : List Loc) (ls : Array Slot), i5 + n5 = 5 → XT_mostLeft_L5 κ σ left rate n5 i5 x5_3 = XT_mostLeft_L5 κ σ left rate 5 0 0 → gw D (tysX cI cC cI2) A s H locs (wX cI cC cI2 a κ σ) → lv_has ls 5 [(4, .int (nI i5)), (3, .int x5_3), (0, .ref (a 1)), (1, .int left), (2, .int rate)] → W p l e (gR 4) s m ([.ref (a 1), .int left, .int rate] : List Value).toArray below meth C H locs 0 0 (MQ below (gQi D (tysX cI cC cI2) (XT_mostLeft_r κ σ left rate) (wX cI cC cI2 a κ σ) A) ([.ref (a 1), .int left, .int rate] : List Value).toArray s 0 0 A) (F0 m 5 ls []) := by
    intro n5
    induction n5 with
    | zero =>
      intro i5 x5_3 H locs ls hi5 hF5 hw hl
      refine lv_iload hx hb dX9_mostLeft_5 (lv_at hl 0 rfl) ?_
      refine lv_aload_n hx hb dX9_mostLeft_7 rfl (lv_at hl 2 rfl) ?_
      refine g_alen S hw 1 1 rfl rfl dX9_mostLeft_8 ?_
      refine ln_ge (x := i5) (y := 5) hx hb (by omega) (by omega) (tgt := 46) dX9_mostLeft_9 (by decide) (fun c_x => ?_) (fun c_x => absurd (by omega) c_x)
      have hz5 : 5 = i5 := by omega
      subst hz5
      have e5_0 : (XT_mostLeft_L5 κ σ left rate 5 0 0) = x5_3 := hF5.symm
      subst e5_0
      refine lv_iload_n hx hb dX9_mostLeft_46 rfl (lv_at hl 1 rfl) ?_
      exact g_iret S hr hlk hw (by simp only [XT_mostLeft_r]) rfl dX9_mostLeft_47
    | succ n5 ih5 =>
      intro i5 x5_3 H locs ls hi5 hF5 hw hl
      refine lv_iload hx hb dX9_mostLeft_5 (lv_at hl 0 rfl) ?_
      refine lv_aload_n hx hb dX9_mostLeft_7 rfl (lv_at hl 2 rfl) ?_
      refine g_alen S hw 1 1 rfl rfl dX9_mostLeft_8 ?_
      refine ln_ge (x := i5) (y := 5) hx hb (by omega) (by omega) (tgt := 46) dX9_mostLeft_9 (by decide) (fun c_x => absurd c_x (by omega)) (fun c_x => ?_)
      refine lv_iload_n hx hb dX9_mostLeft_12 rfl (lv_at hl 3 rfl) ?_
      refine lv_iload hx hb dX9_mostLeft_13 (lv_at hl 0 rfl) ?_
      refine g_callSi S hw (c_XT_has l D (tysX cI cC cI2) (wX cI cC cI2 a κ σ) left (nI i5)) gX9_mostLeft_X9_has rfl 2 rfl (by decide +kernel) (by decide) (by decide) hl.1 rfl (Nat.le_of_ble_eq_true rfl) dX9_mostLeft_15 (fun H locs hw => ?_)
      refine lv_if_eq hx hb (tgt := 40) dX9_mostLeft_18 (by decide) (fun c_2 => ?_) (fun c_2 => ?_)
      · refine lv_iinc (v := nI (i5 + 1)) (lv' := [(4, .int (nI (i5 + 1))), (3, .int x5_3), (0, .ref (a 1)), (1, .int left), (2, .int rate)]) hx hb dX9_mostLeft_40 hl (k := 0) rfl (nI_1 _) (by decide) rfl (fun ls hl => ?_)
        refine lv_goto (tgt := 5) hx hb dX9_mostLeft_43 (by decide) ?_
        exact ih5 (i5 + 1) x5_3 _ _ _ (by omega) (by have q := hF5; simp only [XT_mostLeft_L5, XT_mostLeft_S5_0, if_pos c_2] at q; exact q) hw (lv_sub hl [0, 1, 2, 3, 4] rfl)
      · refine lv_iload_n hx hb dX9_mostLeft_21 rfl (lv_at hl 1 rfl) ?_
        refine lv_aload_n hx hb dX9_mostLeft_22 rfl (lv_at hl 2 rfl) ?_
        refine lv_iload_n hx hb dX9_mostLeft_23 rfl (lv_at hl 3 rfl) ?_
        refine lv_iload_n hx hb dX9_mostLeft_24 rfl (lv_at hl 4 rfl) ?_
        refine lv_aload_n hx hb dX9_mostLeft_25 rfl (lv_at hl 2 rfl) ?_
        refine lv_iload hx hb dX9_mostLeft_26 (lv_at hl 0 rfl) ?_
        refine g_aald S hw (f := fun i => some (a (3 + i))) (i := i5) (v := a (3 + i5)) 1 1 rfl rfl rfl (by omega) (by decide) rfl dX9_mostLeft_28 ?_
        refine lv_iload_n hx hb dX9_mostLeft_29 rfl (lv_at hl 4 rfl) ?_
        refine g_kind5 (k := i5) (by omega) (G := fun j => ∀ (H : Heap) (locs : List Loc), gw D (tysX cI cC cI2) A s H locs (wX cI cC cI2 a κ σ) → W p l e (gR 4) s m ([.ref (a 1), .int left, .int rate] : List Value).toArray below meth C H locs 0 0 (MQ below (gQi D (tysX cI cC cI2) (XT_mostLeft_r κ σ left rate) (wX cI cC cI2 a κ σ) A) ([.ref (a 1), .int left, .int rate] : List Value).toArray s 0 0 A) (F0 m 33 ls (.int (X_asks j rate) :: .int rate :: .int left :: .ref (a 1) :: .int x5_3 :: []))) (P := fun j => W p l e (gR 4) s m ([.ref (a 1), .int left, .int rate] : List Value).toArray below meth C _ _ 0 0 (MQ below (gQi D (tysX cI cC cI2) (XT_mostLeft_r κ σ left rate) (wX cI cC cI2 a κ σ) A) ([.ref (a 1), .int left, .int rate] : List Value).toArray s 0 0 A) (F0 m 30 ls (.int rate :: .ref (a (3 + j)) :: .int rate :: .int left :: .ref (a 1) :: .int x5_3 :: []))) (fun kk => g_callVi S hw (c_X1_asks l D (tysX cI cC cI2) (wX cI cC cI2 a κ σ) (a 3) rate) gX9_mostLeft_X1_asks rfl 3 rfl rfl 1 rfl (by decide +kernel) (by decide) (by decide) hl.1 rfl (Nat.le_of_ble_eq_true rfl) dX9_mostLeft_30 kk) (fun kk => g_callUi S hw (c_X7_asks l D (tysX cI cC cI2) (wX cI cC cI2 a κ σ) (a 4) rate) (va_cwO 1 hts gX9_mostLeft_X7_asks_u26X7 rfl rfl rfl lk0 (by decide +kernel) (g_hR (by decide) (by decide))) 4 rfl rfl hl.1 rfl (Nat.le_of_ble_eq_true rfl) dX9_mostLeft_30 kk) (fun kk => g_callUi S hw (c_X6_asks l D (tysX cI cC cI2) (wX cI cC cI2 a κ σ) (a 5) rate) (va_cwO 1 hts gX9_mostLeft_X6_asks_u26X6 rfl rfl rfl lk0 (by decide +kernel) (g_hR (by decide) (by decide))) 5 rfl rfl hl.1 rfl (Nat.le_of_ble_eq_true rfl) dX9_mostLeft_30 kk) (fun kk => g_callUi S hw (c_X1_asks l D (tysX cI cC cI2) (wX cI cC cI2 a κ σ) (a 6) rate) (va_cwU 1 hts gX9_mostLeft_X1_asks_u26X0 rfl rfl rfl rfl (by decide +kernel) (g_hR (by decide) (by decide))) 6 rfl rfl hl.1 rfl (Nat.le_of_ble_eq_true rfl) dX9_mostLeft_30 kk) (fun kk => g_callUi S hw (c_X3_asks l D cI cC cI2 a κ σ rate) (va_cwO 1 hts gX9_mostLeft_X3_asks_u26X3 rfl rfl rfl lk0 (by decide +kernel) (g_hR (by decide) (by decide))) 7 rfl rfl hl.1 rfl (Nat.le_of_ble_eq_true rfl) dX9_mostLeft_30 kk) ?_
        intro H locs hw
        refine g_callSi S hw (c_XT_alike l D cI cC cI2 a κ σ left rate (X_asks i5 rate)) gX9_mostLeft_X9_alike rfl 4 rfl (by decide +kernel) (by decide) (by decide) hl.1 rfl (Nat.le_of_ble_eq_true rfl) dX9_mostLeft_33 (fun H locs hw => ?_)
        refine va_mmax hx hb (hml.trans hl.1.symm) hown (hts _ lk1) (hts _ lk2) (hts _ lk3) (hts _ lk4) (by decide) (Nat.le_of_ble_eq_true rfl) (Nat.zero_le _) (Nat.zero_le _) dX9_mostLeft_36 ?_
        refine lv_istore_n (lv' := [(3, .int (if x5_3 < (XT_alike_r κ σ left rate (X_asks i5 rate)) then XT_alike_r κ σ left rate (X_asks i5 rate) else x5_3)), (4, .int (nI i5)), (0, .ref (a 1)), (1, .int left), (2, .int rate)]) hx hb dX9_mostLeft_39 rfl hl (by decide) rfl (fun ls hl => ?_)
        refine lv_iinc (v := nI (i5 + 1)) (lv' := [(4, .int (nI (i5 + 1))), (3, .int (if x5_3 < (XT_alike_r κ σ left rate (X_asks i5 rate)) then XT_alike_r κ σ left rate (X_asks i5 rate) else x5_3)), (0, .ref (a 1)), (1, .int left), (2, .int rate)]) hx hb dX9_mostLeft_40 hl (k := 1) rfl (nI_1 _) (by decide) rfl (fun ls hl => ?_)
        refine lv_goto (tgt := 5) hx hb dX9_mostLeft_43 (by decide) ?_
        exact ih5 (i5 + 1) (if x5_3 < (XT_alike_r κ σ left rate (X_asks i5 rate)) then XT_alike_r κ σ left rate (X_asks i5 rate) else x5_3) _ _ _ (by omega) (by have q := hF5; simp only [XT_mostLeft_L5, XT_mostLeft_S5_0, if_neg c_2] at q; exact q) hw (lv_sub hl [0, 1, 2, 3, 4] rfl)
  exact L5 5 0 0 _ _ _ (by omega) rfl hw (lv_sub hl [0, 1, 2, 3, 4] rfl)
def XT_nextRate_S23_0 (κ : Nat → Nat) (σ : Nat → Nat → Int32) (tm : Nat) (y23_2 : Int32) (i23 : Nat) (x23_3 : Int32) (x23_4 : Int32) : Int32 := if x23_4 ≤ (XT_mostLeft_r κ σ y23_2 (nI i23)) then x23_3 else (nI i23)
def XT_nextRate_S23_1 (κ : Nat → Nat) (σ : Nat → Nat → Int32) (tm : Nat) (y23_2 : Int32) (i23 : Nat) (x23_3 : Int32) (x23_4 : Int32) : Int32 := if x23_4 ≤ (XT_mostLeft_r κ σ y23_2 (nI i23)) then x23_4 else (XT_mostLeft_r κ σ y23_2 (nI i23))
def XT_nextRate_L23 (κ : Nat → Nat) (σ : Nat → Nat → Int32) (tm : Nat) (y23_2 : Int32) : Nat → Nat → (Int32) → (Int32) → (Int32) × (Int32)
  | 0, _, x23_3, x23_4 => (x23_3, x23_4)
  | n23 + 1, i23, x23_3, x23_4 => XT_nextRate_L23 κ σ tm y23_2 n23 (i23 + 1) (XT_nextRate_S23_0 κ σ tm y23_2 i23 x23_3 x23_4) (XT_nextRate_S23_1 κ σ tm y23_2 i23 x23_3 x23_4)
def XT_nextRate_r (κ : Nat → Nat) (σ : Nat → Nat → Int32) (tm : Nat) : Int32 := if (XT_kindsLeft_r κ σ tm) = 0 then (-1) else ((XT_nextRate_L23 κ σ tm (XT_kindsLeft_r κ σ tm) (10 - 1) 1 (-1) (5 + 1)).1)
set_option maxHeartbeats 4000000 in
set_option maxRecDepth 100000 in
theorem c_XT_nextRate (l : Launch) (D : va_G) (cI cC cI2 : ClassId) (a : Nat → Nat) (κ : Nat → Nat) (σ : Nat → Nat → Int32) (tm : Nat) (ht0 : σ 42 2 = nI tm) (ht0b : tm ≤ 6) : gI l D (tysX cI cC cI2) yX9_nextRate wsX9_nextRate 5 [.ref (a 42), .ref (a 1)] (wX cI cC cI2 a κ σ) (XT_nextRate_r κ σ tm) (wX cI cC cI2 a κ σ) := by
  refine g_start (cc := cX9_nextRate) (maxL := 7) (ret := some .int) (Qc := gQi D (tysX cI cC cI2) (XT_nextRate_r κ σ tm) (wX cI cC cI2 a κ σ)) (by decide) rfl (Nat.le_of_ble_eq_true rfl) ?_
  intro p e s m below meth C A ls S hr hlk hw hl
  obtain ⟨hx, hb, hml, hown, hts⟩ := id S
  have hl : lv_has ls 7 [(0, .ref (a 42)), (1, .ref (a 1))] := hl
  refine lv_aload_n hx hb dX9_nextRate_0 rfl (lv_at hl 0 rfl) ?_
  refine lv_aload_n hx hb dX9_nextRate_1 rfl (lv_at hl 1 rfl) ?_
  refine g_callVi S hw (c_XT_kindsLeft l D cI cC cI2 a κ σ tm (ht0) (by omega)) gX9_nextRate_X9_kindsLeft rfl 42 rfl rfl 1 rfl (by decide +kernel) (by decide) (by decide) hl.1 rfl (Nat.le_of_ble_eq_true rfl) dX9_nextRate_2 (fun H locs hw => ?_)
  refine lv_istore_n (lv' := [(2, .int (XT_kindsLeft_r κ σ tm)), (0, .ref (a 42)), (1, .ref (a 1))]) hx hb dX9_nextRate_5 rfl hl (by decide) rfl (fun ls hl => ?_)
  refine lv_iload_n hx hb dX9_nextRate_6 rfl (lv_at hl 0 rfl) ?_
  refine lv_if_ne hx hb (tgt := 12) dX9_nextRate_7 (by decide) (fun c_1 => ?_) (fun c_1 => ?_)
  · refine lv_iconst (v := (-1)) hx hb dX9_nextRate_12 (by decide) ?_
    refine lv_istore_n (lv' := [(3, .int (-1)), (2, .int (XT_kindsLeft_r κ σ tm)), (0, .ref (a 42)), (1, .ref (a 1))]) hx hb dX9_nextRate_13 rfl hl (by decide) rfl (fun ls hl => ?_)
    refine lv_aload_n hx hb dX9_nextRate_14 rfl (lv_at hl 3 rfl) ?_
    refine g_alen S hw 1 1 rfl rfl dX9_nextRate_15 ?_
    refine lv_iconst (v := 1) hx hb dX9_nextRate_16 (by decide) ?_
    refine lv_iadd hx hb dX9_nextRate_17 ?_
    refine lv_istore (lv' := [(4, .int (5 + 1)), (3, .int (-1)), (2, .int (XT_kindsLeft_r κ σ tm)), (0, .ref (a 42)), (1, .ref (a 1))]) hx hb dX9_nextRate_18 hl (by decide) rfl (fun ls hl => ?_)
    refine lv_iconst (v := 1) hx hb dX9_nextRate_20 (by decide) ?_
    refine lv_istore (lv' := [(5, .int 1), (4, .int (5 + 1)), (3, .int (-1)), (2, .int (XT_kindsLeft_r κ σ tm)), (0, .ref (a 42)), (1, .ref (a 1))]) hx hb dX9_nextRate_21 hl (by decide) rfl (fun ls hl => ?_)
    have L23 : ∀ (n23 i23 : Nat) (x23_3 : Int32) (x23_4 : Int32) (H : Heap) (locs : List Loc) (ls : Array Slot), i23 + n23 = 10 → 1 ≤ i23 → XT_nextRate_L23 κ σ tm (XT_kindsLeft_r κ σ tm) n23 i23 x23_3 x23_4 = XT_nextRate_L23 κ σ tm (XT_kindsLeft_r κ σ tm) (10 - 1) 1 (-1) (5 + 1) → gw D (tysX cI cC cI2) A s H locs (wX cI cC cI2 a κ σ) → lv_has ls 7 [(5, .int (nI i23)), (4, .int x23_4), (3, .int x23_3), (2, .int (XT_kindsLeft_r κ σ tm)), (0, .ref (a 42)), (1, .ref (a 1))] → W p l e (gR 5) s m ([.ref (a 42), .ref (a 1)] : List Value).toArray below meth C H locs 0 0 (MQ below (gQi D (tysX cI cC cI2) (XT_nextRate_r κ σ tm) (wX cI cC cI2 a κ σ) A) ([.ref (a 42), .ref (a 1)] : List Value).toArray s 0 0 A) (F0 m 23 ls []) := by
      intro n23
      induction n23 with
      | zero =>
        intro i23 x23_3 x23_4 H locs ls hi23 hj23 hF23 hw hl
        refine lv_iload hx hb dX9_nextRate_23 (lv_at hl 0 rfl) ?_
        refine lv_bipush (v := 9) hx hb dX9_nextRate_25 (by decide) ?_
        refine ln_gt (x := i23) (y := 9) hx hb (by omega) (by omega) (tgt := 59) dX9_nextRate_27 (by decide) (fun c_x => ?_) (fun c_x => absurd (by omega) c_x)
        have hz23 : 10 = i23 := by omega
        subst hz23
        have e23_0 : (XT_nextRate_L23 κ σ tm (XT_kindsLeft_r κ σ tm) (10 - 1) 1 (-1) (5 + 1)).1 = x23_3 := (congrArg (fun z => z.1) hF23).symm
        have e23_1 : (XT_nextRate_L23 κ σ tm (XT_kindsLeft_r κ σ tm) (10 - 1) 1 (-1) (5 + 1)).2 = x23_4 := (congrArg (fun z => z.2) hF23).symm
        subst e23_0
        subst e23_1
        refine lv_iload_n hx hb dX9_nextRate_59 rfl (lv_at hl 2 rfl) ?_
        exact g_iret S hr hlk hw (by simp only [XT_nextRate_r, if_neg c_1]) rfl dX9_nextRate_60
      | succ n23 ih23 =>
        intro i23 x23_3 x23_4 H locs ls hi23 hj23 hF23 hw hl
        refine lv_iload hx hb dX9_nextRate_23 (lv_at hl 0 rfl) ?_
        refine lv_bipush (v := 9) hx hb dX9_nextRate_25 (by decide) ?_
        refine ln_gt (x := i23) (y := 9) hx hb (by omega) (by omega) (tgt := 59) dX9_nextRate_27 (by decide) (fun c_x => absurd c_x (by omega)) (fun c_x => ?_)
        refine lv_aload_n hx hb dX9_nextRate_30 rfl (lv_at hl 5 rfl) ?_
        refine lv_iload_n hx hb dX9_nextRate_31 rfl (lv_at hl 3 rfl) ?_
        refine lv_iload hx hb dX9_nextRate_32 (lv_at hl 0 rfl) ?_
        refine g_callSi S hw (c_XT_mostLeft l D cI cC cI2 a κ σ (XT_kindsLeft_r κ σ tm) (nI i23)) gX9_nextRate_X9_mostLeft rfl 3 rfl (by decide +kernel) (by decide) (by decide) hl.1 rfl (Nat.le_of_ble_eq_true rfl) dX9_nextRate_34 (fun H locs hw => ?_)
        refine lv_istore (lv' := [(6, .int (XT_mostLeft_r κ σ (XT_kindsLeft_r κ σ tm) (nI i23))), (5, .int (nI i23)), (4, .int x23_4), (3, .int x23_3), (2, .int (XT_kindsLeft_r κ σ tm)), (0, .ref (a 42)), (1, .ref (a 1))]) hx hb dX9_nextRate_37 hl (by decide) rfl (fun ls hl => ?_)
        refine lv_iload hx hb dX9_nextRate_39 (lv_at hl 0 rfl) ?_
        refine lv_iload hx hb dX9_nextRate_41 (lv_at hl 2 rfl) ?_
        refine lv_icmp_ge hx hb (tgt := 53) dX9_nextRate_43 (by decide) (fun c_3 => ?_) (fun c_3 => ?_)
        · refine lv_iinc (v := nI (i23 + 1)) (lv' := [(5, .int (nI (i23 + 1))), (6, .int (XT_mostLeft_r κ σ (XT_kindsLeft_r κ σ tm) (nI i23))), (4, .int x23_4), (3, .int x23_3), (2, .int (XT_kindsLeft_r κ σ tm)), (0, .ref (a 42)), (1, .ref (a 1))]) hx hb dX9_nextRate_53 hl (k := 1) rfl (nI_1 _) (by decide) rfl (fun ls hl => ?_)
          refine lv_goto (tgt := 23) hx hb dX9_nextRate_56 (by decide) ?_
          exact ih23 (i23 + 1) x23_3 x23_4 _ _ _ (by omega) (by omega) (by have q := hF23; simp only [XT_nextRate_L23, XT_nextRate_S23_0, XT_nextRate_S23_1, if_pos c_3] at q; exact q) hw (lv_sub hl [0, 2, 3, 4, 5, 6] rfl)
        · refine lv_iload hx hb dX9_nextRate_46 (lv_at hl 0 rfl) ?_
          refine lv_istore (lv' := [(4, .int (XT_mostLeft_r κ σ (XT_kindsLeft_r κ σ tm) (nI i23))), (6, .int (XT_mostLeft_r κ σ (XT_kindsLeft_r κ σ tm) (nI i23))), (5, .int (nI i23)), (3, .int x23_3), (2, .int (XT_kindsLeft_r κ σ tm)), (0, .ref (a 42)), (1, .ref (a 1))]) hx hb dX9_nextRate_48 hl (by decide) rfl (fun ls hl => ?_)
          refine lv_iload hx hb dX9_nextRate_50 (lv_at hl 2 rfl) ?_
          refine lv_istore_n (lv' := [(3, .int (nI i23)), (4, .int (XT_mostLeft_r κ σ (XT_kindsLeft_r κ σ tm) (nI i23))), (6, .int (XT_mostLeft_r κ σ (XT_kindsLeft_r κ σ tm) (nI i23))), (5, .int (nI i23)), (2, .int (XT_kindsLeft_r κ σ tm)), (0, .ref (a 42)), (1, .ref (a 1))]) hx hb dX9_nextRate_52 rfl hl (by decide) rfl (fun ls hl => ?_)
          refine lv_iinc (v := nI (i23 + 1)) (lv' := [(5, .int (nI (i23 + 1))), (3, .int (nI i23)), (4, .int (XT_mostLeft_r κ σ (XT_kindsLeft_r κ σ tm) (nI i23))), (6, .int (XT_mostLeft_r κ σ (XT_kindsLeft_r κ σ tm) (nI i23))), (2, .int (XT_kindsLeft_r κ σ tm)), (0, .ref (a 42)), (1, .ref (a 1))]) hx hb dX9_nextRate_53 hl (k := 3) rfl (nI_1 _) (by decide) rfl (fun ls hl => ?_)
          refine lv_goto (tgt := 23) hx hb dX9_nextRate_56 (by decide) ?_
          exact ih23 (i23 + 1) (nI i23) (XT_mostLeft_r κ σ (XT_kindsLeft_r κ σ tm) (nI i23)) _ _ _ (by omega) (by omega) (by have q := hF23; simp only [XT_nextRate_L23, XT_nextRate_S23_0, XT_nextRate_S23_1, if_neg c_3] at q; exact q) hw (lv_sub hl [0, 2, 1, 4, 5, 6] rfl)
    exact L23 (10 - 1) 1 (-1) (5 + 1) _ _ _ (by omega) (Nat.le_refl _) rfl hw (lv_sub hl [0, 1, 2, 3, 4, 5] rfl)
  · refine lv_iconst (v := (-1)) hx hb dX9_nextRate_10 (by decide) ?_
    exact g_iret S hr hlk hw (by simp only [XT_nextRate_r, if_pos c_1]) rfl dX9_nextRate_11
