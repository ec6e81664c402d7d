theorem moreN_le (pl i : Nat) : moreN pl i ≤ 1 := by unfold moreN; split <;> omega
theorem moreN_ne {pl i : Nat} (h : i < nperm pl) : ¬ moreN pl i = 0 := by unfold moreN; rw [if_pos h]; decide
theorem moreN_z {pl i : Nat} (h : nperm pl ≤ i) : moreN pl i = 0 := by unfold moreN; rw [if_neg (by omega)]
theorem moreN_0 {pl : Nat} (h : pl ≤ 4) : nI (moreN pl 0) = 1 := by unfold moreN; rw [if_pos (nperm_le pl h).2]; rfl
theorem gw_row40 {D : va_G} {cI cC cI2 : ClassId} {a : Nat → Nat} {κ : Nat → Nat} {σ : Nat → Nat → Int32} {A : Nat → Prop} {s : State} {H : Heap} {locs : List Loc} {g : Nat → Int32} (hw : gw D (tysX cI cC cI2) A s H locs (wX cI cC cI2 a κ σ)) (h : σ 40 = g) : gw D (tysX cI cC cI2) A s H locs (wX cI cC cI2 a κ (row σ 40 g)) := by
  rw [← h, row_self]; exact hw
def XP_findOrder_S9_0 (κ : Nat → Nat) (pl : Nat) (n : Nat) (y9_3 : Nat) (i9 : Nat) (σ9 : Nat → Nat → Int32) : Nat → Nat → Int32 := if i9 = 0 then (row (row (up2 (XP_marryInOrder_s κ (XH_copyFrom_24_10_s κ σ9) pl) 37 5 (XH_allOwed_r 24 κ (XP_marryInOrder_s κ (XH_copyFrom_24_10_s κ σ9) pl) n)) 41 ((up2 (XP_marryInOrder_s κ (XH_copyFrom_24_10_s κ σ9) pl) 37 5 (XH_allOwed_r 24 κ (XP_marryInOrder_s κ (XH_copyFrom_24_10_s κ σ9) pl) n)) 40)) 40 (permRow pl (nextI pl i9))) else (if (σ9 37 5) ≤ (XH_allOwed_r 24 κ (XP_marryInOrder_s κ (XH_copyFrom_24_10_s κ σ9) pl) n) then (row (XP_marryInOrder_s κ (XH_copyFrom_24_10_s κ σ9) pl) 40 (permRow pl (nextI pl i9))) else (row (row (up2 (XP_marryInOrder_s κ (XH_copyFrom_24_10_s κ σ9) pl) 37 5 (XH_allOwed_r 24 κ (XP_marryInOrder_s κ (XH_copyFrom_24_10_s κ σ9) pl) n)) 41 ((up2 (XP_marryInOrder_s κ (XH_copyFrom_24_10_s κ σ9) pl) 37 5 (XH_allOwed_r 24 κ (XP_marryInOrder_s κ (XH_copyFrom_24_10_s κ σ9) pl) n)) 40)) 40 (permRow pl (nextI pl i9))))
def XP_findOrder_L9 (κ : Nat → Nat) (pl : Nat) (n : Nat) (y9_3 : Nat) : Nat → Nat → (Nat → Nat → Int32) → (Nat → Nat → Int32)
  | 0, _, σ9 => σ9
  | n9 + 1, i9, σ9 => XP_findOrder_L9 κ pl n y9_3 n9 (i9 + 1) (XP_findOrder_S9_0 κ pl n y9_3 i9 σ9)
theorem XP_findOrder_S9_p37_4 (κ : Nat → Nat) (pl : Nat) (n : Nat) (y9_3 : Nat) (i9 : Nat) (σ9 : Nat → Nat → Int32) : XP_findOrder_S9_0 κ pl n y9_3 i9 σ9 37 4 = σ9 37 4 := by
  unfold XP_findOrder_S9_0
  by_cases z1 : i9 = 0
  · refine Eq.trans (congrFun (congrFun (if_pos z1) 37) 4) ?_
    exact (row_rn (by omega)).trans ((row_rn (by omega)).trans ((up2_rp (by decide)).trans ((congrFun (XP_marryInOrder_s_k κ (XH_copyFrom_24_10_s κ σ9) pl 37 (by omega) (by omega)) 4).trans (congrFun (XH_copyFrom_24_10_s_k κ σ9 37 (by omega) (by omega) (by omega)) 4))))
  · refine Eq.trans (congrFun (congrFun (if_neg z1) 37) 4) ?_
    by_cases z2 : (σ9 37 5) ≤ (XH_allOwed_r 24 κ (XP_marryInOrder_s κ (XH_copyFrom_24_10_s κ σ9) pl) n)
    · refine Eq.trans (congrFun (congrFun (if_pos z2) 37) 4) ?_
      exact (row_rn (by omega)).trans ((congrFun (XP_marryInOrder_s_k κ (XH_copyFrom_24_10_s κ σ9) pl 37 (by omega) (by omega)) 4).trans (congrFun (XH_copyFrom_24_10_s_k κ σ9 37 (by omega) (by omega) (by omega)) 4))
    · refine Eq.trans (congrFun (congrFun (if_neg z2) 37) 4) ?_
      exact (row_rn (by omega)).trans ((row_rn (by omega)).trans ((up2_rp (by decide)).trans ((congrFun (XP_marryInOrder_s_k κ (XH_copyFrom_24_10_s κ σ9) pl 37 (by omega) (by omega)) 4).trans (congrFun (XH_copyFrom_24_10_s_k κ σ9 37 (by omega) (by omega) (by omega)) 4))))
theorem XP_findOrder_L9_p37_4 (κ : Nat → Nat) (pl : Nat) (n : Nat) (y9_3 : Nat) : ∀ (n9 i9 : Nat) (σ9 : Nat → Nat → Int32), (XP_findOrder_L9 κ pl n y9_3 n9 i9 σ9) 37 4 = σ9 37 4 := by
  intro n9
  induction n9 with
  | zero => intros; rfl
  | succ n9 ih => intro i9 σ9; exact (ih (i9 + 1) (XP_findOrder_S9_0 κ pl n y9_3 i9 σ9)).trans (XP_findOrder_S9_p37_4 κ pl n y9_3 i9 σ9)
theorem XP_findOrder_S9_k (κ : Nat → Nat) (pl : Nat) (n : Nat) (y9_3 : Nat) (c9 : Nat) (q0 : c9 ≠ 24) (q1 : c9 ≠ 25) (q2 : c9 ≠ 26) (q3 : c9 ≠ 37) (q4 : c9 ≠ 40) (q5 : c9 ≠ 41) (i9 : Nat) (σ9 : Nat → Nat → Int32) : XP_findOrder_S9_0 κ pl n y9_3 i9 σ9 c9 = σ9 c9 := by
  unfold XP_findOrder_S9_0
  by_cases z1 : i9 = 0
  · refine Eq.trans (congrFun (if_pos z1) c9) ?_
    exact (row_n _ _ q4).trans ((row_n _ _ q5).trans ((up2_n _ _ _ q3).trans ((XP_marryInOrder_s_k κ (XH_copyFrom_24_10_s κ σ9) pl c9 q1 q2).trans (XH_copyFrom_24_10_s_k κ σ9 c9 q0 q1 q2))))
  · refine Eq.trans (congrFun (if_neg z1) c9) ?_
    by_cases z2 : (σ9 37 5) ≤ (XH_allOwed_r 24 κ (XP_marryInOrder_s κ (XH_copyFrom_24_10_s κ σ9) pl) n)
    · refine Eq.trans (congrFun (if_pos z2) c9) ?_
      exact (row_n _ _ q4).trans ((XP_marryInOrder_s_k κ (XH_copyFrom_24_10_s κ σ9) pl c9 q1 q2).trans (XH_copyFrom_24_10_s_k κ σ9 c9 q0 q1 q2))
    · refine Eq.trans (congrFun (if_neg z2) c9) ?_
      exact (row_n _ _ q4).trans ((row_n _ _ q5).trans ((up2_n _ _ _ q3).trans ((XP_marryInOrder_s_k κ (XH_copyFrom_24_10_s κ σ9) pl c9 q1 q2).trans (XH_copyFrom_24_10_s_k κ σ9 c9 q0 q1 q2))))
theorem XP_findOrder_L9_k (κ : Nat → Nat) (pl : Nat) (n : Nat) (y9_3 : Nat) (c9 : Nat) (q0 : c9 ≠ 24) (q1 : c9 ≠ 25) (q2 : c9 ≠ 26) (q3 : c9 ≠ 37) (q4 : c9 ≠ 40) (q5 : c9 ≠ 41) : ∀ (n9 i9 : Nat) (σ9 : Nat → Nat → Int32), (XP_findOrder_L9 κ pl n y9_3 n9 i9 σ9) c9 = σ9 c9 := by
  intro n9
  induction n9 with
  | zero => intros; rfl
  | succ n9 ih => intro i9 σ9; exact (ih (i9 + 1) (XP_findOrder_S9_0 κ pl n y9_3 i9 σ9)).trans (XP_findOrder_S9_k κ pl n y9_3 c9 q0 q1 q2 q3 q4 q5 i9 σ9)
def XP_findOrder_s (κ : Nat → Nat) (σ : Nat → Nat → Int32) (pl : Nat) (n : Nat) : Nat → Nat → Int32 := (XP_findOrder_L9 κ pl n (moreN pl 0) (nperm pl) 0 (row σ 40 (permRow pl 0)))
theorem XP_findOrder_s_p37_4 (κ : Nat → Nat) (σ : Nat → Nat → Int32) (pl : Nat) (n : Nat) : XP_findOrder_s κ σ pl n 37 4 = σ 37 4 := by
  unfold XP_findOrder_s
  exact (XP_findOrder_L9_p37_4 κ pl n (moreN pl 0) (nperm pl) 0 (row σ 40 (permRow pl 0))).trans (row_rn (by omega))
theorem XP_findOrder_s_k (κ : Nat → Nat) (σ : Nat → Nat → Int32) (pl : Nat) (n : Nat) (c9 : Nat) (q0 : c9 ≠ 24) (q1 : c9 ≠ 25) (q2 : c9 ≠ 26) (q3 : c9 ≠ 37) (q4 : c9 ≠ 40) (q5 : c9 ≠ 41) : XP_findOrder_s κ σ pl n c9 = σ c9 := by
  unfold XP_findOrder_s
  exact (XP_findOrder_L9_k κ pl n (moreN pl 0) c9 q0 q1 q2 q3 q4 q5 (nperm pl) 0 (row σ 40 (permRow pl 0))).trans (row_n _ _ q4)
set_option maxHeartbeats 4000000 in
set_option maxRecDepth 100000 in
theorem c_XP_findOrder (l : Launch) (D : va_G) (cI cC cI2 : ClassId) (a : Nat → Nat) (κ : Nat → Nat) (σ : Nat → Nat → Int32) (pl : Nat) (n : Nat) (hp0 : σ 37 4 = nI pl) (hp0b : pl ≤ 4) (hn : σ 10 3 = nI n) (hnb : n ≤ 4) (h38 : natRow (σ 38) pl 4) (h39 : natRow (σ 39) pl 4) (hk : ∀ i, i < 4 → κ i < 5) : gV l D (tysX cI cC cI2) yX5_findOrder wsX5_findOrder 6 [.ref (a 37), .ref (a 10), .ref (a 24)] (wX cI cC cI2 a κ σ)  (wX cI cC cI2 a κ (XP_findOrder_s κ σ pl n)) := by
  refine g_start (cc := cX5_findOrder) (maxL := 6) (ret := none) (Qc := gQv D (tysX cI cC cI2) (wX cI cC cI2 a κ (XP_findOrder_s κ σ pl n))) (by decide) rfl (Nat.le_of_ble_eq_true rfl) ?_
  intro p e s m below meth C A ls S hr hlk hw hl
  obtain ⟨hx, hb, hml, hown, hts⟩ := id S
  have hinX5 : ∀ x ∈ u_ws RX5 TX5 6, x ∈ wsX5_findOrder := fun x h => List.mem_cons_of_mem _ (List.mem_append_left _ (List.mem_append_right _ h))
  have lk0 : Cond.fieldLink RX5 28 "CowsOwed$Plans" "leastOwed" "I" ∈ wsX5_findOrder := by decide +kernel
  have lk1 : Cond.fieldLink RX5 18 "CowsOwed$Plans" "tried" "[I" ∈ wsX5_findOrder := by decide +kernel
  have lk2 : Cond.fieldLink RX5 21 "CowsOwed$Plans" "best" "[I" ∈ wsX5_findOrder := by decide +kernel
  have lk3 : Cond.methodLink RX5 47 arraycopyName ∈ wsX5_findOrder := by decide +kernel
  have lk4 : Cond.native arraycopyName ∈ wsX5_findOrder := by decide +kernel
  have lk5 : Cond.static arraycopyName ∈ wsX5_findOrder := by decide +kernel
  have lk6 : Cond.initialized "java/lang/System" ∈ wsX5_findOrder := by decide +kernel
  have hl : lv_has ls 6 [(0, .ref (a 37)), (1, .ref (a 10)), (2, .ref (a 24))] := hl
  refine lv_aload_n hx hb dX5_findOrder_0 rfl (lv_at hl 0 rfl) ?_
  refine g_callVv S hw (c_XP_startOrders l D cI cC cI2 a κ σ) gX5_findOrder_X5_startOrders rfl 37 rfl rfl 0 rfl (by decide +kernel) (by decide) (by decide) hl.1 rfl (Nat.le_of_ble_eq_true rfl) dX5_findOrder_1 (fun H locs hw => ?_)
  have hw := XP_start_norm hw hp0b
  refine lv_iconst (v := 1) hx hb dX5_findOrder_4 (by decide) ?_
  refine lv_istore_n (lv' := [(3, .int 1), (0, .ref (a 37)), (1, .ref (a 10)), (2, .ref (a 24))]) hx hb dX5_findOrder_5 rfl hl (by decide) rfl (fun ls hl => ?_)
  have hl : lv_has ls 6 [(3, .int (nI (moreN pl 0))), (0, .ref (a 37)), (1, .ref (a 10)), (2, .ref (a 24))] := by rw [moreN_0 hp0b]; exact hl
  refine lv_iconst (v := 0) hx hb dX5_findOrder_6 (by decide) ?_
  refine lv_istore (lv' := [(4, .int 0), (3, .int (nI (moreN pl 0))), (0, .ref (a 37)), (1, .ref (a 10)), (2, .ref (a 24))]) hx hb dX5_findOrder_7 hl (by decide) rfl (fun ls hl => ?_)
  have hnp := nperm_le pl hp0b
  have L9 : ∀ (n9 i9 : Nat) (σ9 : Nat → Nat → Int32) (H : Heap) (locs : List Loc) (ls : Array Slot), i9 + n9 = nperm pl → σ9 10 = (row σ 40 (permRow pl 0)) 10 → natRow (σ9 38) pl 4 → natRow (σ9 39) pl 4 → σ9 37 4 = nI pl → (i9 < nperm pl → σ9 40 = permRow pl i9) → XP_findOrder_L9 κ pl n (moreN pl 0) n9 i9 σ9 = XP_findOrder_L9 κ pl n (moreN pl 0) (nperm pl) 0 (row σ 40 (permRow pl 0)) → gw D (tysX cI cC cI2) A s H locs (wX cI cC cI2 a κ σ9) → lv_has ls 6 [(4, .int (nI i9)), (3, .int (nI (moreN pl i9))), (0, .ref (a 37)), (1, .ref (a 10)), (2, .ref (a 24))] → W p l e (gR 6) s m ([.ref (a 37), .ref (a 10), .ref (a 24)] : List Value).toArray below meth C H locs 0 0 (MQ below (gQv D (tysX cI cC cI2) (wX cI cC cI2 a κ (XP_findOrder_s κ σ pl n)) A) ([.ref (a 37), .ref (a 10), .ref (a 24)] : List Value).toArray s 0 0 A) (F0 m 9 ls []) := by
    intro n9
    induction n9 with
    | zero =>
      intro i9 σ9 H locs ls hi9 k9_10 r9_38 r9_39 f9_37_4 h40v hF9 hw hl
      refine lv_iload hx hb dX5_findOrder_9 (lv_at hl 0 rfl) ?_
      refine lv_bipush (v := 24) hx hb dX5_findOrder_11 (by decide) ?_
      refine ln_ge (x := i9) (y := 24) hx hb (by omega) (by omega) (tgt := 81) dX5_findOrder_13 (by decide) (fun c_5 => ?_) (fun c_5 => ?_)
      · have hz9 : nperm pl = i9 := by omega
        subst hz9
        have e9_0 : (XP_findOrder_L9 κ pl n (moreN pl 0) (nperm pl) 0 (row σ 40 (permRow pl 0))) = σ9 := hF9.symm
        subst e9_0
        exact g_vret S hr hlk hw (by simp only [XP_findOrder_s]) dX5_findOrder_81
      · have hmb := moreN_le pl i9
        refine lv_iload_n hx hb dX5_findOrder_16 rfl (lv_at hl 1 rfl) ?_
        refine ln_ifeq (x := (moreN pl i9)) hx hb (by omega) (tgt := 81) dX5_findOrder_17 (by decide) (fun c_x => ?_) (fun c_x => absurd (moreN_z (by omega)) c_x)
        have hz9 : nperm pl = i9 := by omega
        subst hz9
        have e9_0 : (XP_findOrder_L9 κ pl n (moreN pl 0) (nperm pl) 0 (row σ 40 (permRow pl 0))) = σ9 := hF9.symm
        subst e9_0
        exact g_vret S hr hlk hw (by simp only [XP_findOrder_s]) dX5_findOrder_81
    | succ n9 ih9 =>
      intro i9 σ9 H locs ls hi9 k9_10 r9_38 r9_39 f9_37_4 h40v hF9 hw hl
      refine lv_iload hx hb dX5_findOrder_9 (lv_at hl 0 rfl) ?_
      refine lv_bipush (v := 24) hx hb dX5_findOrder_11 (by decide) ?_
      refine ln_ge (x := i9) (y := 24) hx hb (by omega) (by omega) (tgt := 81) dX5_findOrder_13 (by decide) (fun c_x => absurd c_x (by omega)) (fun c_x => ?_)
      have hmb := moreN_le pl i9
      refine lv_iload_n hx hb dX5_findOrder_16 rfl (lv_at hl 1 rfl) ?_
      refine ln_ifeq (x := (moreN pl i9)) hx hb (by omega) (tgt := 81) dX5_findOrder_17 (by decide) (fun c_x => absurd c_x (moreN_ne (by omega))) (fun c_x => ?_)
      have h40r : natRow (σ9 40) pl pl := (by rw [h40v (by omega)]; exact permRow_ok hp0b (by omega))
      refine lv_aload_n hx hb dX5_findOrder_20 rfl (lv_at hl 4 rfl) ?_
      refine lv_aload_n hx hb dX5_findOrder_21 rfl (lv_at hl 3 rfl) ?_
      refine g_callVv S hw (c_XH_copyFrom_24_10 l D cI cC cI2 a κ σ9) gX5_findOrder_X2_copyFrom rfl 24 rfl rfl 1 rfl (by decide +kernel) (by decide) (by decide) hl.1 rfl (Nat.le_of_ble_eq_true rfl) dX5_findOrder_22 (fun H locs hw => ?_)
      refine lv_aload_n hx hb dX5_findOrder_25 rfl (lv_at hl 2 rfl) ?_
      refine lv_aload_n hx hb dX5_findOrder_26 rfl (lv_at hl 4 rfl) ?_
      refine g_callVv S hw (c_XP_marryInOrder l D cI cC cI2 a κ (XH_copyFrom_24_10_s κ σ9) pl ((congrFun (XH_copyFrom_24_10_s_k κ σ9 37 (by omega) (by omega) (by omega)) 4).trans (f9_37_4)) (by omega) (Eq.mpr (congrArg (fun z => natRow z pl 4) (XH_copyFrom_24_10_s_k κ σ9 38 (by omega) (by omega) (by omega))) r9_38) (Eq.mpr (congrArg (fun z => natRow z pl 4) (XH_copyFrom_24_10_s_k κ σ9 39 (by omega) (by omega) (by omega))) r9_39) (Eq.mpr (congrArg (fun z => natRow z pl pl) (XH_copyFrom_24_10_s_k κ σ9 40 (by omega) (by omega) (by omega))) h40r) hk) gX5_findOrder_X5_marryInOrder rfl 37 rfl rfl 1 rfl (by decide +kernel) (by decide) (by decide) hl.1 rfl (Nat.le_of_ble_eq_true rfl) dX5_findOrder_27 (fun H locs hw => ?_)
      refine lv_aload_n hx hb dX5_findOrder_30 rfl (lv_at hl 4 rfl) ?_
      refine g_callVi S hw (c_XH_allOwed_24 l D cI cC cI2 a κ (XP_marryInOrder_s κ (XH_copyFrom_24_10_s κ σ9) pl) n ((congrFun (XP_marryInOrder_s_k κ (XH_copyFrom_24_10_s κ σ9) pl 24 (by omega) (by omega)) 3).trans ((XH_copy2410_3 κ σ9).trans ((congrFun k9_10 3).trans ((row_rn (by omega)).trans (hn))))) (by omega)) gX5_findOrder_X2_allOwed rfl 24 rfl rfl 0 rfl (by decide +kernel) (by decide) (by decide) hl.1 rfl (Nat.le_of_ble_eq_true rfl) dX5_findOrder_31 (fun H locs hw => ?_)
      refine lv_istore (lv' := [(5, .int (XH_allOwed_r 24 κ (XP_marryInOrder_s κ (XH_copyFrom_24_10_s κ σ9) pl) n)), (4, .int (nI i9)), (3, .int (nI (moreN pl i9))), (0, .ref (a 37)), (1, .ref (a 10)), (2, .ref (a 24))]) hx hb dX5_findOrder_34 hl (by decide) rfl (fun ls hl => ?_)
      refine lv_iload hx hb dX5_findOrder_36 (lv_at hl 1 rfl) ?_
      refine ln_ifeq (x := i9) hx hb (by omega) (tgt := 50) dX5_findOrder_38 (by decide) (fun c_3 => ?_) (fun c_3 => ?_)
      · refine lv_aload_n hx hb dX5_findOrder_50 rfl (lv_at hl 3 rfl) ?_
        refine lv_iload hx hb dX5_findOrder_51 (lv_at hl 0 rfl) ?_
        refine g_put S hw hinX5 tyX5 tyX5_ok nmX5 (fs := fX37 a (XP_marryInOrder_s κ (XH_copyFrom_24_10_s κ σ9) pl)) 37 rfl rfl 5 (by decide) lk0 rfl rfl rfl (Nat.le_of_ble_eq_true rfl) (w2 := wX cI cC cI2 a κ (up2 (XP_marryInOrder_s κ (XH_copyFrom_24_10_s κ σ9) pl) 37 5 (XH_allOwed_r 24 κ (XP_marryInOrder_s κ (XH_copyFrom_24_10_s κ σ9) pl) n))) (wX_f37_5 _ _ _ _ _ _ _) dX5_findOrder_53 (fun H locs hw => ?_)
        refine lv_aload_n hx hb dX5_findOrder_56 rfl (lv_at hl 3 rfl) ?_
        refine g_get S hw hinX5 (fs := fX37 a (up2 (XP_marryInOrder_s κ (XH_copyFrom_24_10_s κ σ9) pl) 37 5 (XH_allOwed_r 24 κ (XP_marryInOrder_s κ (XH_copyFrom_24_10_s κ σ9) pl) n))) 37 rfl rfl 2 (by decide) lk1 (v := .ref (a 40)) rfl dX5_findOrder_57 ?_
        refine lv_iconst (v := 0) hx hb dX5_findOrder_60 (by decide) ?_
        refine lv_aload_n hx hb dX5_findOrder_61 rfl (lv_at hl 3 rfl) ?_
        refine g_get S hw hinX5 (fs := fX37 a (up2 (XP_marryInOrder_s κ (XH_copyFrom_24_10_s κ σ9) pl) 37 5 (XH_allOwed_r 24 κ (XP_marryInOrder_s κ (XH_copyFrom_24_10_s κ σ9) pl) n))) 37 rfl rfl 3 (by decide) lk2 (v := .ref (a 41)) rfl dX5_findOrder_62 ?_
        refine lv_iconst (v := 0) hx hb dX5_findOrder_65 (by decide) ?_
        refine lv_iconst (v := 4) hx hb dX5_findOrder_66 (by decide) ?_
        refine g_acopy S hw hl.1 lk3 lk4 lk5 lk6 40 41 0 (n := 4) (f := (up2 (XP_marryInOrder_s κ (XH_copyFrom_24_10_s κ σ9) pl) 37 5 (XH_allOwed_r 24 κ (XP_marryInOrder_s κ (XH_copyFrom_24_10_s κ σ9) pl) n)) 40) (g := (up2 (XP_marryInOrder_s κ (XH_copyFrom_24_10_s κ σ9) pl) 37 5 (XH_allOwed_r 24 κ (XP_marryInOrder_s κ (XH_copyFrom_24_10_s κ σ9) pl) n)) 41) rfl rfl rfl (by decide) (by decide) (Nat.le_of_ble_eq_true rfl) (w2 := wX cI cC cI2 a κ (row (up2 (XP_marryInOrder_s κ (XH_copyFrom_24_10_s κ σ9) pl) 37 5 (XH_allOwed_r 24 κ (XP_marryInOrder_s κ (XH_copyFrom_24_10_s κ σ9) pl) n)) 41 ((up2 (XP_marryInOrder_s κ (XH_copyFrom_24_10_s κ σ9) pl) 37 5 (XH_allOwed_r 24 κ (XP_marryInOrder_s κ (XH_copyFrom_24_10_s κ σ9) pl) n)) 40))) (wX_r41 _ _ _ _ _ _ _) dX5_findOrder_67 (fun H locs hw => ?_)
        refine lv_aload_n hx hb dX5_findOrder_70 rfl (lv_at hl 3 rfl) ?_
        have hw := gw_row40 hw (g := permRow pl i9) (((row_n _ _ (by omega)).trans ((up2_n _ _ _ (by omega)).trans ((XP_marryInOrder_s_k κ (XH_copyFrom_24_10_s κ σ9) pl 40 (by omega) (by omega)).trans (XH_copyFrom_24_10_s_k κ σ9 40 (by omega) (by omega) (by omega))))).trans (h40v (by omega)))
        refine g_callVi S hw (c_XP_nextOrder l D cI cC cI2 a κ (row (up2 (XP_marryInOrder_s κ (XH_copyFrom_24_10_s κ σ9) pl) 37 5 (XH_allOwed_r 24 κ (XP_marryInOrder_s κ (XH_copyFrom_24_10_s κ σ9) pl) n)) 41 ((up2 (XP_marryInOrder_s κ (XH_copyFrom_24_10_s κ σ9) pl) 37 5 (XH_allOwed_r 24 κ (XP_marryInOrder_s κ (XH_copyFrom_24_10_s κ σ9) pl) n)) 40)) pl i9 hp0b (by omega) (((row_rn (by omega)).trans ((up2_rp (by decide)).trans ((congrFun (XP_marryInOrder_s_k κ (XH_copyFrom_24_10_s κ σ9) pl 37 (by omega) (by omega)) 4).trans (congrFun (XH_copyFrom_24_10_s_k κ σ9 37 (by omega) (by omega) (by omega)) 4)))).trans (f9_37_4))) gX5_findOrder_X5_nextOrder rfl 37 rfl rfl 0 rfl (by decide +kernel) (by decide) (by decide) hl.1 rfl (Nat.le_of_ble_eq_true rfl) dX5_findOrder_71 (fun H locs hw => ?_)
        refine lv_istore_n (lv' := [(3, .int (nI (moreN pl (i9 + 1)))), (5, .int (XH_allOwed_r 24 κ (XP_marryInOrder_s κ (XH_copyFrom_24_10_s κ σ9) pl) n)), (4, .int (nI i9)), (0, .ref (a 37)), (1, .ref (a 10)), (2, .ref (a 24))]) hx hb dX5_findOrder_74 rfl hl (by decide) rfl (fun ls hl => ?_)
        refine lv_iinc (v := nI (i9 + 1)) (lv' := [(4, .int (nI (i9 + 1))), (3, .int (nI (moreN pl (i9 + 1)))), (5, .int (XH_allOwed_r 24 κ (XP_marryInOrder_s κ (XH_copyFrom_24_10_s κ σ9) pl) n)), (0, .ref (a 37)), (1, .ref (a 10)), (2, .ref (a 24))]) hx hb dX5_findOrder_75 hl (k := 2) rfl (nI_1 _) (by decide) rfl (fun ls hl => ?_)
        refine lv_goto (tgt := 9) hx hb dX5_findOrder_78 (by decide) ?_
        exact ih9 (i9 + 1) (row (row (up2 (XP_marryInOrder_s κ (XH_copyFrom_24_10_s κ σ9) pl) 37 5 (XH_allOwed_r 24 κ (XP_marryInOrder_s κ (XH_copyFrom_24_10_s κ σ9) pl) n)) 41 ((up2 (XP_marryInOrder_s κ (XH_copyFrom_24_10_s κ σ9) pl) 37 5 (XH_allOwed_r 24 κ (XP_marryInOrder_s κ (XH_copyFrom_24_10_s κ σ9) pl) n)) 40)) 40 (permRow pl (nextI pl i9))) _ _ _ (by omega) ((row_n _ _ (by omega)).trans ((row_n _ _ (by omega)).trans ((up2_n _ _ _ (by omega)).trans ((XP_marryInOrder_s_k κ (XH_copyFrom_24_10_s κ σ9) pl 10 (by omega) (by omega)).trans ((XH_copyFrom_24_10_s_k κ σ9 10 (by omega) (by omega) (by omega)).trans (k9_10)))))) (Eq.mpr (congrArg (fun z => natRow z pl 4) ((row_n _ _ (by omega)).trans ((row_n _ _ (by omega)).trans ((up2_n _ _ _ (by omega)).trans ((XP_marryInOrder_s_k κ (XH_copyFrom_24_10_s κ σ9) pl 38 (by omega) (by omega)).trans (XH_copyFrom_24_10_s_k κ σ9 38 (by omega) (by omega) (by omega))))))) r9_38) (Eq.mpr (congrArg (fun z => natRow z pl 4) ((row_n _ _ (by omega)).trans ((row_n _ _ (by omega)).trans ((up2_n _ _ _ (by omega)).trans ((XP_marryInOrder_s_k κ (XH_copyFrom_24_10_s κ σ9) pl 39 (by omega) (by omega)).trans (XH_copyFrom_24_10_s_k κ σ9 39 (by omega) (by omega) (by omega))))))) r9_39) (((row_rn (by omega)).trans ((row_rn (by omega)).trans ((up2_rp (by decide)).trans ((congrFun (XP_marryInOrder_s_k κ (XH_copyFrom_24_10_s κ σ9) pl 37 (by omega) (by omega)) 4).trans (congrFun (XH_copyFrom_24_10_s_k κ σ9 37 (by omega) (by omega) (by omega)) 4))))).trans (f9_37_4)) (fun h => (row_s _ _ _).trans (by rw [show nextI pl i9 = i9 + 1 from if_pos h])) (by have q := hF9; simp only [XP_findOrder_L9, XP_findOrder_S9_0, if_pos c_3] at q; exact q) hw (lv_sub hl [0, 1, 3, 4, 5] rfl)
      · refine lv_iload hx hb dX5_findOrder_41 (lv_at hl 0 rfl) ?_
        refine lv_aload_n hx hb dX5_findOrder_43 rfl (lv_at hl 3 rfl) ?_
        refine g_get S hw hinX5 (fs := fX37 a (XP_marryInOrder_s κ (XH_copyFrom_24_10_s κ σ9) pl)) 37 rfl rfl 5 (by decide) lk0 (v := .int (σ9 37 5)) (congrArg (fun z => some (Value.int z)) ((congrFun (XP_marryInOrder_s_k κ (XH_copyFrom_24_10_s κ σ9) pl 37 (by omega) (by omega)) 5).trans (congrFun (XH_copyFrom_24_10_s_k κ σ9 37 (by omega) (by omega) (by omega)) 5))) dX5_findOrder_44 ?_
        refine lv_icmp_ge hx hb (tgt := 70) dX5_findOrder_47 (by decide) (fun c_4 => ?_) (fun c_4 => ?_)
        · refine lv_aload_n hx hb dX5_findOrder_70 rfl (lv_at hl 3 rfl) ?_
          have hw := gw_row40 hw (g := permRow pl i9) (((XP_marryInOrder_s_k κ (XH_copyFrom_24_10_s κ σ9) pl 40 (by omega) (by omega)).trans (XH_copyFrom_24_10_s_k κ σ9 40 (by omega) (by omega) (by omega))).trans (h40v (by omega)))
          refine g_callVi S hw (c_XP_nextOrder l D cI cC cI2 a κ (XP_marryInOrder_s κ (XH_copyFrom_24_10_s κ σ9) pl) pl i9 hp0b (by omega) (((congrFun (XP_marryInOrder_s_k κ (XH_copyFrom_24_10_s κ σ9) pl 37 (by omega) (by omega)) 4).trans (congrFun (XH_copyFrom_24_10_s_k κ σ9 37 (by omega) (by omega) (by omega)) 4)).trans (f9_37_4))) gX5_findOrder_X5_nextOrder rfl 37 rfl rfl 0 rfl (by decide +kernel) (by decide) (by decide) hl.1 rfl (Nat.le_of_ble_eq_true rfl) dX5_findOrder_71 (fun H locs hw => ?_)
          refine lv_istore_n (lv' := [(3, .int (nI (moreN pl (i9 + 1)))), (5, .int (XH_allOwed_r 24 κ (XP_marryInOrder_s κ (XH_copyFrom_24_10_s κ σ9) pl) n)), (4, .int (nI i9)), (0, .ref (a 37)), (1, .ref (a 10)), (2, .ref (a 24))]) hx hb dX5_findOrder_74 rfl hl (by decide) rfl (fun ls hl => ?_)
          refine lv_iinc (v := nI (i9 + 1)) (lv' := [(4, .int (nI (i9 + 1))), (3, .int (nI (moreN pl (i9 + 1)))), (5, .int (XH_allOwed_r 24 κ (XP_marryInOrder_s κ (XH_copyFrom_24_10_s κ σ9) pl) n)), (0, .ref (a 37)), (1, .ref (a 10)), (2, .ref (a 24))]) hx hb dX5_findOrder_75 hl (k := 2) rfl (nI_1 _) (by decide) rfl (fun ls hl => ?_)
          refine lv_goto (tgt := 9) hx hb dX5_findOrder_78 (by decide) ?_
          exact ih9 (i9 + 1) (row (XP_marryInOrder_s κ (XH_copyFrom_24_10_s κ σ9) pl) 40 (permRow pl (nextI pl i9))) _ _ _ (by omega) ((row_n _ _ (by omega)).trans ((XP_marryInOrder_s_k κ (XH_copyFrom_24_10_s κ σ9) pl 10 (by omega) (by omega)).trans ((XH_copyFrom_24_10_s_k κ σ9 10 (by omega) (by omega) (by omega)).trans (k9_10)))) (Eq.mpr (congrArg (fun z => natRow z pl 4) ((row_n _ _ (by omega)).trans ((XP_marryInOrder_s_k κ (XH_copyFrom_24_10_s κ σ9) pl 38 (by omega) (by omega)).trans (XH_copyFrom_24_10_s_k κ σ9 38 (by omega) (by omega) (by omega))))) r9_38) (Eq.mpr (congrArg (fun z => natRow z pl 4) ((row_n _ _ (by omega)).trans ((XP_marryInOrder_s_k κ (XH_copyFrom_24_10_s κ σ9) pl 39 (by omega) (by omega)).trans (XH_copyFrom_24_10_s_k κ σ9 39 (by omega) (by omega) (by omega))))) r9_39) (((row_rn (by omega)).trans ((congrFun (XP_marryInOrder_s_k κ (XH_copyFrom_24_10_s κ σ9) pl 37 (by omega) (by omega)) 4).trans (congrFun (XH_copyFrom_24_10_s_k κ σ9 37 (by omega) (by omega) (by omega)) 4))).trans (f9_37_4)) (fun h => (row_s _ _ _).trans (by rw [show nextI pl i9 = i9 + 1 from if_pos h])) (by have q := hF9; simp only [XP_findOrder_L9, XP_findOrder_S9_0, if_neg c_3, if_pos c_4] at q; exact q) hw (lv_sub hl [0, 1, 3, 4, 5] rfl)
        · refine lv_aload_n hx hb dX5_findOrder_50 rfl (lv_at hl 3 rfl) ?_
          refine lv_iload hx hb dX5_findOrder_51 (lv_at hl 0 rfl) ?_
          refine g_put S hw hinX5 tyX5 tyX5_ok nmX5 (fs := fX37 a (XP_marryInOrder_s κ (XH_copyFrom_24_10_s κ σ9) pl)) 37 rfl rfl 5 (by decide) lk0 rfl rfl rfl (Nat.le_of_ble_eq_true rfl) (w2 := wX cI cC cI2 a κ (up2 (XP_marryInOrder_s κ (XH_copyFrom_24_10_s κ σ9) pl) 37 5 (XH_allOwed_r 24 κ (XP_marryInOrder_s κ (XH_copyFrom_24_10_s κ σ9) pl) n))) (wX_f37_5 _ _ _ _ _ _ _) dX5_findOrder_53 (fun H locs hw => ?_)
          refine lv_aload_n hx hb dX5_findOrder_56 rfl (lv_at hl 3 rfl) ?_
          refine g_get S hw hinX5 (fs := fX37 a (up2 (XP_marryInOrder_s κ (XH_copyFrom_24_10_s κ σ9) pl) 37 5 (XH_allOwed_r 24 κ (XP_marryInOrder_s κ (XH_copyFrom_24_10_s κ σ9) pl) n))) 37 rfl rfl 2 (by decide) lk1 (v := .ref (a 40)) rfl dX5_findOrder_57 ?_
          refine lv_iconst (v := 0) hx hb dX5_findOrder_60 (by decide) ?_
          refine lv_aload_n hx hb dX5_findOrder_61 rfl (lv_at hl 3 rfl) ?_
          refine g_get S hw hinX5 (fs := fX37 a (up2 (XP_marryInOrder_s κ (XH_copyFrom_24_10_s κ σ9) pl) 37 5 (XH_allOwed_r 24 κ (XP_marryInOrder_s κ (XH_copyFrom_24_10_s κ σ9) pl) n))) 37 rfl rfl 3 (by decide) lk2 (v := .ref (a 41)) rfl dX5_findOrder_62 ?_
          refine lv_iconst (v := 0) hx hb dX5_findOrder_65 (by decide) ?_
          refine lv_iconst (v := 4) hx hb dX5_findOrder_66 (by decide) ?_
          refine g_acopy S hw hl.1 lk3 lk4 lk5 lk6 40 41 0 (n := 4) (f := (up2 (XP_marryInOrder_s κ (XH_copyFrom_24_10_s κ σ9) pl) 37 5 (XH_allOwed_r 24 κ (XP_marryInOrder_s κ (XH_copyFrom_24_10_s κ σ9) pl) n)) 40) (g := (up2 (XP_marryInOrder_s κ (XH_copyFrom_24_10_s κ σ9) pl) 37 5 (XH_allOwed_r 24 κ (XP_marryInOrder_s κ (XH_copyFrom_24_10_s κ σ9) pl) n)) 41) rfl rfl rfl (by decide) (by decide) (Nat.le_of_ble_eq_true rfl) (w2 := wX cI cC cI2 a κ (row (up2 (XP_marryInOrder_s κ (XH_copyFrom_24_10_s κ σ9) pl) 37 5 (XH_allOwed_r 24 κ (XP_marryInOrder_s κ (XH_copyFrom_24_10_s κ σ9) pl) n)) 41 ((up2 (XP_marryInOrder_s κ (XH_copyFrom_24_10_s κ σ9) pl) 37 5 (XH_allOwed_r 24 κ (XP_marryInOrder_s κ (XH_copyFrom_24_10_s κ σ9) pl) n)) 40))) (wX_r41 _ _ _ _ _ _ _) dX5_findOrder_67 (fun H locs hw => ?_)
          refine lv_aload_n hx hb dX5_findOrder_70 rfl (lv_at hl 3 rfl) ?_
          have hw := gw_row40 hw (g := permRow pl i9) (((row_n _ _ (by omega)).trans ((up2_n _ _ _ (by omega)).trans ((XP_marryInOrder_s_k κ (XH_copyFrom_24_10_s κ σ9) pl 40 (by omega) (by omega)).trans (XH_copyFrom_24_10_s_k κ σ9 40 (by omega) (by omega) (by omega))))).trans (h40v (by omega)))
          refine g_callVi S hw (c_XP_nextOrder l D cI cC cI2 a κ (row (up2 (XP_marryInOrder_s κ (XH_copyFrom_24_10_s κ σ9) pl) 37 5 (XH_allOwed_r 24 κ (XP_marryInOrder_s κ (XH_copyFrom_24_10_s κ σ9) pl) n)) 41 ((up2 (XP_marryInOrder_s κ (XH_copyFrom_24_10_s κ σ9) pl) 37 5 (XH_allOwed_r 24 κ (XP_marryInOrder_s κ (XH_copyFrom_24_10_s κ σ9) pl) n)) 40)) pl i9 hp0b (by omega) (((row_rn (by omega)).trans ((up2_rp (by decide)).trans ((congrFun (XP_marryInOrder_s_k κ (XH_copyFrom_24_10_s κ σ9) pl 37 (by omega) (by omega)) 4).trans (congrFun (XH_copyFrom_24_10_s_k κ σ9 37 (by omega) (by omega) (by omega)) 4)))).trans (f9_37_4))) gX5_findOrder_X5_nextOrder rfl 37 rfl rfl 0 rfl (by decide +kernel) (by decide) (by decide) hl.1 rfl (Nat.le_of_ble_eq_true rfl) dX5_findOrder_71 (fun H locs hw => ?_)
          refine lv_istore_n (lv' := [(3, .int (nI (moreN pl (i9 + 1)))), (5, .int (XH_allOwed_r 24 κ (XP_marryInOrder_s κ (XH_copyFrom_24_10_s κ σ9) pl) n)), (4, .int (nI i9)), (0, .ref (a 37)), (1, .ref (a 10)), (2, .ref (a 24))]) hx hb dX5_findOrder_74 rfl hl (by decide) rfl (fun ls hl => ?_)
          refine lv_iinc (v := nI (i9 + 1)) (lv' := [(4, .int (nI (i9 + 1))), (3, .int (nI (moreN pl (i9 + 1)))), (5, .int (XH_allOwed_r 24 κ (XP_marryInOrder_s κ (XH_copyFrom_24_10_s κ σ9) pl) n)), (0, .ref (a 37)), (1, .ref (a 10)), (2, .ref (a 24))]) hx hb dX5_findOrder_75 hl (k := 2) rfl (nI_1 _) (by decide) rfl (fun ls hl => ?_)
          refine lv_goto (tgt := 9) hx hb dX5_findOrder_78 (by decide) ?_
          exact ih9 (i9 + 1) (row (row (up2 (XP_marryInOrder_s κ (XH_copyFrom_24_10_s κ σ9) pl) 37 5 (XH_allOwed_r 24 κ (XP_marryInOrder_s κ (XH_copyFrom_24_10_s κ σ9) pl) n)) 41 ((up2 (XP_marryInOrder_s κ (XH_copyFrom_24_10_s κ σ9) pl) 37 5 (XH_allOwed_r 24 κ (XP_marryInOrder_s κ (XH_copyFrom_24_10_s κ σ9) pl) n)) 40)) 40 (permRow pl (nextI pl i9))) _ _ _ (by omega) ((row_n _ _ (by omega)).trans ((row_n _ _ (by omega)).trans ((up2_n _ _ _ (by omega)).trans ((XP_marryInOrder_s_k κ (XH_copyFrom_24_10_s κ σ9) pl 10 (by omega) (by omega)).trans ((XH_copyFrom_24_10_s_k κ σ9 10 (by omega) (by omega) (by omega)).trans (k9_10)))))) (Eq.mpr (congrArg (fun z => natRow z pl 4) ((row_n _ _ (by omega)).trans ((row_n _ _ (by omega)).trans ((up2_n _ _ _ (by omega)).trans ((XP_marryInOrder_s_k κ (XH_copyFrom_24_10_s κ σ9) pl 38 (by omega) (by omega)).trans (XH_copyFrom_24_10_s_k κ σ9 38 (by omega) (by omega) (by omega))))))) r9_38) (Eq.mpr (congrArg (fun z => natRow z pl 4) ((row_n _ _ (by omega)).trans ((row_n _ _ (by omega)).trans ((up2_n _ _ _ (by omega)).trans ((XP_marryInOrder_s_k κ (XH_copyFrom_24_10_s κ σ9) pl 39 (by omega) (by omega)).trans (XH_copyFrom_24_10_s_k κ σ9 39 (by omega) (by omega) (by omega))))))) r9_39) (((row_rn (by omega)).trans ((row_rn (by omega)).trans ((up2_rp (by decide)).trans ((congrFun (XP_marryInOrder_s_k κ (XH_copyFrom_24_10_s κ σ9) pl 37 (by omega) (by omega)) 4).trans (congrFun (XH_copyFrom_24_10_s_k κ σ9 37 (by omega) (by omega) (by omega)) 4))))).trans (f9_37_4)) (fun h => (row_s _ _ _).trans (by rw [show nextI pl i9 = i9 + 1 from if_pos h])) (by have q := hF9; simp only [XP_findOrder_L9, XP_findOrder_S9_0, if_neg c_3, if_neg c_4] at q; exact q) hw (lv_sub hl [0, 1, 3, 4, 5] rfl)
  exact L9 (nperm pl) 0 (row σ 40 (permRow pl 0)) _ _ _ (by omega) rfl (Eq.mpr (congrArg (fun z => natRow z pl 4) (row_n _ _ (by omega))) h38) (Eq.mpr (congrArg (fun z => natRow z pl 4) (row_n _ _ (by omega))) h39) ((row_rn (by omega)).trans (hp0)) (fun _ => row_s _ _ _) rfl hw (lv_sub hl [0, 1, 2, 3, 4] rfl)
def XP_highestRate_L7 (κ : Nat → Nat) (pl n : Nat) : Nat → (Nat → Nat → Int32) → Int32 × (Nat → Nat → Int32)
  | 0, σ7 => (-1, σ7)
  | m7 + 1, σ7 => if (XP_owesMore_r κ (XP_marryInOrder_s κ (up2 (XH_copyFrom_24_10_s κ σ7) 24 4 (nI (m7 + 1))) pl) n) = 0 then (nI (m7 + 1), XP_marryInOrder_s κ (up2 (XH_copyFrom_24_10_s κ σ7) 24 4 (nI (m7 + 1))) pl) else XP_highestRate_L7 κ pl n m7 (XP_marryInOrder_s κ (up2 (XH_copyFrom_24_10_s κ σ7) 24 4 (nI (m7 + 1))) pl)
theorem XP_highestRate_L7_k (κ : Nat → Nat) (pl n : Nat) (c9 : Nat) (q0 : c9 ≠ 24) (q1 : c9 ≠ 25) (q2 : c9 ≠ 26) : ∀ (m7 : Nat) (σ7 : Nat → Nat → Int32), (XP_highestRate_L7 κ pl n m7 σ7).2 c9 = σ7 c9 := by
  intro m7
  induction m7 with
  | zero => intros; rfl
  | succ m7 ih =>
    intro σ7
    unfold XP_highestRate_L7
    by_cases z : (XP_owesMore_r κ (XP_marryInOrder_s κ (up2 (XH_copyFrom_24_10_s κ σ7) 24 4 (nI (m7 + 1))) pl) n) = 0
    · rw [if_pos z]; exact (XP_marryInOrder_s_k κ (up2 (XH_copyFrom_24_10_s κ σ7) 24 4 (nI (m7 + 1))) pl c9 q1 q2).trans ((up2_n _ _ _ q0).trans (XH_copyFrom_24_10_s_k κ σ7 c9 q0 q1 q2))
    · rw [if_neg z]; exact (ih _).trans ((XP_marryInOrder_s_k κ (up2 (XH_copyFrom_24_10_s κ σ7) 24 4 (nI (m7 + 1))) pl c9 q1 q2).trans ((up2_n _ _ _ q0).trans (XH_copyFrom_24_10_s_k κ σ7 c9 q0 q1 q2)))
def XP_highestRate_r (κ : Nat → Nat) (σ : Nat → Nat → Int32) (pl : Nat) (n : Nat) : Int32 := (XP_highestRate_L7 κ pl n 9 (row σ 40 (permRow pl 0))).1
def XP_highestRate_s (κ : Nat → Nat) (σ : Nat → Nat → Int32) (pl : Nat) (n : Nat) : Nat → Nat → Int32 := (XP_highestRate_L7 κ pl n 9 (row σ 40 (permRow pl 0))).2
theorem XP_highestRate_s_k (κ : Nat → Nat) (σ : Nat → Nat → Int32) (pl : Nat) (n : Nat) (c9 : Nat) (q0 : c9 ≠ 24) (q1 : c9 ≠ 25) (q2 : c9 ≠ 26) (q3 : c9 ≠ 40) : XP_highestRate_s κ σ pl n c9 = σ c9 := by
  unfold XP_highestRate_s
  exact (XP_highestRate_L7_k κ pl n c9 q0 q1 q2 9 (row σ 40 (permRow pl 0))).trans (row_n _ _ q3)
set_option maxHeartbeats 4000000 in
set_option maxRecDepth 100000 in
theorem c_XP_highestRate (l : Launch) (D : va_G) (cI cC cI2 : ClassId) (a : Nat → Nat) (κ : Nat → Nat) (σ : Nat → Nat → Int32) (pl : Nat) (n : Nat) (hp0 : σ 37 4 = nI pl) (hp0b : pl ≤ 4) (hn : σ 10 3 = nI n) (hnb : n ≤ 4) (h38 : natRow (σ 38) pl 4) (h39 : natRow (σ 39) pl 4) (hk : ∀ i, i < 4 → κ i < 5) : gI l D (tysX cI cC cI2) yX5_highestRate wsX5_highestRate 6 [.ref (a 37), .ref (a 10), .ref (a 24)] (wX cI cC cI2 a κ σ) (XP_highestRate_r κ σ pl n) (wX cI cC cI2 a κ (XP_highestRate_s κ σ pl n)) := by
  refine g_start (cc := cX5_highestRate) (maxL := 4) (ret := some .int) (Qc := gQi D (tysX cI cC cI2) (XP_highestRate_r κ σ pl n) (wX cI cC cI2 a κ (XP_highestRate_s κ σ pl n))) (by decide) rfl (Nat.le_of_ble_eq_true rfl) ?_
  intro p e s m below meth C A ls S hr hlk hw hl
  obtain ⟨hx, hb, hml, hown, hts⟩ := id S
  have hinX2 : ∀ x ∈ u_ws RX2 TX2 5, x ∈ wsX5_highestRate := fun x h => List.mem_cons_of_mem _ (List.mem_append_left _ (List.mem_append_right _ h))
  have lk0 : Cond.fieldLink RX5 65 "CowsOwed$Herds" "price" "I" ∈ wsX5_highestRate := by decide +kernel
  have hl : lv_has ls 4 [(0, .ref (a 37)), (1, .ref (a 10)), (2, .ref (a 24))] := hl
  refine lv_aload_n hx hb dX5_highestRate_0 rfl (lv_at hl 0 rfl) ?_
  refine g_callVv S hw (c_XP_startOrders l D cI cC cI2 a κ σ) gX5_highestRate_X5_startOrders rfl 37 rfl rfl 0 rfl (by decide +kernel) (by decide) (by decide) hl.1 rfl (Nat.le_of_ble_eq_true rfl) dX5_highestRate_1 (fun H locs hw => ?_)
  have hw := XP_start_norm hw hp0b
  have hnp := nperm_le pl hp0b
  have h40r : natRow (row σ 40 (permRow pl 0) 40) pl pl := (by rw [row_s]; exact permRow_ok hp0b (by omega))
  refine lv_bipush (v := 9) hx hb dX5_highestRate_4 (by decide) ?_
  refine lv_istore_n (lv' := [(3, .int 9), (0, .ref (a 37)), (1, .ref (a 10)), (2, .ref (a 24))]) hx hb dX5_highestRate_6 rfl hl (by decide) rfl (fun ls hl => ?_)
  obtain ⟨fin7, hfin⟩ : ∃ z, z = XP_highestRate_L7 κ pl n 9 (row σ 40 (permRow pl 0)) := ⟨_, rfl⟩
  have L7 : ∀ (m7 : Nat) (σ7 : Nat → Nat → Int32) (H : Heap) (locs : List Loc) (ls : Array Slot), m7 ≤ 9 → σ7 37 4 = nI pl → σ7 10 3 = nI n → natRow (σ7 38) pl 4 → natRow (σ7 39) pl 4 → natRow (σ7 40) pl pl → XP_highestRate_L7 κ pl n m7 σ7 = fin7 → gw D (tysX cI cC cI2) A s H locs (wX cI cC cI2 a κ σ7) → lv_has ls 4 [(3, .int (nI m7)), (0, .ref (a 37)), (1, .ref (a 10)), (2, .ref (a 24))] → W p l e (gR 6) s m ([.ref (a 37), .ref (a 10), .ref (a 24)] : List Value).toArray below meth C H locs 0 0 (MQ below (gQi D (tysX cI cC cI2) (XP_highestRate_r κ σ pl n) (wX cI cC cI2 a κ (XP_highestRate_s κ σ pl n)) A) ([.ref (a 37), .ref (a 10), .ref (a 24)] : List Value).toArray s 0 0 A) (F0 m 7 ls []) := by
    intro m7
    induction m7 with
    | zero =>
      intro σ7 H locs ls hm7 f37 f10 r38 r39 r40 hF7 hw hl
      refine lv_iload_n hx hb dX5_highestRate_7 rfl (lv_at hl 0 rfl) ?_
      refine lv_iconst (v := 1) hx hb dX5_highestRate_8 (by decide) ?_
      refine lv_icmp_lt hx hb (tgt := 43) dX5_highestRate_9 (by decide) (fun c_x => ?_) (fun c_x => absurd (by decide) c_x)
      refine lv_iconst (v := (-1)) hx hb dX5_highestRate_43 (by decide) ?_
      have q9 := hF7
      simp only [XP_highestRate_L7] at q9
      exact g_iret S hr hlk hw (by simp only [XP_highestRate_r, ← hfin, ← q9]) (by simp only [XP_highestRate_s, ← hfin, ← q9]) dX5_highestRate_44
    | succ m7 ih7 =>
      intro σ7 H locs ls hm7 f37 f10 r38 r39 r40 hF7 hw hl
      refine lv_iload_n hx hb dX5_highestRate_7 rfl (lv_at hl 0 rfl) ?_
      refine lv_iconst (v := 1) hx hb dX5_highestRate_8 (by decide) ?_
      refine ln_lt (x := (m7 + 1)) (y := 1) hx hb (by omega) (by omega) (tgt := 43) dX5_highestRate_9 (by decide) (fun c_x => absurd c_x (by omega)) (fun c_x => ?_)
      refine lv_aload_n hx hb dX5_highestRate_12 rfl (lv_at hl 3 rfl) ?_
      refine lv_aload_n hx hb dX5_highestRate_13 rfl (lv_at hl 2 rfl) ?_
      refine g_callVv S hw (c_XH_copyFrom_24_10 l D cI cC cI2 a κ σ7) gX5_highestRate_X2_copyFrom rfl 24 rfl rfl 1 rfl (by decide +kernel) (by decide) (by decide) hl.1 rfl (Nat.le_of_ble_eq_true rfl) dX5_highestRate_14 (fun H locs hw => ?_)
      refine lv_aload_n hx hb dX5_highestRate_17 rfl (lv_at hl 3 rfl) ?_
      refine lv_iload_n hx hb dX5_highestRate_18 rfl (lv_at hl 0 rfl) ?_
      refine g_put S hw hinX2 tyX2 tyX2_ok nmX2 (fs := fX24 a (XH_copyFrom_24_10_s κ σ7)) 24 rfl rfl 4 (by decide) lk0 rfl rfl rfl (Nat.le_of_ble_eq_true rfl) (w2 := wX cI cC cI2 a κ (up2 (XH_copyFrom_24_10_s κ σ7) 24 4 (nI (m7 + 1)))) (wX_f24_4 _ _ _ _ _ _ _) dX5_highestRate_19 (fun H locs hw => ?_)
      refine lv_aload_n hx hb dX5_highestRate_22 rfl (lv_at hl 1 rfl) ?_
      refine lv_aload_n hx hb dX5_highestRate_23 rfl (lv_at hl 3 rfl) ?_
      refine g_callVv S hw (c_XP_marryInOrder l D cI cC cI2 a κ (up2 (XH_copyFrom_24_10_s κ σ7) 24 4 (nI (m7 + 1))) pl (((up2_rn (by omega)).trans (congrFun (XH_copyFrom_24_10_s_k κ σ7 37 (by omega) (by omega) (by omega)) 4)).trans (f37)) (by omega) (Eq.mpr (congrArg (fun z => natRow z pl 4) ((up2_n _ _ _ (by omega)).trans (XH_copyFrom_24_10_s_k κ σ7 38 (by omega) (by omega) (by omega)))) r38) (Eq.mpr (congrArg (fun z => natRow z pl 4) ((up2_n _ _ _ (by omega)).trans (XH_copyFrom_24_10_s_k κ σ7 39 (by omega) (by omega) (by omega)))) r39) (Eq.mpr (congrArg (fun z => natRow z pl pl) ((up2_n _ _ _ (by omega)).trans (XH_copyFrom_24_10_s_k κ σ7 40 (by omega) (by omega) (by omega)))) r40) hk) gX5_highestRate_X5_marryInOrder rfl 37 rfl rfl 1 rfl (by decide +kernel) (by decide) (by decide) hl.1 rfl (Nat.le_of_ble_eq_true rfl) dX5_highestRate_24 (fun H locs hw => ?_)
      refine lv_aload_n hx hb dX5_highestRate_27 rfl (lv_at hl 3 rfl) ?_
      refine lv_aload_n hx hb dX5_highestRate_28 rfl (lv_at hl 2 rfl) ?_
      refine g_callSi S hw (c_XP_owesMore l D cI cC cI2 a κ (XP_marryInOrder_s κ (up2 (XH_copyFrom_24_10_s κ σ7) 24 4 (nI (m7 + 1))) pl) n (((congrFun (XP_marryInOrder_s_k κ (up2 (XH_copyFrom_24_10_s κ σ7) 24 4 (nI (m7 + 1))) pl 10 (by omega) (by omega)) 3).trans ((up2_rn (by omega)).trans (congrFun (XH_copyFrom_24_10_s_k κ σ7 10 (by omega) (by omega) (by omega)) 3))).trans (f10)) (by omega) ((congrFun (XP_marryInOrder_s_k κ (up2 (XH_copyFrom_24_10_s κ σ7) 24 4 (nI (m7 + 1))) pl 24 (by omega) (by omega)) 3).trans ((up2_rp (by decide)).trans ((XH_copy2410_3 κ σ7).trans (f10))))) gX5_highestRate_X5_owesMore rfl 2 rfl (by decide +kernel) (by decide) (by decide) hl.1 rfl (Nat.le_of_ble_eq_true rfl) dX5_highestRate_29 (fun H locs hw => ?_)
      refine lv_if_ne hx hb (tgt := 37) dX5_highestRate_32 (by decide) (fun c_3 => ?_) (fun c_3 => ?_)
      · refine lv_iinc (v := nI (m7 + 1 - 1)) (lv' := [(3, .int (nI (m7 + 1 - 1))), (0, .ref (a 37)), (1, .ref (a 10)), (2, .ref (a 24))]) hx hb dX5_highestRate_37 hl (k := 0) rfl (g_dec (by omega)) (by decide) rfl (fun ls hl => ?_)
        refine lv_goto (tgt := 7) hx hb dX5_highestRate_40 (by decide) ?_
        exact ih7 (XP_marryInOrder_s κ (up2 (XH_copyFrom_24_10_s κ σ7) 24 4 (nI (m7 + 1))) pl) _ _ _ (by omega) (((congrFun (XP_marryInOrder_s_k κ (up2 (XH_copyFrom_24_10_s κ σ7) 24 4 (nI (m7 + 1))) pl 37 (by omega) (by omega)) 4).trans ((up2_rn (by omega)).trans (congrFun (XH_copyFrom_24_10_s_k κ σ7 37 (by omega) (by omega) (by omega)) 4))).trans (f37)) (((congrFun (XP_marryInOrder_s_k κ (up2 (XH_copyFrom_24_10_s κ σ7) 24 4 (nI (m7 + 1))) pl 10 (by omega) (by omega)) 3).trans ((up2_rn (by omega)).trans (congrFun (XH_copyFrom_24_10_s_k κ σ7 10 (by omega) (by omega) (by omega)) 3))).trans (f10)) (Eq.mpr (congrArg (fun z => natRow z pl 4) ((XP_marryInOrder_s_k κ (up2 (XH_copyFrom_24_10_s κ σ7) 24 4 (nI (m7 + 1))) pl 38 (by omega) (by omega)).trans ((up2_n _ _ _ (by omega)).trans (XH_copyFrom_24_10_s_k κ σ7 38 (by omega) (by omega) (by omega))))) r38) (Eq.mpr (congrArg (fun z => natRow z pl 4) ((XP_marryInOrder_s_k κ (up2 (XH_copyFrom_24_10_s κ σ7) 24 4 (nI (m7 + 1))) pl 39 (by omega) (by omega)).trans ((up2_n _ _ _ (by omega)).trans (XH_copyFrom_24_10_s_k κ σ7 39 (by omega) (by omega) (by omega))))) r39) (Eq.mpr (congrArg (fun z => natRow z pl pl) ((XP_marryInOrder_s_k κ (up2 (XH_copyFrom_24_10_s κ σ7) 24 4 (nI (m7 + 1))) pl 40 (by omega) (by omega)).trans ((up2_n _ _ _ (by omega)).trans (XH_copyFrom_24_10_s_k κ σ7 40 (by omega) (by omega) (by omega))))) r40) (by have q := hF7; simp only [XP_highestRate_L7, if_neg c_3] at q; exact q) hw (lv_sub hl [0, 1, 2, 3] rfl)
      · refine lv_iload_n hx hb dX5_highestRate_35 rfl (lv_at hl 0 rfl) ?_
        have q9 := hF7
        simp only [XP_highestRate_L7, if_pos c_3] at q9
        exact g_iret S hr hlk hw (by simp only [XP_highestRate_r, ← hfin, ← q9]) (by simp only [XP_highestRate_s, ← hfin, ← q9]) dX5_highestRate_36
  exact L7 9 _ _ _ _ (by decide) ((row_rn (by omega)).trans (hp0)) ((row_rn (by omega)).trans (hn)) (Eq.mpr (congrArg (fun z => natRow z pl 4) (row_n _ _ (by omega))) h38) (Eq.mpr (congrArg (fun z => natRow z pl 4) (row_n _ _ (by omega))) h39) (h40r) hfin.symm hw (lv_sub hl [0, 1, 2, 3] rfl)
