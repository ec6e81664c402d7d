def XH_begin_S27_0 (b : Nat) (κ : Nat → Nat) (cnt : Int32) (rate : Int32) (i12 : Nat) (i27 : Nat) (σ27 : Nat → Nat → Int32) : Nat → Nat → Int32 := up2 σ27 (b + 2) (4 * i12 + i27) 0
def XH_begin_L27 (b : Nat) (κ : Nat → Nat) (cnt : Int32) (rate : Int32) (i12 : Nat) : Nat → Nat → (Nat → Nat → Int32) → (Nat → Nat → Int32)
  | 0, _, σ27 => σ27
  | n27 + 1, i27, σ27 => XH_begin_L27 b κ cnt rate i12 n27 (i27 + 1) (XH_begin_S27_0 b κ cnt rate i12 i27 σ27)
theorem XH_begin_S27_k (b : Nat) (κ : Nat → Nat) (cnt : Int32) (rate : Int32) (i12 : Nat) (c9 : Nat) (q0 : c9 ≠ (b + 2)) (i27 : Nat) (σ27 : Nat → Nat → Int32) : XH_begin_S27_0 b κ cnt rate i12 i27 σ27 c9 = σ27 c9 := by
  unfold XH_begin_S27_0
  exact up2_n _ _ _ q0
theorem XH_begin_L27_k (b : Nat) (κ : Nat → Nat) (cnt : Int32) (rate : Int32) (i12 : Nat) (c9 : Nat) (q0 : c9 ≠ (b + 2)) : ∀ (n27 i27 : Nat) (σ27 : Nat → Nat → Int32), (XH_begin_L27 b κ cnt rate i12 n27 i27 σ27) c9 = σ27 c9 := by
  intro n27
  induction n27 with
  | zero => intros; rfl
  | succ n27 ih => intro i27 σ27; exact (ih (i27 + 1) (XH_begin_S27_0 b κ cnt rate i12 i27 σ27)).trans (XH_begin_S27_k b κ cnt rate i12 c9 q0 i27 σ27)
def XH_begin_S12_0 (b : Nat) (κ : Nat → Nat) (cnt : Int32) (rate : Int32) (i12 : Nat) (σ12 : Nat → Nat → Int32) : Nat → Nat → Int32 := (XH_begin_L27 b κ cnt rate i12 4 0 (up2 σ12 (b + 1) i12 0))
def XH_begin_L12 (b : Nat) (κ : Nat → Nat) (cnt : Int32) (rate : Int32) : Nat → Nat → (Nat → Nat → Int32) → (Nat → Nat → Int32)
  | 0, _, σ12 => σ12
  | n12 + 1, i12, σ12 => XH_begin_L12 b κ cnt rate n12 (i12 + 1) (XH_begin_S12_0 b κ cnt rate i12 σ12)
theorem XH_begin_S12_k (b : Nat) (κ : Nat → Nat) (cnt : Int32) (rate : Int32) (c9 : Nat) (q0 : c9 ≠ (b + 1)) (q1 : c9 ≠ (b + 2)) (i12 : Nat) (σ12 : Nat → Nat → Int32) : XH_begin_S12_0 b κ cnt rate i12 σ12 c9 = σ12 c9 := by
  unfold XH_begin_S12_0
  exact (XH_begin_L27_k b κ cnt rate i12 c9 q1 4 0 (up2 σ12 (b + 1) i12 0)).trans (up2_n _ _ _ q0)
theorem XH_begin_L12_k (b : Nat) (κ : Nat → Nat) (cnt : Int32) (rate : Int32) (c9 : Nat) (q0 : c9 ≠ (b + 1)) (q1 : c9 ≠ (b + 2)) : ∀ (n12 i12 : Nat) (σ12 : Nat → Nat → Int32), (XH_begin_L12 b κ cnt rate n12 i12 σ12) c9 = σ12 c9 := by
  intro n12
  induction n12 with
  | zero => intros; rfl
  | succ n12 ih => intro i12 σ12; exact (ih (i12 + 1) (XH_begin_S12_0 b κ cnt rate i12 σ12)).trans (XH_begin_S12_k b κ cnt rate c9 q0 q1 i12 σ12)
def XH_begin_s (b : Nat) (κ : Nat → Nat) (σ : Nat → Nat → Int32) (cnt : Int32) (rate : Int32) : Nat → Nat → Int32 := (XH_begin_L12 b κ cnt rate 4 0 (up2 (up2 σ b 3 cnt) b 4 rate))
theorem XH_begin_s_k (b : Nat) (κ : Nat → Nat) (σ : Nat → Nat → Int32) (cnt : Int32) (rate : Int32) (c9 : Nat) (q0 : c9 ≠ b) (q1 : c9 ≠ (b + 1)) (q2 : c9 ≠ (b + 2)) : XH_begin_s b κ σ cnt rate c9 = σ c9 := by
  unfold XH_begin_s
  exact (XH_begin_L12_k b κ cnt rate c9 q1 q2 4 0 (up2 (up2 σ b 3 cnt) b 4 rate)).trans ((up2_n _ _ _ q0).trans (up2_n _ _ _ q0))
set_option maxHeartbeats 4000000 in
set_option maxRecDepth 100000 in
theorem c_XH_begin_10 (l : Launch) (D : va_G) (cI cC cI2 : ClassId) (a : Nat → Nat) (κ : Nat → Nat) (σ : Nat → Nat → Int32) (cnt : Int32) (rate : Int32) : gV l D (tysX cI cC cI2) yX2_begin wsX2_begin 1 [.ref (a 10), .int cnt, .int rate] (wX cI cC cI2 a κ σ)  (wX cI cC cI2 a κ (XH_begin_s 10 κ σ cnt rate)) := by
  refine g_start (cc := cX2_begin) (maxL := 5) (ret := none) (Qc := gQv D (tysX cI cC cI2) (wX cI cC cI2 a κ (XH_begin_s 10 κ σ cnt rate))) (by decide) rfl (Nat.le_of_ble_eq_true rfl) ?_
  intro p e s m below meth C A ls S hr hlk hw hl
  obtain ⟨hx, hb, hml, hown, hts⟩ := id S
  have hinX2 : ∀ x ∈ u_ws RX2 TX2 5, x ∈ wsX2_begin := fun x h => List.mem_cons_of_mem _ (List.mem_append_right _ h)
  have lk0 : Cond.fieldLink RX2 20 "CowsOwed$Herds" "size" "I" ∈ wsX2_begin := by decide +kernel
  have lk1 : Cond.fieldLink RX2 24 "CowsOwed$Herds" "price" "I" ∈ wsX2_begin := by decide +kernel
  have lk2 : Cond.fieldLink RX2 9 "CowsOwed$Herds" "cows" "[I" ∈ wsX2_begin := by decide +kernel
  have lk3 : Cond.fieldLink RX2 17 "CowsOwed$Herds" "debts" "[[I" ∈ wsX2_begin := by decide +kernel
  have hl : lv_has ls 5 [(0, .ref (a 10)), (1, .int cnt), (2, .int rate)] := hl
  refine lv_aload_n hx hb dX2_begin_0 rfl (lv_at hl 0 rfl) ?_
  refine lv_iload_n hx hb dX2_begin_1 rfl (lv_at hl 1 rfl) ?_
  refine g_put S hw hinX2 tyX2 tyX2_ok nmX2 (fs := fX10 a σ) 10 rfl rfl 3 (by decide) lk0 rfl rfl rfl (Nat.le_of_ble_eq_true rfl) (w2 := wX cI cC cI2 a κ (up2 σ 10 3 cnt)) (wX_f10_3 _ _ _ _ _ _ _) dX2_begin_2 (fun H locs hw => ?_)
  refine lv_aload_n hx hb dX2_begin_5 rfl (lv_at hl 0 rfl) ?_
  refine lv_iload_n hx hb dX2_begin_6 rfl (lv_at hl 2 rfl) ?_
  refine g_put S hw hinX2 tyX2 tyX2_ok nmX2 (fs := fX10 a (up2 σ 10 3 cnt)) 10 rfl rfl 4 (by decide) lk1 rfl rfl rfl (Nat.le_of_ble_eq_true rfl) (w2 := wX cI cC cI2 a κ (up2 (up2 σ 10 3 cnt) 10 4 rate)) (wX_f10_4 _ _ _ _ _ _ _) dX2_begin_7 (fun H locs hw => ?_)
  refine lv_iconst (v := 0) hx hb dX2_begin_10 (by decide) ?_
  refine lv_istore_n (lv' := [(3, .int 0), (0, .ref (a 10)), (1, .int cnt), (2, .int rate)]) hx hb dX2_begin_11 rfl hl (by decide) rfl (fun ls hl => ?_)
  have L12 : ∀ (n12 i12 : Nat) (σ12 : Nat → Nat → Int32) (H : Heap) (locs : List Loc) (ls : Array Slot), i12 + n12 = 4 → XH_begin_L12 10 κ cnt rate n12 i12 σ12 = XH_begin_L12 10 κ cnt rate 4 0 (up2 (up2 σ 10 3 cnt) 10 4 rate) → gw D (tysX cI cC cI2) A s H locs (wX cI cC cI2 a κ σ12) → lv_has ls 5 [(3, .int (nI i12)), (0, .ref (a 10)), (1, .int cnt), (2, .int rate)] → W p l e (gR 1) s m ([.ref (a 10), .int cnt, .int rate] : List Value).toArray below meth C H locs 0 0 (MQ below (gQv D (tysX cI cC cI2) (wX cI cC cI2 a κ (XH_begin_s 10 κ σ cnt rate)) A) ([.ref (a 10), .int cnt, .int rate] : List Value).toArray s 0 0 A) (F0 m 12 ls []) := by
    intro n12
    induction n12 with
    | zero =>
      intro i12 σ12 H locs ls hi12 hF12 hw hl
      refine lv_iload_n hx hb dX2_begin_12 rfl (lv_at hl 0 rfl) ?_
      refine lv_iconst (v := 4) hx hb dX2_begin_13 (by decide) ?_
      refine ln_ge (x := i12) (y := 4) hx hb (by omega) (by omega) (tgt := 55) dX2_begin_14 (by decide) (fun c_x => ?_) (fun c_x => absurd (by omega) c_x)
      have hz12 : 4 = i12 := by omega
      subst hz12
      have e12_0 : (XH_begin_L12 10 κ cnt rate 4 0 (up2 (up2 σ 10 3 cnt) 10 4 rate)) = σ12 := hF12.symm
      subst e12_0
      exact g_vret S hr hlk hw (by simp only [XH_begin_s, Nat.reduceAdd]) dX2_begin_55
    | succ n12 ih12 =>
      intro i12 σ12 H locs ls hi12 hF12 hw hl
      refine lv_iload_n hx hb dX2_begin_12 rfl (lv_at hl 0 rfl) ?_
      refine lv_iconst (v := 4) hx hb dX2_begin_13 (by decide) ?_
      refine ln_ge (x := i12) (y := 4) hx hb (by omega) (by omega) (tgt := 55) dX2_begin_14 (by decide) (fun c_x => absurd c_x (by omega)) (fun c_x => ?_)
      refine lv_aload_n hx hb dX2_begin_17 rfl (lv_at hl 1 rfl) ?_
      refine g_get S hw hinX2 (fs := fX10 a σ12) 10 rfl rfl 1 (by decide) lk2 (v := .ref (a 11)) rfl dX2_begin_18 ?_
      refine lv_iload_n hx hb dX2_begin_21 rfl (lv_at hl 0 rfl) ?_
      refine lv_iconst (v := 0) hx hb dX2_begin_22 (by decide) ?_
      refine g_iast S hw (f := σ12 11) (i := i12) 11 0 rfl rfl (by omega) (by decide) (w2 := wX cI cC cI2 a κ (up2 σ12 11 i12 0)) (wX_a11 _ _ _ _ _ _ _ _) dX2_begin_23 (fun H locs hw => ?_)
      refine lv_iconst (v := 0) hx hb dX2_begin_24 (by decide) ?_
      refine lv_istore (lv' := [(4, .int 0), (3, .int (nI i12)), (0, .ref (a 10)), (1, .int cnt), (2, .int rate)]) hx hb dX2_begin_25 hl (by decide) rfl (fun ls hl => ?_)
      have L27 : ∀ (n27 i27 : Nat) (σ27 : Nat → Nat → Int32) (H : Heap) (locs : List Loc) (ls : Array Slot), i27 + n27 = 4 → XH_begin_L27 10 κ cnt rate i12 n27 i27 σ27 = XH_begin_L27 10 κ cnt rate i12 4 0 (up2 σ12 11 i12 0) → gw D (tysX cI cC cI2) A s H locs (wX cI cC cI2 a κ σ27) → lv_has ls 5 [(4, .int (nI i27)), (3, .int (nI i12)), (0, .ref (a 10)), (1, .int cnt), (2, .int rate)] → W p l e (gR 1) s m ([.ref (a 10), .int cnt, .int rate] : List Value).toArray below meth C H locs 0 0 (MQ below (gQv D (tysX cI cC cI2) (wX cI cC cI2 a κ (XH_begin_s 10 κ σ cnt rate)) A) ([.ref (a 10), .int cnt, .int rate] : List Value).toArray s 0 0 A) (F0 m 27 ls []) := by
        intro n27
        induction n27 with
        | zero =>
          intro i27 σ27 H locs ls hi27 hF27 hw hl
          refine lv_iload hx hb dX2_begin_27 (lv_at hl 0 rfl) ?_
          refine lv_iconst (v := 4) hx hb dX2_begin_29 (by decide) ?_
          refine ln_ge (x := i27) (y := 4) hx hb (by omega) (by omega) (tgt := 49) dX2_begin_30 (by decide) (fun c_x => ?_) (fun c_x => absurd (by omega) c_x)
          have hz27 : 4 = i27 := by omega
          subst hz27
          have e27_0 : (XH_begin_L27 10 κ cnt rate i12 4 0 (up2 σ12 11 i12 0)) = σ27 := hF27.symm
          subst e27_0
          refine lv_iinc (v := nI (i12 + 1)) (lv' := [(3, .int (nI (i12 + 1))), (4, .int 4), (0, .ref (a 10)), (1, .int cnt), (2, .int rate)]) hx hb dX2_begin_49 hl (k := 1) rfl (nI_1 _) (by decide) rfl (fun ls hl => ?_)
          refine lv_goto (tgt := 12) hx hb dX2_begin_52 (by decide) ?_
          exact ih12 (i12 + 1) (XH_begin_L27 10 κ cnt rate i12 4 0 (up2 σ12 11 i12 0)) _ _ _ (by omega) hF12 hw (lv_sub hl [0, 2, 3, 4] rfl)
        | succ n27 ih27 =>
          intro i27 σ27 H locs ls hi27 hF27 hw hl
          refine lv_iload hx hb dX2_begin_27 (lv_at hl 0 rfl) ?_
          refine lv_iconst (v := 4) hx hb dX2_begin_29 (by decide) ?_
          refine ln_ge (x := i27) (y := 4) hx hb (by omega) (by omega) (tgt := 49) dX2_begin_30 (by decide) (fun c_x => absurd c_x (by omega)) (fun c_x => ?_)
          refine lv_aload_n hx hb dX2_begin_33 rfl (lv_at hl 2 rfl) ?_
          refine g_get S hw hinX2 (fs := fX10 a σ27) 10 rfl rfl 2 (by decide) lk3 (v := .ref (a 12)) rfl dX2_begin_34 ?_
          refine lv_iload_n hx hb dX2_begin_37 rfl (lv_at hl 1 rfl) ?_
          refine g_aald S hw (f := fun i => some (a (13 + i))) (i := i12) (v := a (13 + i12)) 12 2 rfl rfl rfl (by omega) (by decide) rfl dX2_begin_38 ?_
          refine lv_iload hx hb dX2_begin_39 (lv_at hl 0 rfl) ?_
          refine lv_iconst (v := 0) hx hb dX2_begin_41 (by decide) ?_
          refine g_iast S hw (f := dRow (σ27 12) i12) (i := i27) (13 + i12) 0 (wX_dg10 _ _ _ _ _ _ (by omega)) rfl (by omega) (by decide) (w2 := wX cI cC cI2 a κ (up2 σ27 12 (4 * i12 + i27) 0)) (wX_ds10 _ _ _ _ _ _ _ (by omega) (by omega)) dX2_begin_42 (fun H locs hw => ?_)
          refine lv_iinc (v := nI (i27 + 1)) (lv' := [(4, .int (nI (i27 + 1))), (3, .int (nI i12)), (0, .ref (a 10)), (1, .int cnt), (2, .int rate)]) hx hb dX2_begin_43 hl (k := 0) rfl (nI_1 _) (by decide) rfl (fun ls hl => ?_)
          refine lv_goto (tgt := 27) hx hb dX2_begin_46 (by decide) ?_
          exact ih27 (i27 + 1) (up2 σ27 12 (4 * i12 + i27) 0) _ _ _ (by omega) hF27 hw (lv_sub hl [0, 1, 2, 3, 4] rfl)
      exact L27 4 0 (up2 σ12 11 i12 0) _ _ _ (by omega) rfl hw (lv_sub hl [0, 1, 2, 3, 4] rfl)
  exact L12 4 0 (up2 (up2 σ 10 3 cnt) 10 4 rate) _ _ _ (by omega) rfl hw (lv_sub hl [0, 1, 2, 3] rfl)
def XH_copyFrom_24_10_S37_0 (κ : Nat → Nat) (i18 : Nat) (i37 : Nat) (σ37 : Nat → Nat → Int32) : Nat → Nat → Int32 := up2 σ37 26 (4 * i18 + i37) (σ37 12 (4 * i18 + i37))
def XH_copyFrom_24_10_L37 (κ : Nat → Nat) (i18 : Nat) : Nat → Nat → (Nat → Nat → Int32) → (Nat → Nat → Int32)
  | 0, _, σ37 => σ37
  | n37 + 1, i37, σ37 => XH_copyFrom_24_10_L37 κ i18 n37 (i37 + 1) (XH_copyFrom_24_10_S37_0 κ i18 i37 σ37)
theorem XH_copyFrom_24_10_S37_k (κ : Nat → Nat) (i18 : Nat) (c9 : Nat) (q0 : c9 ≠ 26) (i37 : Nat) (σ37 : Nat → Nat → Int32) : XH_copyFrom_24_10_S37_0 κ i18 i37 σ37 c9 = σ37 c9 := by
  unfold XH_copyFrom_24_10_S37_0
  exact up2_n _ _ _ q0
theorem XH_copyFrom_24_10_L37_k (κ : Nat → Nat) (i18 : Nat) (c9 : Nat) (q0 : c9 ≠ 26) : ∀ (n37 i37 : Nat) (σ37 : Nat → Nat → Int32), (XH_copyFrom_24_10_L37 κ i18 n37 i37 σ37) c9 = σ37 c9 := by
  intro n37
  induction n37 with
  | zero => intros; rfl
  | succ n37 ih => intro i37 σ37; exact (ih (i37 + 1) (XH_copyFrom_24_10_S37_0 κ i18 i37 σ37)).trans (XH_copyFrom_24_10_S37_k κ i18 c9 q0 i37 σ37)
def XH_copyFrom_24_10_S18_0 (κ : Nat → Nat) (i18 : Nat) (σ18 : Nat → Nat → Int32) : Nat → Nat → Int32 := (XH_copyFrom_24_10_L37 κ i18 4 0 (up2 σ18 25 i18 (σ18 11 i18)))
def XH_copyFrom_24_10_L18 (κ : Nat → Nat) : Nat → Nat → (Nat → Nat → Int32) → (Nat → Nat → Int32)
  | 0, _, σ18 => σ18
  | n18 + 1, i18, σ18 => XH_copyFrom_24_10_L18 κ n18 (i18 + 1) (XH_copyFrom_24_10_S18_0 κ i18 σ18)
theorem XH_copyFrom_24_10_S18_k (κ : Nat → Nat) (c9 : Nat) (q0 : c9 ≠ 25) (q1 : c9 ≠ 26) (i18 : Nat) (σ18 : Nat → Nat → Int32) : XH_copyFrom_24_10_S18_0 κ i18 σ18 c9 = σ18 c9 := by
  unfold XH_copyFrom_24_10_S18_0
  exact (XH_copyFrom_24_10_L37_k κ i18 c9 q1 4 0 (up2 σ18 25 i18 (σ18 11 i18))).trans (up2_n _ _ _ q0)
theorem XH_copyFrom_24_10_L18_k (κ : Nat → Nat) (c9 : Nat) (q0 : c9 ≠ 25) (q1 : c9 ≠ 26) : ∀ (n18 i18 : Nat) (σ18 : Nat → Nat → Int32), (XH_copyFrom_24_10_L18 κ n18 i18 σ18) c9 = σ18 c9 := by
  intro n18
  induction n18 with
  | zero => intros; rfl
  | succ n18 ih => intro i18 σ18; exact (ih (i18 + 1) (XH_copyFrom_24_10_S18_0 κ i18 σ18)).trans (XH_copyFrom_24_10_S18_k κ c9 q0 q1 i18 σ18)
def XH_copyFrom_24_10_s (κ : Nat → Nat) (σ : Nat → Nat → Int32) : Nat → Nat → Int32 := (XH_copyFrom_24_10_L18 κ 4 0 (up2 (up2 σ 24 3 (σ 10 3)) 24 4 (σ 10 4)))
theorem XH_copyFrom_24_10_s_k (κ : Nat → Nat) (σ : Nat → Nat → Int32) (c9 : Nat) (q0 : c9 ≠ 24) (q1 : c9 ≠ 25) (q2 : c9 ≠ 26) : XH_copyFrom_24_10_s κ σ c9 = σ c9 := by
  unfold XH_copyFrom_24_10_s
  exact (XH_copyFrom_24_10_L18_k κ c9 q1 q2 4 0 (up2 (up2 σ 24 3 (σ 10 3)) 24 4 (σ 10 4))).trans ((up2_n _ _ _ q0).trans (up2_n _ _ _ q0))
set_option maxHeartbeats 4000000 in
set_option maxRecDepth 100000 in
theorem c_XH_copyFrom_24_10 (l : Launch) (D : va_G) (cI cC cI2 : ClassId) (a : Nat → Nat) (κ : Nat → Nat) (σ : Nat → Nat → Int32) : gV l D (tysX cI cC cI2) yX2_copyFrom wsX2_copyFrom 1 [.ref (a 24), .ref (a 10)] (wX cI cC cI2 a κ σ)  (wX cI cC cI2 a κ (XH_copyFrom_24_10_s κ σ)) := by
  refine g_start (cc := cX2_copyFrom) (maxL := 4) (ret := none) (Qc := gQv D (tysX cI cC cI2) (wX cI cC cI2 a κ (XH_copyFrom_24_10_s κ σ))) (by decide) rfl (Nat.le_of_ble_eq_true rfl) ?_
  intro p e s m below meth C A ls S hr hlk hw hl
  obtain ⟨hx, hb, hml, hown, hts⟩ := id S
  have hinX2 : ∀ x ∈ u_ws RX2 TX2 5, x ∈ wsX2_copyFrom := fun x h => List.mem_cons_of_mem _ (List.mem_append_right _ h)
  have lk0 : Cond.fieldLink RX2 20 "CowsOwed$Herds" "size" "I" ∈ wsX2_copyFrom := by decide +kernel
  have lk1 : Cond.fieldLink RX2 24 "CowsOwed$Herds" "price" "I" ∈ wsX2_copyFrom := by decide +kernel
  have lk2 : Cond.fieldLink RX2 9 "CowsOwed$Herds" "cows" "[I" ∈ wsX2_copyFrom := by decide +kernel
  have lk3 : Cond.fieldLink RX2 17 "CowsOwed$Herds" "debts" "[[I" ∈ wsX2_copyFrom := by decide +kernel
  have hl : lv_has ls 4 [(0, .ref (a 24)), (1, .ref (a 10))] := hl
  refine lv_aload_n hx hb dX2_copyFrom_0 rfl (lv_at hl 0 rfl) ?_
  refine lv_aload_n hx hb dX2_copyFrom_1 rfl (lv_at hl 1 rfl) ?_
  refine g_get S hw hinX2 (fs := fX10 a σ) 10 rfl rfl 3 (by decide) lk0 (v := .int (σ 10 3)) rfl dX2_copyFrom_2 ?_
  refine g_put S hw hinX2 tyX2 tyX2_ok nmX2 (fs := fX24 a σ) 24 rfl rfl 3 (by decide) lk0 rfl rfl rfl (Nat.le_of_ble_eq_true rfl) (w2 := wX cI cC cI2 a κ (up2 σ 24 3 (σ 10 3))) (wX_f24_3 _ _ _ _ _ _ _) dX2_copyFrom_5 (fun H locs hw => ?_)
  refine lv_aload_n hx hb dX2_copyFrom_8 rfl (lv_at hl 0 rfl) ?_
  refine lv_aload_n hx hb dX2_copyFrom_9 rfl (lv_at hl 1 rfl) ?_
  refine g_get S hw hinX2 (fs := fX10 a (up2 σ 24 3 (σ 10 3))) 10 rfl rfl 4 (by decide) lk1 (v := .int (σ 10 4)) (congrArg (fun z => some (Value.int z)) (up2_rn (by omega))) dX2_copyFrom_10 ?_
  refine g_put S hw hinX2 tyX2 tyX2_ok nmX2 (fs := fX24 a (up2 σ 24 3 (σ 10 3))) 24 rfl rfl 4 (by decide) lk1 rfl rfl rfl (Nat.le_of_ble_eq_true rfl) (w2 := wX cI cC cI2 a κ (up2 (up2 σ 24 3 (σ 10 3)) 24 4 (σ 10 4))) (wX_f24_4 _ _ _ _ _ _ _) dX2_copyFrom_13 (fun H locs hw => ?_)
  refine lv_iconst (v := 0) hx hb dX2_copyFrom_16 (by decide) ?_
  refine lv_istore_n (lv' := [(2, .int 0), (0, .ref (a 24)), (1, .ref (a 10))]) hx hb dX2_copyFrom_17 rfl hl (by decide) rfl (fun ls hl => ?_)
  have L18 : ∀ (n18 i18 : Nat) (σ18 : Nat → Nat → Int32) (H : Heap) (locs : List Loc) (ls : Array Slot), i18 + n18 = 4 → XH_copyFrom_24_10_L18 κ n18 i18 σ18 = XH_copyFrom_24_10_L18 κ 4 0 (up2 (up2 σ 24 3 (σ 10 3)) 24 4 (σ 10 4)) → gw D (tysX cI cC cI2) A s H locs (wX cI cC cI2 a κ σ18) → lv_has ls 4 [(2, .int (nI i18)), (0, .ref (a 24)), (1, .ref (a 10))] → W p l e (gR 1) s m ([.ref (a 24), .ref (a 10)] : List Value).toArray below meth C H locs 0 0 (MQ below (gQv D (tysX cI cC cI2) (wX cI cC cI2 a κ (XH_copyFrom_24_10_s κ σ)) A) ([.ref (a 24), .ref (a 10)] : List Value).toArray s 0 0 A) (F0 m 18 ls []) := by
    intro n18
    induction n18 with
    | zero =>
      intro i18 σ18 H locs ls hi18 hF18 hw hl
      refine lv_iload_n hx hb dX2_copyFrom_18 rfl (lv_at hl 0 rfl) ?_
      refine lv_iconst (v := 4) hx hb dX2_copyFrom_19 (by decide) ?_
      refine ln_ge (x := i18) (y := 4) hx hb (by omega) (by omega) (tgt := 70) dX2_copyFrom_20 (by decide) (fun c_x => ?_) (fun c_x => absurd (by omega) c_x)
      have hz18 : 4 = i18 := by omega
      subst hz18
      have e18_0 : (XH_copyFrom_24_10_L18 κ 4 0 (up2 (up2 σ 24 3 (σ 10 3)) 24 4 (σ 10 4))) = σ18 := hF18.symm
      subst e18_0
      exact g_vret S hr hlk hw (by simp only [XH_copyFrom_24_10_s]) dX2_copyFrom_70
    | succ n18 ih18 =>
      intro i18 σ18 H locs ls hi18 hF18 hw hl
      refine lv_iload_n hx hb dX2_copyFrom_18 rfl (lv_at hl 0 rfl) ?_
      refine lv_iconst (v := 4) hx hb dX2_copyFrom_19 (by decide) ?_
      refine ln_ge (x := i18) (y := 4) hx hb (by omega) (by omega) (tgt := 70) dX2_copyFrom_20 (by decide) (fun c_x => absurd c_x (by omega)) (fun c_x => ?_)
      refine lv_aload_n hx hb dX2_copyFrom_23 rfl (lv_at hl 1 rfl) ?_
      refine g_get S hw hinX2 (fs := fX24 a σ18) 24 rfl rfl 1 (by decide) lk2 (v := .ref (a 25)) rfl dX2_copyFrom_24 ?_
      refine lv_iload_n hx hb dX2_copyFrom_27 rfl (lv_at hl 0 rfl) ?_
      refine lv_aload_n hx hb dX2_copyFrom_28 rfl (lv_at hl 2 rfl) ?_
      refine g_get S hw hinX2 (fs := fX10 a σ18) 10 rfl rfl 1 (by decide) lk2 (v := .ref (a 11)) rfl dX2_copyFrom_29 ?_
      refine lv_iload_n hx hb dX2_copyFrom_32 rfl (lv_at hl 0 rfl) ?_
      refine g_iald S hw (f := σ18 11) (i := i18) (x := σ18 11 i18) 11 0 rfl rfl (by omega) (by decide) rfl dX2_copyFrom_33 ?_
      refine g_iast S hw (f := σ18 25) (i := i18) 25 0 rfl rfl (by omega) (by decide) (w2 := wX cI cC cI2 a κ (up2 σ18 25 i18 (σ18 11 i18))) (wX_a25 _ _ _ _ _ _ _ _) dX2_copyFrom_34 (fun H locs hw => ?_)
      refine lv_iconst (v := 0) hx hb dX2_copyFrom_35 (by decide) ?_
      refine lv_istore_n (lv' := [(3, .int 0), (2, .int (nI i18)), (0, .ref (a 24)), (1, .ref (a 10))]) hx hb dX2_copyFrom_36 rfl hl (by decide) rfl (fun ls hl => ?_)
      have L37 : ∀ (n37 i37 : Nat) (σ37 : Nat → Nat → Int32) (H : Heap) (locs : List Loc) (ls : Array Slot), i37 + n37 = 4 → XH_copyFrom_24_10_L37 κ i18 n37 i37 σ37 = XH_copyFrom_24_10_L37 κ i18 4 0 (up2 σ18 25 i18 (σ18 11 i18)) → gw D (tysX cI cC cI2) A s H locs (wX cI cC cI2 a κ σ37) → lv_has ls 4 [(3, .int (nI i37)), (2, .int (nI i18)), (0, .ref (a 24)), (1, .ref (a 10))] → W p l e (gR 1) s m ([.ref (a 24), .ref (a 10)] : List Value).toArray below meth C H locs 0 0 (MQ below (gQv D (tysX cI cC cI2) (wX cI cC cI2 a κ (XH_copyFrom_24_10_s κ σ)) A) ([.ref (a 24), .ref (a 10)] : List Value).toArray s 0 0 A) (F0 m 37 ls []) := by
        intro n37
        induction n37 with
        | zero =>
          intro i37 σ37 H locs ls hi37 hF37 hw hl
          refine lv_iload_n hx hb dX2_copyFrom_37 rfl (lv_at hl 0 rfl) ?_
          refine lv_iconst (v := 4) hx hb dX2_copyFrom_38 (by decide) ?_
          refine ln_ge (x := i37) (y := 4) hx hb (by omega) (by omega) (tgt := 64) dX2_copyFrom_39 (by decide) (fun c_x => ?_) (fun c_x => absurd (by omega) c_x)
          have hz37 : 4 = i37 := by omega
          subst hz37
          have e37_0 : (XH_copyFrom_24_10_L37 κ i18 4 0 (up2 σ18 25 i18 (σ18 11 i18))) = σ37 := hF37.symm
          subst e37_0
          refine lv_iinc (v := nI (i18 + 1)) (lv' := [(2, .int (nI (i18 + 1))), (3, .int 4), (0, .ref (a 24)), (1, .ref (a 10))]) hx hb dX2_copyFrom_64 hl (k := 1) rfl (nI_1 _) (by decide) rfl (fun ls hl => ?_)
          refine lv_goto (tgt := 18) hx hb dX2_copyFrom_67 (by decide) ?_
          exact ih18 (i18 + 1) (XH_copyFrom_24_10_L37 κ i18 4 0 (up2 σ18 25 i18 (σ18 11 i18))) _ _ _ (by omega) hF18 hw (lv_sub hl [0, 2, 3] rfl)
        | succ n37 ih37 =>
          intro i37 σ37 H locs ls hi37 hF37 hw hl
          refine lv_iload_n hx hb dX2_copyFrom_37 rfl (lv_at hl 0 rfl) ?_
          refine lv_iconst (v := 4) hx hb dX2_copyFrom_38 (by decide) ?_
          refine ln_ge (x := i37) (y := 4) hx hb (by omega) (by omega) (tgt := 64) dX2_copyFrom_39 (by decide) (fun c_x => absurd c_x (by omega)) (fun c_x => ?_)
          refine lv_aload_n hx hb dX2_copyFrom_42 rfl (lv_at hl 2 rfl) ?_
          refine g_get S hw hinX2 (fs := fX24 a σ37) 24 rfl rfl 2 (by decide) lk3 (v := .ref (a 26)) rfl dX2_copyFrom_43 ?_
          refine lv_iload_n hx hb dX2_copyFrom_46 rfl (lv_at hl 1 rfl) ?_
          refine g_aald S hw (f := fun i => some (a (27 + i))) (i := i18) (v := a (27 + i18)) 26 2 rfl rfl rfl (by omega) (by decide) rfl dX2_copyFrom_47 ?_
          refine lv_iload_n hx hb dX2_copyFrom_48 rfl (lv_at hl 0 rfl) ?_
          refine lv_aload_n hx hb dX2_copyFrom_49 rfl (lv_at hl 3 rfl) ?_
          refine g_get S hw hinX2 (fs := fX10 a σ37) 10 rfl rfl 2 (by decide) lk3 (v := .ref (a 12)) rfl dX2_copyFrom_50 ?_
          refine lv_iload_n hx hb dX2_copyFrom_53 rfl (lv_at hl 1 rfl) ?_
          refine g_aald S hw (f := fun i => some (a (13 + i))) (i := i18) (v := a (13 + i18)) 12 2 rfl rfl rfl (by omega) (by decide) rfl dX2_copyFrom_54 ?_
          refine lv_iload_n hx hb dX2_copyFrom_55 rfl (lv_at hl 0 rfl) ?_
          refine g_iald S hw (f := dRow (σ37 12) i18) (i := i37) (x := σ37 12 (4 * i18 + i37)) (13 + i18) 0 (wX_dg10 _ _ _ _ _ _ (by omega)) rfl (by omega) (by decide) (dRow_lt (by omega)) dX2_copyFrom_56 ?_
          refine g_iast S hw (f := dRow (σ37 26) i18) (i := i37) (27 + i18) 0 (wX_dg24 _ _ _ _ _ _ (by omega)) rfl (by omega) (by decide) (w2 := wX cI cC cI2 a κ (up2 σ37 26 (4 * i18 + i37) (σ37 12 (4 * i18 + i37)))) (wX_ds24 _ _ _ _ _ _ _ (by omega) (by omega)) dX2_copyFrom_57 (fun H locs hw => ?_)
          refine lv_iinc (v := nI (i37 + 1)) (lv' := [(3, .int (nI (i37 + 1))), (2, .int (nI i18)), (0, .ref (a 24)), (1, .ref (a 10))]) hx hb dX2_copyFrom_58 hl (k := 0) rfl (nI_1 _) (by decide) rfl (fun ls hl => ?_)
          refine lv_goto (tgt := 37) hx hb dX2_copyFrom_61 (by decide) ?_
          exact ih37 (i37 + 1) (up2 σ37 26 (4 * i18 + i37) (σ37 12 (4 * i18 + i37))) _ _ _ (by omega) hF37 hw (lv_sub hl [0, 1, 2, 3] rfl)
      exact L37 4 0 (up2 σ18 25 i18 (σ18 11 i18)) _ _ _ (by omega) rfl hw (lv_sub hl [0, 1, 2, 3] rfl)
  exact L18 4 0 (up2 (up2 σ 24 3 (σ 10 3)) 24 4 (σ 10 4)) _ _ _ (by omega) rfl hw (lv_sub hl [0, 1, 2] rfl)
def XH_copyFrom_17_10_S37_0 (κ : Nat → Nat) (i18 : Nat) (i37 : Nat) (σ37 : Nat → Nat → Int32) : Nat → Nat → Int32 := up2 σ37 19 (4 * i18 + i37) (σ37 12 (4 * i18 + i37))
def XH_copyFrom_17_10_L37 (κ : Nat → Nat) (i18 : Nat) : Nat → Nat → (Nat → Nat → Int32) → (Nat → Nat → Int32)
  | 0, _, σ37 => σ37
  | n37 + 1, i37, σ37 => XH_copyFrom_17_10_L37 κ i18 n37 (i37 + 1) (XH_copyFrom_17_10_S37_0 κ i18 i37 σ37)
theorem XH_copyFrom_17_10_S37_k (κ : Nat → Nat) (i18 : Nat) (c9 : Nat) (q0 : c9 ≠ 19) (i37 : Nat) (σ37 : Nat → Nat → Int32) : XH_copyFrom_17_10_S37_0 κ i18 i37 σ37 c9 = σ37 c9 := by
  unfold XH_copyFrom_17_10_S37_0
  exact up2_n _ _ _ q0
theorem XH_copyFrom_17_10_L37_k (κ : Nat → Nat) (i18 : Nat) (c9 : Nat) (q0 : c9 ≠ 19) : ∀ (n37 i37 : Nat) (σ37 : Nat → Nat → Int32), (XH_copyFrom_17_10_L37 κ i18 n37 i37 σ37) c9 = σ37 c9 := by
  intro n37
  induction n37 with
  | zero => intros; rfl
  | succ n37 ih => intro i37 σ37; exact (ih (i37 + 1) (XH_copyFrom_17_10_S37_0 κ i18 i37 σ37)).trans (XH_copyFrom_17_10_S37_k κ i18 c9 q0 i37 σ37)
def XH_copyFrom_17_10_S18_0 (κ : Nat → Nat) (i18 : Nat) (σ18 : Nat → Nat → Int32) : Nat → Nat → Int32 := (XH_copyFrom_17_10_L37 κ i18 4 0 (up2 σ18 18 i18 (σ18 11 i18)))
def XH_copyFrom_17_10_L18 (κ : Nat → Nat) : Nat → Nat → (Nat → Nat → Int32) → (Nat → Nat → Int32)
  | 0, _, σ18 => σ18
  | n18 + 1, i18, σ18 => XH_copyFrom_17_10_L18 κ n18 (i18 + 1) (XH_copyFrom_17_10_S18_0 κ i18 σ18)
theorem XH_copyFrom_17_10_S18_k (κ : Nat → Nat) (c9 : Nat) (q0 : c9 ≠ 18) (q1 : c9 ≠ 19) (i18 : Nat) (σ18 : Nat → Nat → Int32) : XH_copyFrom_17_10_S18_0 κ i18 σ18 c9 = σ18 c9 := by
  unfold XH_copyFrom_17_10_S18_0
  exact (XH_copyFrom_17_10_L37_k κ i18 c9 q1 4 0 (up2 σ18 18 i18 (σ18 11 i18))).trans (up2_n _ _ _ q0)
theorem XH_copyFrom_17_10_L18_k (κ : Nat → Nat) (c9 : Nat) (q0 : c9 ≠ 18) (q1 : c9 ≠ 19) : ∀ (n18 i18 : Nat) (σ18 : Nat → Nat → Int32), (XH_copyFrom_17_10_L18 κ n18 i18 σ18) c9 = σ18 c9 := by
  intro n18
  induction n18 with
  | zero => intros; rfl
  | succ n18 ih => intro i18 σ18; exact (ih (i18 + 1) (XH_copyFrom_17_10_S18_0 κ i18 σ18)).trans (XH_copyFrom_17_10_S18_k κ c9 q0 q1 i18 σ18)
def XH_copyFrom_17_10_s (κ : Nat → Nat) (σ : Nat → Nat → Int32) : Nat → Nat → Int32 := (XH_copyFrom_17_10_L18 κ 4 0 (up2 (up2 σ 17 3 (σ 10 3)) 17 4 (σ 10 4)))
theorem XH_copyFrom_17_10_s_k (κ : Nat → Nat) (σ : Nat → Nat → Int32) (c9 : Nat) (q0 : c9 ≠ 17) (q1 : c9 ≠ 18) (q2 : c9 ≠ 19) : XH_copyFrom_17_10_s κ σ c9 = σ c9 := by
  unfold XH_copyFrom_17_10_s
  exact (XH_copyFrom_17_10_L18_k κ c9 q1 q2 4 0 (up2 (up2 σ 17 3 (σ 10 3)) 17 4 (σ 10 4))).trans ((up2_n _ _ _ q0).trans (up2_n _ _ _ q0))
set_option maxHeartbeats 4000000 in
set_option maxRecDepth 100000 in
theorem c_XH_copyFrom_17_10 (l : Launch) (D : va_G) (cI cC cI2 : ClassId) (a : Nat → Nat) (κ : Nat → Nat) (σ : Nat → Nat → Int32) : gV l D (tysX cI cC cI2) yX2_copyFrom wsX2_copyFrom 1 [.ref (a 17), .ref (a 10)] (wX cI cC cI2 a κ σ)  (wX cI cC cI2 a κ (XH_copyFrom_17_10_s κ σ)) := by
  refine g_start (cc := cX2_copyFrom) (maxL := 4) (ret := none) (Qc := gQv D (tysX cI cC cI2) (wX cI cC cI2 a κ (XH_copyFrom_17_10_s κ σ))) (by decide) rfl (Nat.le_of_ble_eq_true rfl) ?_
  intro p e s m below meth C A ls S hr hlk hw hl
  obtain ⟨hx, hb, hml, hown, hts⟩ := id S
  have hinX2 : ∀ x ∈ u_ws RX2 TX2 5, x ∈ wsX2_copyFrom := fun x h => List.mem_cons_of_mem _ (List.mem_append_right _ h)
  have lk0 : Cond.fieldLink RX2 20 "CowsOwed$Herds" "size" "I" ∈ wsX2_copyFrom := by decide +kernel
  have lk1 : Cond.fieldLink RX2 24 "CowsOwed$Herds" "price" "I" ∈ wsX2_copyFrom := by decide +kernel
  have lk2 : Cond.fieldLink RX2 9 "CowsOwed$Herds" "cows" "[I" ∈ wsX2_copyFrom := by decide +kernel
  have lk3 : Cond.fieldLink RX2 17 "CowsOwed$Herds" "debts" "[[I" ∈ wsX2_copyFrom := by decide +kernel
  have hl : lv_has ls 4 [(0, .ref (a 17)), (1, .ref (a 10))] := hl
  refine lv_aload_n hx hb dX2_copyFrom_0 rfl (lv_at hl 0 rfl) ?_
  refine lv_aload_n hx hb dX2_copyFrom_1 rfl (lv_at hl 1 rfl) ?_
  refine g_get S hw hinX2 (fs := fX10 a σ) 10 rfl rfl 3 (by decide) lk0 (v := .int (σ 10 3)) rfl dX2_copyFrom_2 ?_
  refine g_put S hw hinX2 tyX2 tyX2_ok nmX2 (fs := fX17 a σ) 17 rfl rfl 3 (by decide) lk0 rfl rfl rfl (Nat.le_of_ble_eq_true rfl) (w2 := wX cI cC cI2 a κ (up2 σ 17 3 (σ 10 3))) (wX_f17_3 _ _ _ _ _ _ _) dX2_copyFrom_5 (fun H locs hw => ?_)
  refine lv_aload_n hx hb dX2_copyFrom_8 rfl (lv_at hl 0 rfl) ?_
  refine lv_aload_n hx hb dX2_copyFrom_9 rfl (lv_at hl 1 rfl) ?_
  refine g_get S hw hinX2 (fs := fX10 a (up2 σ 17 3 (σ 10 3))) 10 rfl rfl 4 (by decide) lk1 (v := .int (σ 10 4)) (congrArg (fun z => some (Value.int z)) (up2_rn (by omega))) dX2_copyFrom_10 ?_
  refine g_put S hw hinX2 tyX2 tyX2_ok nmX2 (fs := fX17 a (up2 σ 17 3 (σ 10 3))) 17 rfl rfl 4 (by decide) lk1 rfl rfl rfl (Nat.le_of_ble_eq_true rfl) (w2 := wX cI cC cI2 a κ (up2 (up2 σ 17 3 (σ 10 3)) 17 4 (σ 10 4))) (wX_f17_4 _ _ _ _ _ _ _) dX2_copyFrom_13 (fun H locs hw => ?_)
  refine lv_iconst (v := 0) hx hb dX2_copyFrom_16 (by decide) ?_
  refine lv_istore_n (lv' := [(2, .int 0), (0, .ref (a 17)), (1, .ref (a 10))]) hx hb dX2_copyFrom_17 rfl hl (by decide) rfl (fun ls hl => ?_)
  have L18 : ∀ (n18 i18 : Nat) (σ18 : Nat → Nat → Int32) (H : Heap) (locs : List Loc) (ls : Array Slot), i18 + n18 = 4 → XH_copyFrom_17_10_L18 κ n18 i18 σ18 = XH_copyFrom_17_10_L18 κ 4 0 (up2 (up2 σ 17 3 (σ 10 3)) 17 4 (σ 10 4)) → gw D (tysX cI cC cI2) A s H locs (wX cI cC cI2 a κ σ18) → lv_has ls 4 [(2, .int (nI i18)), (0, .ref (a 17)), (1, .ref (a 10))] → W p l e (gR 1) s m ([.ref (a 17), .ref (a 10)] : List Value).toArray below meth C H locs 0 0 (MQ below (gQv D (tysX cI cC cI2) (wX cI cC cI2 a κ (XH_copyFrom_17_10_s κ σ)) A) ([.ref (a 17), .ref (a 10)] : List Value).toArray s 0 0 A) (F0 m 18 ls []) := by
    intro n18
    induction n18 with
    | zero =>
      intro i18 σ18 H locs ls hi18 hF18 hw hl
      refine lv_iload_n hx hb dX2_copyFrom_18 rfl (lv_at hl 0 rfl) ?_
      refine lv_iconst (v := 4) hx hb dX2_copyFrom_19 (by decide) ?_
      refine ln_ge (x := i18) (y := 4) hx hb (by omega) (by omega) (tgt := 70) dX2_copyFrom_20 (by decide) (fun c_x => ?_) (fun c_x => absurd (by omega) c_x)
      have hz18 : 4 = i18 := by omega
      subst hz18
      have e18_0 : (XH_copyFrom_17_10_L18 κ 4 0 (up2 (up2 σ 17 3 (σ 10 3)) 17 4 (σ 10 4))) = σ18 := hF18.symm
      subst e18_0
      exact g_vret S hr hlk hw (by simp only [XH_copyFrom_17_10_s]) dX2_copyFrom_70
    | succ n18 ih18 =>
      intro i18 σ18 H locs ls hi18 hF18 hw hl
      refine lv_iload_n hx hb dX2_copyFrom_18 rfl (lv_at hl 0 rfl) ?_
      refine lv_iconst (v := 4) hx hb dX2_copyFrom_19 (by decide) ?_
      refine ln_ge (x := i18) (y := 4) hx hb (by omega) (by omega) (tgt := 70) dX2_copyFrom_20 (by decide) (fun c_x => absurd c_x (by omega)) (fun c_x => ?_)
      refine lv_aload_n hx hb dX2_copyFrom_23 rfl (lv_at hl 1 rfl) ?_
      refine g_get S hw hinX2 (fs := fX17 a σ18) 17 rfl rfl 1 (by decide) lk2 (v := .ref (a 18)) rfl dX2_copyFrom_24 ?_
      refine lv_iload_n hx hb dX2_copyFrom_27 rfl (lv_at hl 0 rfl) ?_
      refine lv_aload_n hx hb dX2_copyFrom_28 rfl (lv_at hl 2 rfl) ?_
      refine g_get S hw hinX2 (fs := fX10 a σ18) 10 rfl rfl 1 (by decide) lk2 (v := .ref (a 11)) rfl dX2_copyFrom_29 ?_
      refine lv_iload_n hx hb dX2_copyFrom_32 rfl (lv_at hl 0 rfl) ?_
      refine g_iald S hw (f := σ18 11) (i := i18) (x := σ18 11 i18) 11 0 rfl rfl (by omega) (by decide) rfl dX2_copyFrom_33 ?_
      refine g_iast S hw (f := σ18 18) (i := i18) 18 0 rfl rfl (by omega) (by decide) (w2 := wX cI cC cI2 a κ (up2 σ18 18 i18 (σ18 11 i18))) (wX_a18 _ _ _ _ _ _ _ _) dX2_copyFrom_34 (fun H locs hw => ?_)
      refine lv_iconst (v := 0) hx hb dX2_copyFrom_35 (by decide) ?_
      refine lv_istore_n (lv' := [(3, .int 0), (2, .int (nI i18)), (0, .ref (a 17)), (1, .ref (a 10))]) hx hb dX2_copyFrom_36 rfl hl (by decide) rfl (fun ls hl => ?_)
      have L37 : ∀ (n37 i37 : Nat) (σ37 : Nat → Nat → Int32) (H : Heap) (locs : List Loc) (ls : Array Slot), i37 + n37 = 4 → XH_copyFrom_17_10_L37 κ i18 n37 i37 σ37 = XH_copyFrom_17_10_L37 κ i18 4 0 (up2 σ18 18 i18 (σ18 11 i18)) → gw D (tysX cI cC cI2) A s H locs (wX cI cC cI2 a κ σ37) → lv_has ls 4 [(3, .int (nI i37)), (2, .int (nI i18)), (0, .ref (a 17)), (1, .ref (a 10))] → W p l e (gR 1) s m ([.ref (a 17), .ref (a 10)] : List Value).toArray below meth C H locs 0 0 (MQ below (gQv D (tysX cI cC cI2) (wX cI cC cI2 a κ (XH_copyFrom_17_10_s κ σ)) A) ([.ref (a 17), .ref (a 10)] : List Value).toArray s 0 0 A) (F0 m 37 ls []) := by
        intro n37
        induction n37 with
        | zero =>
          intro i37 σ37 H locs ls hi37 hF37 hw hl
          refine lv_iload_n hx hb dX2_copyFrom_37 rfl (lv_at hl 0 rfl) ?_
          refine lv_iconst (v := 4) hx hb dX2_copyFrom_38 (by decide) ?_
          refine ln_ge (x := i37) (y := 4) hx hb (by omega) (by omega) (tgt := 64) dX2_copyFrom_39 (by decide) (fun c_x => ?_) (fun c_x => absurd (by omega) c_x)
          have hz37 : 4 = i37 := by omega
          subst hz37
          have e37_0 : (XH_copyFrom_17_10_L37 κ i18 4 0 (up2 σ18 18 i18 (σ18 11 i18))) = σ37 := hF37.symm
          subst e37_0
          refine lv_iinc (v := nI (i18 + 1)) (lv' := [(2, .int (nI (i18 + 1))), (3, .int 4), (0, .ref (a 17)), (1, .ref (a 10))]) hx hb dX2_copyFrom_64 hl (k := 1) rfl (nI_1 _) (by decide) rfl (fun ls hl => ?_)
          refine lv_goto (tgt := 18) hx hb dX2_copyFrom_67 (by decide) ?_
          exact ih18 (i18 + 1) (XH_copyFrom_17_10_L37 κ i18 4 0 (up2 σ18 18 i18 (σ18 11 i18))) _ _ _ (by omega) hF18 hw (lv_sub hl [0, 2, 3] rfl)
        | succ n37 ih37 =>
          intro i37 σ37 H locs ls hi37 hF37 hw hl
          refine lv_iload_n hx hb dX2_copyFrom_37 rfl (lv_at hl 0 rfl) ?_
          refine lv_iconst (v := 4) hx hb dX2_copyFrom_38 (by decide) ?_
          refine ln_ge (x := i37) (y := 4) hx hb (by omega) (by omega) (tgt := 64) dX2_copyFrom_39 (by decide) (fun c_x => absurd c_x (by omega)) (fun c_x => ?_)
          refine lv_aload_n hx hb dX2_copyFrom_42 rfl (lv_at hl 2 rfl) ?_
          refine g_get S hw hinX2 (fs := fX17 a σ37) 17 rfl rfl 2 (by decide) lk3 (v := .ref (a 19)) rfl dX2_copyFrom_43 ?_
          refine lv_iload_n hx hb dX2_copyFrom_46 rfl (lv_at hl 1 rfl) ?_
          refine g_aald S hw (f := fun i => some (a (20 + i))) (i := i18) (v := a (20 + i18)) 19 2 rfl rfl rfl (by omega) (by decide) rfl dX2_copyFrom_47 ?_
          refine lv_iload_n hx hb dX2_copyFrom_48 rfl (lv_at hl 0 rfl) ?_
          refine lv_aload_n hx hb dX2_copyFrom_49 rfl (lv_at hl 3 rfl) ?_
          refine g_get S hw hinX2 (fs := fX10 a σ37) 10 rfl rfl 2 (by decide) lk3 (v := .ref (a 12)) rfl dX2_copyFrom_50 ?_
          refine lv_iload_n hx hb dX2_copyFrom_53 rfl (lv_at hl 1 rfl) ?_
          refine g_aald S hw (f := fun i => some (a (13 + i))) (i := i18) (v := a (13 + i18)) 12 2 rfl rfl rfl (by omega) (by decide) rfl dX2_copyFrom_54 ?_
          refine lv_iload_n hx hb dX2_copyFrom_55 rfl (lv_at hl 0 rfl) ?_
          refine g_iald S hw (f := dRow (σ37 12) i18) (i := i37) (x := σ37 12 (4 * i18 + i37)) (13 + i18) 0 (wX_dg10 _ _ _ _ _ _ (by omega)) rfl (by omega) (by decide) (dRow_lt (by omega)) dX2_copyFrom_56 ?_
          refine g_iast S hw (f := dRow (σ37 19) i18) (i := i37) (20 + i18) 0 (wX_dg17 _ _ _ _ _ _ (by omega)) rfl (by omega) (by decide) (w2 := wX cI cC cI2 a κ (up2 σ37 19 (4 * i18 + i37) (σ37 12 (4 * i18 + i37)))) (wX_ds17 _ _ _ _ _ _ _ (by omega) (by omega)) dX2_copyFrom_57 (fun H locs hw => ?_)
          refine lv_iinc (v := nI (i37 + 1)) (lv' := [(3, .int (nI (i37 + 1))), (2, .int (nI i18)), (0, .ref (a 17)), (1, .ref (a 10))]) hx hb dX2_copyFrom_58 hl (k := 0) rfl (nI_1 _) (by decide) rfl (fun ls hl => ?_)
          refine lv_goto (tgt := 37) hx hb dX2_copyFrom_61 (by decide) ?_
          exact ih37 (i37 + 1) (up2 σ37 19 (4 * i18 + i37) (σ37 12 (4 * i18 + i37))) _ _ _ (by omega) hF37 hw (lv_sub hl [0, 1, 2, 3] rfl)
      exact L37 4 0 (up2 σ18 18 i18 (σ18 11 i18)) _ _ _ (by omega) rfl hw (lv_sub hl [0, 1, 2, 3] rfl)
  exact L18 4 0 (up2 (up2 σ 17 3 (σ 10 3)) 17 4 (σ 10 4)) _ _ _ (by omega) rfl hw (lv_sub hl [0, 1, 2] rfl)
def XH_copyFrom_10_17_S37_0 (κ : Nat → Nat) (i18 : Nat) (i37 : Nat) (σ37 : Nat → Nat → Int32) : Nat → Nat → Int32 := up2 σ37 12 (4 * i18 + i37) (σ37 19 (4 * i18 + i37))
def XH_copyFrom_10_17_L37 (κ : Nat → Nat) (i18 : Nat) : Nat → Nat → (Nat → Nat → Int32) → (Nat → Nat → Int32)
  | 0, _, σ37 => σ37
  | n37 + 1, i37, σ37 => XH_copyFrom_10_17_L37 κ i18 n37 (i37 + 1) (XH_copyFrom_10_17_S37_0 κ i18 i37 σ37)
theorem XH_copyFrom_10_17_S37_k (κ : Nat → Nat) (i18 : Nat) (c9 : Nat) (q0 : c9 ≠ 12) (i37 : Nat) (σ37 : Nat → Nat → Int32) : XH_copyFrom_10_17_S37_0 κ i18 i37 σ37 c9 = σ37 c9 := by
  unfold XH_copyFrom_10_17_S37_0
  exact up2_n _ _ _ q0
theorem XH_copyFrom_10_17_L37_k (κ : Nat → Nat) (i18 : Nat) (c9 : Nat) (q0 : c9 ≠ 12) : ∀ (n37 i37 : Nat) (σ37 : Nat → Nat → Int32), (XH_copyFrom_10_17_L37 κ i18 n37 i37 σ37) c9 = σ37 c9 := by
  intro n37
  induction n37 with
  | zero => intros; rfl
  | succ n37 ih => intro i37 σ37; exact (ih (i37 + 1) (XH_copyFrom_10_17_S37_0 κ i18 i37 σ37)).trans (XH_copyFrom_10_17_S37_k κ i18 c9 q0 i37 σ37)
def XH_copyFrom_10_17_S18_0 (κ : Nat → Nat) (i18 : Nat) (σ18 : Nat → Nat → Int32) : Nat → Nat → Int32 := (XH_copyFrom_10_17_L37 κ i18 4 0 (up2 σ18 11 i18 (σ18 18 i18)))
def XH_copyFrom_10_17_L18 (κ : Nat → Nat) : Nat → Nat → (Nat → Nat → Int32) → (Nat → Nat → Int32)
  | 0, _, σ18 => σ18
  | n18 + 1, i18, σ18 => XH_copyFrom_10_17_L18 κ n18 (i18 + 1) (XH_copyFrom_10_17_S18_0 κ i18 σ18)
theorem XH_copyFrom_10_17_S18_k (κ : Nat → Nat) (c9 : Nat) (q0 : c9 ≠ 11) (q1 : c9 ≠ 12) (i18 : Nat) (σ18 : Nat → Nat → Int32) : XH_copyFrom_10_17_S18_0 κ i18 σ18 c9 = σ18 c9 := by
  unfold XH_copyFrom_10_17_S18_0
  exact (XH_copyFrom_10_17_L37_k κ i18 c9 q1 4 0 (up2 σ18 11 i18 (σ18 18 i18))).trans (up2_n _ _ _ q0)
theorem XH_copyFrom_10_17_L18_k (κ : Nat → Nat) (c9 : Nat) (q0 : c9 ≠ 11) (q1 : c9 ≠ 12) : ∀ (n18 i18 : Nat) (σ18 : Nat → Nat → Int32), (XH_copyFrom_10_17_L18 κ n18 i18 σ18) c9 = σ18 c9 := by
  intro n18
  induction n18 with
  | zero => intros; rfl
  | succ n18 ih => intro i18 σ18; exact (ih (i18 + 1) (XH_copyFrom_10_17_S18_0 κ i18 σ18)).trans (XH_copyFrom_10_17_S18_k κ c9 q0 q1 i18 σ18)
def XH_copyFrom_10_17_s (κ : Nat → Nat) (σ : Nat → Nat → Int32) : Nat → Nat → Int32 := (XH_copyFrom_10_17_L18 κ 4 0 (up2 (up2 σ 10 3 (σ 17 3)) 10 4 (σ 17 4)))
theorem XH_copyFrom_10_17_s_k (κ : Nat → Nat) (σ : Nat → Nat → Int32) (c9 : Nat) (q0 : c9 ≠ 10) (q1 : c9 ≠ 11) (q2 : c9 ≠ 12) : XH_copyFrom_10_17_s κ σ c9 = σ c9 := by
  unfold XH_copyFrom_10_17_s
  exact (XH_copyFrom_10_17_L18_k κ c9 q1 q2 4 0 (up2 (up2 σ 10 3 (σ 17 3)) 10 4 (σ 17 4))).trans ((up2_n _ _ _ q0).trans (up2_n _ _ _ q0))
set_option maxHeartbeats 4000000 in
set_option maxRecDepth 100000 in
theorem c_XH_copyFrom_10_17 (l : Launch) (D : va_G) (cI cC cI2 : ClassId) (a : Nat → Nat) (κ : Nat → Nat) (σ : Nat → Nat → Int32) : gV l D (tysX cI cC cI2) yX2_copyFrom wsX2_copyFrom 1 [.ref (a 10), .ref (a 17)] (wX cI cC cI2 a κ σ)  (wX cI cC cI2 a κ (XH_copyFrom_10_17_s κ σ)) := by
  refine g_start (cc := cX2_copyFrom) (maxL := 4) (ret := none) (Qc := gQv D (tysX cI cC cI2) (wX cI cC cI2 a κ (XH_copyFrom_10_17_s κ σ))) (by decide) rfl (Nat.le_of_ble_eq_true rfl) ?_
  intro p e s m below meth C A ls S hr hlk hw hl
  obtain ⟨hx, hb, hml, hown, hts⟩ := id S
  have hinX2 : ∀ x ∈ u_ws RX2 TX2 5, x ∈ wsX2_copyFrom := fun x h => List.mem_cons_of_mem _ (List.mem_append_right _ h)
  have lk0 : Cond.fieldLink RX2 20 "CowsOwed$Herds" "size" "I" ∈ wsX2_copyFrom := by decide +kernel
  have lk1 : Cond.fieldLink RX2 24 "CowsOwed$Herds" "price" "I" ∈ wsX2_copyFrom := by decide +kernel
  have lk2 : Cond.fieldLink RX2 9 "CowsOwed$Herds" "cows" "[I" ∈ wsX2_copyFrom := by decide +kernel
  have lk3 : Cond.fieldLink RX2 17 "CowsOwed$Herds" "debts" "[[I" ∈ wsX2_copyFrom := by decide +kernel
  have hl : lv_has ls 4 [(0, .ref (a 10)), (1, .ref (a 17))] := hl
  refine lv_aload_n hx hb dX2_copyFrom_0 rfl (lv_at hl 0 rfl) ?_
  refine lv_aload_n hx hb dX2_copyFrom_1 rfl (lv_at hl 1 rfl) ?_
  refine g_get S hw hinX2 (fs := fX17 a σ) 17 rfl rfl 3 (by decide) lk0 (v := .int (σ 17 3)) rfl dX2_copyFrom_2 ?_
  refine g_put S hw hinX2 tyX2 tyX2_ok nmX2 (fs := fX10 a σ) 10 rfl rfl 3 (by decide) lk0 rfl rfl rfl (Nat.le_of_ble_eq_true rfl) (w2 := wX cI cC cI2 a κ (up2 σ 10 3 (σ 17 3))) (wX_f10_3 _ _ _ _ _ _ _) dX2_copyFrom_5 (fun H locs hw => ?_)
  refine lv_aload_n hx hb dX2_copyFrom_8 rfl (lv_at hl 0 rfl) ?_
  refine lv_aload_n hx hb dX2_copyFrom_9 rfl (lv_at hl 1 rfl) ?_
  refine g_get S hw hinX2 (fs := fX17 a (up2 σ 10 3 (σ 17 3))) 17 rfl rfl 4 (by decide) lk1 (v := .int (σ 17 4)) (congrArg (fun z => some (Value.int z)) (up2_rn (by omega))) dX2_copyFrom_10 ?_
  refine g_put S hw hinX2 tyX2 tyX2_ok nmX2 (fs := fX10 a (up2 σ 10 3 (σ 17 3))) 10 rfl rfl 4 (by decide) lk1 rfl rfl rfl (Nat.le_of_ble_eq_true rfl) (w2 := wX cI cC cI2 a κ (up2 (up2 σ 10 3 (σ 17 3)) 10 4 (σ 17 4))) (wX_f10_4 _ _ _ _ _ _ _) dX2_copyFrom_13 (fun H locs hw => ?_)
  refine lv_iconst (v := 0) hx hb dX2_copyFrom_16 (by decide) ?_
  refine lv_istore_n (lv' := [(2, .int 0), (0, .ref (a 10)), (1, .ref (a 17))]) hx hb dX2_copyFrom_17 rfl hl (by decide) rfl (fun ls hl => ?_)
  have L18 : ∀ (n18 i18 : Nat) (σ18 : Nat → Nat → Int32) (H : Heap) (locs : List Loc) (ls : Array Slot), i18 + n18 = 4 → XH_copyFrom_10_17_L18 κ n18 i18 σ18 = XH_copyFrom_10_17_L18 κ 4 0 (up2 (up2 σ 10 3 (σ 17 3)) 10 4 (σ 17 4)) → gw D (tysX cI cC cI2) A s H locs (wX cI cC cI2 a κ σ18) → lv_has ls 4 [(2, .int (nI i18)), (0, .ref (a 10)), (1, .ref (a 17))] → W p l e (gR 1) s m ([.ref (a 10), .ref (a 17)] : List Value).toArray below meth C H locs 0 0 (MQ below (gQv D (tysX cI cC cI2) (wX cI cC cI2 a κ (XH_copyFrom_10_17_s κ σ)) A) ([.ref (a 10), .ref (a 17)] : List Value).toArray s 0 0 A) (F0 m 18 ls []) := by
    intro n18
    induction n18 with
    | zero =>
      intro i18 σ18 H locs ls hi18 hF18 hw hl
      refine lv_iload_n hx hb dX2_copyFrom_18 rfl (lv_at hl 0 rfl) ?_
      refine lv_iconst (v := 4) hx hb dX2_copyFrom_19 (by decide) ?_
      refine ln_ge (x := i18) (y := 4) hx hb (by omega) (by omega) (tgt := 70) dX2_copyFrom_20 (by decide) (fun c_x => ?_) (fun c_x => absurd (by omega) c_x)
      have hz18 : 4 = i18 := by omega
      subst hz18
      have e18_0 : (XH_copyFrom_10_17_L18 κ 4 0 (up2 (up2 σ 10 3 (σ 17 3)) 10 4 (σ 17 4))) = σ18 := hF18.symm
      subst e18_0
      exact g_vret S hr hlk hw (by simp only [XH_copyFrom_10_17_s]) dX2_copyFrom_70
    | succ n18 ih18 =>
      intro i18 σ18 H locs ls hi18 hF18 hw hl
      refine lv_iload_n hx hb dX2_copyFrom_18 rfl (lv_at hl 0 rfl) ?_
      refine lv_iconst (v := 4) hx hb dX2_copyFrom_19 (by decide) ?_
      refine ln_ge (x := i18) (y := 4) hx hb (by omega) (by omega) (tgt := 70) dX2_copyFrom_20 (by decide) (fun c_x => absurd c_x (by omega)) (fun c_x => ?_)
      refine lv_aload_n hx hb dX2_copyFrom_23 rfl (lv_at hl 1 rfl) ?_
      refine g_get S hw hinX2 (fs := fX10 a σ18) 10 rfl rfl 1 (by decide) lk2 (v := .ref (a 11)) rfl dX2_copyFrom_24 ?_
      refine lv_iload_n hx hb dX2_copyFrom_27 rfl (lv_at hl 0 rfl) ?_
      refine lv_aload_n hx hb dX2_copyFrom_28 rfl (lv_at hl 2 rfl) ?_
      refine g_get S hw hinX2 (fs := fX17 a σ18) 17 rfl rfl 1 (by decide) lk2 (v := .ref (a 18)) rfl dX2_copyFrom_29 ?_
      refine lv_iload_n hx hb dX2_copyFrom_32 rfl (lv_at hl 0 rfl) ?_
      refine g_iald S hw (f := σ18 18) (i := i18) (x := σ18 18 i18) 18 0 rfl rfl (by omega) (by decide) rfl dX2_copyFrom_33 ?_
      refine g_iast S hw (f := σ18 11) (i := i18) 11 0 rfl rfl (by omega) (by decide) (w2 := wX cI cC cI2 a κ (up2 σ18 11 i18 (σ18 18 i18))) (wX_a11 _ _ _ _ _ _ _ _) dX2_copyFrom_34 (fun H locs hw => ?_)
      refine lv_iconst (v := 0) hx hb dX2_copyFrom_35 (by decide) ?_
      refine lv_istore_n (lv' := [(3, .int 0), (2, .int (nI i18)), (0, .ref (a 10)), (1, .ref (a 17))]) hx hb dX2_copyFrom_36 rfl hl (by decide) rfl (fun ls hl => ?_)
      have L37 : ∀ (n37 i37 : Nat) (σ37 : Nat → Nat → Int32) (H : Heap) (locs : List Loc) (ls : Array Slot), i37 + n37 = 4 → XH_copyFrom_10_17_L37 κ i18 n37 i37 σ37 = XH_copyFrom_10_17_L37 κ i18 4 0 (up2 σ18 11 i18 (σ18 18 i18)) → gw D (tysX cI cC cI2) A s H locs (wX cI cC cI2 a κ σ37) → lv_has ls 4 [(3, .int (nI i37)), (2, .int (nI i18)), (0, .ref (a 10)), (1, .ref (a 17))] → W p l e (gR 1) s m ([.ref (a 10), .ref (a 17)] : List Value).toArray below meth C H locs 0 0 (MQ below (gQv D (tysX cI cC cI2) (wX cI cC cI2 a κ (XH_copyFrom_10_17_s κ σ)) A) ([.ref (a 10), .ref (a 17)] : List Value).toArray s 0 0 A) (F0 m 37 ls []) := by
        intro n37
        induction n37 with
        | zero =>
          intro i37 σ37 H locs ls hi37 hF37 hw hl
          refine lv_iload_n hx hb dX2_copyFrom_37 rfl (lv_at hl 0 rfl) ?_
          refine lv_iconst (v := 4) hx hb dX2_copyFrom_38 (by decide) ?_
          refine ln_ge (x := i37) (y := 4) hx hb (by omega) (by omega) (tgt := 64) dX2_copyFrom_39 (by decide) (fun c_x => ?_) (fun c_x => absurd (by omega) c_x)
          have hz37 : 4 = i37 := by omega
          subst hz37
          have e37_0 : (XH_copyFrom_10_17_L37 κ i18 4 0 (up2 σ18 11 i18 (σ18 18 i18))) = σ37 := hF37.symm
          subst e37_0
          refine lv_iinc (v := nI (i18 + 1)) (lv' := [(2, .int (nI (i18 + 1))), (3, .int 4), (0, .ref (a 10)), (1, .ref (a 17))]) hx hb dX2_copyFrom_64 hl (k := 1) rfl (nI_1 _) (by decide) rfl (fun ls hl => ?_)
          refine lv_goto (tgt := 18) hx hb dX2_copyFrom_67 (by decide) ?_
          exact ih18 (i18 + 1) (XH_copyFrom_10_17_L37 κ i18 4 0 (up2 σ18 11 i18 (σ18 18 i18))) _ _ _ (by omega) hF18 hw (lv_sub hl [0, 2, 3] rfl)
        | succ n37 ih37 =>
          intro i37 σ37 H locs ls hi37 hF37 hw hl
          refine lv_iload_n hx hb dX2_copyFrom_37 rfl (lv_at hl 0 rfl) ?_
          refine lv_iconst (v := 4) hx hb dX2_copyFrom_38 (by decide) ?_
          refine ln_ge (x := i37) (y := 4) hx hb (by omega) (by omega) (tgt := 64) dX2_copyFrom_39 (by decide) (fun c_x => absurd c_x (by omega)) (fun c_x => ?_)
          refine lv_aload_n hx hb dX2_copyFrom_42 rfl (lv_at hl 2 rfl) ?_
          refine g_get S hw hinX2 (fs := fX10 a σ37) 10 rfl rfl 2 (by decide) lk3 (v := .ref (a 12)) rfl dX2_copyFrom_43 ?_
          refine lv_iload_n hx hb dX2_copyFrom_46 rfl (lv_at hl 1 rfl) ?_
          refine g_aald S hw (f := fun i => some (a (13 + i))) (i := i18) (v := a (13 + i18)) 12 2 rfl rfl rfl (by omega) (by decide) rfl dX2_copyFrom_47 ?_
          refine lv_iload_n hx hb dX2_copyFrom_48 rfl (lv_at hl 0 rfl) ?_
          refine lv_aload_n hx hb dX2_copyFrom_49 rfl (lv_at hl 3 rfl) ?_
          refine g_get S hw hinX2 (fs := fX17 a σ37) 17 rfl rfl 2 (by decide) lk3 (v := .ref (a 19)) rfl dX2_copyFrom_50 ?_
          refine lv_iload_n hx hb dX2_copyFrom_53 rfl (lv_at hl 1 rfl) ?_
          refine g_aald S hw (f := fun i => some (a (20 + i))) (i := i18) (v := a (20 + i18)) 19 2 rfl rfl rfl (by omega) (by decide) rfl dX2_copyFrom_54 ?_
          refine lv_iload_n hx hb dX2_copyFrom_55 rfl (lv_at hl 0 rfl) ?_
          refine g_iald S hw (f := dRow (σ37 19) i18) (i := i37) (x := σ37 19 (4 * i18 + i37)) (20 + i18) 0 (wX_dg17 _ _ _ _ _ _ (by omega)) rfl (by omega) (by decide) (dRow_lt (by omega)) dX2_copyFrom_56 ?_
          refine g_iast S hw (f := dRow (σ37 12) i18) (i := i37) (13 + i18) 0 (wX_dg10 _ _ _ _ _ _ (by omega)) rfl (by omega) (by decide) (w2 := wX cI cC cI2 a κ (up2 σ37 12 (4 * i18 + i37) (σ37 19 (4 * i18 + i37)))) (wX_ds10 _ _ _ _ _ _ _ (by omega) (by omega)) dX2_copyFrom_57 (fun H locs hw => ?_)
          refine lv_iinc (v := nI (i37 + 1)) (lv' := [(3, .int (nI (i37 + 1))), (2, .int (nI i18)), (0, .ref (a 10)), (1, .ref (a 17))]) hx hb dX2_copyFrom_58 hl (k := 0) rfl (nI_1 _) (by decide) rfl (fun ls hl => ?_)
          refine lv_goto (tgt := 37) hx hb dX2_copyFrom_61 (by decide) ?_
          exact ih37 (i37 + 1) (up2 σ37 12 (4 * i18 + i37) (σ37 19 (4 * i18 + i37))) _ _ _ (by omega) hF37 hw (lv_sub hl [0, 1, 2, 3] rfl)
      exact L37 4 0 (up2 σ18 11 i18 (σ18 18 i18)) _ _ _ (by omega) rfl hw (lv_sub hl [0, 1, 2, 3] rfl)
  exact L18 4 0 (up2 (up2 σ 10 3 (σ 17 3)) 10 4 (σ 17 4)) _ _ _ (by omega) rfl hw (lv_sub hl [0, 1, 2] rfl)
def XW_knows_r (κ : Nat → Nat) (σ : Nat → Nat → Int32) (c : Int32) : Int32 := if c < 0 then 0 else (if (σ 32 4) ≤ c then 0 else 1)
theorem XW_knows_z (κ : Nat → Nat) (σ : Nat → Nat → Int32) (c : Int32) : XW_knows_r κ σ c = 0 ∨ XW_knows_r κ σ c = 1 := by
  unfold XW_knows_r
  by_cases z1 : c < 0
  · rw [if_pos z1]
    exact Or.inl rfl
  · rw [if_neg z1]
    by_cases z2 : (σ 32 4) ≤ c
    · rw [if_pos z2]
      exact Or.inl rfl
    · rw [if_neg z2]
      exact Or.inr rfl
set_option maxHeartbeats 4000000 in
set_option maxRecDepth 100000 in
theorem c_XW_knows (l : Launch) (D : va_G) (cI cC cI2 : ClassId) (a : Nat → Nat) (κ : Nat → Nat) (σ : Nat → Nat → Int32) (c : Int32) : gI l D (tysX cI cC cI2) yX10_knows wsX10_knows 1 [.ref (a 32), .int c] (wX cI cC cI2 a κ σ) (XW_knows_r κ σ c) (wX cI cC cI2 a κ σ) := by
  refine g_start (cc := cX10_knows) (maxL := 2) (ret := some .boolean) (Qc := gQi D (tysX cI cC cI2) (XW_knows_r κ σ c) (wX cI cC cI2 a κ σ)) (by decide) rfl (Nat.le_of_ble_eq_true rfl) ?_
  intro p e s m below meth C A ls S hr hlk hw hl
  obtain ⟨hx, hb, hml, hown, hts⟩ := id S
  have hinX10 : ∀ x ∈ u_ws RX10 TX10 5, x ∈ wsX10_knows := fun x h => List.mem_cons_of_mem _ (List.mem_append_right _ h)
  have lk0 : Cond.fieldLink RX10 24 "CowsOwed$Weddings" "size" "I" ∈ wsX10_knows := by decide +kernel
  have hl : lv_has ls 2 [(0, .ref (a 32)), (1, .int c)] := hl
  refine lv_iload_n hx hb dX10_knows_0 rfl (lv_at hl 1 rfl) ?_
  refine lv_if_lt hx hb (tgt := 16) dX10_knows_1 (by decide) (fun c_1 => ?_) (fun c_1 => ?_)
  · refine lv_iconst (v := 0) hx hb dX10_knows_16 (by decide) ?_
    exact g_zret S hr hlk hw (by decide) (by simp only [XW_knows_r, if_pos c_1]) rfl dX10_knows_17
  · refine lv_iload_n hx hb dX10_knows_4 rfl (lv_at hl 1 rfl) ?_
    refine lv_aload_n hx hb dX10_knows_5 rfl (lv_at hl 0 rfl) ?_
    refine g_get S hw hinX10 (fs := fX32 a σ) 32 rfl rfl 4 (by decide) lk0 (v := .int (σ 32 4)) rfl dX10_knows_6 ?_
    refine lv_icmp_ge hx hb (tgt := 16) dX10_knows_9 (by decide) (fun c_2 => ?_) (fun c_2 => ?_)
    · refine lv_iconst (v := 0) hx hb dX10_knows_16 (by decide) ?_
      exact g_zret S hr hlk hw (by decide) (by simp only [XW_knows_r, if_neg c_1, if_pos c_2]) rfl dX10_knows_17
    · refine lv_iconst (v := 1) hx hb dX10_knows_12 (by decide) ?_
      refine lv_goto (tgt := 17) hx hb dX10_knows_13 (by decide) ?_
      exact g_zret S hr hlk hw (by decide) (by simp only [XW_knows_r, if_neg c_1, if_neg c_2]) rfl dX10_knows_17
def XW_note_r (κ : Nat → Nat) (σ : Nat → Nat → Int32) (wd : Nat) (c : Int32) (d : Int32) (asked : Int32) : Int32 := nI ((wd + 1) - 1)
def XW_note_s (κ : Nat → Nat) (σ : Nat → Nat → Int32) (wd : Nat) (c : Int32) (d : Int32) (asked : Int32) : Nat → Nat → Int32 := up2 (up2 (up2 (up2 (up2 σ 33 wd c) 34 wd d) 35 wd asked) 36 wd 0) 32 4 (nI (wd + 1))
theorem XW_note_s_k (κ : Nat → Nat) (σ : Nat → Nat → Int32) (wd : Nat) (c : Int32) (d : Int32) (asked : Int32) (c9 : Nat) (q0 : c9 ≠ 32) (q1 : c9 ≠ 33) (q2 : c9 ≠ 34) (q3 : c9 ≠ 35) (q4 : c9 ≠ 36) : XW_note_s κ σ wd c d asked c9 = σ c9 := by
  unfold XW_note_s
  exact (up2_n _ _ _ q0).trans ((up2_n _ _ _ q4).trans ((up2_n _ _ _ q3).trans ((up2_n _ _ _ q2).trans (up2_n _ _ _ q1))))
set_option maxHeartbeats 4000000 in
set_option maxRecDepth 100000 in
theorem c_XW_note (l : Launch) (D : va_G) (cI cC cI2 : ClassId) (a : Nat → Nat) (κ : Nat → Nat) (σ : Nat → Nat → Int32) (wd : Nat) (c : Int32) (d : Int32) (asked : Int32) (hw0 : σ 32 4 = nI wd) (hw1 : wd < 12) : gI l D (tysX cI cC cI2) yX10_note wsX10_note 1 [.ref (a 32), .int c, .int d, .int asked] (wX cI cC cI2 a κ σ) (XW_note_r κ σ wd c d asked) (wX cI cC cI2 a κ (XW_note_s κ σ wd c d asked)) := by
  refine g_start (cc := cX10_note) (maxL := 4) (ret := some .int) (Qc := gQi D (tysX cI cC cI2) (XW_note_r κ σ wd c d asked) (wX cI cC cI2 a κ (XW_note_s κ σ wd c d asked))) (by decide) rfl (Nat.le_of_ble_eq_true rfl) ?_
  intro p e s m below meth C A ls S hr hlk hw hl
  obtain ⟨hx, hb, hml, hown, hts⟩ := id S
  have hinX10 : ∀ x ∈ u_ws RX10 TX10 5, x ∈ wsX10_note := fun x h => List.mem_cons_of_mem _ (List.mem_append_right _ h)
  have lk0 : Cond.fieldLink RX10 9 "CowsOwed$Weddings" "his" "[I" ∈ wsX10_note := by decide +kernel
  have lk1 : Cond.fieldLink RX10 24 "CowsOwed$Weddings" "size" "I" ∈ wsX10_note := by decide +kernel
  have lk2 : Cond.fieldLink RX10 15 "CowsOwed$Weddings" "hers" "[I" ∈ wsX10_note := by decide +kernel
  have lk3 : Cond.fieldLink RX10 18 "CowsOwed$Weddings" "asked" "[I" ∈ wsX10_note := by decide +kernel
  have lk4 : Cond.fieldLink RX10 21 "CowsOwed$Weddings" "undone" "[I" ∈ wsX10_note := by decide +kernel
  have hl : lv_has ls 4 [(0, .ref (a 32)), (1, .int c), (2, .int d), (3, .int asked)] := hl
  refine lv_aload_n hx hb dX10_note_0 rfl (lv_at hl 0 rfl) ?_
  refine g_get S hw hinX10 (fs := fX32 a σ) 32 rfl rfl 0 (by decide) lk0 (v := .ref (a 33)) rfl dX10_note_1 ?_
  refine lv_aload_n hx hb dX10_note_4 rfl (lv_at hl 0 rfl) ?_
  refine g_get S hw hinX10 (fs := fX32 a σ) 32 rfl rfl 4 (by decide) lk1 (v := .int (nI wd)) (congrArg (fun z => some (Value.int z)) (hw0)) dX10_note_5 ?_
  refine lv_iload_n hx hb dX10_note_8 rfl (lv_at hl 1 rfl) ?_
  refine g_iast S hw (f := σ 33) (i := wd) 33 0 rfl rfl (by omega) (by decide) (w2 := wX cI cC cI2 a κ (up2 σ 33 wd c)) (wX_a33 _ _ _ _ _ _ _ _) dX10_note_9 (fun H locs hw => ?_)
  refine lv_aload_n hx hb dX10_note_10 rfl (lv_at hl 0 rfl) ?_
  refine g_get S hw hinX10 (fs := fX32 a (up2 σ 33 wd c)) 32 rfl rfl 1 (by decide) lk2 (v := .ref (a 34)) rfl dX10_note_11 ?_
  refine lv_aload_n hx hb dX10_note_14 rfl (lv_at hl 0 rfl) ?_
  refine g_get S hw hinX10 (fs := fX32 a (up2 σ 33 wd c)) 32 rfl rfl 4 (by decide) lk1 (v := .int (nI wd)) (congrArg (fun z => some (Value.int z)) ((up2_rn (by omega)).trans (hw0))) dX10_note_15 ?_
  refine lv_iload_n hx hb dX10_note_18 rfl (lv_at hl 2 rfl) ?_
  refine g_iast S hw (f := (up2 σ 33 wd c) 34) (i := wd) 34 0 rfl rfl (by omega) (by decide) (w2 := wX cI cC cI2 a κ (up2 (up2 σ 33 wd c) 34 wd d)) (wX_a34 _ _ _ _ _ _ _ _) dX10_note_19 (fun H locs hw => ?_)
  refine lv_aload_n hx hb dX10_note_20 rfl (lv_at hl 0 rfl) ?_
  refine g_get S hw hinX10 (fs := fX32 a (up2 (up2 σ 33 wd c) 34 wd d)) 32 rfl rfl 2 (by decide) lk3 (v := .ref (a 35)) rfl dX10_note_21 ?_
  refine lv_aload_n hx hb dX10_note_24 rfl (lv_at hl 0 rfl) ?_
  refine g_get S hw hinX10 (fs := fX32 a (up2 (up2 σ 33 wd c) 34 wd d)) 32 rfl rfl 4 (by decide) lk1 (v := .int (nI wd)) (congrArg (fun z => some (Value.int z)) (((up2_rn (by omega)).trans (up2_rn (by omega))).trans (hw0))) dX10_note_25 ?_
  refine lv_iload_n hx hb dX10_note_28 rfl (lv_at hl 3 rfl) ?_
  refine g_iast S hw (f := (up2 (up2 σ 33 wd c) 34 wd d) 35) (i := wd) 35 0 rfl rfl (by omega) (by decide) (w2 := wX cI cC cI2 a κ (up2 (up2 (up2 σ 33 wd c) 34 wd d) 35 wd asked)) (wX_a35 _ _ _ _ _ _ _ _) dX10_note_29 (fun H locs hw => ?_)
  refine lv_aload_n hx hb dX10_note_30 rfl (lv_at hl 0 rfl) ?_
  refine g_get S hw hinX10 (fs := fX32 a (up2 (up2 (up2 σ 33 wd c) 34 wd d) 35 wd asked)) 32 rfl rfl 3 (by decide) lk4 (v := .ref (a 36)) rfl dX10_note_31 ?_
  refine lv_aload_n hx hb dX10_note_34 rfl (lv_at hl 0 rfl) ?_
  refine g_get S hw hinX10 (fs := fX32 a (up2 (up2 (up2 σ 33 wd c) 34 wd d) 35 wd asked)) 32 rfl rfl 4 (by decide) lk1 (v := .int (nI wd)) (congrArg (fun z => some (Value.int z)) (((up2_rn (by omega)).trans ((up2_rn (by omega)).trans (up2_rn (by omega)))).trans (hw0))) dX10_note_35 ?_
  refine lv_iconst (v := 0) hx hb dX10_note_38 (by decide) ?_
  refine g_iast S hw (f := (up2 (up2 (up2 σ 33 wd c) 34 wd d) 35 wd asked) 36) (i := wd) 36 0 rfl rfl (by omega) (by decide) (w2 := wX cI cC cI2 a κ (up2 (up2 (up2 (up2 σ 33 wd c) 34 wd d) 35 wd asked) 36 wd 0)) (wX_a36 _ _ _ _ _ _ _ _) dX10_note_39 (fun H locs hw => ?_)
  refine lv_aload_n hx hb dX10_note_40 rfl (lv_at hl 0 rfl) ?_
  refine lv_dup hx hb dX10_note_41 rfl ?_
  refine g_get S hw hinX10 (fs := fX32 a (up2 (up2 (up2 (up2 σ 33 wd c) 34 wd d) 35 wd asked) 36 wd 0)) 32 rfl rfl 4 (by decide) lk1 (v := .int (nI wd)) (congrArg (fun z => some (Value.int z)) (((up2_rn (by omega)).trans ((up2_rn (by omega)).trans ((up2_rn (by omega)).trans (up2_rn (by omega))))).trans (hw0))) dX10_note_42 ?_
  refine lv_iconst (v := 1) hx hb dX10_note_45 (by decide) ?_
  refine ln_iadd (x := wd) (y := 1) hx hb dX10_note_46 ?_
  refine g_put S hw hinX10 tyX10 tyX10_ok nmX10 (fs := fX32 a (up2 (up2 (up2 (up2 σ 33 wd c) 34 wd d) 35 wd asked) 36 wd 0)) 32 rfl rfl 4 (by decide) lk1 rfl rfl rfl (Nat.le_of_ble_eq_true rfl) (w2 := wX cI cC cI2 a κ (up2 (up2 (up2 (up2 (up2 σ 33 wd c) 34 wd d) 35 wd asked) 36 wd 0) 32 4 (nI (wd + 1)))) (wX_f32_4 _ _ _ _ _ _ _) dX10_note_47 (fun H locs hw => ?_)
  refine lv_aload_n hx hb dX10_note_50 rfl (lv_at hl 0 rfl) ?_
  refine g_get S hw hinX10 (fs := fX32 a (up2 (up2 (up2 (up2 (up2 σ 33 wd c) 34 wd d) 35 wd asked) 36 wd 0) 32 4 (nI (wd + 1)))) 32 rfl rfl 4 (by decide) lk1 (v := .int (nI (wd + 1))) (congrArg (fun z => some (Value.int z)) (up2_rs)) dX10_note_51 ?_
  refine lv_iconst (v := 1) hx hb dX10_note_54 (by decide) ?_
  refine ln_isub (x := wd + 1) (y := 1) hx hb (by omega) dX10_note_55 ?_
  exact g_iret S hr hlk hw (by simp only [XW_note_r]) (by simp only [XW_note_s]) dX10_note_56
def XW_copyFrom_46_32_S10_0 (κ : Nat → Nat) (i10 : Nat) (σ10 : Nat → Nat → Int32) : Nat → Nat → Int32 := up2 (up2 (up2 (up2 σ10 47 i10 (σ10 33 i10)) 48 i10 (σ10 34 i10)) 49 i10 (σ10 35 i10)) 50 i10 (σ10 36 i10)
def XW_copyFrom_46_32_L10 (κ : Nat → Nat) : Nat → Nat → (Nat → Nat → Int32) → (Nat → Nat → Int32)
  | 0, _, σ10 => σ10
  | n10 + 1, i10, σ10 => XW_copyFrom_46_32_L10 κ n10 (i10 + 1) (XW_copyFrom_46_32_S10_0 κ i10 σ10)
theorem XW_copyFrom_46_32_S10_k (κ : Nat → Nat) (c9 : Nat) (q0 : c9 ≠ 47) (q1 : c9 ≠ 48) (q2 : c9 ≠ 49) (q3 : c9 ≠ 50) (i10 : Nat) (σ10 : Nat → Nat → Int32) : XW_copyFrom_46_32_S10_0 κ i10 σ10 c9 = σ10 c9 := by
  unfold XW_copyFrom_46_32_S10_0
  exact (up2_n _ _ _ q3).trans ((up2_n _ _ _ q2).trans ((up2_n _ _ _ q1).trans (up2_n _ _ _ q0)))
theorem XW_copyFrom_46_32_L10_k (κ : Nat → Nat) (c9 : Nat) (q0 : c9 ≠ 47) (q1 : c9 ≠ 48) (q2 : c9 ≠ 49) (q3 : c9 ≠ 50) : ∀ (n10 i10 : Nat) (σ10 : Nat → Nat → Int32), (XW_copyFrom_46_32_L10 κ n10 i10 σ10) c9 = σ10 c9 := by
  intro n10
  induction n10 with
  | zero => intros; rfl
  | succ n10 ih => intro i10 σ10; exact (ih (i10 + 1) (XW_copyFrom_46_32_S10_0 κ i10 σ10)).trans (XW_copyFrom_46_32_S10_k κ c9 q0 q1 q2 q3 i10 σ10)
def XW_copyFrom_46_32_s (κ : Nat → Nat) (σ : Nat → Nat → Int32) : Nat → Nat → Int32 := (XW_copyFrom_46_32_L10 κ 12 0 (up2 σ 46 4 (σ 32 4)))
theorem XW_copyFrom_46_32_s_k (κ : Nat → Nat) (σ : Nat → Nat → Int32) (c9 : Nat) (q0 : c9 ≠ 46) (q1 : c9 ≠ 47) (q2 : c9 ≠ 48) (q3 : c9 ≠ 49) (q4 : c9 ≠ 50) : XW_copyFrom_46_32_s κ σ c9 = σ c9 := by
  unfold XW_copyFrom_46_32_s
  exact (XW_copyFrom_46_32_L10_k κ c9 q1 q2 q3 q4 12 0 (up2 σ 46 4 (σ 32 4))).trans (up2_n _ _ _ q0)
set_option maxHeartbeats 4000000 in
set_option maxRecDepth 100000 in
theorem c_XW_copyFrom_46_32 (l : Launch) (D : va_G) (cI cC cI2 : ClassId) (a : Nat → Nat) (κ : Nat → Nat) (σ : Nat → Nat → Int32) : gV l D (tysX cI cC cI2) yX10_copyFrom wsX10_copyFrom 1 [.ref (a 46), .ref (a 32)] (wX cI cC cI2 a κ σ)  (wX cI cC cI2 a κ (XW_copyFrom_46_32_s κ σ)) := by
  refine g_start (cc := cX10_copyFrom) (maxL := 3) (ret := none) (Qc := gQv D (tysX cI cC cI2) (wX cI cC cI2 a κ (XW_copyFrom_46_32_s κ σ))) (by decide) rfl (Nat.le_of_ble_eq_true rfl) ?_
  intro p e s m below meth C A ls S hr hlk hw hl
  obtain ⟨hx, hb, hml, hown, hts⟩ := id S
  have hinX10 : ∀ x ∈ u_ws RX10 TX10 5, x ∈ wsX10_copyFrom := fun x h => List.mem_cons_of_mem _ (List.mem_append_right _ h)
  have lk0 : Cond.fieldLink RX10 24 "CowsOwed$Weddings" "size" "I" ∈ wsX10_copyFrom := by decide +kernel
  have lk1 : Cond.fieldLink RX10 9 "CowsOwed$Weddings" "his" "[I" ∈ wsX10_copyFrom := by decide +kernel
  have lk2 : Cond.fieldLink RX10 15 "CowsOwed$Weddings" "hers" "[I" ∈ wsX10_copyFrom := by decide +kernel
  have lk3 : Cond.fieldLink RX10 18 "CowsOwed$Weddings" "asked" "[I" ∈ wsX10_copyFrom := by decide +kernel
  have lk4 : Cond.fieldLink RX10 21 "CowsOwed$Weddings" "undone" "[I" ∈ wsX10_copyFrom := by decide +kernel
  have hl : lv_has ls 3 [(0, .ref (a 46)), (1, .ref (a 32))] := hl
  refine lv_aload_n hx hb dX10_copyFrom_0 rfl (lv_at hl 0 rfl) ?_
  refine lv_aload_n hx hb dX10_copyFrom_1 rfl (lv_at hl 1 rfl) ?_
  refine g_get S hw hinX10 (fs := fX32 a σ) 32 rfl rfl 4 (by decide) lk0 (v := .int (σ 32 4)) rfl dX10_copyFrom_2 ?_
  refine g_put S hw hinX10 tyX10 tyX10_ok nmX10 (fs := fX46 a σ) 46 rfl rfl 4 (by decide) lk0 rfl rfl rfl (Nat.le_of_ble_eq_true rfl) (w2 := wX cI cC cI2 a κ (up2 σ 46 4 (σ 32 4))) (wX_f46_4 _ _ _ _ _ _ _) dX10_copyFrom_5 (fun H locs hw => ?_)
  refine lv_iconst (v := 0) hx hb dX10_copyFrom_8 (by decide) ?_
  refine lv_istore_n (lv' := [(2, .int 0), (0, .ref (a 46)), (1, .ref (a 32))]) hx hb dX10_copyFrom_9 rfl hl (by decide) rfl (fun ls hl => ?_)
  have L10 : ∀ (n10 i10 : Nat) (σ10 : Nat → Nat → Int32) (H : Heap) (locs : List Loc) (ls : Array Slot), i10 + n10 = 12 → XW_copyFrom_46_32_L10 κ n10 i10 σ10 = XW_copyFrom_46_32_L10 κ 12 0 (up2 σ 46 4 (σ 32 4)) → gw D (tysX cI cC cI2) A s H locs (wX cI cC cI2 a κ σ10) → lv_has ls 3 [(2, .int (nI i10)), (0, .ref (a 46)), (1, .ref (a 32))] → W p l e (gR 1) s m ([.ref (a 46), .ref (a 32)] : List Value).toArray below meth C H locs 0 0 (MQ below (gQv D (tysX cI cC cI2) (wX cI cC cI2 a κ (XW_copyFrom_46_32_s κ σ)) A) ([.ref (a 46), .ref (a 32)] : List Value).toArray s 0 0 A) (F0 m 10 ls []) := by
    intro n10
    induction n10 with
    | zero =>
      intro i10 σ10 H locs ls hi10 hF10 hw hl
      refine lv_iload_n hx hb dX10_copyFrom_10 rfl (lv_at hl 0 rfl) ?_
      refine lv_bipush (v := 12) hx hb dX10_copyFrom_11 (by decide) ?_
      refine ln_ge (x := i10) (y := 12) hx hb (by omega) (by omega) (tgt := 70) dX10_copyFrom_13 (by decide) (fun c_x => ?_) (fun c_x => absurd (by omega) c_x)
      have hz10 : 12 = i10 := by omega
      subst hz10
      have e10_0 : (XW_copyFrom_46_32_L10 κ 12 0 (up2 σ 46 4 (σ 32 4))) = σ10 := hF10.symm
      subst e10_0
      exact g_vret S hr hlk hw (by simp only [XW_copyFrom_46_32_s]) dX10_copyFrom_70
    | succ n10 ih10 =>
      intro i10 σ10 H locs ls hi10 hF10 hw hl
      refine lv_iload_n hx hb dX10_copyFrom_10 rfl (lv_at hl 0 rfl) ?_
      refine lv_bipush (v := 12) hx hb dX10_copyFrom_11 (by decide) ?_
      refine ln_ge (x := i10) (y := 12) hx hb (by omega) (by omega) (tgt := 70) dX10_copyFrom_13 (by decide) (fun c_x => absurd c_x (by omega)) (fun c_x => ?_)
      refine lv_aload_n hx hb dX10_copyFrom_16 rfl (lv_at hl 1 rfl) ?_
      refine g_get S hw hinX10 (fs := fX46 a σ10) 46 rfl rfl 0 (by decide) lk1 (v := .ref (a 47)) rfl dX10_copyFrom_17 ?_
      refine lv_iload_n hx hb dX10_copyFrom_20 rfl (lv_at hl 0 rfl) ?_
      refine lv_aload_n hx hb dX10_copyFrom_21 rfl (lv_at hl 2 rfl) ?_
      refine g_get S hw hinX10 (fs := fX32 a σ10) 32 rfl rfl 0 (by decide) lk1 (v := .ref (a 33)) rfl dX10_copyFrom_22 ?_
      refine lv_iload_n hx hb dX10_copyFrom_25 rfl (lv_at hl 0 rfl) ?_
      refine g_iald S hw (f := σ10 33) (i := i10) (x := σ10 33 i10) 33 0 rfl rfl (by omega) (by decide) rfl dX10_copyFrom_26 ?_
      refine g_iast S hw (f := σ10 47) (i := i10) 47 0 rfl rfl (by omega) (by decide) (w2 := wX cI cC cI2 a κ (up2 σ10 47 i10 (σ10 33 i10))) (wX_a47 _ _ _ _ _ _ _ _) dX10_copyFrom_27 (fun H locs hw => ?_)
      refine lv_aload_n hx hb dX10_copyFrom_28 rfl (lv_at hl 1 rfl) ?_
      refine g_get S hw hinX10 (fs := fX46 a (up2 σ10 47 i10 (σ10 33 i10))) 46 rfl rfl 1 (by decide) lk2 (v := .ref (a 48)) rfl dX10_copyFrom_29 ?_
      refine lv_iload_n hx hb dX10_copyFrom_32 rfl (lv_at hl 0 rfl) ?_
      refine lv_aload_n hx hb dX10_copyFrom_33 rfl (lv_at hl 2 rfl) ?_
      refine g_get S hw hinX10 (fs := fX32 a (up2 σ10 47 i10 (σ10 33 i10))) 32 rfl rfl 1 (by decide) lk2 (v := .ref (a 34)) rfl dX10_copyFrom_34 ?_
      refine lv_iload_n hx hb dX10_copyFrom_37 rfl (lv_at hl 0 rfl) ?_
      refine g_iald S hw (f := (up2 σ10 47 i10 (σ10 33 i10)) 34) (i := i10) (x := σ10 34 i10) 34 0 rfl rfl (by omega) (by decide) (up2_rn (by omega)) dX10_copyFrom_38 ?_
      refine g_iast S hw (f := (up2 σ10 47 i10 (σ10 33 i10)) 48) (i := i10) 48 0 rfl rfl (by omega) (by decide) (w2 := wX cI cC cI2 a κ (up2 (up2 σ10 47 i10 (σ10 33 i10)) 48 i10 (σ10 34 i10))) (wX_a48 _ _ _ _ _ _ _ _) dX10_copyFrom_39 (fun H locs hw => ?_)
      refine lv_aload_n hx hb dX10_copyFrom_40 rfl (lv_at hl 1 rfl) ?_
      refine g_get S hw hinX10 (fs := fX46 a (up2 (up2 σ10 47 i10 (σ10 33 i10)) 48 i10 (σ10 34 i10))) 46 rfl rfl 2 (by decide) lk3 (v := .ref (a 49)) rfl dX10_copyFrom_41 ?_
      refine lv_iload_n hx hb dX10_copyFrom_44 rfl (lv_at hl 0 rfl) ?_
      refine lv_aload_n hx hb dX10_copyFrom_45 rfl (lv_at hl 2 rfl) ?_
      refine g_get S hw hinX10 (fs := fX32 a (up2 (up2 σ10 47 i10 (σ10 33 i10)) 48 i10 (σ10 34 i10))) 32 rfl rfl 2 (by decide) lk3 (v := .ref (a 35)) rfl dX10_copyFrom_46 ?_
      refine lv_iload_n hx hb dX10_copyFrom_49 rfl (lv_at hl 0 rfl) ?_
      refine g_iald S hw (f := (up2 (up2 σ10 47 i10 (σ10 33 i10)) 48 i10 (σ10 34 i10)) 35) (i := i10) (x := σ10 35 i10) 35 0 rfl rfl (by omega) (by decide) ((up2_rn (by omega)).trans (up2_rn (by omega))) dX10_copyFrom_50 ?_
      refine g_iast S hw (f := (up2 (up2 σ10 47 i10 (σ10 33 i10)) 48 i10 (σ10 34 i10)) 49) (i := i10) 49 0 rfl rfl (by omega) (by decide) (w2 := wX cI cC cI2 a κ (up2 (up2 (up2 σ10 47 i10 (σ10 33 i10)) 48 i10 (σ10 34 i10)) 49 i10 (σ10 35 i10))) (wX_a49 _ _ _ _ _ _ _ _) dX10_copyFrom_51 (fun H locs hw => ?_)
      refine lv_aload_n hx hb dX10_copyFrom_52 rfl (lv_at hl 1 rfl) ?_
      refine g_get S hw hinX10 (fs := fX46 a (up2 (up2 (up2 σ10 47 i10 (σ10 33 i10)) 48 i10 (σ10 34 i10)) 49 i10 (σ10 35 i10))) 46 rfl rfl 3 (by decide) lk4 (v := .ref (a 50)) rfl dX10_copyFrom_53 ?_
      refine lv_iload_n hx hb dX10_copyFrom_56 rfl (lv_at hl 0 rfl) ?_
      refine lv_aload_n hx hb dX10_copyFrom_57 rfl (lv_at hl 2 rfl) ?_
      refine g_get S hw hinX10 (fs := fX32 a (up2 (up2 (up2 σ10 47 i10 (σ10 33 i10)) 48 i10 (σ10 34 i10)) 49 i10 (σ10 35 i10))) 32 rfl rfl 3 (by decide) lk4 (v := .ref (a 36)) rfl dX10_copyFrom_58 ?_
      refine lv_iload_n hx hb dX10_copyFrom_61 rfl (lv_at hl 0 rfl) ?_
      refine g_iald S hw (f := (up2 (up2 (up2 σ10 47 i10 (σ10 33 i10)) 48 i10 (σ10 34 i10)) 49 i10 (σ10 35 i10)) 36) (i := i10) (x := σ10 36 i10) 36 0 rfl rfl (by omega) (by decide) ((up2_rn (by omega)).trans ((up2_rn (by omega)).trans (up2_rn (by omega)))) dX10_copyFrom_62 ?_
      refine g_iast S hw (f := (up2 (up2 (up2 σ10 47 i10 (σ10 33 i10)) 48 i10 (σ10 34 i10)) 49 i10 (σ10 35 i10)) 50) (i := i10) 50 0 rfl rfl (by omega) (by decide) (w2 := wX cI cC cI2 a κ (up2 (up2 (up2 (up2 σ10 47 i10 (σ10 33 i10)) 48 i10 (σ10 34 i10)) 49 i10 (σ10 35 i10)) 50 i10 (σ10 36 i10))) (wX_a50 _ _ _ _ _ _ _ _) dX10_copyFrom_63 (fun H locs hw => ?_)
      refine lv_iinc (v := nI (i10 + 1)) (lv' := [(2, .int (nI (i10 + 1))), (0, .ref (a 46)), (1, .ref (a 32))]) hx hb dX10_copyFrom_64 hl (k := 0) rfl (nI_1 _) (by decide) rfl (fun ls hl => ?_)
      refine lv_goto (tgt := 10) hx hb dX10_copyFrom_67 (by decide) ?_
      exact ih10 (i10 + 1) (up2 (up2 (up2 (up2 σ10 47 i10 (σ10 33 i10)) 48 i10 (σ10 34 i10)) 49 i10 (σ10 35 i10)) 50 i10 (σ10 36 i10)) _ _ _ (by omega) hF10 hw (lv_sub hl [0, 1, 2] rfl)
  exact L10 12 0 (up2 σ 46 4 (σ 32 4)) _ _ _ (by omega) rfl hw (lv_sub hl [0, 1, 2] rfl)
def XW_copyFrom_32_46_S10_0 (κ : Nat → Nat) (i10 : Nat) (σ10 : Nat → Nat → Int32) : Nat → Nat → Int32 := up2 (up2 (up2 (up2 σ10 33 i10 (σ10 47 i10)) 34 i10 (σ10 48 i10)) 35 i10 (σ10 49 i10)) 36 i10 (σ10 50 i10)
def XW_copyFrom_32_46_L10 (κ : Nat → Nat) : Nat → Nat → (Nat → Nat → Int32) → (Nat → Nat → Int32)
  | 0, _, σ10 => σ10
  | n10 + 1, i10, σ10 => XW_copyFrom_32_46_L10 κ n10 (i10 + 1) (XW_copyFrom_32_46_S10_0 κ i10 σ10)
theorem XW_copyFrom_32_46_S10_k (κ : Nat → Nat) (c9 : Nat) (q0 : c9 ≠ 33) (q1 : c9 ≠ 34) (q2 : c9 ≠ 35) (q3 : c9 ≠ 36) (i10 : Nat) (σ10 : Nat → Nat → Int32) : XW_copyFrom_32_46_S10_0 κ i10 σ10 c9 = σ10 c9 := by
  unfold XW_copyFrom_32_46_S10_0
  exact (up2_n _ _ _ q3).trans ((up2_n _ _ _ q2).trans ((up2_n _ _ _ q1).trans (up2_n _ _ _ q0)))
theorem XW_copyFrom_32_46_L10_k (κ : Nat → Nat) (c9 : Nat) (q0 : c9 ≠ 33) (q1 : c9 ≠ 34) (q2 : c9 ≠ 35) (q3 : c9 ≠ 36) : ∀ (n10 i10 : Nat) (σ10 : Nat → Nat → Int32), (XW_copyFrom_32_46_L10 κ n10 i10 σ10) c9 = σ10 c9 := by
  intro n10
  induction n10 with
  | zero => intros; rfl
  | succ n10 ih => intro i10 σ10; exact (ih (i10 + 1) (XW_copyFrom_32_46_S10_0 κ i10 σ10)).trans (XW_copyFrom_32_46_S10_k κ c9 q0 q1 q2 q3 i10 σ10)
def XW_copyFrom_32_46_s (κ : Nat → Nat) (σ : Nat → Nat → Int32) : Nat → Nat → Int32 := (XW_copyFrom_32_46_L10 κ 12 0 (up2 σ 32 4 (σ 46 4)))
theorem XW_copyFrom_32_46_s_k (κ : Nat → Nat) (σ : Nat → Nat → Int32) (c9 : Nat) (q0 : c9 ≠ 32) (q1 : c9 ≠ 33) (q2 : c9 ≠ 34) (q3 : c9 ≠ 35) (q4 : c9 ≠ 36) : XW_copyFrom_32_46_s κ σ c9 = σ c9 := by
  unfold XW_copyFrom_32_46_s
  exact (XW_copyFrom_32_46_L10_k κ c9 q1 q2 q3 q4 12 0 (up2 σ 32 4 (σ 46 4))).trans (up2_n _ _ _ q0)
set_option maxHeartbeats 4000000 in
set_option maxRecDepth 100000 in
theorem c_XW_copyFrom_32_46 (l : Launch) (D : va_G) (cI cC cI2 : ClassId) (a : Nat → Nat) (κ : Nat → Nat) (σ : Nat → Nat → Int32) : gV l D (tysX cI cC cI2) yX10_copyFrom wsX10_copyFrom 1 [.ref (a 32), .ref (a 46)] (wX cI cC cI2 a κ σ)  (wX cI cC cI2 a κ (XW_copyFrom_32_46_s κ σ)) := by
  refine g_start (cc := cX10_copyFrom) (maxL := 3) (ret := none) (Qc := gQv D (tysX cI cC cI2) (wX cI cC cI2 a κ (XW_copyFrom_32_46_s κ σ))) (by decide) rfl (Nat.le_of_ble_eq_true rfl) ?_
  intro p e s m below meth C A ls S hr hlk hw hl
  obtain ⟨hx, hb, hml, hown, hts⟩ := id S
  have hinX10 : ∀ x ∈ u_ws RX10 TX10 5, x ∈ wsX10_copyFrom := fun x h => List.mem_cons_of_mem _ (List.mem_append_right _ h)
  have lk0 : Cond.fieldLink RX10 24 "CowsOwed$Weddings" "size" "I" ∈ wsX10_copyFrom := by decide +kernel
  have lk1 : Cond.fieldLink RX10 9 "CowsOwed$Weddings" "his" "[I" ∈ wsX10_copyFrom := by decide +kernel
  have lk2 : Cond.fieldLink RX10 15 "CowsOwed$Weddings" "hers" "[I" ∈ wsX10_copyFrom := by decide +kernel
  have lk3 : Cond.fieldLink RX10 18 "CowsOwed$Weddings" "asked" "[I" ∈ wsX10_copyFrom := by decide +kernel
  have lk4 : Cond.fieldLink RX10 21 "CowsOwed$Weddings" "undone" "[I" ∈ wsX10_copyFrom := by decide +kernel
  have hl : lv_has ls 3 [(0, .ref (a 32)), (1, .ref (a 46))] := hl
  refine lv_aload_n hx hb dX10_copyFrom_0 rfl (lv_at hl 0 rfl) ?_
  refine lv_aload_n hx hb dX10_copyFrom_1 rfl (lv_at hl 1 rfl) ?_
  refine g_get S hw hinX10 (fs := fX46 a σ) 46 rfl rfl 4 (by decide) lk0 (v := .int (σ 46 4)) rfl dX10_copyFrom_2 ?_
  refine g_put S hw hinX10 tyX10 tyX10_ok nmX10 (fs := fX32 a σ) 32 rfl rfl 4 (by decide) lk0 rfl rfl rfl (Nat.le_of_ble_eq_true rfl) (w2 := wX cI cC cI2 a κ (up2 σ 32 4 (σ 46 4))) (wX_f32_4 _ _ _ _ _ _ _) dX10_copyFrom_5 (fun H locs hw => ?_)
  refine lv_iconst (v := 0) hx hb dX10_copyFrom_8 (by decide) ?_
  refine lv_istore_n (lv' := [(2, .int 0), (0, .ref (a 32)), (1, .ref (a 46))]) hx hb dX10_copyFrom_9 rfl hl (by decide) rfl (fun ls hl => ?_)
  have L10 : ∀ (n10 i10 : Nat) (σ10 : Nat → Nat → Int32) (H : Heap) (locs : List Loc) (ls : Array Slot), i10 + n10 = 12 → XW_copyFrom_32_46_L10 κ n10 i10 σ10 = XW_copyFrom_32_46_L10 κ 12 0 (up2 σ 32 4 (σ 46 4)) → gw D (tysX cI cC cI2) A s H locs (wX cI cC cI2 a κ σ10) → lv_has ls 3 [(2, .int (nI i10)), (0, .ref (a 32)), (1, .ref (a 46))] → W p l e (gR 1) s m ([.ref (a 32), .ref (a 46)] : List Value).toArray below meth C H locs 0 0 (MQ below (gQv D (tysX cI cC cI2) (wX cI cC cI2 a κ (XW_copyFrom_32_46_s κ σ)) A) ([.ref (a 32), .ref (a 46)] : List Value).toArray s 0 0 A) (F0 m 10 ls []) := by
    intro n10
    induction n10 with
    | zero =>
      intro i10 σ10 H locs ls hi10 hF10 hw hl
      refine lv_iload_n hx hb dX10_copyFrom_10 rfl (lv_at hl 0 rfl) ?_
      refine lv_bipush (v := 12) hx hb dX10_copyFrom_11 (by decide) ?_
      refine ln_ge (x := i10) (y := 12) hx hb (by omega) (by omega) (tgt := 70) dX10_copyFrom_13 (by decide) (fun c_x => ?_) (fun c_x => absurd (by omega) c_x)
      have hz10 : 12 = i10 := by omega
      subst hz10
      have e10_0 : (XW_copyFrom_32_46_L10 κ 12 0 (up2 σ 32 4 (σ 46 4))) = σ10 := hF10.symm
      subst e10_0
      exact g_vret S hr hlk hw (by simp only [XW_copyFrom_32_46_s]) dX10_copyFrom_70
    | succ n10 ih10 =>
      intro i10 σ10 H locs ls hi10 hF10 hw hl
      refine lv_iload_n hx hb dX10_copyFrom_10 rfl (lv_at hl 0 rfl) ?_
      refine lv_bipush (v := 12) hx hb dX10_copyFrom_11 (by decide) ?_
      refine ln_ge (x := i10) (y := 12) hx hb (by omega) (by omega) (tgt := 70) dX10_copyFrom_13 (by decide) (fun c_x => absurd c_x (by omega)) (fun c_x => ?_)
      refine lv_aload_n hx hb dX10_copyFrom_16 rfl (lv_at hl 1 rfl) ?_
      refine g_get S hw hinX10 (fs := fX32 a σ10) 32 rfl rfl 0 (by decide) lk1 (v := .ref (a 33)) rfl dX10_copyFrom_17 ?_
      refine lv_iload_n hx hb dX10_copyFrom_20 rfl (lv_at hl 0 rfl) ?_
      refine lv_aload_n hx hb dX10_copyFrom_21 rfl (lv_at hl 2 rfl) ?_
      refine g_get S hw hinX10 (fs := fX46 a σ10) 46 rfl rfl 0 (by decide) lk1 (v := .ref (a 47)) rfl dX10_copyFrom_22 ?_
      refine lv_iload_n hx hb dX10_copyFrom_25 rfl (lv_at hl 0 rfl) ?_
      refine g_iald S hw (f := σ10 47) (i := i10) (x := σ10 47 i10) 47 0 rfl rfl (by omega) (by decide) rfl dX10_copyFrom_26 ?_
      refine g_iast S hw (f := σ10 33) (i := i10) 33 0 rfl rfl (by omega) (by decide) (w2 := wX cI cC cI2 a κ (up2 σ10 33 i10 (σ10 47 i10))) (wX_a33 _ _ _ _ _ _ _ _) dX10_copyFrom_27 (fun H locs hw => ?_)
      refine lv_aload_n hx hb dX10_copyFrom_28 rfl (lv_at hl 1 rfl) ?_
      refine g_get S hw hinX10 (fs := fX32 a (up2 σ10 33 i10 (σ10 47 i10))) 32 rfl rfl 1 (by decide) lk2 (v := .ref (a 34)) rfl dX10_copyFrom_29 ?_
      refine lv_iload_n hx hb dX10_copyFrom_32 rfl (lv_at hl 0 rfl) ?_
      refine lv_aload_n hx hb dX10_copyFrom_33 rfl (lv_at hl 2 rfl) ?_
      refine g_get S hw hinX10 (fs := fX46 a (up2 σ10 33 i10 (σ10 47 i10))) 46 rfl rfl 1 (by decide) lk2 (v := .ref (a 48)) rfl dX10_copyFrom_34 ?_
      refine lv_iload_n hx hb dX10_copyFrom_37 rfl (lv_at hl 0 rfl) ?_
      refine g_iald S hw (f := (up2 σ10 33 i10 (σ10 47 i10)) 48) (i := i10) (x := σ10 48 i10) 48 0 rfl rfl (by omega) (by decide) (up2_rn (by omega)) dX10_copyFrom_38 ?_
      refine g_iast S hw (f := (up2 σ10 33 i10 (σ10 47 i10)) 34) (i := i10) 34 0 rfl rfl (by omega) (by decide) (w2 := wX cI cC cI2 a κ (up2 (up2 σ10 33 i10 (σ10 47 i10)) 34 i10 (σ10 48 i10))) (wX_a34 _ _ _ _ _ _ _ _) dX10_copyFrom_39 (fun H locs hw => ?_)
      refine lv_aload_n hx hb dX10_copyFrom_40 rfl (lv_at hl 1 rfl) ?_
      refine g_get S hw hinX10 (fs := fX32 a (up2 (up2 σ10 33 i10 (σ10 47 i10)) 34 i10 (σ10 48 i10))) 32 rfl rfl 2 (by decide) lk3 (v := .ref (a 35)) rfl dX10_copyFrom_41 ?_
      refine lv_iload_n hx hb dX10_copyFrom_44 rfl (lv_at hl 0 rfl) ?_
      refine lv_aload_n hx hb dX10_copyFrom_45 rfl (lv_at hl 2 rfl) ?_
      refine g_get S hw hinX10 (fs := fX46 a (up2 (up2 σ10 33 i10 (σ10 47 i10)) 34 i10 (σ10 48 i10))) 46 rfl rfl 2 (by decide) lk3 (v := .ref (a 49)) rfl dX10_copyFrom_46 ?_
      refine lv_iload_n hx hb dX10_copyFrom_49 rfl (lv_at hl 0 rfl) ?_
      refine g_iald S hw (f := (up2 (up2 σ10 33 i10 (σ10 47 i10)) 34 i10 (σ10 48 i10)) 49) (i := i10) (x := σ10 49 i10) 49 0 rfl rfl (by omega) (by decide) ((up2_rn (by omega)).trans (up2_rn (by omega))) dX10_copyFrom_50 ?_
      refine g_iast S hw (f := (up2 (up2 σ10 33 i10 (σ10 47 i10)) 34 i10 (σ10 48 i10)) 35) (i := i10) 35 0 rfl rfl (by omega) (by decide) (w2 := wX cI cC cI2 a κ (up2 (up2 (up2 σ10 33 i10 (σ10 47 i10)) 34 i10 (σ10 48 i10)) 35 i10 (σ10 49 i10))) (wX_a35 _ _ _ _ _ _ _ _) dX10_copyFrom_51 (fun H locs hw => ?_)
      refine lv_aload_n hx hb dX10_copyFrom_52 rfl (lv_at hl 1 rfl) ?_
      refine g_get S hw hinX10 (fs := fX32 a (up2 (up2 (up2 σ10 33 i10 (σ10 47 i10)) 34 i10 (σ10 48 i10)) 35 i10 (σ10 49 i10))) 32 rfl rfl 3 (by decide) lk4 (v := .ref (a 36)) rfl dX10_copyFrom_53 ?_
      refine lv_iload_n hx hb dX10_copyFrom_56 rfl (lv_at hl 0 rfl) ?_
      refine lv_aload_n hx hb dX10_copyFrom_57 rfl (lv_at hl 2 rfl) ?_
      refine g_get S hw hinX10 (fs := fX46 a (up2 (up2 (up2 σ10 33 i10 (σ10 47 i10)) 34 i10 (σ10 48 i10)) 35 i10 (σ10 49 i10))) 46 rfl rfl 3 (by decide) lk4 (v := .ref (a 50)) rfl dX10_copyFrom_58 ?_
      refine lv_iload_n hx hb dX10_copyFrom_61 rfl (lv_at hl 0 rfl) ?_
      refine g_iald S hw (f := (up2 (up2 (up2 σ10 33 i10 (σ10 47 i10)) 34 i10 (σ10 48 i10)) 35 i10 (σ10 49 i10)) 50) (i := i10) (x := σ10 50 i10) 50 0 rfl rfl (by omega) (by decide) ((up2_rn (by omega)).trans ((up2_rn (by omega)).trans (up2_rn (by omega)))) dX10_copyFrom_62 ?_
      refine g_iast S hw (f := (up2 (up2 (up2 σ10 33 i10 (σ10 47 i10)) 34 i10 (σ10 48 i10)) 35 i10 (σ10 49 i10)) 36) (i := i10) 36 0 rfl rfl (by omega) (by decide) (w2 := wX cI cC cI2 a κ (up2 (up2 (up2 (up2 σ10 33 i10 (σ10 47 i10)) 34 i10 (σ10 48 i10)) 35 i10 (σ10 49 i10)) 36 i10 (σ10 50 i10))) (wX_a36 _ _ _ _ _ _ _ _) dX10_copyFrom_63 (fun H locs hw => ?_)
      refine lv_iinc (v := nI (i10 + 1)) (lv' := [(2, .int (nI (i10 + 1))), (0, .ref (a 32)), (1, .ref (a 46))]) hx hb dX10_copyFrom_64 hl (k := 0) rfl (nI_1 _) (by decide) rfl (fun ls hl => ?_)
      refine lv_goto (tgt := 10) hx hb dX10_copyFrom_67 (by decide) ?_
      exact ih10 (i10 + 1) (up2 (up2 (up2 (up2 σ10 33 i10 (σ10 47 i10)) 34 i10 (σ10 48 i10)) 35 i10 (σ10 49 i10)) 36 i10 (σ10 50 i10)) _ _ _ (by omega) hF10 hw (lv_sub hl [0, 1, 2] rfl)
  exact L10 12 0 (up2 σ 32 4 (σ 46 4)) _ _ _ (by omega) rfl hw (lv_sub hl [0, 1, 2] rfl)
def XP_note_r (κ : Nat → Nat) (σ : Nat → Nat → Int32) (pl : Nat) (c : Int32) (d : Int32) : Int32 := nI (pl + 1)
def XP_note_s (κ : Nat → Nat) (σ : Nat → Nat → Int32) (pl : Nat) (c : Int32) (d : Int32) : Nat → Nat → Int32 := up2 (up2 (up2 σ 38 pl c) 39 pl d) 37 4 (nI (pl + 1))
theorem XP_note_s_k (κ : Nat → Nat) (σ : Nat → Nat → Int32) (pl : Nat) (c : Int32) (d : Int32) (c9 : Nat) (q0 : c9 ≠ 37) (q1 : c9 ≠ 38) (q2 : c9 ≠ 39) : XP_note_s κ σ pl c d c9 = σ c9 := by
  unfold XP_note_s
  exact (up2_n _ _ _ q0).trans ((up2_n _ _ _ q2).trans (up2_n _ _ _ q1))
set_option maxHeartbeats 4000000 in
set_option maxRecDepth 100000 in
theorem c_XP_note (l : Launch) (D : va_G) (cI cC cI2 : ClassId) (a : Nat → Nat) (κ : Nat → Nat) (σ : Nat → Nat → Int32) (pl : Nat) (c : Int32) (d : Int32) (hp0 : σ 37 4 = nI pl) (hp1 : pl < 4) : gI l D (tysX cI cC cI2) yX5_note wsX5_note 1 [.ref (a 37), .int c, .int d] (wX cI cC cI2 a κ σ) (XP_note_r κ σ pl c d) (wX cI cC cI2 a κ (XP_note_s κ σ pl c d)) := by
  refine g_start (cc := cX5_note) (maxL := 3) (ret := some .int) (Qc := gQi D (tysX cI cC cI2) (XP_note_r κ σ pl c d) (wX cI cC cI2 a κ (XP_note_s κ σ pl c d))) (by decide) rfl (Nat.le_of_ble_eq_true rfl) ?_
  intro p e s m below meth C A ls S hr hlk hw hl
  obtain ⟨hx, hb, hml, hown, hts⟩ := id S
  have hinX5 : ∀ x ∈ u_ws RX5 TX5 6, x ∈ wsX5_note := fun x h => List.mem_cons_of_mem _ (List.mem_append_right _ h)
  have lk0 : Cond.fieldLink RX5 9 "CowsOwed$Plans" "his" "[I" ∈ wsX5_note := by decide +kernel
  have lk1 : Cond.fieldLink RX5 24 "CowsOwed$Plans" "size" "I" ∈ wsX5_note := by decide +kernel
  have lk2 : Cond.fieldLink RX5 15 "CowsOwed$Plans" "hers" "[I" ∈ wsX5_note := by decide +kernel
  have hl : lv_has ls 3 [(0, .ref (a 37)), (1, .int c), (2, .int d)] := hl
  refine lv_aload_n hx hb dX5_note_0 rfl (lv_at hl 0 rfl) ?_
  refine g_get S hw hinX5 (fs := fX37 a σ) 37 rfl rfl 0 (by decide) lk0 (v := .ref (a 38)) rfl dX5_note_1 ?_
  refine lv_aload_n hx hb dX5_note_4 rfl (lv_at hl 0 rfl) ?_
  refine g_get S hw hinX5 (fs := fX37 a σ) 37 rfl rfl 4 (by decide) lk1 (v := .int (nI pl)) (congrArg (fun z => some (Value.int z)) (hp0)) dX5_note_5 ?_
  refine lv_iload_n hx hb dX5_note_8 rfl (lv_at hl 1 rfl) ?_
  refine g_iast S hw (f := σ 38) (i := pl) 38 0 rfl rfl (by omega) (by decide) (w2 := wX cI cC cI2 a κ (up2 σ 38 pl c)) (wX_a38 _ _ _ _ _ _ _ _) dX5_note_9 (fun H locs hw => ?_)
  refine lv_aload_n hx hb dX5_note_10 rfl (lv_at hl 0 rfl) ?_
  refine g_get S hw hinX5 (fs := fX37 a (up2 σ 38 pl c)) 37 rfl rfl 1 (by decide) lk2 (v := .ref (a 39)) rfl dX5_note_11 ?_
  refine lv_aload_n hx hb dX5_note_14 rfl (lv_at hl 0 rfl) ?_
  refine g_get S hw hinX5 (fs := fX37 a (up2 σ 38 pl c)) 37 rfl rfl 4 (by decide) lk1 (v := .int (nI pl)) (congrArg (fun z => some (Value.int z)) ((up2_rn (by omega)).trans (hp0))) dX5_note_15 ?_
  refine lv_iload_n hx hb dX5_note_18 rfl (lv_at hl 2 rfl) ?_
  refine g_iast S hw (f := (up2 σ 38 pl c) 39) (i := pl) 39 0 rfl rfl (by omega) (by decide) (w2 := wX cI cC cI2 a κ (up2 (up2 σ 38 pl c) 39 pl d)) (wX_a39 _ _ _ _ _ _ _ _) dX5_note_19 (fun H locs hw => ?_)
  refine lv_aload_n hx hb dX5_note_20 rfl (lv_at hl 0 rfl) ?_
  refine lv_dup hx hb dX5_note_21 rfl ?_
  refine g_get S hw hinX5 (fs := fX37 a (up2 (up2 σ 38 pl c) 39 pl d)) 37 rfl rfl 4 (by decide) lk1 (v := .int (nI pl)) (congrArg (fun z => some (Value.int z)) (((up2_rn (by omega)).trans (up2_rn (by omega))).trans (hp0))) dX5_note_22 ?_
  refine lv_iconst (v := 1) hx hb dX5_note_25 (by decide) ?_
  refine ln_iadd (x := pl) (y := 1) hx hb dX5_note_26 ?_
  refine g_put S hw hinX5 tyX5 tyX5_ok nmX5 (fs := fX37 a (up2 (up2 σ 38 pl c) 39 pl d)) 37 rfl rfl 4 (by decide) lk1 rfl rfl rfl (Nat.le_of_ble_eq_true rfl) (w2 := wX cI cC cI2 a κ (up2 (up2 (up2 σ 38 pl c) 39 pl d) 37 4 (nI (pl + 1)))) (wX_f37_4 _ _ _ _ _ _ _) dX5_note_27 (fun H locs hw => ?_)
  refine lv_aload_n hx hb dX5_note_30 rfl (lv_at hl 0 rfl) ?_
  refine g_get S hw hinX5 (fs := fX37 a (up2 (up2 (up2 σ 38 pl c) 39 pl d) 37 4 (nI (pl + 1)))) 37 rfl rfl 4 (by decide) lk1 (v := .int (nI (pl + 1))) (congrArg (fun z => some (Value.int z)) (up2_rs)) dX5_note_31 ?_
  exact g_iret S hr hlk hw (by simp only [XP_note_r]) (by simp only [XP_note_s]) dX5_note_34
def XP_copyFrom_51_37_S10_0 (κ : Nat → Nat) (i10 : Nat) (σ10 : Nat → Nat → Int32) : Nat → Nat → Int32 := up2 (up2 σ10 52 i10 (σ10 38 i10)) 53 i10 (σ10 39 i10)
def XP_copyFrom_51_37_L10 (κ : Nat → Nat) : Nat → Nat → (Nat → Nat → Int32) → (Nat → Nat → Int32)
  | 0, _, σ10 => σ10
  | n10 + 1, i10, σ10 => XP_copyFrom_51_37_L10 κ n10 (i10 + 1) (XP_copyFrom_51_37_S10_0 κ i10 σ10)
theorem XP_copyFrom_51_37_S10_k (κ : Nat → Nat) (c9 : Nat) (q0 : c9 ≠ 52) (q1 : c9 ≠ 53) (i10 : Nat) (σ10 : Nat → Nat → Int32) : XP_copyFrom_51_37_S10_0 κ i10 σ10 c9 = σ10 c9 := by
  unfold XP_copyFrom_51_37_S10_0
  exact (up2_n _ _ _ q1).trans (up2_n _ _ _ q0)
theorem XP_copyFrom_51_37_L10_k (κ : Nat → Nat) (c9 : Nat) (q0 : c9 ≠ 52) (q1 : c9 ≠ 53) : ∀ (n10 i10 : Nat) (σ10 : Nat → Nat → Int32), (XP_copyFrom_51_37_L10 κ n10 i10 σ10) c9 = σ10 c9 := by
  intro n10
  induction n10 with
  | zero => intros; rfl
  | succ n10 ih => intro i10 σ10; exact (ih (i10 + 1) (XP_copyFrom_51_37_S10_0 κ i10 σ10)).trans (XP_copyFrom_51_37_S10_k κ c9 q0 q1 i10 σ10)
def XP_copyFrom_51_37_s (κ : Nat → Nat) (σ : Nat → Nat → Int32) : Nat → Nat → Int32 := (XP_copyFrom_51_37_L10 κ 4 0 (up2 σ 51 4 (σ 37 4)))
theorem XP_copyFrom_51_37_s_k (κ : Nat → Nat) (σ : Nat → Nat → Int32) (c9 : Nat) (q0 : c9 ≠ 51) (q1 : c9 ≠ 52) (q2 : c9 ≠ 53) : XP_copyFrom_51_37_s κ σ c9 = σ c9 := by
  unfold XP_copyFrom_51_37_s
  exact (XP_copyFrom_51_37_L10_k κ c9 q1 q2 4 0 (up2 σ 51 4 (σ 37 4))).trans (up2_n _ _ _ q0)
set_option maxHeartbeats 4000000 in
set_option maxRecDepth 100000 in
theorem c_XP_copyFrom_51_37 (l : Launch) (D : va_G) (cI cC cI2 : ClassId) (a : Nat → Nat) (κ : Nat → Nat) (σ : Nat → Nat → Int32) : gV l D (tysX cI cC cI2) yX5_copyFrom wsX5_copyFrom 1 [.ref (a 51), .ref (a 37)] (wX cI cC cI2 a κ σ)  (wX cI cC cI2 a κ (XP_copyFrom_51_37_s κ σ)) := by
  refine g_start (cc := cX5_copyFrom) (maxL := 3) (ret := none) (Qc := gQv D (tysX cI cC cI2) (wX cI cC cI2 a κ (XP_copyFrom_51_37_s κ σ))) (by decide) rfl (Nat.le_of_ble_eq_true rfl) ?_
  intro p e s m below meth C A ls S hr hlk hw hl
  obtain ⟨hx, hb, hml, hown, hts⟩ := id S
  have hinX5 : ∀ x ∈ u_ws RX5 TX5 6, x ∈ wsX5_copyFrom := fun x h => List.mem_cons_of_mem _ (List.mem_append_right _ h)
  have lk0 : Cond.fieldLink RX5 24 "CowsOwed$Plans" "size" "I" ∈ wsX5_copyFrom := by decide +kernel
  have lk1 : Cond.fieldLink RX5 9 "CowsOwed$Plans" "his" "[I" ∈ wsX5_copyFrom := by decide +kernel
  have lk2 : Cond.fieldLink RX5 15 "CowsOwed$Plans" "hers" "[I" ∈ wsX5_copyFrom := by decide +kernel
  have hl : lv_has ls 3 [(0, .ref (a 51)), (1, .ref (a 37))] := hl
  refine lv_aload_n hx hb dX5_copyFrom_0 rfl (lv_at hl 0 rfl) ?_
  refine lv_aload_n hx hb dX5_copyFrom_1 rfl (lv_at hl 1 rfl) ?_
  refine g_get S hw hinX5 (fs := fX37 a σ) 37 rfl rfl 4 (by decide) lk0 (v := .int (σ 37 4)) rfl dX5_copyFrom_2 ?_
  refine g_put S hw hinX5 tyX5 tyX5_ok nmX5 (fs := fX51 a σ) 51 rfl rfl 4 (by decide) lk0 rfl rfl rfl (Nat.le_of_ble_eq_true rfl) (w2 := wX cI cC cI2 a κ (up2 σ 51 4 (σ 37 4))) (wX_f51_4 _ _ _ _ _ _ _) dX5_copyFrom_5 (fun H locs hw => ?_)
  refine lv_iconst (v := 0) hx hb dX5_copyFrom_8 (by decide) ?_
  refine lv_istore_n (lv' := [(2, .int 0), (0, .ref (a 51)), (1, .ref (a 37))]) hx hb dX5_copyFrom_9 rfl hl (by decide) rfl (fun ls hl => ?_)
  have L10 : ∀ (n10 i10 : Nat) (σ10 : Nat → Nat → Int32) (H : Heap) (locs : List Loc) (ls : Array Slot), i10 + n10 = 4 → XP_copyFrom_51_37_L10 κ n10 i10 σ10 = XP_copyFrom_51_37_L10 κ 4 0 (up2 σ 51 4 (σ 37 4)) → gw D (tysX cI cC cI2) A s H locs (wX cI cC cI2 a κ σ10) → lv_has ls 3 [(2, .int (nI i10)), (0, .ref (a 51)), (1, .ref (a 37))] → W p l e (gR 1) s m ([.ref (a 51), .ref (a 37)] : List Value).toArray below meth C H locs 0 0 (MQ below (gQv D (tysX cI cC cI2) (wX cI cC cI2 a κ (XP_copyFrom_51_37_s κ σ)) A) ([.ref (a 51), .ref (a 37)] : List Value).toArray s 0 0 A) (F0 m 10 ls []) := by
    intro n10
    induction n10 with
    | zero =>
      intro i10 σ10 H locs ls hi10 hF10 hw hl
      refine lv_iload_n hx hb dX5_copyFrom_10 rfl (lv_at hl 0 rfl) ?_
      refine lv_iconst (v := 4) hx hb dX5_copyFrom_11 (by decide) ?_
      refine ln_ge (x := i10) (y := 4) hx hb (by omega) (by omega) (tgt := 45) dX5_copyFrom_12 (by decide) (fun c_x => ?_) (fun c_x => absurd (by omega) c_x)
      have hz10 : 4 = i10 := by omega
      subst hz10
      have e10_0 : (XP_copyFrom_51_37_L10 κ 4 0 (up2 σ 51 4 (σ 37 4))) = σ10 := hF10.symm
      subst e10_0
      exact g_vret S hr hlk hw (by simp only [XP_copyFrom_51_37_s]) dX5_copyFrom_45
    | succ n10 ih10 =>
      intro i10 σ10 H locs ls hi10 hF10 hw hl
      refine lv_iload_n hx hb dX5_copyFrom_10 rfl (lv_at hl 0 rfl) ?_
      refine lv_iconst (v := 4) hx hb dX5_copyFrom_11 (by decide) ?_
      refine ln_ge (x := i10) (y := 4) hx hb (by omega) (by omega) (tgt := 45) dX5_copyFrom_12 (by decide) (fun c_x => absurd c_x (by omega)) (fun c_x => ?_)
      refine lv_aload_n hx hb dX5_copyFrom_15 rfl (lv_at hl 1 rfl) ?_
      refine g_get S hw hinX5 (fs := fX51 a σ10) 51 rfl rfl 0 (by decide) lk1 (v := .ref (a 52)) rfl dX5_copyFrom_16 ?_
      refine lv_iload_n hx hb dX5_copyFrom_19 rfl (lv_at hl 0 rfl) ?_
      refine lv_aload_n hx hb dX5_copyFrom_20 rfl (lv_at hl 2 rfl) ?_
      refine g_get S hw hinX5 (fs := fX37 a σ10) 37 rfl rfl 0 (by decide) lk1 (v := .ref (a 38)) rfl dX5_copyFrom_21 ?_
      refine lv_iload_n hx hb dX5_copyFrom_24 rfl (lv_at hl 0 rfl) ?_
      refine g_iald S hw (f := σ10 38) (i := i10) (x := σ10 38 i10) 38 0 rfl rfl (by omega) (by decide) rfl dX5_copyFrom_25 ?_
      refine g_iast S hw (f := σ10 52) (i := i10) 52 0 rfl rfl (by omega) (by decide) (w2 := wX cI cC cI2 a κ (up2 σ10 52 i10 (σ10 38 i10))) (wX_a52 _ _ _ _ _ _ _ _) dX5_copyFrom_26 (fun H locs hw => ?_)
      refine lv_aload_n hx hb dX5_copyFrom_27 rfl (lv_at hl 1 rfl) ?_
      refine g_get S hw hinX5 (fs := fX51 a (up2 σ10 52 i10 (σ10 38 i10))) 51 rfl rfl 1 (by decide) lk2 (v := .ref (a 53)) rfl dX5_copyFrom_28 ?_
      refine lv_iload_n hx hb dX5_copyFrom_31 rfl (lv_at hl 0 rfl) ?_
      refine lv_aload_n hx hb dX5_copyFrom_32 rfl (lv_at hl 2 rfl) ?_
      refine g_get S hw hinX5 (fs := fX37 a (up2 σ10 52 i10 (σ10 38 i10))) 37 rfl rfl 1 (by decide) lk2 (v := .ref (a 39)) rfl dX5_copyFrom_33 ?_
      refine lv_iload_n hx hb dX5_copyFrom_36 rfl (lv_at hl 0 rfl) ?_
      refine g_iald S hw (f := (up2 σ10 52 i10 (σ10 38 i10)) 39) (i := i10) (x := σ10 39 i10) 39 0 rfl rfl (by omega) (by decide) (up2_rn (by omega)) dX5_copyFrom_37 ?_
      refine g_iast S hw (f := (up2 σ10 52 i10 (σ10 38 i10)) 53) (i := i10) 53 0 rfl rfl (by omega) (by decide) (w2 := wX cI cC cI2 a κ (up2 (up2 σ10 52 i10 (σ10 38 i10)) 53 i10 (σ10 39 i10))) (wX_a53 _ _ _ _ _ _ _ _) dX5_copyFrom_38 (fun H locs hw => ?_)
      refine lv_iinc (v := nI (i10 + 1)) (lv' := [(2, .int (nI (i10 + 1))), (0, .ref (a 51)), (1, .ref (a 37))]) hx hb dX5_copyFrom_39 hl (k := 0) rfl (nI_1 _) (by decide) rfl (fun ls hl => ?_)
      refine lv_goto (tgt := 10) hx hb dX5_copyFrom_42 (by decide) ?_
      exact ih10 (i10 + 1) (up2 (up2 σ10 52 i10 (σ10 38 i10)) 53 i10 (σ10 39 i10)) _ _ _ (by omega) hF10 hw (lv_sub hl [0, 1, 2] rfl)
  exact L10 4 0 (up2 σ 51 4 (σ 37 4)) _ _ _ (by omega) rfl hw (lv_sub hl [0, 1, 2] rfl)
def XP_copyFrom_37_51_S10_0 (κ : Nat → Nat) (i10 : Nat) (σ10 : Nat → Nat → Int32) : Nat → Nat → Int32 := up2 (up2 σ10 38 i10 (σ10 52 i10)) 39 i10 (σ10 53 i10)
def XP_copyFrom_37_51_L10 (κ : Nat → Nat) : Nat → Nat → (Nat → Nat → Int32) → (Nat → Nat → Int32)
  | 0, _, σ10 => σ10
  | n10 + 1, i10, σ10 => XP_copyFrom_37_51_L10 κ n10 (i10 + 1) (XP_copyFrom_37_51_S10_0 κ i10 σ10)
theorem XP_copyFrom_37_51_S10_k (κ : Nat → Nat) (c9 : Nat) (q0 : c9 ≠ 38) (q1 : c9 ≠ 39) (i10 : Nat) (σ10 : Nat → Nat → Int32) : XP_copyFrom_37_51_S10_0 κ i10 σ10 c9 = σ10 c9 := by
  unfold XP_copyFrom_37_51_S10_0
  exact (up2_n _ _ _ q1).trans (up2_n _ _ _ q0)
theorem XP_copyFrom_37_51_L10_k (κ : Nat → Nat) (c9 : Nat) (q0 : c9 ≠ 38) (q1 : c9 ≠ 39) : ∀ (n10 i10 : Nat) (σ10 : Nat → Nat → Int32), (XP_copyFrom_37_51_L10 κ n10 i10 σ10) c9 = σ10 c9 := by
  intro n10
  induction n10 with
  | zero => intros; rfl
  | succ n10 ih => intro i10 σ10; exact (ih (i10 + 1) (XP_copyFrom_37_51_S10_0 κ i10 σ10)).trans (XP_copyFrom_37_51_S10_k κ c9 q0 q1 i10 σ10)
def XP_copyFrom_37_51_s (κ : Nat → Nat) (σ : Nat → Nat → Int32) : Nat → Nat → Int32 := (XP_copyFrom_37_51_L10 κ 4 0 (up2 σ 37 4 (σ 51 4)))
theorem XP_copyFrom_37_51_s_k (κ : Nat → Nat) (σ : Nat → Nat → Int32) (c9 : Nat) (q0 : c9 ≠ 37) (q1 : c9 ≠ 38) (q2 : c9 ≠ 39) : XP_copyFrom_37_51_s κ σ c9 = σ c9 := by
  unfold XP_copyFrom_37_51_s
  exact (XP_copyFrom_37_51_L10_k κ c9 q1 q2 4 0 (up2 σ 37 4 (σ 51 4))).trans (up2_n _ _ _ q0)
set_option maxHeartbeats 4000000 in
set_option maxRecDepth 100000 in
theorem c_XP_copyFrom_37_51 (l : Launch) (D : va_G) (cI cC cI2 : ClassId) (a : Nat → Nat) (κ : Nat → Nat) (σ : Nat → Nat → Int32) : gV l D (tysX cI cC cI2) yX5_copyFrom wsX5_copyFrom 1 [.ref (a 37), .ref (a 51)] (wX cI cC cI2 a κ σ)  (wX cI cC cI2 a κ (XP_copyFrom_37_51_s κ σ)) := by
  refine g_start (cc := cX5_copyFrom) (maxL := 3) (ret := none) (Qc := gQv D (tysX cI cC cI2) (wX cI cC cI2 a κ (XP_copyFrom_37_51_s κ σ))) (by decide) rfl (Nat.le_of_ble_eq_true rfl) ?_
  intro p e s m below meth C A ls S hr hlk hw hl
  obtain ⟨hx, hb, hml, hown, hts⟩ := id S
  have hinX5 : ∀ x ∈ u_ws RX5 TX5 6, x ∈ wsX5_copyFrom := fun x h => List.mem_cons_of_mem _ (List.mem_append_right _ h)
  have lk0 : Cond.fieldLink RX5 24 "CowsOwed$Plans" "size" "I" ∈ wsX5_copyFrom := by decide +kernel
  have lk1 : Cond.fieldLink RX5 9 "CowsOwed$Plans" "his" "[I" ∈ wsX5_copyFrom := by decide +kernel
  have lk2 : Cond.fieldLink RX5 15 "CowsOwed$Plans" "hers" "[I" ∈ wsX5_copyFrom := by decide +kernel
  have hl : lv_has ls 3 [(0, .ref (a 37)), (1, .ref (a 51))] := hl
  refine lv_aload_n hx hb dX5_copyFrom_0 rfl (lv_at hl 0 rfl) ?_
  refine lv_aload_n hx hb dX5_copyFrom_1 rfl (lv_at hl 1 rfl) ?_
  refine g_get S hw hinX5 (fs := fX51 a σ) 51 rfl rfl 4 (by decide) lk0 (v := .int (σ 51 4)) rfl dX5_copyFrom_2 ?_
  refine g_put S hw hinX5 tyX5 tyX5_ok nmX5 (fs := fX37 a σ) 37 rfl rfl 4 (by decide) lk0 rfl rfl rfl (Nat.le_of_ble_eq_true rfl) (w2 := wX cI cC cI2 a κ (up2 σ 37 4 (σ 51 4))) (wX_f37_4 _ _ _ _ _ _ _) dX5_copyFrom_5 (fun H locs hw => ?_)
  refine lv_iconst (v := 0) hx hb dX5_copyFrom_8 (by decide) ?_
  refine lv_istore_n (lv' := [(2, .int 0), (0, .ref (a 37)), (1, .ref (a 51))]) hx hb dX5_copyFrom_9 rfl hl (by decide) rfl (fun ls hl => ?_)
  have L10 : ∀ (n10 i10 : Nat) (σ10 : Nat → Nat → Int32) (H : Heap) (locs : List Loc) (ls : Array Slot), i10 + n10 = 4 → XP_copyFrom_37_51_L10 κ n10 i10 σ10 = XP_copyFrom_37_51_L10 κ 4 0 (up2 σ 37 4 (σ 51 4)) → gw D (tysX cI cC cI2) A s H locs (wX cI cC cI2 a κ σ10) → lv_has ls 3 [(2, .int (nI i10)), (0, .ref (a 37)), (1, .ref (a 51))] → W p l e (gR 1) s m ([.ref (a 37), .ref (a 51)] : List Value).toArray below meth C H locs 0 0 (MQ below (gQv D (tysX cI cC cI2) (wX cI cC cI2 a κ (XP_copyFrom_37_51_s κ σ)) A) ([.ref (a 37), .ref (a 51)] : List Value).toArray s 0 0 A) (F0 m 10 ls []) := by
    intro n10
    induction n10 with
    | zero =>
      intro i10 σ10 H locs ls hi10 hF10 hw hl
      refine lv_iload_n hx hb dX5_copyFrom_10 rfl (lv_at hl 0 rfl) ?_
      refine lv_iconst (v := 4) hx hb dX5_copyFrom_11 (by decide) ?_
      refine ln_ge (x := i10) (y := 4) hx hb (by omega) (by omega) (tgt := 45) dX5_copyFrom_12 (by decide) (fun c_x => ?_) (fun c_x => absurd (by omega) c_x)
      have hz10 : 4 = i10 := by omega
      subst hz10
      have e10_0 : (XP_copyFrom_37_51_L10 κ 4 0 (up2 σ 37 4 (σ 51 4))) = σ10 := hF10.symm
      subst e10_0
      exact g_vret S hr hlk hw (by simp only [XP_copyFrom_37_51_s]) dX5_copyFrom_45
    | succ n10 ih10 =>
      intro i10 σ10 H locs ls hi10 hF10 hw hl
      refine lv_iload_n hx hb dX5_copyFrom_10 rfl (lv_at hl 0 rfl) ?_
      refine lv_iconst (v := 4) hx hb dX5_copyFrom_11 (by decide) ?_
      refine ln_ge (x := i10) (y := 4) hx hb (by omega) (by omega) (tgt := 45) dX5_copyFrom_12 (by decide) (fun c_x => absurd c_x (by omega)) (fun c_x => ?_)
      refine lv_aload_n hx hb dX5_copyFrom_15 rfl (lv_at hl 1 rfl) ?_
      refine g_get S hw hinX5 (fs := fX37 a σ10) 37 rfl rfl 0 (by decide) lk1 (v := .ref (a 38)) rfl dX5_copyFrom_16 ?_
      refine lv_iload_n hx hb dX5_copyFrom_19 rfl (lv_at hl 0 rfl) ?_
      refine lv_aload_n hx hb dX5_copyFrom_20 rfl (lv_at hl 2 rfl) ?_
      refine g_get S hw hinX5 (fs := fX51 a σ10) 51 rfl rfl 0 (by decide) lk1 (v := .ref (a 52)) rfl dX5_copyFrom_21 ?_
      refine lv_iload_n hx hb dX5_copyFrom_24 rfl (lv_at hl 0 rfl) ?_
      refine g_iald S hw (f := σ10 52) (i := i10) (x := σ10 52 i10) 52 0 rfl rfl (by omega) (by decide) rfl dX5_copyFrom_25 ?_
      refine g_iast S hw (f := σ10 38) (i := i10) 38 0 rfl rfl (by omega) (by decide) (w2 := wX cI cC cI2 a κ (up2 σ10 38 i10 (σ10 52 i10))) (wX_a38 _ _ _ _ _ _ _ _) dX5_copyFrom_26 (fun H locs hw => ?_)
      refine lv_aload_n hx hb dX5_copyFrom_27 rfl (lv_at hl 1 rfl) ?_
      refine g_get S hw hinX5 (fs := fX37 a (up2 σ10 38 i10 (σ10 52 i10))) 37 rfl rfl 1 (by decide) lk2 (v := .ref (a 39)) rfl dX5_copyFrom_28 ?_
      refine lv_iload_n hx hb dX5_copyFrom_31 rfl (lv_at hl 0 rfl) ?_
      refine lv_aload_n hx hb dX5_copyFrom_32 rfl (lv_at hl 2 rfl) ?_
      refine g_get S hw hinX5 (fs := fX51 a (up2 σ10 38 i10 (σ10 52 i10))) 51 rfl rfl 1 (by decide) lk2 (v := .ref (a 53)) rfl dX5_copyFrom_33 ?_
      refine lv_iload_n hx hb dX5_copyFrom_36 rfl (lv_at hl 0 rfl) ?_
      refine g_iald S hw (f := (up2 σ10 38 i10 (σ10 52 i10)) 53) (i := i10) (x := σ10 53 i10) 53 0 rfl rfl (by omega) (by decide) (up2_rn (by omega)) dX5_copyFrom_37 ?_
      refine g_iast S hw (f := (up2 σ10 38 i10 (σ10 52 i10)) 39) (i := i10) 39 0 rfl rfl (by omega) (by decide) (w2 := wX cI cC cI2 a κ (up2 (up2 σ10 38 i10 (σ10 52 i10)) 39 i10 (σ10 53 i10))) (wX_a39 _ _ _ _ _ _ _ _) dX5_copyFrom_38 (fun H locs hw => ?_)
      refine lv_iinc (v := nI (i10 + 1)) (lv' := [(2, .int (nI (i10 + 1))), (0, .ref (a 37)), (1, .ref (a 51))]) hx hb dX5_copyFrom_39 hl (k := 0) rfl (nI_1 _) (by decide) rfl (fun ls hl => ?_)
      refine lv_goto (tgt := 10) hx hb dX5_copyFrom_42 (by decide) ?_
      exact ih10 (i10 + 1) (up2 (up2 σ10 38 i10 (σ10 52 i10)) 39 i10 (σ10 53 i10)) _ _ _ (by omega) hF10 hw (lv_sub hl [0, 1, 2] rfl)
  exact L10 4 0 (up2 σ 37 4 (σ 51 4)) _ _ _ (by omega) rfl hw (lv_sub hl [0, 1, 2] rfl)
def XP_startOrders_S2_0 (κ : Nat → Nat) (i2 : Nat) (σ2 : Nat → Nat → Int32) : Nat → Nat → Int32 := up2 σ2 40 i2 (nI i2)
def XP_startOrders_L2 (κ : Nat → Nat) : Nat → Nat → (Nat → Nat → Int32) → (Nat → Nat → Int32)
  | 0, _, σ2 => σ2
  | n2 + 1, i2, σ2 => XP_startOrders_L2 κ n2 (i2 + 1) (XP_startOrders_S2_0 κ i2 σ2)
theorem XP_startOrders_S2_k (κ : Nat → Nat) (c9 : Nat) (q0 : c9 ≠ 40) (i2 : Nat) (σ2 : Nat → Nat → Int32) : XP_startOrders_S2_0 κ i2 σ2 c9 = σ2 c9 := by
  unfold XP_startOrders_S2_0
  exact up2_n _ _ _ q0
theorem XP_startOrders_L2_k (κ : Nat → Nat) (c9 : Nat) (q0 : c9 ≠ 40) : ∀ (n2 i2 : Nat) (σ2 : Nat → Nat → Int32), (XP_startOrders_L2 κ n2 i2 σ2) c9 = σ2 c9 := by
  intro n2
  induction n2 with
  | zero => intros; rfl
  | succ n2 ih => intro i2 σ2; exact (ih (i2 + 1) (XP_startOrders_S2_0 κ i2 σ2)).trans (XP_startOrders_S2_k κ c9 q0 i2 σ2)
def XP_startOrders_s (κ : Nat → Nat) (σ : Nat → Nat → Int32) : Nat → Nat → Int32 := (XP_startOrders_L2 κ 4 0 σ)
theorem XP_startOrders_s_k (κ : Nat → Nat) (σ : Nat → Nat → Int32) (c9 : Nat) (q0 : c9 ≠ 40) : XP_startOrders_s κ σ c9 = σ c9 := by
  unfold XP_startOrders_s
  exact XP_startOrders_L2_k κ c9 q0 4 0 σ
set_option maxHeartbeats 4000000 in
set_option maxRecDepth 100000 in
theorem c_XP_startOrders (l : Launch) (D : va_G) (cI cC cI2 : ClassId) (a : Nat → Nat) (κ : Nat → Nat) (σ : Nat → Nat → Int32) : gV l D (tysX cI cC cI2) yX5_startOrders wsX5_startOrders 1 [.ref (a 37)] (wX cI cC cI2 a κ σ)  (wX cI cC cI2 a κ (XP_startOrders_s κ σ)) := by
  refine g_start (cc := cX5_startOrders) (maxL := 2) (ret := none) (Qc := gQv D (tysX cI cC cI2) (wX cI cC cI2 a κ (XP_startOrders_s κ σ))) (by decide) rfl (Nat.le_of_ble_eq_true rfl) ?_
  intro p e s m below meth C A ls S hr hlk hw hl
  obtain ⟨hx, hb, hml, hown, hts⟩ := id S
  have hinX5 : ∀ x ∈ u_ws RX5 TX5 6, x ∈ wsX5_startOrders := fun x h => List.mem_cons_of_mem _ (List.mem_append_right _ h)
  have lk0 : Cond.fieldLink RX5 18 "CowsOwed$Plans" "tried" "[I" ∈ wsX5_startOrders := by decide +kernel
  have hl : lv_has ls 2 [(0, .ref (a 37))] := hl
  refine lv_iconst (v := 0) hx hb dX5_startOrders_0 (by decide) ?_
  refine lv_istore_n (lv' := [(1, .int 0), (0, .ref (a 37))]) hx hb dX5_startOrders_1 rfl hl (by decide) rfl (fun ls hl => ?_)
  have L2 : ∀ (n2 i2 : Nat) (σ2 : Nat → Nat → Int32) (H : Heap) (locs : List Loc) (ls : Array Slot), i2 + n2 = 4 → XP_startOrders_L2 κ n2 i2 σ2 = XP_startOrders_L2 κ 4 0 σ → gw D (tysX cI cC cI2) A s H locs (wX cI cC cI2 a κ σ2) → lv_has ls 2 [(1, .int (nI i2)), (0, .ref (a 37))] → W p l e (gR 1) s m ([.ref (a 37)] : List Value).toArray below meth C H locs 0 0 (MQ below (gQv D (tysX cI cC cI2) (wX cI cC cI2 a κ (XP_startOrders_s κ σ)) A) ([.ref (a 37)] : List Value).toArray s 0 0 A) (F0 m 2 ls []) := by
    intro n2
    induction n2 with
    | zero =>
      intro i2 σ2 H locs ls hi2 hF2 hw hl
      refine lv_iload_n hx hb dX5_startOrders_2 rfl (lv_at hl 0 rfl) ?_
      refine lv_iconst (v := 4) hx hb dX5_startOrders_3 (by decide) ?_
      refine ln_ge (x := i2) (y := 4) hx hb (by omega) (by omega) (tgt := 20) dX5_startOrders_4 (by decide) (fun c_x => ?_) (fun c_x => absurd (by omega) c_x)
      have hz2 : 4 = i2 := by omega
      subst hz2
      have e2_0 : (XP_startOrders_L2 κ 4 0 σ) = σ2 := hF2.symm
      subst e2_0
      exact g_vret S hr hlk hw (by simp only [XP_startOrders_s]) dX5_startOrders_20
    | succ n2 ih2 =>
      intro i2 σ2 H locs ls hi2 hF2 hw hl
      refine lv_iload_n hx hb dX5_startOrders_2 rfl (lv_at hl 0 rfl) ?_
      refine lv_iconst (v := 4) hx hb dX5_startOrders_3 (by decide) ?_
      refine ln_ge (x := i2) (y := 4) hx hb (by omega) (by omega) (tgt := 20) dX5_startOrders_4 (by decide) (fun c_x => absurd c_x (by omega)) (fun c_x => ?_)
      refine lv_aload_n hx hb dX5_startOrders_7 rfl (lv_at hl 1 rfl) ?_
      refine g_get S hw hinX5 (fs := fX37 a σ2) 37 rfl rfl 2 (by decide) lk0 (v := .ref (a 40)) rfl dX5_startOrders_8 ?_
      refine lv_iload_n hx hb dX5_startOrders_11 rfl (lv_at hl 0 rfl) ?_
      refine lv_iload_n hx hb dX5_startOrders_12 rfl (lv_at hl 0 rfl) ?_
      refine g_iast S hw (f := σ2 40) (i := i2) 40 0 rfl rfl (by omega) (by decide) (w2 := wX cI cC cI2 a κ (up2 σ2 40 i2 (nI i2))) (wX_a40 _ _ _ _ _ _ _ _) dX5_startOrders_13 (fun H locs hw => ?_)
      refine lv_iinc (v := nI (i2 + 1)) (lv' := [(1, .int (nI (i2 + 1))), (0, .ref (a 37))]) hx hb dX5_startOrders_14 hl (k := 0) rfl (nI_1 _) (by decide) rfl (fun ls hl => ?_)
      refine lv_goto (tgt := 2) hx hb dX5_startOrders_17 (by decide) ?_
      exact ih2 (i2 + 1) (up2 σ2 40 i2 (nI i2)) _ _ _ (by omega) hF2 hw (lv_sub hl [0, 1] rfl)
  exact L2 4 0 σ _ _ _ (by omega) rfl hw (lv_sub hl [0, 1] rfl)
def XP_swapTried_s (κ : Nat → Nat) (σ : Nat → Nat → Int32) (c : Nat) (d : Nat) : Nat → Nat → Int32 := up2 (up2 σ 40 c (σ 40 d)) 40 d (σ 40 c)
theorem XP_swapTried_s_k (κ : Nat → Nat) (σ : Nat → Nat → Int32) (c : Nat) (d : Nat) (c9 : Nat) (q0 : c9 ≠ 40) : XP_swapTried_s κ σ c d c9 = σ c9 := by
  unfold XP_swapTried_s
  exact (up2_n _ _ _ q0).trans (up2_n _ _ _ q0)
set_option maxHeartbeats 4000000 in
set_option maxRecDepth 100000 in
theorem c_XP_swapTried (l : Launch) (D : va_G) (cI cC cI2 : ClassId) (a : Nat → Nat) (κ : Nat → Nat) (σ : Nat → Nat → Int32) (c : Nat) (d : Nat) (hc : c < 4) (hd : d < 4) : gV l D (tysX cI cC cI2) yX5_swapTried wsX5_swapTried 1 [.ref (a 37), .int (nI c), .int (nI d)] (wX cI cC cI2 a κ σ)  (wX cI cC cI2 a κ (XP_swapTried_s κ σ c d)) := by
  refine g_start (cc := cX5_swapTried) (maxL := 4) (ret := none) (Qc := gQv D (tysX cI cC cI2) (wX cI cC cI2 a κ (XP_swapTried_s κ σ c d))) (by decide) rfl (Nat.le_of_ble_eq_true rfl) ?_
  intro p e s m below meth C A ls S hr hlk hw hl
  obtain ⟨hx, hb, hml, hown, hts⟩ := id S
  have hinX5 : ∀ x ∈ u_ws RX5 TX5 6, x ∈ wsX5_swapTried := fun x h => List.mem_cons_of_mem _ (List.mem_append_right _ h)
  have lk0 : Cond.fieldLink RX5 18 "CowsOwed$Plans" "tried" "[I" ∈ wsX5_swapTried := by decide +kernel
  have hl : lv_has ls 4 [(0, .ref (a 37)), (1, .int (nI c)), (2, .int (nI d))] := hl
  refine lv_aload_n hx hb dX5_swapTried_0 rfl (lv_at hl 0 rfl) ?_
  refine g_get S hw hinX5 (fs := fX37 a σ) 37 rfl rfl 2 (by decide) lk0 (v := .ref (a 40)) rfl dX5_swapTried_1 ?_
  refine lv_iload_n hx hb dX5_swapTried_4 rfl (lv_at hl 1 rfl) ?_
  refine g_iald S hw (f := σ 40) (i := c) (x := σ 40 c) 40 0 rfl rfl (by omega) (by decide) rfl dX5_swapTried_5 ?_
  refine lv_istore_n (lv' := [(3, .int (σ 40 c)), (0, .ref (a 37)), (1, .int (nI c)), (2, .int (nI d))]) hx hb dX5_swapTried_6 rfl hl (by decide) rfl (fun ls hl => ?_)
  refine lv_aload_n hx hb dX5_swapTried_7 rfl (lv_at hl 1 rfl) ?_
  refine g_get S hw hinX5 (fs := fX37 a σ) 37 rfl rfl 2 (by decide) lk0 (v := .ref (a 40)) rfl dX5_swapTried_8 ?_
  refine lv_iload_n hx hb dX5_swapTried_11 rfl (lv_at hl 2 rfl) ?_
  refine lv_aload_n hx hb dX5_swapTried_12 rfl (lv_at hl 1 rfl) ?_
  refine g_get S hw hinX5 (fs := fX37 a σ) 37 rfl rfl 2 (by decide) lk0 (v := .ref (a 40)) rfl dX5_swapTried_13 ?_
  refine lv_iload_n hx hb dX5_swapTried_16 rfl (lv_at hl 3 rfl) ?_
  refine g_iald S hw (f := σ 40) (i := d) (x := σ 40 d) 40 0 rfl rfl (by omega) (by decide) rfl dX5_swapTried_17 ?_
  refine g_iast S hw (f := σ 40) (i := c) 40 0 rfl rfl (by omega) (by decide) (w2 := wX cI cC cI2 a κ (up2 σ 40 c (σ 40 d))) (wX_a40 _ _ _ _ _ _ _ _) dX5_swapTried_18 (fun H locs hw => ?_)
  refine lv_aload_n hx hb dX5_swapTried_19 rfl (lv_at hl 1 rfl) ?_
  refine g_get S hw hinX5 (fs := fX37 a (up2 σ 40 c (σ 40 d))) 37 rfl rfl 2 (by decide) lk0 (v := .ref (a 40)) rfl dX5_swapTried_20 ?_
  refine lv_iload_n hx hb dX5_swapTried_23 rfl (lv_at hl 3 rfl) ?_
  refine lv_iload_n hx hb dX5_swapTried_24 rfl (lv_at hl 0 rfl) ?_
  refine g_iast S hw (f := (up2 σ 40 c (σ 40 d)) 40) (i := d) 40 0 rfl rfl (by omega) (by decide) (w2 := wX cI cC cI2 a κ (up2 (up2 σ 40 c (σ 40 d)) 40 d (σ 40 c))) (wX_a40 _ _ _ _ _ _ _ _) dX5_swapTried_25 (fun H locs hw => ?_)
  exact g_vret S hr hlk hw (by simp only [XP_swapTried_s]) dX5_swapTried_26
def XP_bestAt_r (κ : Nat → Nat) (σ : Nat → Nat → Int32) (pl : Nat) (c : Int32) : Int32 := if c < 0 then (-1) else (if (nI pl) ≤ c then (-1) else (σ 41 c.toNatClampNeg))
set_option maxHeartbeats 4000000 in
set_option maxRecDepth 100000 in
theorem c_XP_bestAt (l : Launch) (D : va_G) (cI cC cI2 : ClassId) (a : Nat → Nat) (κ : Nat → Nat) (σ : Nat → Nat → Int32) (pl : Nat) (c : Int32) (hp0 : σ 37 4 = nI pl) (hp0b : pl ≤ 4) : gI l D (tysX cI cC cI2) yX5_bestAt wsX5_bestAt 1 [.ref (a 37), .int c] (wX cI cC cI2 a κ σ) (XP_bestAt_r κ σ pl c) (wX cI cC cI2 a κ σ) := by
  refine g_start (cc := cX5_bestAt) (maxL := 2) (ret := some .int) (Qc := gQi D (tysX cI cC cI2) (XP_bestAt_r κ σ pl c) (wX cI cC cI2 a κ σ)) (by decide) rfl (Nat.le_of_ble_eq_true rfl) ?_
  intro p e s m below meth C A ls S hr hlk hw hl
  obtain ⟨hx, hb, hml, hown, hts⟩ := id S
  have hinX5 : ∀ x ∈ u_ws RX5 TX5 6, x ∈ wsX5_bestAt := fun x h => List.mem_cons_of_mem _ (List.mem_append_right _ h)
  have lk0 : Cond.fieldLink RX5 24 "CowsOwed$Plans" "size" "I" ∈ wsX5_bestAt := by decide +kernel
  have lk1 : Cond.fieldLink RX5 21 "CowsOwed$Plans" "best" "[I" ∈ wsX5_bestAt := by decide +kernel
  have hl : lv_has ls 2 [(0, .ref (a 37)), (1, .int c)] := hl
  refine lv_iload_n hx hb dX5_bestAt_0 rfl (lv_at hl 1 rfl) ?_
  refine lv_if_lt hx hb (tgt := 21) dX5_bestAt_1 (by decide) (fun c_1 => ?_) (fun c_1 => ?_)
  · refine lv_iconst (v := (-1)) hx hb dX5_bestAt_21 (by decide) ?_
    exact g_iret S hr hlk hw (by simp only [XP_bestAt_r, if_pos c_1]) rfl dX5_bestAt_22
  · refine lv_iload_n hx hb dX5_bestAt_4 rfl (lv_at hl 1 rfl) ?_
    refine lv_aload_n hx hb dX5_bestAt_5 rfl (lv_at hl 0 rfl) ?_
    refine g_get S hw hinX5 (fs := fX37 a σ) 37 rfl rfl 4 (by decide) lk0 (v := .int (nI pl)) (congrArg (fun z => some (Value.int z)) (hp0)) dX5_bestAt_6 ?_
    refine lv_icmp_ge hx hb (tgt := 21) dX5_bestAt_9 (by decide) (fun c_2 => ?_) (fun c_2 => ?_)
    · refine lv_iconst (v := (-1)) hx hb dX5_bestAt_21 (by decide) ?_
      exact g_iret S hr hlk hw (by simp only [XP_bestAt_r, if_neg c_1, if_pos c_2]) rfl dX5_bestAt_22
    · obtain ⟨e1, b1⟩ := X_in_lt (n := pl) (by omega) c_1 c_2
      have hl : lv_has ls 2 [(0, .ref (a 37)), (1, .int (nI c.toNatClampNeg))] := by rw [← e1]; exact hl
      refine lv_aload_n hx hb dX5_bestAt_12 rfl (lv_at hl 0 rfl) ?_
      refine g_get S hw hinX5 (fs := fX37 a σ) 37 rfl rfl 3 (by decide) lk1 (v := .ref (a 41)) rfl dX5_bestAt_13 ?_
      refine lv_iload_n hx hb dX5_bestAt_16 rfl (lv_at hl 1 rfl) ?_
      refine g_iald S hw (f := σ 41) (i := c.toNatClampNeg) (x := σ 41 c.toNatClampNeg) 41 0 rfl rfl (by omega) (by decide) rfl dX5_bestAt_17 ?_
      refine lv_goto (tgt := 22) hx hb dX5_bestAt_18 (by decide) ?_
      exact g_iret S hr hlk hw (by simp only [XP_bestAt_r, if_neg c_1, if_neg c_2]) rfl dX5_bestAt_22
def XT_note_r (κ : Nat → Nat) (σ : Nat → Nat → Int32) (tm : Nat) (rate : Int32) (asked : Int32) : Int32 := nI (tm + 1)
def XT_note_s (κ : Nat → Nat) (σ : Nat → Nat → Int32) (tm : Nat) (rate : Int32) (asked : Int32) : Nat → Nat → Int32 := up2 (up2 (up2 σ 43 tm rate) 44 tm asked) 42 2 (nI (tm + 1))
theorem XT_note_s_k (κ : Nat → Nat) (σ : Nat → Nat → Int32) (tm : Nat) (rate : Int32) (asked : Int32) (c9 : Nat) (q0 : c9 ≠ 42) (q1 : c9 ≠ 43) (q2 : c9 ≠ 44) : XT_note_s κ σ tm rate asked c9 = σ c9 := by
  unfold XT_note_s
  exact (up2_n _ _ _ q0).trans ((up2_n _ _ _ q2).trans (up2_n _ _ _ q1))
set_option maxHeartbeats 4000000 in
set_option maxRecDepth 100000 in
theorem c_XT_note (l : Launch) (D : va_G) (cI cC cI2 : ClassId) (a : Nat → Nat) (κ : Nat → Nat) (σ : Nat → Nat → Int32) (tm : Nat) (rate : Int32) (asked : Int32) (ht0 : σ 42 2 = nI tm) (ht1 : tm < 6) : gI l D (tysX cI cC cI2) yX9_note wsX9_note 1 [.ref (a 42), .int rate, .int asked] (wX cI cC cI2 a κ σ) (XT_note_r κ σ tm rate asked) (wX cI cC cI2 a κ (XT_note_s κ σ tm rate asked)) := by
  refine g_start (cc := cX9_note) (maxL := 3) (ret := some .int) (Qc := gQi D (tysX cI cC cI2) (XT_note_r κ σ tm rate asked) (wX cI cC cI2 a κ (XT_note_s κ σ tm rate asked))) (by decide) rfl (Nat.le_of_ble_eq_true rfl) ?_
  intro p e s m below meth C A ls S hr hlk hw hl
  obtain ⟨hx, hb, hml, hown, hts⟩ := id S
  have hinX9 : ∀ x ∈ u_ws RX9 TX9 3, x ∈ wsX9_note := fun x h => List.mem_cons_of_mem _ (List.mem_append_right _ h)
  have lk0 : Cond.fieldLink RX9 9 "CowsOwed$Told" "rates" "[I" ∈ wsX9_note := by decide +kernel
  have lk1 : Cond.fieldLink RX9 18 "CowsOwed$Told" "size" "I" ∈ wsX9_note := by decide +kernel
  have lk2 : Cond.fieldLink RX9 15 "CowsOwed$Told" "asked" "[I" ∈ wsX9_note := by decide +kernel
  have hl : lv_has ls 3 [(0, .ref (a 42)), (1, .int rate), (2, .int asked)] := hl
  refine lv_aload_n hx hb dX9_note_0 rfl (lv_at hl 0 rfl) ?_
  refine g_get S hw hinX9 (fs := fX42 a σ) 42 rfl rfl 0 (by decide) lk0 (v := .ref (a 43)) rfl dX9_note_1 ?_
  refine lv_aload_n hx hb dX9_note_4 rfl (lv_at hl 0 rfl) ?_
  refine g_get S hw hinX9 (fs := fX42 a σ) 42 rfl rfl 2 (by decide) lk1 (v := .int (nI tm)) (congrArg (fun z => some (Value.int z)) (ht0)) dX9_note_5 ?_
  refine lv_iload_n hx hb dX9_note_8 rfl (lv_at hl 1 rfl) ?_
  refine g_iast S hw (f := σ 43) (i := tm) 43 0 rfl rfl (by omega) (by decide) (w2 := wX cI cC cI2 a κ (up2 σ 43 tm rate)) (wX_a43 _ _ _ _ _ _ _ _) dX9_note_9 (fun H locs hw => ?_)
  refine lv_aload_n hx hb dX9_note_10 rfl (lv_at hl 0 rfl) ?_
  refine g_get S hw hinX9 (fs := fX42 a (up2 σ 43 tm rate)) 42 rfl rfl 1 (by decide) lk2 (v := .ref (a 44)) rfl dX9_note_11 ?_
  refine lv_aload_n hx hb dX9_note_14 rfl (lv_at hl 0 rfl) ?_
  refine g_get S hw hinX9 (fs := fX42 a (up2 σ 43 tm rate)) 42 rfl rfl 2 (by decide) lk1 (v := .int (nI tm)) (congrArg (fun z => some (Value.int z)) ((up2_rn (by omega)).trans (ht0))) dX9_note_15 ?_
  refine lv_iload_n hx hb dX9_note_18 rfl (lv_at hl 2 rfl) ?_
  refine g_iast S hw (f := (up2 σ 43 tm rate) 44) (i := tm) 44 0 rfl rfl (by omega) (by decide) (w2 := wX cI cC cI2 a κ (up2 (up2 σ 43 tm rate) 44 tm asked)) (wX_a44 _ _ _ _ _ _ _ _) dX9_note_19 (fun H locs hw => ?_)
  refine lv_aload_n hx hb dX9_note_20 rfl (lv_at hl 0 rfl) ?_
  refine lv_dup hx hb dX9_note_21 rfl ?_
  refine g_get S hw hinX9 (fs := fX42 a (up2 (up2 σ 43 tm rate) 44 tm asked)) 42 rfl rfl 2 (by decide) lk1 (v := .int (nI tm)) (congrArg (fun z => some (Value.int z)) (((up2_rn (by omega)).trans (up2_rn (by omega))).trans (ht0))) dX9_note_22 ?_
  refine lv_iconst (v := 1) hx hb dX9_note_25 (by decide) ?_
  refine ln_iadd (x := tm) (y := 1) hx hb dX9_note_26 ?_
  refine g_put S hw hinX9 tyX9 tyX9_ok nmX9 (fs := fX42 a (up2 (up2 σ 43 tm rate) 44 tm asked)) 42 rfl rfl 2 (by decide) lk1 rfl rfl rfl (Nat.le_of_ble_eq_true rfl) (w2 := wX cI cC cI2 a κ (up2 (up2 (up2 σ 43 tm rate) 44 tm asked) 42 2 (nI (tm + 1)))) (wX_f42_2 _ _ _ _ _ _ _) dX9_note_27 (fun H locs hw => ?_)
  refine lv_aload_n hx hb dX9_note_30 rfl (lv_at hl 0 rfl) ?_
  refine g_get S hw hinX9 (fs := fX42 a (up2 (up2 (up2 σ 43 tm rate) 44 tm asked) 42 2 (nI (tm + 1)))) 42 rfl rfl 2 (by decide) lk1 (v := .int (nI (tm + 1))) (congrArg (fun z => some (Value.int z)) (up2_rs)) dX9_note_31 ?_
  exact g_iret S hr hlk hw (by simp only [XT_note_r]) (by simp only [XT_note_s]) dX9_note_34
def XT_copyFrom_56_42_S10_0 (κ : Nat → Nat) (i10 : Nat) (σ10 : Nat → Nat → Int32) : Nat → Nat → Int32 := up2 (up2 σ10 57 i10 (σ10 43 i10)) 58 i10 (σ10 44 i10)
def XT_copyFrom_56_42_L10 (κ : Nat → Nat) : Nat → Nat → (Nat → Nat → Int32) → (Nat → Nat → Int32)
  | 0, _, σ10 => σ10
  | n10 + 1, i10, σ10 => XT_copyFrom_56_42_L10 κ n10 (i10 + 1) (XT_copyFrom_56_42_S10_0 κ i10 σ10)
theorem XT_copyFrom_56_42_S10_k (κ : Nat → Nat) (c9 : Nat) (q0 : c9 ≠ 57) (q1 : c9 ≠ 58) (i10 : Nat) (σ10 : Nat → Nat → Int32) : XT_copyFrom_56_42_S10_0 κ i10 σ10 c9 = σ10 c9 := by
  unfold XT_copyFrom_56_42_S10_0
  exact (up2_n _ _ _ q1).trans (up2_n _ _ _ q0)
theorem XT_copyFrom_56_42_L10_k (κ : Nat → Nat) (c9 : Nat) (q0 : c9 ≠ 57) (q1 : c9 ≠ 58) : ∀ (n10 i10 : Nat) (σ10 : Nat → Nat → Int32), (XT_copyFrom_56_42_L10 κ n10 i10 σ10) c9 = σ10 c9 := by
  intro n10
  induction n10 with
  | zero => intros; rfl
  | succ n10 ih => intro i10 σ10; exact (ih (i10 + 1) (XT_copyFrom_56_42_S10_0 κ i10 σ10)).trans (XT_copyFrom_56_42_S10_k κ c9 q0 q1 i10 σ10)
def XT_copyFrom_56_42_s (κ : Nat → Nat) (σ : Nat → Nat → Int32) : Nat → Nat → Int32 := (XT_copyFrom_56_42_L10 κ 6 0 (up2 σ 56 2 (σ 42 2)))
theorem XT_copyFrom_56_42_s_k (κ : Nat → Nat) (σ : Nat → Nat → Int32) (c9 : Nat) (q0 : c9 ≠ 56) (q1 : c9 ≠ 57) (q2 : c9 ≠ 58) : XT_copyFrom_56_42_s κ σ c9 = σ c9 := by
  unfold XT_copyFrom_56_42_s
  exact (XT_copyFrom_56_42_L10_k κ c9 q1 q2 6 0 (up2 σ 56 2 (σ 42 2))).trans (up2_n _ _ _ q0)
set_option maxHeartbeats 4000000 in
set_option maxRecDepth 100000 in
theorem c_XT_copyFrom_56_42 (l : Launch) (D : va_G) (cI cC cI2 : ClassId) (a : Nat → Nat) (κ : Nat → Nat) (σ : Nat → Nat → Int32) : gV l D (tysX cI cC cI2) yX9_copyFrom wsX9_copyFrom 1 [.ref (a 56), .ref (a 42)] (wX cI cC cI2 a κ σ)  (wX cI cC cI2 a κ (XT_copyFrom_56_42_s κ σ)) := by
  refine g_start (cc := cX9_copyFrom) (maxL := 3) (ret := none) (Qc := gQv D (tysX cI cC cI2) (wX cI cC cI2 a κ (XT_copyFrom_56_42_s κ σ))) (by decide) rfl (Nat.le_of_ble_eq_true rfl) ?_
  intro p e s m below meth C A ls S hr hlk hw hl
  obtain ⟨hx, hb, hml, hown, hts⟩ := id S
  have hinX9 : ∀ x ∈ u_ws RX9 TX9 3, x ∈ wsX9_copyFrom := fun x h => List.mem_cons_of_mem _ (List.mem_append_right _ h)
  have lk0 : Cond.fieldLink RX9 18 "CowsOwed$Told" "size" "I" ∈ wsX9_copyFrom := by decide +kernel
  have lk1 : Cond.fieldLink RX9 9 "CowsOwed$Told" "rates" "[I" ∈ wsX9_copyFrom := by decide +kernel
  have lk2 : Cond.fieldLink RX9 15 "CowsOwed$Told" "asked" "[I" ∈ wsX9_copyFrom := by decide +kernel
  have hl : lv_has ls 3 [(0, .ref (a 56)), (1, .ref (a 42))] := hl
  refine lv_aload_n hx hb dX9_copyFrom_0 rfl (lv_at hl 0 rfl) ?_
  refine lv_aload_n hx hb dX9_copyFrom_1 rfl (lv_at hl 1 rfl) ?_
  refine g_get S hw hinX9 (fs := fX42 a σ) 42 rfl rfl 2 (by decide) lk0 (v := .int (σ 42 2)) rfl dX9_copyFrom_2 ?_
  refine g_put S hw hinX9 tyX9 tyX9_ok nmX9 (fs := fX56 a σ) 56 rfl rfl 2 (by decide) lk0 rfl rfl rfl (Nat.le_of_ble_eq_true rfl) (w2 := wX cI cC cI2 a κ (up2 σ 56 2 (σ 42 2))) (wX_f56_2 _ _ _ _ _ _ _) dX9_copyFrom_5 (fun H locs hw => ?_)
  refine lv_iconst (v := 0) hx hb dX9_copyFrom_8 (by decide) ?_
  refine lv_istore_n (lv' := [(2, .int 0), (0, .ref (a 56)), (1, .ref (a 42))]) hx hb dX9_copyFrom_9 rfl hl (by decide) rfl (fun ls hl => ?_)
  have L10 : ∀ (n10 i10 : Nat) (σ10 : Nat → Nat → Int32) (H : Heap) (locs : List Loc) (ls : Array Slot), i10 + n10 = 6 → XT_copyFrom_56_42_L10 κ n10 i10 σ10 = XT_copyFrom_56_42_L10 κ 6 0 (up2 σ 56 2 (σ 42 2)) → gw D (tysX cI cC cI2) A s H locs (wX cI cC cI2 a κ σ10) → lv_has ls 3 [(2, .int (nI i10)), (0, .ref (a 56)), (1, .ref (a 42))] → W p l e (gR 1) s m ([.ref (a 56), .ref (a 42)] : List Value).toArray below meth C H locs 0 0 (MQ below (gQv D (tysX cI cC cI2) (wX cI cC cI2 a κ (XT_copyFrom_56_42_s κ σ)) A) ([.ref (a 56), .ref (a 42)] : List Value).toArray s 0 0 A) (F0 m 10 ls []) := by
    intro n10
    induction n10 with
    | zero =>
      intro i10 σ10 H locs ls hi10 hF10 hw hl
      refine lv_iload_n hx hb dX9_copyFrom_10 rfl (lv_at hl 0 rfl) ?_
      refine lv_bipush (v := 6) hx hb dX9_copyFrom_11 (by decide) ?_
      refine ln_ge (x := i10) (y := 6) hx hb (by omega) (by omega) (tgt := 46) dX9_copyFrom_13 (by decide) (fun c_x => ?_) (fun c_x => absurd (by omega) c_x)
      have hz10 : 6 = i10 := by omega
      subst hz10
      have e10_0 : (XT_copyFrom_56_42_L10 κ 6 0 (up2 σ 56 2 (σ 42 2))) = σ10 := hF10.symm
      subst e10_0
      exact g_vret S hr hlk hw (by simp only [XT_copyFrom_56_42_s]) dX9_copyFrom_46
    | succ n10 ih10 =>
      intro i10 σ10 H locs ls hi10 hF10 hw hl
      refine lv_iload_n hx hb dX9_copyFrom_10 rfl (lv_at hl 0 rfl) ?_
      refine lv_bipush (v := 6) hx hb dX9_copyFrom_11 (by decide) ?_
      refine ln_ge (x := i10) (y := 6) hx hb (by omega) (by omega) (tgt := 46) dX9_copyFrom_13 (by decide) (fun c_x => absurd c_x (by omega)) (fun c_x => ?_)
      refine lv_aload_n hx hb dX9_copyFrom_16 rfl (lv_at hl 1 rfl) ?_
      refine g_get S hw hinX9 (fs := fX56 a σ10) 56 rfl rfl 0 (by decide) lk1 (v := .ref (a 57)) rfl dX9_copyFrom_17 ?_
      refine lv_iload_n hx hb dX9_copyFrom_20 rfl (lv_at hl 0 rfl) ?_
      refine lv_aload_n hx hb dX9_copyFrom_21 rfl (lv_at hl 2 rfl) ?_
      refine g_get S hw hinX9 (fs := fX42 a σ10) 42 rfl rfl 0 (by decide) lk1 (v := .ref (a 43)) rfl dX9_copyFrom_22 ?_
      refine lv_iload_n hx hb dX9_copyFrom_25 rfl (lv_at hl 0 rfl) ?_
      refine g_iald S hw (f := σ10 43) (i := i10) (x := σ10 43 i10) 43 0 rfl rfl (by omega) (by decide) rfl dX9_copyFrom_26 ?_
      refine g_iast S hw (f := σ10 57) (i := i10) 57 0 rfl rfl (by omega) (by decide) (w2 := wX cI cC cI2 a κ (up2 σ10 57 i10 (σ10 43 i10))) (wX_a57 _ _ _ _ _ _ _ _) dX9_copyFrom_27 (fun H locs hw => ?_)
      refine lv_aload_n hx hb dX9_copyFrom_28 rfl (lv_at hl 1 rfl) ?_
      refine g_get S hw hinX9 (fs := fX56 a (up2 σ10 57 i10 (σ10 43 i10))) 56 rfl rfl 1 (by decide) lk2 (v := .ref (a 58)) rfl dX9_copyFrom_29 ?_
      refine lv_iload_n hx hb dX9_copyFrom_32 rfl (lv_at hl 0 rfl) ?_
      refine lv_aload_n hx hb dX9_copyFrom_33 rfl (lv_at hl 2 rfl) ?_
      refine g_get S hw hinX9 (fs := fX42 a (up2 σ10 57 i10 (σ10 43 i10))) 42 rfl rfl 1 (by decide) lk2 (v := .ref (a 44)) rfl dX9_copyFrom_34 ?_
      refine lv_iload_n hx hb dX9_copyFrom_37 rfl (lv_at hl 0 rfl) ?_
      refine g_iald S hw (f := (up2 σ10 57 i10 (σ10 43 i10)) 44) (i := i10) (x := σ10 44 i10) 44 0 rfl rfl (by omega) (by decide) (up2_rn (by omega)) dX9_copyFrom_38 ?_
      refine g_iast S hw (f := (up2 σ10 57 i10 (σ10 43 i10)) 58) (i := i10) 58 0 rfl rfl (by omega) (by decide) (w2 := wX cI cC cI2 a κ (up2 (up2 σ10 57 i10 (σ10 43 i10)) 58 i10 (σ10 44 i10))) (wX_a58 _ _ _ _ _ _ _ _) dX9_copyFrom_39 (fun H locs hw => ?_)
      refine lv_iinc (v := nI (i10 + 1)) (lv' := [(2, .int (nI (i10 + 1))), (0, .ref (a 56)), (1, .ref (a 42))]) hx hb dX9_copyFrom_40 hl (k := 0) rfl (nI_1 _) (by decide) rfl (fun ls hl => ?_)
      refine lv_goto (tgt := 10) hx hb dX9_copyFrom_43 (by decide) ?_
      exact ih10 (i10 + 1) (up2 (up2 σ10 57 i10 (σ10 43 i10)) 58 i10 (σ10 44 i10)) _ _ _ (by omega) hF10 hw (lv_sub hl [0, 1, 2] rfl)
  exact L10 6 0 (up2 σ 56 2 (σ 42 2)) _ _ _ (by omega) rfl hw (lv_sub hl [0, 1, 2] rfl)
def XT_copyFrom_42_56_S10_0 (κ : Nat → Nat) (i10 : Nat) (σ10 : Nat → Nat → Int32) : Nat → Nat → Int32 := up2 (up2 σ10 43 i10 (σ10 57 i10)) 44 i10 (σ10 58 i10)
def XT_copyFrom_42_56_L10 (κ : Nat → Nat) : Nat → Nat → (Nat → Nat → Int32) → (Nat → Nat → Int32)
  | 0, _, σ10 => σ10
  | n10 + 1, i10, σ10 => XT_copyFrom_42_56_L10 κ n10 (i10 + 1) (XT_copyFrom_42_56_S10_0 κ i10 σ10)
theorem XT_copyFrom_42_56_S10_k (κ : Nat → Nat) (c9 : Nat) (q0 : c9 ≠ 43) (q1 : c9 ≠ 44) (i10 : Nat) (σ10 : Nat → Nat → Int32) : XT_copyFrom_42_56_S10_0 κ i10 σ10 c9 = σ10 c9 := by
  unfold XT_copyFrom_42_56_S10_0
  exact (up2_n _ _ _ q1).trans (up2_n _ _ _ q0)
theorem XT_copyFrom_42_56_L10_k (κ : Nat → Nat) (c9 : Nat) (q0 : c9 ≠ 43) (q1 : c9 ≠ 44) : ∀ (n10 i10 : Nat) (σ10 : Nat → Nat → Int32), (XT_copyFrom_42_56_L10 κ n10 i10 σ10) c9 = σ10 c9 := by
  intro n10
  induction n10 with
  | zero => intros; rfl
  | succ n10 ih => intro i10 σ10; exact (ih (i10 + 1) (XT_copyFrom_42_56_S10_0 κ i10 σ10)).trans (XT_copyFrom_42_56_S10_k κ c9 q0 q1 i10 σ10)
def XT_copyFrom_42_56_s (κ : Nat → Nat) (σ : Nat → Nat → Int32) : Nat → Nat → Int32 := (XT_copyFrom_42_56_L10 κ 6 0 (up2 σ 42 2 (σ 56 2)))
theorem XT_copyFrom_42_56_s_k (κ : Nat → Nat) (σ : Nat → Nat → Int32) (c9 : Nat) (q0 : c9 ≠ 42) (q1 : c9 ≠ 43) (q2 : c9 ≠ 44) : XT_copyFrom_42_56_s κ σ c9 = σ c9 := by
  unfold XT_copyFrom_42_56_s
  exact (XT_copyFrom_42_56_L10_k κ c9 q1 q2 6 0 (up2 σ 42 2 (σ 56 2))).trans (up2_n _ _ _ q0)
set_option maxHeartbeats 4000000 in
set_option maxRecDepth 100000 in
theorem c_XT_copyFrom_42_56 (l : Launch) (D : va_G) (cI cC cI2 : ClassId) (a : Nat → Nat) (κ : Nat → Nat) (σ : Nat → Nat → Int32) : gV l D (tysX cI cC cI2) yX9_copyFrom wsX9_copyFrom 1 [.ref (a 42), .ref (a 56)] (wX cI cC cI2 a κ σ)  (wX cI cC cI2 a κ (XT_copyFrom_42_56_s κ σ)) := by
  refine g_start (cc := cX9_copyFrom) (maxL := 3) (ret := none) (Qc := gQv D (tysX cI cC cI2) (wX cI cC cI2 a κ (XT_copyFrom_42_56_s κ σ))) (by decide) rfl (Nat.le_of_ble_eq_true rfl) ?_
  intro p e s m below meth C A ls S hr hlk hw hl
  obtain ⟨hx, hb, hml, hown, hts⟩ := id S
  have hinX9 : ∀ x ∈ u_ws RX9 TX9 3, x ∈ wsX9_copyFrom := fun x h => List.mem_cons_of_mem _ (List.mem_append_right _ h)
  have lk0 : Cond.fieldLink RX9 18 "CowsOwed$Told" "size" "I" ∈ wsX9_copyFrom := by decide +kernel
  have lk1 : Cond.fieldLink RX9 9 "CowsOwed$Told" "rates" "[I" ∈ wsX9_copyFrom := by decide +kernel
  have lk2 : Cond.fieldLink RX9 15 "CowsOwed$Told" "asked" "[I" ∈ wsX9_copyFrom := by decide +kernel
  have hl : lv_has ls 3 [(0, .ref (a 42)), (1, .ref (a 56))] := hl
  refine lv_aload_n hx hb dX9_copyFrom_0 rfl (lv_at hl 0 rfl) ?_
  refine lv_aload_n hx hb dX9_copyFrom_1 rfl (lv_at hl 1 rfl) ?_
  refine g_get S hw hinX9 (fs := fX56 a σ) 56 rfl rfl 2 (by decide) lk0 (v := .int (σ 56 2)) rfl dX9_copyFrom_2 ?_
  refine g_put S hw hinX9 tyX9 tyX9_ok nmX9 (fs := fX42 a σ) 42 rfl rfl 2 (by decide) lk0 rfl rfl rfl (Nat.le_of_ble_eq_true rfl) (w2 := wX cI cC cI2 a κ (up2 σ 42 2 (σ 56 2))) (wX_f42_2 _ _ _ _ _ _ _) dX9_copyFrom_5 (fun H locs hw => ?_)
  refine lv_iconst (v := 0) hx hb dX9_copyFrom_8 (by decide) ?_
  refine lv_istore_n (lv' := [(2, .int 0), (0, .ref (a 42)), (1, .ref (a 56))]) hx hb dX9_copyFrom_9 rfl hl (by decide) rfl (fun ls hl => ?_)
  have L10 : ∀ (n10 i10 : Nat) (σ10 : Nat → Nat → Int32) (H : Heap) (locs : List Loc) (ls : Array Slot), i10 + n10 = 6 → XT_copyFrom_42_56_L10 κ n10 i10 σ10 = XT_copyFrom_42_56_L10 κ 6 0 (up2 σ 42 2 (σ 56 2)) → gw D (tysX cI cC cI2) A s H locs (wX cI cC cI2 a κ σ10) → lv_has ls 3 [(2, .int (nI i10)), (0, .ref (a 42)), (1, .ref (a 56))] → W p l e (gR 1) s m ([.ref (a 42), .ref (a 56)] : List Value).toArray below meth C H locs 0 0 (MQ below (gQv D (tysX cI cC cI2) (wX cI cC cI2 a κ (XT_copyFrom_42_56_s κ σ)) A) ([.ref (a 42), .ref (a 56)] : List Value).toArray s 0 0 A) (F0 m 10 ls []) := by
    intro n10
    induction n10 with
    | zero =>
      intro i10 σ10 H locs ls hi10 hF10 hw hl
      refine lv_iload_n hx hb dX9_copyFrom_10 rfl (lv_at hl 0 rfl) ?_
      refine lv_bipush (v := 6) hx hb dX9_copyFrom_11 (by decide) ?_
      refine ln_ge (x := i10) (y := 6) hx hb (by omega) (by omega) (tgt := 46) dX9_copyFrom_13 (by decide) (fun c_x => ?_) (fun c_x => absurd (by omega) c_x)
      have hz10 : 6 = i10 := by omega
      subst hz10
      have e10_0 : (XT_copyFrom_42_56_L10 κ 6 0 (up2 σ 42 2 (σ 56 2))) = σ10 := hF10.symm
      subst e10_0
      exact g_vret S hr hlk hw (by simp only [XT_copyFrom_42_56_s]) dX9_copyFrom_46
    | succ n10 ih10 =>
      intro i10 σ10 H locs ls hi10 hF10 hw hl
      refine lv_iload_n hx hb dX9_copyFrom_10 rfl (lv_at hl 0 rfl) ?_
      refine lv_bipush (v := 6) hx hb dX9_copyFrom_11 (by decide) ?_
      refine ln_ge (x := i10) (y := 6) hx hb (by omega) (by omega) (tgt := 46) dX9_copyFrom_13 (by decide) (fun c_x => absurd c_x (by omega)) (fun c_x => ?_)
      refine lv_aload_n hx hb dX9_copyFrom_16 rfl (lv_at hl 1 rfl) ?_
      refine g_get S hw hinX9 (fs := fX42 a σ10) 42 rfl rfl 0 (by decide) lk1 (v := .ref (a 43)) rfl dX9_copyFrom_17 ?_
      refine lv_iload_n hx hb dX9_copyFrom_20 rfl (lv_at hl 0 rfl) ?_
      refine lv_aload_n hx hb dX9_copyFrom_21 rfl (lv_at hl 2 rfl) ?_
      refine g_get S hw hinX9 (fs := fX56 a σ10) 56 rfl rfl 0 (by decide) lk1 (v := .ref (a 57)) rfl dX9_copyFrom_22 ?_
      refine lv_iload_n hx hb dX9_copyFrom_25 rfl (lv_at hl 0 rfl) ?_
      refine g_iald S hw (f := σ10 57) (i := i10) (x := σ10 57 i10) 57 0 rfl rfl (by omega) (by decide) rfl dX9_copyFrom_26 ?_
      refine g_iast S hw (f := σ10 43) (i := i10) 43 0 rfl rfl (by omega) (by decide) (w2 := wX cI cC cI2 a κ (up2 σ10 43 i10 (σ10 57 i10))) (wX_a43 _ _ _ _ _ _ _ _) dX9_copyFrom_27 (fun H locs hw => ?_)
      refine lv_aload_n hx hb dX9_copyFrom_28 rfl (lv_at hl 1 rfl) ?_
      refine g_get S hw hinX9 (fs := fX42 a (up2 σ10 43 i10 (σ10 57 i10))) 42 rfl rfl 1 (by decide) lk2 (v := .ref (a 44)) rfl dX9_copyFrom_29 ?_
      refine lv_iload_n hx hb dX9_copyFrom_32 rfl (lv_at hl 0 rfl) ?_
      refine lv_aload_n hx hb dX9_copyFrom_33 rfl (lv_at hl 2 rfl) ?_
      refine g_get S hw hinX9 (fs := fX56 a (up2 σ10 43 i10 (σ10 57 i10))) 56 rfl rfl 1 (by decide) lk2 (v := .ref (a 58)) rfl dX9_copyFrom_34 ?_
      refine lv_iload_n hx hb dX9_copyFrom_37 rfl (lv_at hl 0 rfl) ?_
      refine g_iald S hw (f := (up2 σ10 43 i10 (σ10 57 i10)) 58) (i := i10) (x := σ10 58 i10) 58 0 rfl rfl (by omega) (by decide) (up2_rn (by omega)) dX9_copyFrom_38 ?_
      refine g_iast S hw (f := (up2 σ10 43 i10 (σ10 57 i10)) 44) (i := i10) 44 0 rfl rfl (by omega) (by decide) (w2 := wX cI cC cI2 a κ (up2 (up2 σ10 43 i10 (σ10 57 i10)) 44 i10 (σ10 58 i10))) (wX_a44 _ _ _ _ _ _ _ _) dX9_copyFrom_39 (fun H locs hw => ?_)
      refine lv_iinc (v := nI (i10 + 1)) (lv' := [(2, .int (nI (i10 + 1))), (0, .ref (a 42)), (1, .ref (a 56))]) hx hb dX9_copyFrom_40 hl (k := 0) rfl (nI_1 _) (by decide) rfl (fun ls hl => ?_)
      refine lv_goto (tgt := 10) hx hb dX9_copyFrom_43 (by decide) ?_
      exact ih10 (i10 + 1) (up2 (up2 σ10 43 i10 (σ10 57 i10)) 44 i10 (σ10 58 i10)) _ _ _ (by omega) hF10 hw (lv_sub hl [0, 1, 2] rfl)
  exact L10 6 0 (up2 σ 42 2 (σ 56 2)) _ _ _ (by omega) rfl hw (lv_sub hl [0, 1, 2] rfl)
def XT_has_r (bits : Int32) (kind : Int32) : Int32 := if ((bits >>> (kind &&& 31)) &&& 1) = 1 then 1 else 0
theorem XT_has_z (bits : Int32) (kind : Int32) : XT_has_r bits kind = 0 ∨ XT_has_r bits kind = 1 := by
  unfold XT_has_r
  by_cases z1 : ((bits >>> (kind &&& 31)) &&& 1) = 1
  · rw [if_pos z1]
    exact Or.inr rfl
  · rw [if_neg z1]
    exact Or.inl rfl
set_option maxHeartbeats 4000000 in
set_option maxRecDepth 100000 in
theorem c_XT_has (l : Launch) (D : va_G) (tys : List (ClassId × FieldType)) (w0 : va_W) (bits : Int32) (kind : Int32) : gI l D tys yX9_has wsX9_has 1 [.int bits, .int kind] w0 (XT_has_r bits kind) w0 := by
  refine g_start (cc := cX9_has) (maxL := 2) (ret := some .boolean) (Qc := gQi D tys (XT_has_r bits kind) w0) (by decide) rfl (Nat.le_of_ble_eq_true rfl) ?_
  intro p e s m below meth C A ls S hr hlk hw hl
  obtain ⟨hx, hb, hml, hown, hts⟩ := id S
  have hl : lv_has ls 2 [(0, .int bits), (1, .int kind)] := hl
  refine lv_iload_n hx hb dX9_has_0 rfl (lv_at hl 0 rfl) ?_
  refine lv_iload_n hx hb dX9_has_1 rfl (lv_at hl 1 rfl) ?_
  refine lv_ishr hx hb dX9_has_2 ?_
  refine lv_iconst (v := 1) hx hb dX9_has_3 (by decide) ?_
  refine lv_iand hx hb dX9_has_4 ?_
  refine lv_iconst (v := 1) hx hb dX9_has_5 (by decide) ?_
  refine lv_icmp_ne hx hb (tgt := 13) dX9_has_6 (by decide) (fun c_1 => ?_) (fun c_1 => ?_)
  · refine lv_iconst (v := 0) hx hb dX9_has_13 (by decide) ?_
    exact g_zret S hr hlk hw (by decide) (by simp only [XT_has_r, if_neg c_1]) rfl dX9_has_14
  · refine lv_iconst (v := 1) hx hb dX9_has_9 (by decide) ?_
    refine lv_goto (tgt := 14) hx hb dX9_has_10 (by decide) ?_
    exact g_zret S hr hlk hw (by decide) (by simp only [XT_has_r, if_pos c_1]) rfl dX9_has_14
def XS_copyFrom_45_31_s (κ : Nat → Nat) (σ : Nat → Nat → Int32) : Nat → Nat → Int32 := up2 (XT_copyFrom_56_42_s κ (XP_copyFrom_51_37_s κ (XW_copyFrom_46_32_s κ (XH_copyFrom_17_10_s κ σ)))) 45 4 (σ 31 4)
theorem XS_copyFrom_45_31_s_k (κ : Nat → Nat) (σ : Nat → Nat → Int32) (c9 : Nat) (q0 : c9 ≠ 17) (q1 : c9 ≠ 18) (q2 : c9 ≠ 19) (q3 : c9 ≠ 45) (q4 : c9 ≠ 46) (q5 : c9 ≠ 47) (q6 : c9 ≠ 48) (q7 : c9 ≠ 49) (q8 : c9 ≠ 50) (q9 : c9 ≠ 51) (q10 : c9 ≠ 52) (q11 : c9 ≠ 53) (q12 : c9 ≠ 56) (q13 : c9 ≠ 57) (q14 : c9 ≠ 58) : XS_copyFrom_45_31_s κ σ c9 = σ c9 := by
  unfold XS_copyFrom_45_31_s
  exact (up2_n _ _ _ q3).trans ((XT_copyFrom_56_42_s_k κ (XP_copyFrom_51_37_s κ (XW_copyFrom_46_32_s κ (XH_copyFrom_17_10_s κ σ))) c9 q12 q13 q14).trans ((XP_copyFrom_51_37_s_k κ (XW_copyFrom_46_32_s κ (XH_copyFrom_17_10_s κ σ)) c9 q9 q10 q11).trans ((XW_copyFrom_46_32_s_k κ (XH_copyFrom_17_10_s κ σ) c9 q4 q5 q6 q7 q8).trans (XH_copyFrom_17_10_s_k κ σ c9 q0 q1 q2))))
set_option maxHeartbeats 4000000 in
set_option maxRecDepth 100000 in
theorem c_XS_copyFrom_45_31 (l : Launch) (D : va_G) (cI cC cI2 : ClassId) (a : Nat → Nat) (κ : Nat → Nat) (σ : Nat → Nat → Int32) : gV l D (tysX cI cC cI2) yX8_copyFrom wsX8_copyFrom 2 [.ref (a 45), .ref (a 31)] (wX cI cC cI2 a κ σ)  (wX cI cC cI2 a κ (XS_copyFrom_45_31_s κ σ)) := by
  refine g_start (cc := cX8_copyFrom) (maxL := 2) (ret := none) (Qc := gQv D (tysX cI cC cI2) (wX cI cC cI2 a κ (XS_copyFrom_45_31_s κ σ))) (by decide) rfl (Nat.le_of_ble_eq_true rfl) ?_
  intro p e s m below meth C A ls S hr hlk hw hl
  obtain ⟨hx, hb, hml, hown, hts⟩ := id S
  have hinX8 : ∀ x ∈ u_ws RX8 TX8 5, x ∈ wsX8_copyFrom := fun x h => List.mem_cons_of_mem _ (List.mem_append_left _ (List.mem_append_left _ (List.mem_append_left _ (List.mem_append_left _ (List.mem_append_right _ h)))))
  have lk0 : Cond.fieldLink RX8 39 "CowsOwed$Times" "herds" "LCowsOwed$Herds;" ∈ wsX8_copyFrom := by decide +kernel
  have lk1 : Cond.fieldLink RX8 10 "CowsOwed$Times" "weddings" "LCowsOwed$Weddings;" ∈ wsX8_copyFrom := by decide +kernel
  have lk2 : Cond.fieldLink RX8 19 "CowsOwed$Times" "plans" "LCowsOwed$Plans;" ∈ wsX8_copyFrom := by decide +kernel
  have lk3 : Cond.fieldLink RX8 26 "CowsOwed$Times" "told" "LCowsOwed$Told;" ∈ wsX8_copyFrom := by decide +kernel
  have lk4 : Cond.fieldLink RX8 30 "CowsOwed$Times" "years" "I" ∈ wsX8_copyFrom := by decide +kernel
  have hl : lv_has ls 2 [(0, .ref (a 45)), (1, .ref (a 31))] := hl
  refine lv_aload_n hx hb dX8_copyFrom_0 rfl (lv_at hl 0 rfl) ?_
  refine g_get S hw hinX8 (fs := fX45 a σ) 45 rfl rfl 0 (by decide) lk0 (v := .ref (a 17)) rfl dX8_copyFrom_1 ?_
  refine lv_aload_n hx hb dX8_copyFrom_4 rfl (lv_at hl 1 rfl) ?_
  refine g_get S hw hinX8 (fs := fX31 a σ) 31 rfl rfl 0 (by decide) lk0 (v := .ref (a 10)) rfl dX8_copyFrom_5 ?_
  refine g_callVv S hw (c_XH_copyFrom_17_10 l D cI cC cI2 a κ σ) gX8_copyFrom_X2_copyFrom rfl 17 rfl rfl 1 rfl (by decide +kernel) (by decide) (by decide) hl.1 rfl (Nat.le_of_ble_eq_true rfl) dX8_copyFrom_8 (fun H locs hw => ?_)
  refine lv_aload_n hx hb dX8_copyFrom_11 rfl (lv_at hl 0 rfl) ?_
  refine g_get S hw hinX8 (fs := fX45 a (XH_copyFrom_17_10_s κ σ)) 45 rfl rfl 1 (by decide) lk1 (v := .ref (a 46)) rfl dX8_copyFrom_12 ?_
  refine lv_aload_n hx hb dX8_copyFrom_15 rfl (lv_at hl 1 rfl) ?_
  refine g_get S hw hinX8 (fs := fX31 a (XH_copyFrom_17_10_s κ σ)) 31 rfl rfl 1 (by decide) lk1 (v := .ref (a 32)) rfl dX8_copyFrom_16 ?_
  refine g_callVv S hw (c_XW_copyFrom_46_32 l D cI cC cI2 a κ (XH_copyFrom_17_10_s κ σ)) gX8_copyFrom_X10_copyFrom rfl 46 rfl rfl 1 rfl (by decide +kernel) (by decide) (by decide) hl.1 rfl (Nat.le_of_ble_eq_true rfl) dX8_copyFrom_19 (fun H locs hw => ?_)
  refine lv_aload_n hx hb dX8_copyFrom_22 rfl (lv_at hl 0 rfl) ?_
  refine g_get S hw hinX8 (fs := fX45 a (XW_copyFrom_46_32_s κ (XH_copyFrom_17_10_s κ σ))) 45 rfl rfl 2 (by decide) lk2 (v := .ref (a 51)) rfl dX8_copyFrom_23 ?_
  refine lv_aload_n hx hb dX8_copyFrom_26 rfl (lv_at hl 1 rfl) ?_
  refine g_get S hw hinX8 (fs := fX31 a (XW_copyFrom_46_32_s κ (XH_copyFrom_17_10_s κ σ))) 31 rfl rfl 2 (by decide) lk2 (v := .ref (a 37)) rfl dX8_copyFrom_27 ?_
  refine g_callVv S hw (c_XP_copyFrom_51_37 l D cI cC cI2 a κ (XW_copyFrom_46_32_s κ (XH_copyFrom_17_10_s κ σ))) gX8_copyFrom_X5_copyFrom rfl 51 rfl rfl 1 rfl (by decide +kernel) (by decide) (by decide) hl.1 rfl (Nat.le_of_ble_eq_true rfl) dX8_copyFrom_30 (fun H locs hw => ?_)
  refine lv_aload_n hx hb dX8_copyFrom_33 rfl (lv_at hl 0 rfl) ?_
  refine g_get S hw hinX8 (fs := fX45 a (XP_copyFrom_51_37_s κ (XW_copyFrom_46_32_s κ (XH_copyFrom_17_10_s κ σ)))) 45 rfl rfl 3 (by decide) lk3 (v := .ref (a 56)) rfl dX8_copyFrom_34 ?_
  refine lv_aload_n hx hb dX8_copyFrom_37 rfl (lv_at hl 1 rfl) ?_
  refine g_get S hw hinX8 (fs := fX31 a (XP_copyFrom_51_37_s κ (XW_copyFrom_46_32_s κ (XH_copyFrom_17_10_s κ σ)))) 31 rfl rfl 3 (by decide) lk3 (v := .ref (a 42)) rfl dX8_copyFrom_38 ?_
  refine g_callVv S hw (c_XT_copyFrom_56_42 l D cI cC cI2 a κ (XP_copyFrom_51_37_s κ (XW_copyFrom_46_32_s κ (XH_copyFrom_17_10_s κ σ)))) gX8_copyFrom_X9_copyFrom rfl 56 rfl rfl 1 rfl (by decide +kernel) (by decide) (by decide) hl.1 rfl (Nat.le_of_ble_eq_true rfl) dX8_copyFrom_41 (fun H locs hw => ?_)
  refine lv_aload_n hx hb dX8_copyFrom_44 rfl (lv_at hl 0 rfl) ?_
  refine lv_aload_n hx hb dX8_copyFrom_45 rfl (lv_at hl 1 rfl) ?_
  refine g_get S hw hinX8 (fs := fX31 a (XT_copyFrom_56_42_s κ (XP_copyFrom_51_37_s κ (XW_copyFrom_46_32_s κ (XH_copyFrom_17_10_s κ σ))))) 31 rfl rfl 4 (by decide) lk4 (v := .int (σ 31 4)) (congrArg (fun z => some (Value.int z)) ((congrFun (XT_copyFrom_56_42_s_k κ (XP_copyFrom_51_37_s κ (XW_copyFrom_46_32_s κ (XH_copyFrom_17_10_s κ σ))) 31 (by omega) (by omega) (by omega)) 4).trans ((congrFun (XP_copyFrom_51_37_s_k κ (XW_copyFrom_46_32_s κ (XH_copyFrom_17_10_s κ σ)) 31 (by omega) (by omega) (by omega)) 4).trans ((congrFun (XW_copyFrom_46_32_s_k κ (XH_copyFrom_17_10_s κ σ) 31 (by omega) (by omega) (by omega) (by omega) (by omega)) 4).trans (congrFun (XH_copyFrom_17_10_s_k κ σ 31 (by omega) (by omega) (by omega)) 4))))) dX8_copyFrom_46 ?_
  refine g_put S hw hinX8 tyX8 tyX8_ok nmX8 (fs := fX45 a (XT_copyFrom_56_42_s κ (XP_copyFrom_51_37_s κ (XW_copyFrom_46_32_s κ (XH_copyFrom_17_10_s κ σ))))) 45 rfl rfl 4 (by decide) lk4 rfl rfl rfl (Nat.le_of_ble_eq_true rfl) (w2 := wX cI cC cI2 a κ (up2 (XT_copyFrom_56_42_s κ (XP_copyFrom_51_37_s κ (XW_copyFrom_46_32_s κ (XH_copyFrom_17_10_s κ σ)))) 45 4 (σ 31 4))) (wX_f45_4 _ _ _ _ _ _ _) dX8_copyFrom_49 (fun H locs hw => ?_)
  exact g_vret S hr hlk hw (by simp only [XS_copyFrom_45_31_s]) dX8_copyFrom_52
def XS_copyFrom_31_45_s (κ : Nat → Nat) (σ : Nat → Nat → Int32) : Nat → Nat → Int32 := up2 (XT_copyFrom_42_56_s κ (XP_copyFrom_37_51_s κ (XW_copyFrom_32_46_s κ (XH_copyFrom_10_17_s κ σ)))) 31 4 (σ 45 4)
theorem XS_copyFrom_31_45_s_k (κ : Nat → Nat) (σ : Nat → Nat → Int32) (c9 : Nat) (q0 : c9 ≠ 10) (q1 : c9 ≠ 11) (q2 : c9 ≠ 12) (q3 : c9 ≠ 31) (q4 : c9 ≠ 32) (q5 : c9 ≠ 33) (q6 : c9 ≠ 34) (q7 : c9 ≠ 35) (q8 : c9 ≠ 36) (q9 : c9 ≠ 37) (q10 : c9 ≠ 38) (q11 : c9 ≠ 39) (q12 : c9 ≠ 42) (q13 : c9 ≠ 43) (q14 : c9 ≠ 44) : XS_copyFrom_31_45_s κ σ c9 = σ c9 := by
  unfold XS_copyFrom_31_45_s
  exact (up2_n _ _ _ q3).trans ((XT_copyFrom_42_56_s_k κ (XP_copyFrom_37_51_s κ (XW_copyFrom_32_46_s κ (XH_copyFrom_10_17_s κ σ))) c9 q12 q13 q14).trans ((XP_copyFrom_37_51_s_k κ (XW_copyFrom_32_46_s κ (XH_copyFrom_10_17_s κ σ)) c9 q9 q10 q11).trans ((XW_copyFrom_32_46_s_k κ (XH_copyFrom_10_17_s κ σ) c9 q4 q5 q6 q7 q8).trans (XH_copyFrom_10_17_s_k κ σ c9 q0 q1 q2))))
set_option maxHeartbeats 4000000 in
set_option maxRecDepth 100000 in
theorem c_XS_copyFrom_31_45 (l : Launch) (D : va_G) (cI cC cI2 : ClassId) (a : Nat → Nat) (κ : Nat → Nat) (σ : Nat → Nat → Int32) : gV l D (tysX cI cC cI2) yX8_copyFrom wsX8_copyFrom 2 [.ref (a 31), .ref (a 45)] (wX cI cC cI2 a κ σ)  (wX cI cC cI2 a κ (XS_copyFrom_31_45_s κ σ)) := by
  refine g_start (cc := cX8_copyFrom) (maxL := 2) (ret := none) (Qc := gQv D (tysX cI cC cI2) (wX cI cC cI2 a κ (XS_copyFrom_31_45_s κ σ))) (by decide) rfl (Nat.le_of_ble_eq_true rfl) ?_
  intro p e s m below meth C A ls S hr hlk hw hl
  obtain ⟨hx, hb, hml, hown, hts⟩ := id S
  have hinX8 : ∀ x ∈ u_ws RX8 TX8 5, x ∈ wsX8_copyFrom := fun x h => List.mem_cons_of_mem _ (List.mem_append_left _ (List.mem_append_left _ (List.mem_append_left _ (List.mem_append_left _ (List.mem_append_right _ h)))))
  have lk0 : Cond.fieldLink RX8 39 "CowsOwed$Times" "herds" "LCowsOwed$Herds;" ∈ wsX8_copyFrom := by decide +kernel
  have lk1 : Cond.fieldLink RX8 10 "CowsOwed$Times" "weddings" "LCowsOwed$Weddings;" ∈ wsX8_copyFrom := by decide +kernel
  have lk2 : Cond.fieldLink RX8 19 "CowsOwed$Times" "plans" "LCowsOwed$Plans;" ∈ wsX8_copyFrom := by decide +kernel
  have lk3 : Cond.fieldLink RX8 26 "CowsOwed$Times" "told" "LCowsOwed$Told;" ∈ wsX8_copyFrom := by decide +kernel
  have lk4 : Cond.fieldLink RX8 30 "CowsOwed$Times" "years" "I" ∈ wsX8_copyFrom := by decide +kernel
  have hl : lv_has ls 2 [(0, .ref (a 31)), (1, .ref (a 45))] := hl
  refine lv_aload_n hx hb dX8_copyFrom_0 rfl (lv_at hl 0 rfl) ?_
  refine g_get S hw hinX8 (fs := fX31 a σ) 31 rfl rfl 0 (by decide) lk0 (v := .ref (a 10)) rfl dX8_copyFrom_1 ?_
  refine lv_aload_n hx hb dX8_copyFrom_4 rfl (lv_at hl 1 rfl) ?_
  refine g_get S hw hinX8 (fs := fX45 a σ) 45 rfl rfl 0 (by decide) lk0 (v := .ref (a 17)) rfl dX8_copyFrom_5 ?_
  refine g_callVv S hw (c_XH_copyFrom_10_17 l D cI cC cI2 a κ σ) gX8_copyFrom_X2_copyFrom rfl 10 rfl rfl 1 rfl (by decide +kernel) (by decide) (by decide) hl.1 rfl (Nat.le_of_ble_eq_true rfl) dX8_copyFrom_8 (fun H locs hw => ?_)
  refine lv_aload_n hx hb dX8_copyFrom_11 rfl (lv_at hl 0 rfl) ?_
  refine g_get S hw hinX8 (fs := fX31 a (XH_copyFrom_10_17_s κ σ)) 31 rfl rfl 1 (by decide) lk1 (v := .ref (a 32)) rfl dX8_copyFrom_12 ?_
  refine lv_aload_n hx hb dX8_copyFrom_15 rfl (lv_at hl 1 rfl) ?_
  refine g_get S hw hinX8 (fs := fX45 a (XH_copyFrom_10_17_s κ σ)) 45 rfl rfl 1 (by decide) lk1 (v := .ref (a 46)) rfl dX8_copyFrom_16 ?_
  refine g_callVv S hw (c_XW_copyFrom_32_46 l D cI cC cI2 a κ (XH_copyFrom_10_17_s κ σ)) gX8_copyFrom_X10_copyFrom rfl 32 rfl rfl 1 rfl (by decide +kernel) (by decide) (by decide) hl.1 rfl (Nat.le_of_ble_eq_true rfl) dX8_copyFrom_19 (fun H locs hw => ?_)
  refine lv_aload_n hx hb dX8_copyFrom_22 rfl (lv_at hl 0 rfl) ?_
  refine g_get S hw hinX8 (fs := fX31 a (XW_copyFrom_32_46_s κ (XH_copyFrom_10_17_s κ σ))) 31 rfl rfl 2 (by decide) lk2 (v := .ref (a 37)) rfl dX8_copyFrom_23 ?_
  refine lv_aload_n hx hb dX8_copyFrom_26 rfl (lv_at hl 1 rfl) ?_
  refine g_get S hw hinX8 (fs := fX45 a (XW_copyFrom_32_46_s κ (XH_copyFrom_10_17_s κ σ))) 45 rfl rfl 2 (by decide) lk2 (v := .ref (a 51)) rfl dX8_copyFrom_27 ?_
  refine g_callVv S hw (c_XP_copyFrom_37_51 l D cI cC cI2 a κ (XW_copyFrom_32_46_s κ (XH_copyFrom_10_17_s κ σ))) gX8_copyFrom_X5_copyFrom rfl 37 rfl rfl 1 rfl (by decide +kernel) (by decide) (by decide) hl.1 rfl (Nat.le_of_ble_eq_true rfl) dX8_copyFrom_30 (fun H locs hw => ?_)
  refine lv_aload_n hx hb dX8_copyFrom_33 rfl (lv_at hl 0 rfl) ?_
  refine g_get S hw hinX8 (fs := fX31 a (XP_copyFrom_37_51_s κ (XW_copyFrom_32_46_s κ (XH_copyFrom_10_17_s κ σ)))) 31 rfl rfl 3 (by decide) lk3 (v := .ref (a 42)) rfl dX8_copyFrom_34 ?_
  refine lv_aload_n hx hb dX8_copyFrom_37 rfl (lv_at hl 1 rfl) ?_
  refine g_get S hw hinX8 (fs := fX45 a (XP_copyFrom_37_51_s κ (XW_copyFrom_32_46_s κ (XH_copyFrom_10_17_s κ σ)))) 45 rfl rfl 3 (by decide) lk3 (v := .ref (a 56)) rfl dX8_copyFrom_38 ?_
  refine g_callVv S hw (c_XT_copyFrom_42_56 l D cI cC cI2 a κ (XP_copyFrom_37_51_s κ (XW_copyFrom_32_46_s κ (XH_copyFrom_10_17_s κ σ)))) gX8_copyFrom_X9_copyFrom rfl 42 rfl rfl 1 rfl (by decide +kernel) (by decide) (by decide) hl.1 rfl (Nat.le_of_ble_eq_true rfl) dX8_copyFrom_41 (fun H locs hw => ?_)
  refine lv_aload_n hx hb dX8_copyFrom_44 rfl (lv_at hl 0 rfl) ?_
  refine lv_aload_n hx hb dX8_copyFrom_45 rfl (lv_at hl 1 rfl) ?_
  refine g_get S hw hinX8 (fs := fX45 a (XT_copyFrom_42_56_s κ (XP_copyFrom_37_51_s κ (XW_copyFrom_32_46_s κ (XH_copyFrom_10_17_s κ σ))))) 45 rfl rfl 4 (by decide) lk4 (v := .int (σ 45 4)) (congrArg (fun z => some (Value.int z)) ((congrFun (XT_copyFrom_42_56_s_k κ (XP_copyFrom_37_51_s κ (XW_copyFrom_32_46_s κ (XH_copyFrom_10_17_s κ σ))) 45 (by omega) (by omega) (by omega)) 4).trans ((congrFun (XP_copyFrom_37_51_s_k κ (XW_copyFrom_32_46_s κ (XH_copyFrom_10_17_s κ σ)) 45 (by omega) (by omega) (by omega)) 4).trans ((congrFun (XW_copyFrom_32_46_s_k κ (XH_copyFrom_10_17_s κ σ) 45 (by omega) (by omega) (by omega) (by omega) (by omega)) 4).trans (congrFun (XH_copyFrom_10_17_s_k κ σ 45 (by omega) (by omega) (by omega)) 4))))) dX8_copyFrom_46 ?_
  refine g_put S hw hinX8 tyX8 tyX8_ok nmX8 (fs := fX31 a (XT_copyFrom_42_56_s κ (XP_copyFrom_37_51_s κ (XW_copyFrom_32_46_s κ (XH_copyFrom_10_17_s κ σ))))) 31 rfl rfl 4 (by decide) lk4 rfl rfl rfl (Nat.le_of_ble_eq_true rfl) (w2 := wX cI cC cI2 a κ (up2 (XT_copyFrom_42_56_s κ (XP_copyFrom_37_51_s κ (XW_copyFrom_32_46_s κ (XH_copyFrom_10_17_s κ σ)))) 31 4 (σ 45 4))) (wX_f31_4 _ _ _ _ _ _ _) dX8_copyFrom_49 (fun H locs hw => ?_)
  exact g_vret S hr hlk hw (by simp only [XS_copyFrom_31_45_s]) dX8_copyFrom_52
def XS_begin_s (κ : Nat → Nat) (σ : Nat → Nat → Int32) (cnt : Int32) (rate : Int32) : Nat → Nat → Int32 := up2 (up2 (up2 (up2 (XH_begin_s 10 κ σ cnt rate) 32 4 0) 37 4 0) 42 2 0) 31 4 0
theorem XS_begin_s_k (κ : Nat → Nat) (σ : Nat → Nat → Int32) (cnt : Int32) (rate : Int32) (c9 : Nat) (q0 : c9 ≠ 10) (q1 : c9 ≠ 11) (q2 : c9 ≠ 12) (q3 : c9 ≠ 31) (q4 : c9 ≠ 32) (q5 : c9 ≠ 37) (q6 : c9 ≠ 42) : XS_begin_s κ σ cnt rate c9 = σ c9 := by
  unfold XS_begin_s
  exact (up2_n _ _ _ q3).trans ((up2_n _ _ _ q6).trans ((up2_n _ _ _ q5).trans ((up2_n _ _ _ q4).trans (XH_begin_s_k 10 κ σ cnt rate c9 q0 q1 q2))))
set_option maxHeartbeats 4000000 in
set_option maxRecDepth 100000 in
theorem c_XS_begin (l : Launch) (D : va_G) (cI cC cI2 : ClassId) (a : Nat → Nat) (κ : Nat → Nat) (σ : Nat → Nat → Int32) (cnt : Int32) (rate : Int32) : gV l D (tysX cI cC cI2) yX8_begin wsX8_begin 2 [.ref (a 31), .int cnt, .int rate] (wX cI cC cI2 a κ σ)  (wX cI cC cI2 a κ (XS_begin_s κ σ cnt rate)) := by
  refine g_start (cc := cX8_begin) (maxL := 3) (ret := none) (Qc := gQv D (tysX cI cC cI2) (wX cI cC cI2 a κ (XS_begin_s κ σ cnt rate))) (by decide) rfl (Nat.le_of_ble_eq_true rfl) ?_
  intro p e s m below meth C A ls S hr hlk hw hl
  obtain ⟨hx, hb, hml, hown, hts⟩ := id S
  have hinX10 : ∀ x ∈ u_ws RX10 TX10 5, x ∈ wsX8_begin := fun x h => List.mem_cons_of_mem _ (List.mem_append_left _ (List.mem_append_left _ (List.mem_append_left _ (List.mem_append_right _ h))))
  have hinX5 : ∀ x ∈ u_ws RX5 TX5 6, x ∈ wsX8_begin := fun x h => List.mem_cons_of_mem _ (List.mem_append_left _ (List.mem_append_left _ (List.mem_append_right _ h)))
  have hinX8 : ∀ x ∈ u_ws RX8 TX8 5, x ∈ wsX8_begin := fun x h => List.mem_cons_of_mem _ (List.mem_append_left _ (List.mem_append_left _ (List.mem_append_left _ (List.mem_append_left _ (List.mem_append_right _ h)))))
  have hinX9 : ∀ x ∈ u_ws RX9 TX9 3, x ∈ wsX8_begin := fun x h => List.mem_cons_of_mem _ (List.mem_append_left _ (List.mem_append_right _ h))
  have lk0 : Cond.fieldLink RX8 39 "CowsOwed$Times" "herds" "LCowsOwed$Herds;" ∈ wsX8_begin := by decide +kernel
  have lk1 : Cond.fieldLink RX8 10 "CowsOwed$Times" "weddings" "LCowsOwed$Weddings;" ∈ wsX8_begin := by decide +kernel
  have lk2 : Cond.fieldLink RX8 47 "CowsOwed$Weddings" "size" "I" ∈ wsX8_begin := by decide +kernel
  have lk3 : Cond.fieldLink RX8 19 "CowsOwed$Times" "plans" "LCowsOwed$Plans;" ∈ wsX8_begin := by decide +kernel
  have lk4 : Cond.fieldLink RX8 50 "CowsOwed$Plans" "size" "I" ∈ wsX8_begin := by decide +kernel
  have lk5 : Cond.fieldLink RX8 26 "CowsOwed$Times" "told" "LCowsOwed$Told;" ∈ wsX8_begin := by decide +kernel
  have lk6 : Cond.fieldLink RX8 51 "CowsOwed$Told" "size" "I" ∈ wsX8_begin := by decide +kernel
  have lk7 : Cond.fieldLink RX8 30 "CowsOwed$Times" "years" "I" ∈ wsX8_begin := by decide +kernel
  have hl : lv_has ls 3 [(0, .ref (a 31)), (1, .int cnt), (2, .int rate)] := hl
  refine lv_aload_n hx hb dX8_begin_0 rfl (lv_at hl 0 rfl) ?_
  refine g_get S hw hinX8 (fs := fX31 a σ) 31 rfl rfl 0 (by decide) lk0 (v := .ref (a 10)) rfl dX8_begin_1 ?_
  refine lv_iload_n hx hb dX8_begin_4 rfl (lv_at hl 1 rfl) ?_
  refine lv_iload_n hx hb dX8_begin_5 rfl (lv_at hl 2 rfl) ?_
  refine g_callVv S hw (c_XH_begin_10 l D cI cC cI2 a κ σ cnt rate) gX8_begin_X2_begin rfl 10 rfl rfl 2 rfl (by decide +kernel) (by decide) (by decide) hl.1 rfl (Nat.le_of_ble_eq_true rfl) dX8_begin_6 (fun H locs hw => ?_)
  refine lv_aload_n hx hb dX8_begin_9 rfl (lv_at hl 0 rfl) ?_
  refine g_get S hw hinX8 (fs := fX31 a (XH_begin_s 10 κ σ cnt rate)) 31 rfl rfl 1 (by decide) lk1 (v := .ref (a 32)) rfl dX8_begin_10 ?_
  refine lv_iconst (v := 0) hx hb dX8_begin_13 (by decide) ?_
  refine g_put S hw hinX10 tyX10 tyX10_ok nmX10 (fs := fX32 a (XH_begin_s 10 κ σ cnt rate)) 32 rfl rfl 4 (by decide) lk2 rfl rfl rfl (Nat.le_of_ble_eq_true rfl) (w2 := wX cI cC cI2 a κ (up2 (XH_begin_s 10 κ σ cnt rate) 32 4 0)) (wX_f32_4 _ _ _ _ _ _ _) dX8_begin_14 (fun H locs hw => ?_)
  refine lv_aload_n hx hb dX8_begin_17 rfl (lv_at hl 0 rfl) ?_
  refine g_get S hw hinX8 (fs := fX31 a (up2 (XH_begin_s 10 κ σ cnt rate) 32 4 0)) 31 rfl rfl 2 (by decide) lk3 (v := .ref (a 37)) rfl dX8_begin_18 ?_
  refine lv_iconst (v := 0) hx hb dX8_begin_21 (by decide) ?_
  refine g_put S hw hinX5 tyX5 tyX5_ok nmX5 (fs := fX37 a (up2 (XH_begin_s 10 κ σ cnt rate) 32 4 0)) 37 rfl rfl 4 (by decide) lk4 rfl rfl rfl (Nat.le_of_ble_eq_true rfl) (w2 := wX cI cC cI2 a κ (up2 (up2 (XH_begin_s 10 κ σ cnt rate) 32 4 0) 37 4 0)) (wX_f37_4 _ _ _ _ _ _ _) dX8_begin_22 (fun H locs hw => ?_)
  refine lv_aload_n hx hb dX8_begin_25 rfl (lv_at hl 0 rfl) ?_
  refine g_get S hw hinX8 (fs := fX31 a (up2 (up2 (XH_begin_s 10 κ σ cnt rate) 32 4 0) 37 4 0)) 31 rfl rfl 3 (by decide) lk5 (v := .ref (a 42)) rfl dX8_begin_26 ?_
  refine lv_iconst (v := 0) hx hb dX8_begin_29 (by decide) ?_
  refine g_put S hw hinX9 tyX9 tyX9_ok nmX9 (fs := fX42 a (up2 (up2 (XH_begin_s 10 κ σ cnt rate) 32 4 0) 37 4 0)) 42 rfl rfl 2 (by decide) lk6 rfl rfl rfl (Nat.le_of_ble_eq_true rfl) (w2 := wX cI cC cI2 a κ (up2 (up2 (up2 (XH_begin_s 10 κ σ cnt rate) 32 4 0) 37 4 0) 42 2 0)) (wX_f42_2 _ _ _ _ _ _ _) dX8_begin_30 (fun H locs hw => ?_)
  refine lv_aload_n hx hb dX8_begin_33 rfl (lv_at hl 0 rfl) ?_
  refine lv_iconst (v := 0) hx hb dX8_begin_34 (by decide) ?_
  refine g_put S hw hinX8 tyX8 tyX8_ok nmX8 (fs := fX31 a (up2 (up2 (up2 (XH_begin_s 10 κ σ cnt rate) 32 4 0) 37 4 0) 42 2 0)) 31 rfl rfl 4 (by decide) lk7 rfl rfl rfl (Nat.le_of_ble_eq_true rfl) (w2 := wX cI cC cI2 a κ (up2 (up2 (up2 (up2 (XH_begin_s 10 κ σ cnt rate) 32 4 0) 37 4 0) 42 2 0) 31 4 0)) (wX_f31_4 _ _ _ _ _ _ _) dX8_begin_35 (fun H locs hw => ?_)
  exact g_vret S hr hlk hw (by simp only [XS_begin_s]) dX8_begin_38
