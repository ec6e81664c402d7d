/-! ===== faultOf() of the model ===== -/
theorem M_go_s_c (σ : Nat → Nat → Int32) (rm : Nat) (c : Int32) {j : Nat} (h0 : j ≠ 0) (h2 : j ≠ 2) : M_go_s σ rm c j = σ j := by
  unfold M_go_s
  simp only [ite_self]
  split
  · exact (up2_n _ _ _ h2).trans (up2_n _ _ _ h0)
  · split
    · exact (up2_n _ _ _ h0).trans ((up2_n _ _ _ h2).trans (up2_n _ _ _ h0))
    · split
      · split
        · exact (up2_n _ _ _ h0).trans (up2_n _ _ _ h0)
        · exact (up2_n _ _ _ h0).trans (up2_n _ _ _ h0)
      · split
        · exact (up2_n _ _ _ h0).trans (up2_n _ _ _ h0)
        · exact up2_n _ _ _ h0
theorem M_go_s_0 (σ : Nat → Nat → Int32) (rm : Nat) (c : Int32) {k : Nat} (h3 : k ≠ 3) (h4 : k ≠ 4) (h5 : k ≠ 5) : M_go_s σ rm c 0 k = σ 0 k := by
  unfold M_go_s
  simp only [ite_self]
  split
  · exact (up2_rn (by decide)).trans (up2_rp h5)
  · split
    · exact (up2_rp h3).trans ((up2_rn (by decide)).trans (up2_rp h5))
    · split
      · split
        · exact (up2_rp h5).trans (up2_rp h5)
        · exact (up2_rp h5).trans (up2_rp h5)
      · split
        · exact (up2_rp h4).trans (up2_rp h5)
        · exact up2_rp h5
theorem M_faultOf_L12_c {j : Nat} (h0 : j ≠ 0) (h2 : j ≠ 2) : ∀ (n i : Nat) (σ : Nat → Nat → Int32), (M_faultOf_L12 n i σ).2 j = σ j := by
  intro n
  induction n with
  | zero => intros; rfl
  | succ n ih =>
    intro i σ
    unfold M_faultOf_L12
    split
    · exact M_go_s_c _ _ _ h0 h2
    · exact (ih _ _).trans (M_go_s_c _ _ _ h0 h2)
theorem M_faultOf_L12_0 {k : Nat} (h3 : k ≠ 3) (h4 : k ≠ 4) (h5 : k ≠ 5) : ∀ (n i : Nat) (σ : Nat → Nat → Int32), (M_faultOf_L12 n i σ).2 0 k = σ 0 k := by
  intro n
  induction n with
  | zero => intros; rfl
  | succ n ih =>
    intro i σ
    unfold M_faultOf_L12
    split
    · exact M_go_s_0 _ _ _ h3 h4 h5
    · exact (ih _ _).trans (M_go_s_0 _ _ _ h3 h4 h5)
theorem M_faultOf_L12_rm : ∀ (n i : Nat) (σ : Nat → Nat → Int32), goOK σ → ∃ rm, (M_faultOf_L12 n i σ).2 0 3 = nI rm ∧ rm ≤ 4 := by
  intro n
  induction n with
  | zero => intro i σ h; exact ⟨_, h.1, h.2.1⟩
  | succ n ih =>
    intro i σ h
    obtain ⟨h1, h2⟩ := M_go_next (c := σ 1 i) h.1 h.2.1 h.2.2
    unfold M_faultOf_L12
    split
    · exact h1
    · rename_i g
      exact ih _ _ (h2 g)
theorem M_faultOf_s_c (σ : Nat → Nat → Int32) (pm : Nat) {j : Nat} (h0 : j ≠ 0) (h2 : j ≠ 2) : M_faultOf_s σ pm j = σ j := (M_faultOf_L12_c h0 h2 _ _ _).trans ((up2_n _ _ _ h0).trans (up2_n _ _ _ h0))
theorem M_faultOf_s_0 (σ : Nat → Nat → Int32) (pm : Nat) {k : Nat} (h3 : k ≠ 3) (h4 : k ≠ 4) (h5 : k ≠ 5) : M_faultOf_s σ pm 0 k = σ 0 k := (M_faultOf_L12_0 h3 h4 h5 _ _ _).trans ((up2_rp h5).trans (up2_rp h3))
theorem goOK_start (σ : Nat → Nat → Int32) : goOK (up2 (up2 σ 0 3 0) 0 5 0) := goOK_of (rm := 0) ((up2_rp (by decide)).trans up2_rs) (by decide) (fun _ => by decide)
theorem M_faultOf_rm (σ : Nat → Nat → Int32) (pm : Nat) : M_faultOf_s σ pm 0 3 = nI (M_faultOf_s σ pm 0 3).toNatClampNeg ∧ (M_faultOf_s σ pm 0 3).toNatClampNeg ≤ 4 := by
  obtain ⟨rm, h1, h2⟩ := M_faultOf_L12_rm pm 0 _ (goOK_start σ)
  have h3 : M_faultOf_s σ pm 0 3 = nI rm := h1
  rw [h3, nI_clamp (by omega)]
  exact ⟨rfl, h2⟩
theorem M_faultOf_L12_le : ∀ (n i : Nat) (σ : Nat → Nat → Int32), (M_faultOf_L12 n i σ).1 ≤ i + n := by
  intro n
  induction n with
  | zero => intro i σ; exact Nat.le_refl _
  | succ n ih =>
    intro i σ
    unfold M_faultOf_L12
    split
    · exact Nat.le_add_right _ _
    · have := ih (i + 1) (M_go_s σ (σ 0 3).toNatClampNeg (σ 1 i))
      omega
theorem M_faultOf_le (σ : Nat → Nat → Int32) (pm : Nat) : M_faultOf_n σ pm ≤ pm := by
  have := M_faultOf_L12_le pm 0 (up2 (up2 σ 0 3 0) 0 5 0)
  unfold M_faultOf_n
  omega
set_option maxHeartbeats 4000000 in
set_option maxRecDepth 100000 in
theorem c_M_faultOf (l : Launch) (D : va_G) (cI : ClassId) (a : Nat → Nat) (σ : Nat → Nat → Int32) (h : Int64) (pm : Nat) (hpm : σ 0 1 = nI pm) (hpmb : pm ≤ 16) : gI l D [(cI, .int)] yX12_faultOf wsX12_faultOf 3 [.ref (a 0)] (wM cI a σ h) (nI (M_faultOf_n σ pm)) (wM cI a (M_faultOf_s σ pm) h) := by
  refine g_start (cc := cX12_faultOf) (maxL := 2) (ret := some .int) (Qc := gQi D [(cI, .int)] (nI (M_faultOf_n σ pm)) (wM cI a (M_faultOf_s σ pm) h)) (by decide) rfl (Nat.le_of_ble_eq_true rfl) ?_
  intro p e s m below meth C A ls S hr hlk hw hl
  obtain ⟨hx, hb, hml, hown, hts⟩ := id S
  have hinX12 : ∀ x ∈ u_ws RX12 TX12 38, x ∈ wsX12_faultOf := fun x h => List.mem_cons_of_mem _ (List.mem_append_right _ h)
  have lk0 : Cond.fieldLink RX12 83 "CowsOwedModel" "readMany" "I" ∈ wsX12_faultOf := by decide +kernel
  have lk1 : Cond.fieldLink RX12 80 "CowsOwedModel" "state" "I" ∈ wsX12_faultOf := by decide +kernel
  have lk2 : Cond.fieldLink RX12 77 "CowsOwedModel" "pageMany" "I" ∈ wsX12_faultOf := by decide +kernel
  have lk3 : Cond.fieldLink RX12 7 "CowsOwedModel" "page" "[I" ∈ wsX12_faultOf := by decide +kernel
  have hl : lv_has ls 2 [(0, .ref (a 0))] := hl
  refine lv_aload_n hx hb dX12_faultOf_0 rfl (lv_at hl 0 rfl) ?_
  refine lv_iconst (v := 0) hx hb dX12_faultOf_1 (by decide) ?_
  refine g_put S hw hinX12 tyX12 tyX12_ok nmX12 (fs := fM a σ h) 0 rfl rfl 3 (by decide) lk0 rfl rfl rfl (Nat.le_of_ble_eq_true rfl) (w2 := wM cI a (up2 σ 0 3 0) h) (wM_f3 _ _ _ _ _) dX12_faultOf_2 (fun H locs hw => ?_)
  refine lv_aload_n hx hb dX12_faultOf_5 rfl (lv_at hl 0 rfl) ?_
  refine lv_iconst (v := 0) hx hb dX12_faultOf_6 (by decide) ?_
  refine g_put S hw hinX12 tyX12 tyX12_ok nmX12 (fs := fM a (up2 σ 0 3 0) h) 0 rfl rfl 5 (by decide) lk1 rfl rfl rfl (Nat.le_of_ble_eq_true rfl) (w2 := wM cI a (up2 (up2 σ 0 3 0) 0 5 0) h) (wM_f5 _ _ _ _ _) dX12_faultOf_7 (fun H locs hw => ?_)
  refine lv_iconst (v := 0) hx hb dX12_faultOf_10 (by decide) ?_
  refine lv_istore_n (lv' := [(1, .int (nI 0)), (0, .ref (a 0))]) hx hb dX12_faultOf_11 rfl hl (by decide) rfl (fun ls hl => ?_)
  have L12 : ∀ (n i : Nat) (τ : Nat → Nat → Int32) (H : Heap) (locs : List Loc) (ls : Array Slot), i + n = pm → τ 0 1 = nI pm → goOK τ → M_faultOf_L12 n i τ = M_faultOf_L12 pm 0 (up2 (up2 σ 0 3 0) 0 5 0) → gw D [(cI, .int)] A s H locs (wM cI a τ h) → lv_has ls 2 [(1, .int (nI i)), (0, .ref (a 0))] → W p l e (gR 3) s m ([.ref (a 0)] : List Value).toArray below meth C H locs 0 0 (MQ below (gQi D [(cI, .int)] (nI (M_faultOf_n σ pm)) (wM cI a (M_faultOf_s σ pm) h) A) ([.ref (a 0)] : List Value).toArray s 0 0 A) (F0 m 12 ls []) := by
    intro n
    induction n with
    | zero =>
      intro i τ H locs ls hi h1 hg hF hw hl
      refine lv_iload_n hx hb dX12_faultOf_12 rfl (lv_at hl 0 rfl) ?_
      refine lv_aload_n hx hb dX12_faultOf_13 rfl (lv_at hl 1 rfl) ?_
      refine g_get S hw hinX12 (fs := fM a τ h) 0 rfl rfl 1 (by decide) lk2 (v := .int (nI pm)) (congrArg (fun z => some (Value.int z)) h1) dX12_faultOf_14 ?_
      refine ln_ge (x := i) (y := pm) hx hb (by omega) (by omega) (tgt := 39) dX12_faultOf_17 (by decide) (fun c_x => ?_) (fun c_x => absurd (by omega) c_x)
      have e1 : i = M_faultOf_n σ pm := congrArg (fun z => z.1) hF
      have e2 : τ = M_faultOf_s σ pm := congrArg (fun z => z.2) hF
      refine lv_iload_n hx hb dX12_faultOf_39 rfl (lv_at hl 0 rfl) ?_
      exact g_iret S hr hlk hw (congrArg nI e1) (congrArg (fun z => wM cI a z h) e2) dX12_faultOf_40
    | succ n ih =>
      intro i τ H locs ls hi h1 hg hF hw hl
      refine lv_iload_n hx hb dX12_faultOf_12 rfl (lv_at hl 0 rfl) ?_
      refine lv_aload_n hx hb dX12_faultOf_13 rfl (lv_at hl 1 rfl) ?_
      refine g_get S hw hinX12 (fs := fM a τ h) 0 rfl rfl 1 (by decide) lk2 (v := .int (nI pm)) (congrArg (fun z => some (Value.int z)) h1) dX12_faultOf_14 ?_
      refine ln_ge (x := i) (y := pm) hx hb (by omega) (by omega) (tgt := 39) dX12_faultOf_17 (by decide) (fun c_x => absurd c_x (by omega)) (fun c_x => ?_)
      refine lv_aload_n hx hb dX12_faultOf_20 rfl (lv_at hl 1 rfl) ?_
      refine lv_aload_n hx hb dX12_faultOf_21 rfl (lv_at hl 1 rfl) ?_
      refine g_get S hw hinX12 (fs := fM a τ h) 0 rfl rfl 0 (by decide) lk3 (v := .ref (a 1)) rfl dX12_faultOf_22 ?_
      refine lv_iload_n hx hb dX12_faultOf_25 rfl (lv_at hl 0 rfl) ?_
      refine g_iald S hw (f := τ 1) (i := i) (x := τ 1 i) 1 0 rfl rfl (by omega) (by decide) rfl dX12_faultOf_26 ?_
      refine g_callVi S hw (c_M_go l D cI a τ h (τ 0 3).toNatClampNeg (τ 1 i) hg.1 hg.2.1 hg.2.2) gX12_faultOf_X12_go rfl 0 rfl rfl 1 rfl (by decide +kernel) (by decide) (by decide) hl.1 rfl (Nat.le_of_ble_eq_true rfl) dX12_faultOf_27 (fun H locs hw => ?_)
      refine lv_if_eq hx hb (tgt := 39) dX12_faultOf_30 (by decide) (fun c_1 => ?_) (fun c_1 => ?_)
      · have q := hF
        simp only [M_faultOf_L12, if_pos c_1] at q
        have e1 : i = M_faultOf_n σ pm := congrArg (fun z => z.1) q
        have e2 : M_go_s τ (τ 0 3).toNatClampNeg (τ 1 i) = M_faultOf_s σ pm := congrArg (fun z => z.2) q
        refine lv_iload_n hx hb dX12_faultOf_39 rfl (lv_at hl 0 rfl) ?_
        exact g_iret S hr hlk hw (congrArg nI e1) (congrArg (fun z => wM cI a z h) e2) dX12_faultOf_40
      · have q := hF
        simp only [M_faultOf_L12, if_neg c_1] at q
        refine lv_iinc (v := nI (i + 1)) (lv' := [(1, .int (nI (i + 1))), (0, .ref (a 0))]) hx hb dX12_faultOf_33 hl (k := 0) rfl (nI_1 _) (by decide) rfl (fun ls hl => ?_)
        refine lv_goto (tgt := 12) hx hb dX12_faultOf_36 (by decide) ?_
        exact ih (i + 1) _ _ _ _ (by omega) ((M_go_s_0 _ _ _ (by decide) (by decide) (by decide)).trans h1) ((M_go_next hg.1 hg.2.1 hg.2.2).2 c_1) q hw hl
  exact L12 pm 0 _ _ _ _ (by omega) ((up2_rp (by decide)).trans ((up2_rp (by decide)).trans hpm)) (goOK_start σ) rfl hw hl
theorem M_faultOf_s_k1 (σ : Nat → Nat → Int32) (pm : Nat) : M_faultOf_s σ pm 1 = σ 1 := M_faultOf_s_c σ pm (by decide) (by decide)
theorem M_faultOf_s_k3 (σ : Nat → Nat → Int32) (pm : Nat) : M_faultOf_s σ pm 3 = σ 3 := M_faultOf_s_c σ pm (by decide) (by decide)
theorem M_faultOf_s_k4 (σ : Nat → Nat → Int32) (pm : Nat) : M_faultOf_s σ pm 4 = σ 4 := M_faultOf_s_c σ pm (by decide) (by decide)
theorem M_faultOf_s_k5 (σ : Nat → Nat → Int32) (pm : Nat) : M_faultOf_s σ pm 5 = σ 5 := M_faultOf_s_c σ pm (by decide) (by decide)
theorem M_faultOf_s_k6 (σ : Nat → Nat → Int32) (pm : Nat) : M_faultOf_s σ pm 6 = σ 6 := M_faultOf_s_c σ pm (by decide) (by decide)
theorem M_faultOf_s_k7 (σ : Nat → Nat → Int32) (pm : Nat) : M_faultOf_s σ pm 7 = σ 7 := M_faultOf_s_c σ pm (by decide) (by decide)
theorem M_faultOf_s_k8 (σ : Nat → Nat → Int32) (pm : Nat) : M_faultOf_s σ pm 8 = σ 8 := M_faultOf_s_c σ pm (by decide) (by decide)
theorem M_faultOf_s_k9 (σ : Nat → Nat → Int32) (pm : Nat) : M_faultOf_s σ pm 9 = σ 9 := M_faultOf_s_c σ pm (by decide) (by decide)
theorem M_faultOf_s_k10 (σ : Nat → Nat → Int32) (pm : Nat) : M_faultOf_s σ pm 10 = σ 10 := M_faultOf_s_c σ pm (by decide) (by decide)
theorem M_faultOf_s_k11 (σ : Nat → Nat → Int32) (pm : Nat) : M_faultOf_s σ pm 11 = σ 11 := M_faultOf_s_c σ pm (by decide) (by decide)
theorem M_faultOf_s_k12 (σ : Nat → Nat → Int32) (pm : Nat) : M_faultOf_s σ pm 12 = σ 12 := M_faultOf_s_c σ pm (by decide) (by decide)
theorem M_faultOf_s_k13 (σ : Nat → Nat → Int32) (pm : Nat) : M_faultOf_s σ pm 13 = σ 13 := M_faultOf_s_c σ pm (by decide) (by decide)
theorem M_faultOf_s_k14 (σ : Nat → Nat → Int32) (pm : Nat) : M_faultOf_s σ pm 14 = σ 14 := M_faultOf_s_c σ pm (by decide) (by decide)
theorem M_faultOf_s_k15 (σ : Nat → Nat → Int32) (pm : Nat) : M_faultOf_s σ pm 15 = σ 15 := M_faultOf_s_c σ pm (by decide) (by decide)
theorem M_faultOf_s_k16 (σ : Nat → Nat → Int32) (pm : Nat) : M_faultOf_s σ pm 16 = σ 16 := M_faultOf_s_c σ pm (by decide) (by decide)
theorem M_faultOf_s_k17 (σ : Nat → Nat → Int32) (pm : Nat) : M_faultOf_s σ pm 17 = σ 17 := M_faultOf_s_c σ pm (by decide) (by decide)
theorem M_faultOf_s_k18 (σ : Nat → Nat → Int32) (pm : Nat) : M_faultOf_s σ pm 18 = σ 18 := M_faultOf_s_c σ pm (by decide) (by decide)
theorem M_faultOf_s_k19 (σ : Nat → Nat → Int32) (pm : Nat) : M_faultOf_s σ pm 19 = σ 19 := M_faultOf_s_c σ pm (by decide) (by decide)
theorem M_faultOf_s_p0_0 (σ : Nat → Nat → Int32) (pm : Nat) : M_faultOf_s σ pm 0 0 = σ 0 0 := M_faultOf_s_0 σ pm (by decide) (by decide) (by decide)
theorem M_faultOf_s_p0_1 (σ : Nat → Nat → Int32) (pm : Nat) : M_faultOf_s σ pm 0 1 = σ 0 1 := M_faultOf_s_0 σ pm (by decide) (by decide) (by decide)
theorem M_faultOf_s_p0_2 (σ : Nat → Nat → Int32) (pm : Nat) : M_faultOf_s σ pm 0 2 = σ 0 2 := M_faultOf_s_0 σ pm (by decide) (by decide) (by decide)
theorem M_faultOf_s_p0_6 (σ : Nat → Nat → Int32) (pm : Nat) : M_faultOf_s σ pm 0 6 = σ 0 6 := M_faultOf_s_0 σ pm (by decide) (by decide) (by decide)
theorem M_faultOf_s_p0_7 (σ : Nat → Nat → Int32) (pm : Nat) : M_faultOf_s σ pm 0 7 = σ 0 7 := M_faultOf_s_0 σ pm (by decide) (by decide) (by decide)
theorem M_faultOf_s_p0_8 (σ : Nat → Nat → Int32) (pm : Nat) : M_faultOf_s σ pm 0 8 = σ 0 8 := M_faultOf_s_0 σ pm (by decide) (by decide) (by decide)
theorem M_faultOf_s_p0_9 (σ : Nat → Nat → Int32) (pm : Nat) : M_faultOf_s σ pm 0 9 = σ 0 9 := M_faultOf_s_0 σ pm (by decide) (by decide) (by decide)
theorem M_faultOf_s_p0_10 (σ : Nat → Nat → Int32) (pm : Nat) : M_faultOf_s σ pm 0 10 = σ 0 10 := M_faultOf_s_0 σ pm (by decide) (by decide) (by decide)
theorem M_faultOf_s_p0_11 (σ : Nat → Nat → Int32) (pm : Nat) : M_faultOf_s σ pm 0 11 = σ 0 11 := M_faultOf_s_0 σ pm (by decide) (by decide) (by decide)
theorem M_faultOf_s_p0_12 (σ : Nat → Nat → Int32) (pm : Nat) : M_faultOf_s σ pm 0 12 = σ 0 12 := M_faultOf_s_0 σ pm (by decide) (by decide) (by decide)
theorem M_faultOf_s_p0_13 (σ : Nat → Nat → Int32) (pm : Nat) : M_faultOf_s σ pm 0 13 = σ 0 13 := M_faultOf_s_0 σ pm (by decide) (by decide) (by decide)
theorem M_faultOf_s_p0_14 (σ : Nat → Nat → Int32) (pm : Nat) : M_faultOf_s σ pm 0 14 = σ 0 14 := M_faultOf_s_0 σ pm (by decide) (by decide) (by decide)
theorem M_faultOf_s_p0_15 (σ : Nat → Nat → Int32) (pm : Nat) : M_faultOf_s σ pm 0 15 = σ 0 15 := M_faultOf_s_0 σ pm (by decide) (by decide) (by decide)
theorem M_faultOf_s_p0_16 (σ : Nat → Nat → Int32) (pm : Nat) : M_faultOf_s σ pm 0 16 = σ 0 16 := M_faultOf_s_0 σ pm (by decide) (by decide) (by decide)
theorem M_faultOf_s_p0_17 (σ : Nat → Nat → Int32) (pm : Nat) : M_faultOf_s σ pm 0 17 = σ 0 17 := M_faultOf_s_0 σ pm (by decide) (by decide) (by decide)
theorem M_faultOf_s_p0_18 (σ : Nat → Nat → Int32) (pm : Nat) : M_faultOf_s σ pm 0 18 = σ 0 18 := M_faultOf_s_0 σ pm (by decide) (by decide) (by decide)
theorem M_faultOf_s_p0_19 (σ : Nat → Nat → Int32) (pm : Nat) : M_faultOf_s σ pm 0 19 = σ 0 19 := M_faultOf_s_0 σ pm (by decide) (by decide) (by decide)
theorem M_faultOf_s_p0_20 (σ : Nat → Nat → Int32) (pm : Nat) : M_faultOf_s σ pm 0 20 = σ 0 20 := M_faultOf_s_0 σ pm (by decide) (by decide) (by decide)
theorem M_faultOf_s_p0_21 (σ : Nat → Nat → Int32) (pm : Nat) : M_faultOf_s σ pm 0 21 = σ 0 21 := M_faultOf_s_0 σ pm (by decide) (by decide) (by decide)
theorem M_faultOf_s_p0_22 (σ : Nat → Nat → Int32) (pm : Nat) : M_faultOf_s σ pm 0 22 = σ 0 22 := M_faultOf_s_0 σ pm (by decide) (by decide) (by decide)
theorem M_faultOf_s_p0_23 (σ : Nat → Nat → Int32) (pm : Nat) : M_faultOf_s σ pm 0 23 = σ 0 23 := M_faultOf_s_0 σ pm (by decide) (by decide) (by decide)
theorem M_faultOf_s_p0_24 (σ : Nat → Nat → Int32) (pm : Nat) : M_faultOf_s σ pm 0 24 = σ 0 24 := M_faultOf_s_0 σ pm (by decide) (by decide) (by decide)
theorem M_faultOf_s_p0_25 (σ : Nat → Nat → Int32) (pm : Nat) : M_faultOf_s σ pm 0 25 = σ 0 25 := M_faultOf_s_0 σ pm (by decide) (by decide) (by decide)
theorem M_faultOf_s_p0_26 (σ : Nat → Nat → Int32) (pm : Nat) : M_faultOf_s σ pm 0 26 = σ 0 26 := M_faultOf_s_0 σ pm (by decide) (by decide) (by decide)
theorem M_faultOf_s_p0_27 (σ : Nat → Nat → Int32) (pm : Nat) : M_faultOf_s σ pm 0 27 = σ 0 27 := M_faultOf_s_0 σ pm (by decide) (by decide) (by decide)
theorem M_faultOf_s_p0_28 (σ : Nat → Nat → Int32) (pm : Nat) : M_faultOf_s σ pm 0 28 = σ 0 28 := M_faultOf_s_0 σ pm (by decide) (by decide) (by decide)
theorem M_faultOf_s_p0_29 (σ : Nat → Nat → Int32) (pm : Nat) : M_faultOf_s σ pm 0 29 = σ 0 29 := M_faultOf_s_0 σ pm (by decide) (by decide) (by decide)
theorem M_faultOf_s_p0_30 (σ : Nat → Nat → Int32) (pm : Nat) : M_faultOf_s σ pm 0 30 = σ 0 30 := M_faultOf_s_0 σ pm (by decide) (by decide) (by decide)
theorem M_faultOf_s_p0_31 (σ : Nat → Nat → Int32) (pm : Nat) : M_faultOf_s σ pm 0 31 = σ 0 31 := M_faultOf_s_0 σ pm (by decide) (by decide) (by decide)
theorem M_faultOf_s_p0_32 (σ : Nat → Nat → Int32) (pm : Nat) : M_faultOf_s σ pm 0 32 = σ 0 32 := M_faultOf_s_0 σ pm (by decide) (by decide) (by decide)
theorem M_faultOf_s_p0_33 (σ : Nat → Nat → Int32) (pm : Nat) : M_faultOf_s σ pm 0 33 = σ 0 33 := M_faultOf_s_0 σ pm (by decide) (by decide) (by decide)
theorem M_faultOf_s_p0_34 (σ : Nat → Nat → Int32) (pm : Nat) : M_faultOf_s σ pm 0 34 = σ 0 34 := M_faultOf_s_0 σ pm (by decide) (by decide) (by decide)
theorem M_faultOf_s_p0_35 (σ : Nat → Nat → Int32) (pm : Nat) : M_faultOf_s σ pm 0 35 = σ 0 35 := M_faultOf_s_0 σ pm (by decide) (by decide) (by decide)
theorem M_faultOf_s_p0_36 (σ : Nat → Nat → Int32) (pm : Nat) : M_faultOf_s σ pm 0 36 = σ 0 36 := M_faultOf_s_0 σ pm (by decide) (by decide) (by decide)
