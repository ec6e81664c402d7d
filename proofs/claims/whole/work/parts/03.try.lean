/-- the model: cell 0 the object (places: its fields in order), cells 1 to 19 its arrays -/
def wM (cI : ClassId) (a : Nat → Nat) (σ : Nat → Nat → Int32) (h : Int64) : va_W :=
  [(a 0, .inr (12, [.ref (a 1), .int (σ 0 1), .ref (a 2), .int (σ 0 3), .int (σ 0 4), .int (σ 0 5), .int (σ 0 6), .int (σ 0 7), .int (σ 0 8), .int (σ 0 9), .ref (a 3), .ref (a 4), .ref (a 5), .int (σ 0 13), .ref (a 6), .int (σ 0 15), .ref (a 7), .ref (a 8), .ref (a 9), .ref (a 10), .ref (a 11), .ref (a 12), .int (σ 0 22), .ref (a 13), .ref (a 14), .int (σ 0 25), .int (σ 0 26), .int (σ 0 27), .int (σ 0 28), .int (σ 0 29), .int (σ 0 30), .int (σ 0 31), .ref (a 15), .ref (a 16), .ref (a 17), .ref (a 18), .ref (a 19), .long h])),
   (a 1, .inl (cI, 16, .inl (σ 1))),
   (a 2, .inl (cI, 8, .inl (σ 2))),
   (a 3, .inl (cI, 4, .inl (σ 3))),
   (a 4, .inl (cI, 4, .inl (σ 4))),
   (a 5, .inl (cI, 16, .inl (σ 5))),
   (a 6, .inl (cI, 48, .inl (σ 6))),
   (a 7, .inl (cI, 8, .inl (σ 7))),
   (a 8, .inl (cI, 4, .inl (σ 8))),
   (a 9, .inl (cI, 16, .inl (σ 9))),
   (a 10, .inl (cI, 4, .inl (σ 10))),
   (a 11, .inl (cI, 4, .inl (σ 11))),
   (a 12, .inl (cI, 4, .inl (σ 12))),
   (a 13, .inl (cI, 12, .inl (σ 13))),
   (a 14, .inl (cI, 21, .inl (σ 14))),
   (a 15, .inl (cI, 4, .inl (σ 15))),
   (a 16, .inl (cI, 16, .inl (σ 16))),
   (a 17, .inl (cI, 48, .inl (σ 17))),
   (a 18, .inl (cI, 8, .inl (σ 18))),
   (a 19, .inl (cI, 12, .inl (σ 19)))]
theorem M_in_w {Ts : List Cond} : True := trivial
def M_lacks_r (σ : Nat → Nat → Int32) : Int32 := if σ 0 6 = 0 then 1 else 0
set_option maxHeartbeats 4000000 in
set_option maxRecDepth 100000 in
theorem c_M_lacks (l : Launch) (D : va_G) (cI : ClassId) (a : Nat → Nat) (σ : Nat → Nat → Int32) (h : Int64) : gI l D [(cI, .int)] yX12_lacks wsX12_lacks 1 [.ref (a 0)] (wM cI a σ h) (M_lacks_r σ) (wM cI a σ h) := by
  refine g_start (cc := cX12_lacks) (maxL := 1) (ret := some .boolean) (Qc := gQi D [(cI, .int)] (M_lacks_r σ) (wM cI a σ h)) (by decide) rfl (Nat.le_of_ble_eq_true rfl) ?_
  intro p e s m below meth c A ls S hr hlk hw hl
  obtain ⟨hx, hb, hml, hown, hts⟩ := id S
  have hM : ∀ x ∈ u_ws RX12 TX12 38, x ∈ wsX12_lacks := fun x h => List.mem_cons_of_mem _ (List.mem_append_right _ h)
  have hl : lv_has ls 1 [(0, .ref (a 0))] := hl
  refine lv_aload_n hx hb dX12_lacks_0 rfl (lv_at hl 0 rfl) ?_
  refine g_get S hw hM 0 rfl rfl 6 (by decide) (by decide +kernel) (v := .int (σ 0 6)) rfl dX12_lacks_1 ?_
  refine lv_if_ne (tgt := 11) hx hb dX12_lacks_4 (by decide) (fun c_1 => ?_) (fun c_1 => ?_)
  · refine lv_iconst (v := 0) hx hb dX12_lacks_11 (by decide) ?_
    exact g_zret S hr hlk hw (by decide) (by unfold M_lacks_r; rw [if_neg c_1]) rfl dX12_lacks_12
  · refine lv_iconst (v := 1) hx hb dX12_lacks_7 (by decide) ?_
    refine lv_goto (tgt := 12) hx hb dX12_lacks_8 (by decide) ?_
    exact g_zret S hr hlk hw (by decide) (by unfold M_lacks_r; rw [if_pos c_1]) rfl dX12_lacks_12
def M_spareOf_r (σ : Nat → Nat → Int32) (c : Nat) : Int32 := if σ 3 c = 3 then (if σ 4 c ≤ 1 then 0 else σ 4 c - 1) else (if σ 4 c ≤ 0 then 0 else σ 4 c - 0)
set_option maxHeartbeats 4000000 in
set_option maxRecDepth 100000 in
theorem c_M_spareOf (l : Launch) (D : va_G) (cI : ClassId) (a : Nat → Nat) (σ : Nat → Nat → Int32) (h : Int64) (c : Nat) (hc : c < 4) : gI l D [(cI, .int)] yX12_spareOf wsX12_spareOf 1 [.ref (a 0), .int (nI c)] (wM cI a σ h) (M_spareOf_r σ c) (wM cI a σ h) := by
  refine g_start (cc := cX12_spareOf) (maxL := 3) (ret := some .int) (Qc := gQi D [(cI, .int)] (M_spareOf_r σ c) (wM cI a σ h)) (by decide) rfl (Nat.le_of_ble_eq_true rfl) ?_
  intro p e s m below meth C A ls S hr hlk hw hl
  obtain ⟨hx, hb, hml, hown, hts⟩ := id S
  have hM : ∀ x ∈ u_ws RX12 TX12 38, x ∈ wsX12_spareOf := fun x h => List.mem_cons_of_mem _ (List.mem_append_right _ h)
  have hl : lv_has ls 3 [(0, .ref (a 0)), (1, .int (nI c))] := hl
  refine lv_aload_n hx hb dX12_spareOf_0 rfl (lv_at hl 0 rfl) ?_
  refine g_get S hw hM 0 rfl rfl 10 (by decide) (by decide +kernel) (v := .ref (a 3)) rfl dX12_spareOf_1 ?_
  refine lv_iload_n hx hb dX12_spareOf_4 rfl (lv_at hl 1 rfl) ?_
  refine g_iald S hw 3 0 rfl rfl hc (by decide) dX12_spareOf_5 ?_
  refine lv_iconst (v := 3) hx hb dX12_spareOf_6 (by decide) ?_
  refine lv_icmp_ne (tgt := 14) hx hb dX12_spareOf_7 (by decide) (fun c_1 => ?_) (fun c_1 => ?_)
  · refine lv_iconst (v := 0) hx hb dX12_spareOf_14 (by decide) ?_
    refine lv_istore_n (lv' := [(2, .int 0), (0, .ref (a 0)), (1, .int (nI c))]) hx hb dX12_spareOf_15 rfl hl (by decide) rfl (fun ls hl => ?_)
    refine lv_aload_n hx hb dX12_spareOf_16 rfl (lv_at hl 1 rfl) ?_
    refine g_get S hw hM 0 rfl rfl 11 (by decide) (by decide +kernel) (v := .ref (a 4)) rfl dX12_spareOf_17 ?_
    refine lv_iload_n hx hb dX12_spareOf_20 rfl (lv_at hl 2 rfl) ?_
    refine g_iald S hw 4 0 rfl rfl hc (by decide) dX12_spareOf_21 ?_
    refine lv_iload_n hx hb dX12_spareOf_22 rfl (lv_at hl 0 rfl) ?_
    refine lv_icmp_le (tgt := 37) hx hb dX12_spareOf_23 (by decide) (fun c_2 => ?_) (fun c_2 => ?_)
    · refine lv_iconst (v := 0) hx hb dX12_spareOf_37 (by decide) ?_
      exact g_iret S hr hlk hw (by unfold M_spareOf_r; rw [if_neg c_1, if_pos c_2]) rfl dX12_spareOf_38
    · sorry
  · sorry
def M_set_r (σ : Nat → Nat → Int32) (x : Int32) : Nat → Nat → Int32 := up2 (up2 σ 0 6 x) 5 3 x
theorem M_set_w (cI : ClassId) (a : Nat → Nat) (σ : Nat → Nat → Int32) (h : Int64) (x : Int32) : (wM cI a σ h).set 0 (a 0, .inr (12, ([.ref (a 1), .int (σ 0 1), .ref (a 2), .int (σ 0 3), .int (σ 0 4), .int (σ 0 5), .int (σ 0 6), .int (σ 0 7), .int (σ 0 8), .int (σ 0 9), .ref (a 3), .ref (a 4), .ref (a 5), .int (σ 0 13), .ref (a 6), .int (σ 0 15), .ref (a 7), .ref (a 8), .ref (a 9), .ref (a 10), .ref (a 11), .ref (a 12), .int (σ 0 22), .ref (a 13), .ref (a 14), .int (σ 0 25), .int (σ 0 26), .int (σ 0 27), .int (σ 0 28), .int (σ 0 29), .int (σ 0 30), .int (σ 0 31), .ref (a 15), .ref (a 16), .ref (a 17), .ref (a 18), .ref (a 19), .long h] : List Value).set 6 (.int x))) = wM cI a (up2 σ 0 6 x) h := rfl
theorem M_set_a (cI : ClassId) (a : Nat → Nat) (σ : Nat → Nat → Int32) (h : Int64) (i : Nat) (x : Int32) : (wM cI a σ h).set 5 (a 5, .inl (cI, 16, .inl (upd (σ 5) i x))) = wM cI a (up2 σ 5 i x) h := rfl
