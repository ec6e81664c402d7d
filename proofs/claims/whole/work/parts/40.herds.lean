set_option maxHeartbeats 4000000 in
set_option maxRecDepth 100000 in
theorem c_X2_init (l : Launch) (D : va_G) (cI cC cI2 : ClassId) (b : Nat) (cl : Nat) : gN l D (tysX cI cC cI2) yX2_init wsX2_init 1 6 24 [.ref b, .ref cl] ([(b, .inr (2, [.null, .null, .null, .int 0, .int 0]))]) (fun u => [(b, .inr (2, [.ref cl, .ref (u 0), .ref (u 1), .int 0, .int 0])), (u 0, .inl (cI, 4, .inl (fun _ => 0))), (u 1, .inl (cI2, 4, .inr (.inr (.inr (.inr (fun i => some (u (i + 2)))))))), (u 2, .inl (cI, 4, .inl (fun _ => 0))), (u 3, .inl (cI, 4, .inl (fun _ => 0))), (u 4, .inl (cI, 4, .inl (fun _ => 0))), (u 5, .inl (cI, 4, .inl (fun _ => 0)))]) := by
  refine g_startN (cc := cX2_init) (maxL := 2) (by decide) rfl (Nat.le_of_ble_eq_true rfl) ?_
  intro p e s m below meth C A ls S hr hlk hnmI hw hN hl
  obtain ⟨hx, hb, hml, hown, hts⟩ := id S
  have hinX2 : ∀ x ∈ u_ws RX2 TX2 5, x ∈ wsX2_init := fun x h => List.mem_cons_of_mem _ (List.mem_append_right _ h)
  have lk0 : Cond.methodLink RX2 3 objectInit ∈ wsX2_init := by decide +kernel
  have lk1 : Cond.instanceMethod objectInit ∈ wsX2_init := by decide +kernel
  have lk2 : Cond.code objectInit ⟨#[0xb1]⟩ 1 none ∈ wsX2_init := by decide +kernel
  have lk3 : Cond.arrayClass .int ∈ wsX2_init := by decide +kernel
  have lk4 : Cond.fieldLink RX2 9 "CowsOwed$Herds" "cows" "[I" ∈ wsX2_init := by decide +kernel
  have lk5 : Cond.classLink RX2 15 "[[I" ∈ wsX2_init := by decide +kernel
  have lk6 : Cond.fieldLink RX2 17 "CowsOwed$Herds" "debts" "[[I" ∈ wsX2_init := by decide +kernel
  have lk7 : Cond.fieldLink RX2 20 "CowsOwed$Herds" "size" "I" ∈ wsX2_init := by decide +kernel
  have lk8 : Cond.fieldLink RX2 24 "CowsOwed$Herds" "price" "I" ∈ wsX2_init := by decide +kernel
  have lk9 : Cond.fieldLink RX2 27 "CowsOwed$Herds" "clans" "[LCowsOwed$Clan;" ∈ wsX2_init := by decide +kernel
  have hl : lv_has ls 2 [(0, .ref b), (1, .ref cl)] := hl
  refine lv_aload_n hx hb dX2_init_0 rfl (lv_at hl 0 rfl) ?_
  refine g_objI S lk0 lk1 lk2 hl.1 (by decide) (Nat.le_of_ble_eq_true rfl) dX2_init_1 ?_
  refine lv_aload_n hx hb dX2_init_4 rfl (lv_at hl 0 rfl) ?_
  refine lv_iconst (v := 4) hx hb dX2_init_5 (by decide) ?_
  refine g_newaI S hw (t0 := 0) rfl lk3 (n := 4) (by decide) (Nat.le_of_ble_eq_true rfl) (Nat.le_of_ble_eq_true rfl) dX2_init_6 (fun q0 H hw => ?_)
  have hw : gw D (tysX cI cC cI2) A s H _ ([(b, .inr (2, [.null, .null, .null, .int 0, .int 0])), (q0, .inl (cI, 4, .inl (fun _ => 0)))]) := hw
  refine g_putF S hw hinX2 tyX2 tyX2_ok nmX2 (fs := [.null, .null, .null, .int 0, .int 0]) 0 rfl rfl 1 (by decide) lk4 rfl hnmI rfl rfl rfl (Nat.le_of_ble_eq_true rfl) (w2 := [(b, .inr (2, [.null, .ref q0, .null, .int 0, .int 0])), (q0, .inl (cI, 4, .inl (fun _ => 0)))]) rfl dX2_init_8 (fun H locs hw => ?_)
  refine lv_aload_n hx hb dX2_init_11 rfl (lv_at hl 0 rfl) ?_
  refine lv_iconst (v := 4) hx hb dX2_init_12 (by decide) ?_
  refine lv_iconst (v := 4) hx hb dX2_init_13 (by decide) ?_
  refine g_mna4 S hw hN lk5 lk3 (Nat.le_of_ble_eq_true rfl) (Nat.le_of_ble_eq_true rfl) dX2_init_14 (fun q1 r1 H hw => ?_)
  have hw : gw D (tysX cI cC cI2) A s H _ ([(b, .inr (2, [.null, .ref q0, .null, .int 0, .int 0])), (q0, .inl (cI, 4, .inl (fun _ => 0))), (q1, .inl (cI2, 4, .inr (.inr (.inr (.inr (fun i => some (r1 i))))))), (r1 0, .inl (cI, 4, .inl (fun _ => 0))), (r1 1, .inl (cI, 4, .inl (fun _ => 0))), (r1 2, .inl (cI, 4, .inl (fun _ => 0))), (r1 3, .inl (cI, 4, .inl (fun _ => 0)))]) := hw
  refine g_putF S hw hinX2 tyX2 tyX2_ok nmX2 (fs := [.null, .ref q0, .null, .int 0, .int 0]) 0 rfl rfl 2 (by decide) lk6 rfl hnmI rfl rfl rfl (Nat.le_of_ble_eq_true rfl) (w2 := [(b, .inr (2, [.null, .ref q0, .ref q1, .int 0, .int 0])), (q0, .inl (cI, 4, .inl (fun _ => 0))), (q1, .inl (cI2, 4, .inr (.inr (.inr (.inr (fun i => some (r1 i))))))), (r1 0, .inl (cI, 4, .inl (fun _ => 0))), (r1 1, .inl (cI, 4, .inl (fun _ => 0))), (r1 2, .inl (cI, 4, .inl (fun _ => 0))), (r1 3, .inl (cI, 4, .inl (fun _ => 0)))]) rfl dX2_init_18 (fun H locs hw => ?_)
  refine lv_aload_n hx hb dX2_init_21 rfl (lv_at hl 0 rfl) ?_
  refine lv_iconst (v := 0) hx hb dX2_init_22 (by decide) ?_
  refine g_put S hw hinX2 tyX2 tyX2_ok nmX2 (fs := [.null, .ref q0, .ref q1, .int 0, .int 0]) 0 rfl rfl 3 (by decide) lk7 rfl rfl rfl (Nat.le_of_ble_eq_true rfl) (w2 := [(b, .inr (2, [.null, .ref q0, .ref q1, .int 0, .int 0])), (q0, .inl (cI, 4, .inl (fun _ => 0))), (q1, .inl (cI2, 4, .inr (.inr (.inr (.inr (fun i => some (r1 i))))))), (r1 0, .inl (cI, 4, .inl (fun _ => 0))), (r1 1, .inl (cI, 4, .inl (fun _ => 0))), (r1 2, .inl (cI, 4, .inl (fun _ => 0))), (r1 3, .inl (cI, 4, .inl (fun _ => 0)))]) rfl dX2_init_23 (fun H locs hw => ?_)
  refine lv_aload_n hx hb dX2_init_26 rfl (lv_at hl 0 rfl) ?_
  refine lv_iconst (v := 0) hx hb dX2_init_27 (by decide) ?_
  refine g_put S hw hinX2 tyX2 tyX2_ok nmX2 (fs := [.null, .ref q0, .ref q1, .int 0, .int 0]) 0 rfl rfl 4 (by decide) lk8 rfl rfl rfl (Nat.le_of_ble_eq_true rfl) (w2 := [(b, .inr (2, [.null, .ref q0, .ref q1, .int 0, .int 0])), (q0, .inl (cI, 4, .inl (fun _ => 0))), (q1, .inl (cI2, 4, .inr (.inr (.inr (.inr (fun i => some (r1 i))))))), (r1 0, .inl (cI, 4, .inl (fun _ => 0))), (r1 1, .inl (cI, 4, .inl (fun _ => 0))), (r1 2, .inl (cI, 4, .inl (fun _ => 0))), (r1 3, .inl (cI, 4, .inl (fun _ => 0)))]) rfl dX2_init_28 (fun H locs hw => ?_)
  refine lv_aload_n hx hb dX2_init_31 rfl (lv_at hl 0 rfl) ?_
  refine lv_aload_n hx hb dX2_init_32 rfl (lv_at hl 1 rfl) ?_
  refine g_putF S hw hinX2 tyX2 tyX2_ok nmX2 (fs := [.null, .ref q0, .ref q1, .int 0, .int 0]) 0 rfl rfl 0 (by decide) lk9 rfl hnmI rfl rfl rfl (Nat.le_of_ble_eq_true rfl) (w2 := [(b, .inr (2, [.ref cl, .ref q0, .ref q1, .int 0, .int 0])), (q0, .inl (cI, 4, .inl (fun _ => 0))), (q1, .inl (cI2, 4, .inr (.inr (.inr (.inr (fun i => some (r1 i))))))), (r1 0, .inl (cI, 4, .inl (fun _ => 0))), (r1 1, .inl (cI, 4, .inl (fun _ => 0))), (r1 2, .inl (cI, 4, .inl (fun _ => 0))), (r1 3, .inl (cI, 4, .inl (fun _ => 0)))]) rfl dX2_init_33 (fun H locs hw => ?_)
  exact g_vretN (fun i => match i with | 0 => q0 | 1 => q1 | i + 2 => r1 i) S hr hlk hw rfl dX2_init_36
