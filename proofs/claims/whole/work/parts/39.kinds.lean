set_option maxRecDepth 100000 in
theorem c_X1_init (l : Launch) (D : va_G) (cI cC cI2 : ClassId) (b : Nat) (w0 : va_W) : gN l D (tysX cI cC cI2) yX1_init wsX1_init 1 0 0 [.ref b] w0 (fun _ => w0) := by
  refine g_startN (cc := cX1_init) (maxL := 1) (by decide) rfl (Nat.le_of_ble_eq_true rfl) ?_
  intro p e s m below meth C A ls S hr hlk hnmI hw hN hl
  obtain ⟨hx, hb, hml, hown, hts⟩ := id S
  have hl : lv_has ls 1 [(0, .ref b)] := hl
  have lk0 : Cond.methodLink RX1 3 objectInit ∈ wsX1_init := by decide +kernel
  have lk1 : Cond.instanceMethod objectInit ∈ wsX1_init := by decide +kernel
  have lk2 : Cond.code objectInit ⟨#[0xb1]⟩ 1 none ∈ wsX1_init := by decide +kernel
  refine lv_aload_n hx hb dX1_init_0 rfl (lv_at hl 0 rfl) ?_
  refine g_objI S lk0 lk1 lk2 hl.1 (by decide) (Nat.le_of_ble_eq_true rfl) dX1_init_1 ?_
  exact g_vretN (fun _ => 0) S hr hlk hw rfl dX1_init_4
set_option maxRecDepth 100000 in
theorem c_X7_init (l : Launch) (D : va_G) (cI cC cI2 : ClassId) (b : Nat) (w0 : va_W) : gN l D (tysX cI cC cI2) yX7_init wsX7_init 2 0 0 [.ref b] w0 (fun _ => w0) := by
  refine g_startN (cc := cX7_init) (maxL := 1) (by decide) rfl (Nat.le_of_ble_eq_true rfl) ?_
  intro p e s m below meth C A ls S hr hlk hnmI hw hN hl
  obtain ⟨hx, hb, hml, hown, hts⟩ := id S
  have hl : lv_has ls 1 [(0, .ref b)] := hl
  have lk0 : Cond.initialized RX1 ∈ wsX7_init := by decide +kernel
  have lk1 : Cond.instanceMethod yX1_init ∈ wsX7_init := by decide +kernel
  refine lv_aload_n hx hb dX7_init_0 rfl (lv_at hl 0 rfl) ?_
  refine g_callNN (v := []) (host := "CowsOwed") S hw hN (c_X1_init l D cI cC cI2 b w0) gX7_init_X1_init_n3 rfl lk0 (by decide +kernel) lk1 rfl 0 rfl (by decide +kernel) ⟨by decide, by decide⟩ ⟨(Nat.le_of_ble_eq_true rfl), (Nat.le_of_ble_eq_true rfl)⟩ hl.1 rfl (Nat.le_of_ble_eq_true rfl) dX7_init_1 (fun u H locs hw => ?_)
  exact g_vretN (fun _ => 0) S hr hlk hw rfl dX7_init_4
set_option maxRecDepth 100000 in
theorem c_X6_init (l : Launch) (D : va_G) (cI cC cI2 : ClassId) (b : Nat) (w0 : va_W) : gN l D (tysX cI cC cI2) yX6_init wsX6_init 2 0 0 [.ref b] w0 (fun _ => w0) := by
  refine g_startN (cc := cX6_init) (maxL := 1) (by decide) rfl (Nat.le_of_ble_eq_true rfl) ?_
  intro p e s m below meth C A ls S hr hlk hnmI hw hN hl
  obtain ⟨hx, hb, hml, hown, hts⟩ := id S
  have hl : lv_has ls 1 [(0, .ref b)] := hl
  have lk0 : Cond.initialized RX1 ∈ wsX6_init := by decide +kernel
  have lk1 : Cond.instanceMethod yX1_init ∈ wsX6_init := by decide +kernel
  refine lv_aload_n hx hb dX6_init_0 rfl (lv_at hl 0 rfl) ?_
  refine g_callNN (v := []) (host := "CowsOwed") S hw hN (c_X1_init l D cI cC cI2 b w0) gX6_init_X1_init_n3 rfl lk0 (by decide +kernel) lk1 rfl 0 rfl (by decide +kernel) ⟨by decide, by decide⟩ ⟨(Nat.le_of_ble_eq_true rfl), (Nat.le_of_ble_eq_true rfl)⟩ hl.1 rfl (Nat.le_of_ble_eq_true rfl) dX6_init_1 (fun u H locs hw => ?_)
  exact g_vretN (fun _ => 0) S hr hlk hw rfl dX6_init_4
set_option maxRecDepth 100000 in
theorem c_X0_init (l : Launch) (D : va_G) (cI cC cI2 : ClassId) (b : Nat) (w0 : va_W) : gN l D (tysX cI cC cI2) yX0_init wsX0_init 2 0 0 [.ref b] w0 (fun _ => w0) := by
  refine g_startN (cc := cX0_init) (maxL := 1) (by decide) rfl (Nat.le_of_ble_eq_true rfl) ?_
  intro p e s m below meth C A ls S hr hlk hnmI hw hN hl
  obtain ⟨hx, hb, hml, hown, hts⟩ := id S
  have hl : lv_has ls 1 [(0, .ref b)] := hl
  have lk0 : Cond.initialized RX1 ∈ wsX0_init := by decide +kernel
  have lk1 : Cond.instanceMethod yX1_init ∈ wsX0_init := by decide +kernel
  refine lv_aload_n hx hb dX0_init_0 rfl (lv_at hl 0 rfl) ?_
  refine g_callNN (v := []) (host := "CowsOwed") S hw hN (c_X1_init l D cI cC cI2 b w0) gX0_init_X1_init_n3 rfl lk0 (by decide +kernel) lk1 rfl 0 rfl (by decide +kernel) ⟨by decide, by decide⟩ ⟨(Nat.le_of_ble_eq_true rfl), (Nat.le_of_ble_eq_true rfl)⟩ hl.1 rfl (Nat.le_of_ble_eq_true rfl) dX0_init_1 (fun u H locs hw => ?_)
  exact g_vretN (fun _ => 0) S hr hlk hw rfl dX0_init_4
set_option maxRecDepth 100000 in
theorem c_X3_init (l : Launch) (D : va_G) (cI cC cI2 : ClassId) (b : Nat) (w0 : va_W) : gN l D (tysX cI cC cI2) yX3_init wsX3_init 3 0 0 [.ref b] w0 (fun _ => w0) := by
  refine g_startN (cc := cX3_init) (maxL := 1) (by decide) rfl (Nat.le_of_ble_eq_true rfl) ?_
  intro p e s m below meth C A ls S hr hlk hnmI hw hN hl
  obtain ⟨hx, hb, hml, hown, hts⟩ := id S
  have hl : lv_has ls 1 [(0, .ref b)] := hl
  have lk0 : Cond.initialized RX7 ∈ wsX3_init := by decide +kernel
  have lk1 : Cond.instanceMethod yX7_init ∈ wsX3_init := by decide +kernel
  refine lv_aload_n hx hb dX3_init_0 rfl (lv_at hl 0 rfl) ?_
  refine g_callNN (v := []) (host := "CowsOwed") S hw hN (c_X7_init l D cI cC cI2 b w0) gX3_init_X7_init_n3 rfl lk0 (by decide +kernel) lk1 rfl 0 rfl (by decide +kernel) ⟨by decide, by decide⟩ ⟨(Nat.le_of_ble_eq_true rfl), (Nat.le_of_ble_eq_true rfl)⟩ hl.1 rfl (Nat.le_of_ble_eq_true rfl) dX3_init_1 (fun u H locs hw => ?_)
  exact g_vretN (fun _ => 0) S hr hlk hw rfl dX3_init_4
