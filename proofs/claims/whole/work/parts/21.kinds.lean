/-! ===== the kinds: what each asks, spares, its number ===== -/
def X_asks (k : Nat) (r : Int32) : Int32 := match k with
  | 1 => r + 1
  | 2 => if (1 : Int32) < r - 1 then r - 1 else 1
  | 4 => 2 * (r + 1)
  | _ => r
def X_spares (k : Nat) (h : Int32) : Int32 := match k with
  | 3 => if h ≤ 0 then 0 else h - 1
  | _ => h
/-- a fork on one of five kinds, with one way on -/
theorem g_kind5 {G P : Nat → Prop} {k : Nat} (hk : k < 5) (h0 : G 0 → P 0) (h1 : G 1 → P 1) (h2 : G 2 → P 2) (h3 : G 3 → P 3) (h4 : G 4 → P 4) (kk : G k) : P k := by
  rcases (by omega : k = 0 ∨ k = 1 ∨ k = 2 ∨ k = 3 ∨ k = 4) with rfl | rfl | rfl | rfl | rfl
  · exact h0 kk
  · exact h1 kk
  · exact h2 kk
  · exact h3 kk
  · exact h4 kk
section GSU
variable {p : Program} {l : Launch} {e : Env} {s : State} {m : MethodId} {args : Array Value} {below : List Frame} {meth : Method} {c : Code} {H : Heap} {locs : List Loc} {Q : State → Prop}
variable {cc : ByteArray} {pc nL : Nat} {ls : Array Slot} {rest : List Value} {D : va_G} {A : Nat → Prop} {tys : List (ClassId × FieldType)} {w w1 : va_W} {Ts : List Cond} {own : String}
variable {k kc : Nat} {C : String} {T : u_T} {N ci index maxL : Nat} {y : MethodName} {ws ws' : List Cond} {bytes : ByteArray} {ret : Option FieldType} {b : Nat} {As st0 : List Value} {fs : List Value}
theorem g_callSUi {r : Int32} (S : CallFix p m c cc nL s args Ts own) (hw : gw D tys A s H locs w) (hM : gI l D tys y ws kc (.ref b :: As) w r w1) (hG : GoodIn Ts (va_wsSU own index y ws)) (hws : ws = Cond.code y bytes maxL ret :: ws') (q0 : Nat) (he : w[q0]? = some (b, .inr (ci, fs))) (hc : vwCl[ci]? = some (C, T, N))
    (n : Nat) (hn : As.length = n) (hd : y.name ≠ "<init>" ∧ (parseMethodDescriptor y.desc).map (fun d => d.parameters.length) = some n) (hk : kc + 1 ≤ k) (hm : maxL ≤ 21) (hsz : ls.size = nL) (hst : st0 = As.reverse ++ .ref b :: rest) (hroom : (rest.map fun v => v.category).sum ≤ 8) (hdg : decode cc pc = .ok (.invokespecial index, 3))
    (kk : ∀ H1 locs1, gw D tys A s H1 locs1 w1 → W p l e (gR k) s m args below meth c H1 locs1 0 0 Q (F0 m (pc + 3) ls (.int r :: rest))) :
    W p l e (gR k) s m args below meth c H locs 0 0 Q (F0 m pc ls st0) := by
  subst hn
  refine va_calli (va_runSU (As := As) (rest := rest) (g := F0 m pc ls st0) (hw.1.1 ci _ hc).2 S (hM H.size) (va_cwSU As.length S.2.2.2.2 hG hws rfl rfl hd (g_hR hk hm)) ⟨gPre_blind, va_recv hw.1 hw.2.1 hc he, hw.pre _⟩ rfl rfl hsz hst (lv_room hroom) hdg ⟨Nat.le_refl _, Nat.le_refl _⟩) hw.2.2.2.1 (fun q _ h => hw.free q h) hw.free (fun x u t H1 locs1 ht hvm hx hB hz1 hk1 hS => ?_)
  subst hx
  exact kk H1 locs1 (hw.after ht hB hS)
end GSU
set_option maxHeartbeats 4000000 in
set_option maxRecDepth 100000 in
theorem c_X1_asks (l : Launch) (D : va_G) (tys : List (ClassId × FieldType)) (w0 : va_W) (q : Nat) (r : Int32) : gI l D tys yX1_asks wsX1_asks 1 [.ref q, .int r] w0 (r) w0 := by
  refine g_start (cc := cX1_asks) (maxL := 2) (ret := some .int) (Qc := gQi D tys (r) w0) (by decide) rfl (Nat.le_of_ble_eq_true rfl) ?_
  intro p e s m below meth C A ls S hr hlk hw hl
  obtain ⟨hx, hb, hml, hown, hts⟩ := id S
  have hl : lv_has ls 2 [(0, .ref q), (1, .int r)] := hl
  refine lv_iload_n hx hb dX1_asks_0 rfl (lv_at hl 1 rfl) ?_
  exact g_iret S hr hlk hw rfl rfl dX1_asks_1
set_option maxHeartbeats 4000000 in
set_option maxRecDepth 100000 in
theorem c_X7_asks (l : Launch) (D : va_G) (tys : List (ClassId × FieldType)) (w0 : va_W) (q : Nat) (r : Int32) : gI l D tys yX7_asks wsX7_asks 1 [.ref q, .int r] w0 (r + 1) w0 := by
  refine g_start (cc := cX7_asks) (maxL := 2) (ret := some .int) (Qc := gQi D tys (r + 1) w0) (by decide) rfl (Nat.le_of_ble_eq_true rfl) ?_
  intro p e s m below meth C A ls S hr hlk hw hl
  obtain ⟨hx, hb, hml, hown, hts⟩ := id S
  have hl : lv_has ls 2 [(0, .ref q), (1, .int r)] := hl
  refine lv_iload_n hx hb dX7_asks_0 rfl (lv_at hl 1 rfl) ?_
  refine lv_iconst (v := 1) hx hb dX7_asks_1 (by decide) ?_
  refine lv_iadd hx hb dX7_asks_2 ?_
  exact g_iret S hr hlk hw rfl rfl dX7_asks_3
set_option maxHeartbeats 4000000 in
set_option maxRecDepth 100000 in
theorem c_X6_asks (l : Launch) (D : va_G) (tys : List (ClassId × FieldType)) (w0 : va_W) (q : Nat) (r : Int32) : gI l D tys yX6_asks wsX6_asks 1 [.ref q, .int r] w0 (if (1 : Int32) < r - 1 then r - 1 else 1) w0 := by
  refine g_start (cc := cX6_asks) (maxL := 2) (ret := some .int) (Qc := gQi D tys (if (1 : Int32) < r - 1 then r - 1 else 1) w0) (by decide) rfl (Nat.le_of_ble_eq_true rfl) ?_
  intro p e s m below meth C A ls S hr hlk hw hl
  obtain ⟨hx, hb, hml, hown, hts⟩ := id S
  have hl : lv_has ls 2 [(0, .ref q), (1, .int r)] := hl
  refine lv_iconst (v := 1) hx hb dX6_asks_0 (by decide) ?_
  refine lv_iload_n hx hb dX6_asks_1 rfl (lv_at hl 1 rfl) ?_
  refine lv_iconst (v := 1) hx hb dX6_asks_2 (by decide) ?_
  refine lv_isub hx hb dX6_asks_3 ?_
  refine va_mmax hx hb (hml.trans hl.1.symm) hown (hts (.methodLink RX6 9 Lib.Math.max.name) (by decide +kernel)) (hts (.static Lib.Math.max.name) (by decide +kernel)) (hts (.initialized "java/lang/Math") (by decide +kernel)) (hts (.code Lib.Math.max.name Lib.Math.max.code 2 (some .int)) (by decide +kernel)) (by decide) (Nat.le_of_ble_eq_true rfl) (Nat.zero_le _) (Nat.zero_le _) dX6_asks_4 ?_
  exact g_iret S hr hlk hw rfl rfl dX6_asks_7
set_option maxHeartbeats 4000000 in
set_option maxRecDepth 100000 in
theorem c_X1_spares (l : Launch) (D : va_G) (tys : List (ClassId × FieldType)) (w0 : va_W) (q : Nat) (r : Int32) : gI l D tys yX1_spares wsX1_spares 1 [.ref q, .int r] w0 (r) w0 := by
  refine g_start (cc := cX1_spares) (maxL := 2) (ret := some .int) (Qc := gQi D tys (r) w0) (by decide) rfl (Nat.le_of_ble_eq_true rfl) ?_
  intro p e s m below meth C A ls S hr hlk hw hl
  obtain ⟨hx, hb, hml, hown, hts⟩ := id S
  have hl : lv_has ls 2 [(0, .ref q), (1, .int r)] := hl
  refine lv_iload_n hx hb dX1_spares_0 rfl (lv_at hl 1 rfl) ?_
  exact g_iret S hr hlk hw rfl rfl dX1_spares_1
set_option maxHeartbeats 4000000 in
set_option maxRecDepth 100000 in
theorem c_X0_spares (l : Launch) (D : va_G) (tys : List (ClassId × FieldType)) (w0 : va_W) (q : Nat) (r : Int32) : gI l D tys yX0_spares wsX0_spares 1 [.ref q, .int r] w0 (if r ≤ 0 then 0 else r - 1) w0 := by
  refine g_start (cc := cX0_spares) (maxL := 2) (ret := some .int) (Qc := gQi D tys (if r ≤ 0 then 0 else r - 1) w0) (by decide) rfl (Nat.le_of_ble_eq_true rfl) ?_
  intro p e s m below meth C A ls S hr hlk hw hl
  obtain ⟨hx, hb, hml, hown, hts⟩ := id S
  have hl : lv_has ls 2 [(0, .ref q), (1, .int r)] := hl
  refine lv_iload_n hx hb dX0_spares_0 rfl (lv_at hl 1 rfl) ?_
  refine lv_if_le hx hb (tgt := 10) dX0_spares_1 (by decide) (fun c_1 => ?_) (fun c_1 => ?_)
  · refine lv_iconst (v := 0) hx hb dX0_spares_10 (by decide) ?_
    exact g_iret S hr hlk hw (by rw [if_pos c_1]) rfl dX0_spares_11
  · refine lv_iload_n hx hb dX0_spares_4 rfl (lv_at hl 1 rfl) ?_
    refine lv_iconst (v := 1) hx hb dX0_spares_5 (by decide) ?_
    refine lv_isub hx hb dX0_spares_6 ?_
    refine lv_goto (tgt := 11) hx hb dX0_spares_7 (by decide) ?_
    exact g_iret S hr hlk hw (by rw [if_neg c_1]) rfl dX0_spares_11
set_option maxHeartbeats 4000000 in
set_option maxRecDepth 100000 in
theorem c_X1_number (l : Launch) (D : va_G) (tys : List (ClassId × FieldType)) (w0 : va_W) (q : Nat)  : gI l D tys yX1_number wsX1_number 1 [.ref q] w0 (0) w0 := by
  refine g_start (cc := cX1_number) (maxL := 1) (ret := some .int) (Qc := gQi D tys (0) w0) (by decide) rfl (Nat.le_of_ble_eq_true rfl) ?_
  intro p e s m below meth C A ls S hr hlk hw hl
  obtain ⟨hx, hb, hml, hown, hts⟩ := id S
  have hl : lv_has ls 1 [(0, .ref q)] := hl
  refine lv_iconst (v := 0) hx hb dX1_number_0 (by decide) ?_
  exact g_iret S hr hlk hw rfl rfl dX1_number_1
set_option maxHeartbeats 4000000 in
set_option maxRecDepth 100000 in
theorem c_X7_number (l : Launch) (D : va_G) (tys : List (ClassId × FieldType)) (w0 : va_W) (q : Nat)  : gI l D tys yX7_number wsX7_number 1 [.ref q] w0 (1) w0 := by
  refine g_start (cc := cX7_number) (maxL := 1) (ret := some .int) (Qc := gQi D tys (1) w0) (by decide) rfl (Nat.le_of_ble_eq_true rfl) ?_
  intro p e s m below meth C A ls S hr hlk hw hl
  obtain ⟨hx, hb, hml, hown, hts⟩ := id S
  have hl : lv_has ls 1 [(0, .ref q)] := hl
  refine lv_iconst (v := 1) hx hb dX7_number_0 (by decide) ?_
  exact g_iret S hr hlk hw rfl rfl dX7_number_1
set_option maxHeartbeats 4000000 in
set_option maxRecDepth 100000 in
theorem c_X6_number (l : Launch) (D : va_G) (tys : List (ClassId × FieldType)) (w0 : va_W) (q : Nat)  : gI l D tys yX6_number wsX6_number 1 [.ref q] w0 (2) w0 := by
  refine g_start (cc := cX6_number) (maxL := 1) (ret := some .int) (Qc := gQi D tys (2) w0) (by decide) rfl (Nat.le_of_ble_eq_true rfl) ?_
  intro p e s m below meth C A ls S hr hlk hw hl
  obtain ⟨hx, hb, hml, hown, hts⟩ := id S
  have hl : lv_has ls 1 [(0, .ref q)] := hl
  refine lv_iconst (v := 2) hx hb dX6_number_0 (by decide) ?_
  exact g_iret S hr hlk hw rfl rfl dX6_number_1
set_option maxHeartbeats 4000000 in
set_option maxRecDepth 100000 in
theorem c_X0_number (l : Launch) (D : va_G) (tys : List (ClassId × FieldType)) (w0 : va_W) (q : Nat)  : gI l D tys yX0_number wsX0_number 1 [.ref q] w0 (3) w0 := by
  refine g_start (cc := cX0_number) (maxL := 1) (ret := some .int) (Qc := gQi D tys (3) w0) (by decide) rfl (Nat.le_of_ble_eq_true rfl) ?_
  intro p e s m below meth C A ls S hr hlk hw hl
  obtain ⟨hx, hb, hml, hown, hts⟩ := id S
  have hl : lv_has ls 1 [(0, .ref q)] := hl
  refine lv_iconst (v := 3) hx hb dX0_number_0 (by decide) ?_
  exact g_iret S hr hlk hw rfl rfl dX0_number_1
set_option maxHeartbeats 4000000 in
set_option maxRecDepth 100000 in
theorem c_X3_number (l : Launch) (D : va_G) (tys : List (ClassId × FieldType)) (w0 : va_W) (q : Nat)  : gI l D tys yX3_number wsX3_number 1 [.ref q] w0 (4) w0 := by
  refine g_start (cc := cX3_number) (maxL := 1) (ret := some .int) (Qc := gQi D tys (4) w0) (by decide) rfl (Nat.le_of_ble_eq_true rfl) ?_
  intro p e s m below meth C A ls S hr hlk hw hl
  obtain ⟨hx, hb, hml, hown, hts⟩ := id S
  have hl : lv_has ls 1 [(0, .ref q)] := hl
  refine lv_iconst (v := 4) hx hb dX3_number_0 (by decide) ?_
  exact g_iret S hr hlk hw rfl rfl dX3_number_1
set_option maxHeartbeats 4000000 in
set_option maxRecDepth 100000 in
theorem c_X3_asks (l : Launch) (D : va_G) (cI cC cI2 : ClassId) (a : Nat → Nat) (κ : Nat → Nat) (σ : Nat → Nat → Int32) (r : Int32) : gI l D (tysX cI cC cI2) yX3_asks wsX3_asks 2 [.ref (a 7), .int r] (wX cI cC cI2 a κ σ) (2 * (r + 1)) (wX cI cC cI2 a κ σ) := by
  refine g_start (cc := cX3_asks) (maxL := 2) (ret := some .int) (Qc := gQi D (tysX cI cC cI2) (2 * (r + 1)) (wX cI cC cI2 a κ σ)) (by decide) rfl (Nat.le_of_ble_eq_true rfl) ?_
  intro p e s m below meth C A ls S hr hlk hw hl
  obtain ⟨hx, hb, hml, hown, hts⟩ := id S
  have hl : lv_has ls 2 [(0, .ref (a 7)), (1, .int r)] := hl
  refine lv_iconst (v := 2) hx hb dX3_asks_0 (by decide) ?_
  refine lv_aload_n hx hb dX3_asks_1 rfl (lv_at hl 0 rfl) ?_
  refine lv_iload_n hx hb dX3_asks_2 rfl (lv_at hl 1 rfl) ?_
  refine g_callSUi S hw (c_X7_asks l D (tysX cI cC cI2) (wX cI cC cI2 a κ σ) (a 7) r) gX3_asks_X7_asks_s9 rfl 7 rfl rfl 1 rfl (by decide +kernel) (by decide) (by decide) hl.1 rfl (Nat.le_of_ble_eq_true rfl) dX3_asks_3 (fun H locs hw => ?_)
  refine lv_imul hx hb dX3_asks_6 ?_
  exact g_iret S hr hlk hw rfl rfl dX3_asks_7
