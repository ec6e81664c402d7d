/-! ===== copy(from, to) of the model: a row becomes another's ===== -/
section GARR
variable {s : State} {H : Heap} {locs : List Loc} {D : va_G} {A : Nat → Prop} {tys : List (ClassId × FieldType)} {w : va_W}
/-- an array's row may be another one that agrees within its length -/
theorem gw.arr (hw : gw D tys A s H locs w) (q0 : Nat) {a : Nat} {cA : ClassId} {n : Nat} {f g : Nat → Int32} (he : w[q0]? = some (a, .inl (cA, n, .inl f))) (hfg : ∀ k, k < n → f k = g k) {w2 : va_W} (hset : w.set q0 (a, .inl (cA, n, .inl g)) = w2) : gw D tys A s H locs w2 := by
  subst hset
  obtain ⟨hK, hP, hD, hS, hA⟩ := hw
  refine ⟨hK, hP.set hD he ?_ (fun _ _ => rfl), hD.set he, hS, hA⟩
  have h1 := hP q0 _ he
  have h2 : vp_cell cA (n, .inl f) = vp_cell cA (n, .inl g) := by
    rw [vp_cell_i, vp_cell_i]
    unfold arrV
    have h3 : (fun j : Fin n => Value.int (f j.val)) = (fun j : Fin n => Value.int (g j.val)) := funext fun j => by rw [hfg j.val j.isLt]
    rw [h3]
  exact h1.trans (congrArg some h2)
end GARR
theorem row_self (σ : Nat → Nat → Int32) (c : Nat) : row σ c (σ c) = σ := by
  funext c'
  unfold row
  by_cases e : c' = c
  · rw [if_pos e, e]
  · rw [if_neg e]
theorem row_row (σ : Nat → Nat → Int32) (c : Nat) (f g : Nat → Int32) : row (row σ c f) c g = row σ c g := by
  funext c'
  unfold row
  by_cases e : c' = c
  · rw [if_pos e, if_pos e]
  · rw [if_neg e, if_neg e, if_neg e]
theorem up2_row (σ : Nat → Nat → Int32) (c k : Nat) (f : Nat → Int32) (x : Int32) : up2 (row σ c f) c k x = row σ c (upd f k x) := by
  funext c'
  unfold up2 row
  by_cases e : c' = c
  · rw [if_pos e, if_pos e, if_pos e]
  · rw [if_neg e, if_neg e, if_neg e]
set_option maxHeartbeats 4000000 in
set_option maxRecDepth 100000 in
theorem c_M_copy_gen (l : Launch) (D : va_G) (cI : ClassId) (a : Nat → Nat) (σ : Nat → Nat → Int32) (h : Int64) {j1 j2 n : Nat} (hn : n < 2 ^ 31) (hne : j1 ≠ j2) (g1 : ∀ τ : Nat → Nat → Int32, (wM cI a τ h)[j1]? = some (a j1, .inl (cI, n, .inl (τ j1)))) (g2 : ∀ τ : Nat → Nat → Int32, (wM cI a τ h)[j2]? = some (a j2, .inl (cI, n, .inl (τ j2)))) (s2 : ∀ (τ : Nat → Nat → Int32) (i : Nat) (x : Int32), (wM cI a τ h).set j2 (a j2, .inl (cI, n, .inl (upd (τ j2) i x))) = wM cI a (up2 τ j2 i x) h) (r2 : ∀ (τ : Nat → Nat → Int32) (g : Nat → Int32), (wM cI a τ h).set j2 (a j2, .inl (cI, n, .inl g)) = wM cI a (row τ j2 g) h) :
    gV l D [(cI, .int)] yX12_copy wsX12_copy 1 [.ref (a j1), .ref (a j2)] (wM cI a σ h) (wM cI a (row σ j2 (σ j1)) h) := by
  refine g_start (cc := cX12_copy) (maxL := 3) (ret := none) (Qc := gQv D [(cI, .int)] (wM cI a (row σ j2 (σ j1)) h)) (by decide) rfl (Nat.le_of_ble_eq_true rfl) ?_
  intro p e s m below meth C A ls S hr hlk hw hl
  obtain ⟨hx, hb, hml, hown, hts⟩ := id S
  have hl : lv_has ls 3 [(0, .ref (a j1)), (1, .ref (a j2))] := hl
  refine lv_iconst (v := 0) hx hb dX12_copy_0 (by decide) ?_
  refine lv_istore_n (lv' := [(2, .int (nI 0)), (0, .ref (a j1)), (1, .ref (a j2))]) hx hb dX12_copy_1 rfl hl (by decide) rfl (fun ls hl => ?_)
  have L2 : ∀ (k i : Nat) (H : Heap) (locs : List Loc) (ls : Array Slot), i + k = n → gw D [(cI, .int)] A s H locs (wM cI a (row σ j2 (fa_fill (σ j1) (σ j2) i)) h) → lv_has ls 3 [(2, .int (nI i)), (0, .ref (a j1)), (1, .ref (a j2))] → W p l e (gR 1) s m ([.ref (a j1), .ref (a j2)] : List Value).toArray below meth C H locs 0 0 (MQ below (gQv D [(cI, .int)] (wM cI a (row σ j2 (σ j1)) h) A) ([.ref (a j1), .ref (a j2)] : List Value).toArray s 0 0 A) (F0 m 2 ls []) := by
    intro k
    induction k with
    | zero =>
      intro i H locs ls hi hw hl
      refine lv_iload_n hx hb dX12_copy_2 rfl (lv_at hl 0 rfl) ?_
      refine lv_aload_n hx hb dX12_copy_3 rfl (lv_at hl 1 rfl) ?_
      refine g_alen S hw j1 0 (g1 _) rfl dX12_copy_4 ?_
      refine ln_ge (x := i) (y := n) hx hb (by omega) (by omega) (tgt := 20) dX12_copy_5 (by decide) (fun c_x => ?_) (fun c_x => absurd (by omega) c_x)
      have hw2 : gw D [(cI, .int)] A s H locs (wM cI a (row σ j2 (σ j1)) h) := by
        have q := hw.arr j2 (g := σ j1) (g2 _) (fun k hk => by rw [row_s]; exact fa_fill_in (by omega)) (r2 _ _)
        rw [row_row] at q
        exact q
      exact g_vret S hr hlk hw2 rfl dX12_copy_20
    | succ k ih =>
      intro i H locs ls hi hw hl
      refine lv_iload_n hx hb dX12_copy_2 rfl (lv_at hl 0 rfl) ?_
      refine lv_aload_n hx hb dX12_copy_3 rfl (lv_at hl 1 rfl) ?_
      refine g_alen S hw j1 0 (g1 _) rfl dX12_copy_4 ?_
      refine ln_ge (x := i) (y := n) hx hb (by omega) (by omega) (tgt := 20) dX12_copy_5 (by decide) (fun c_x => absurd c_x (by omega)) (fun c_x => ?_)
      refine lv_aload_n hx hb dX12_copy_8 rfl (lv_at hl 2 rfl) ?_
      refine lv_iload_n hx hb dX12_copy_9 rfl (lv_at hl 0 rfl) ?_
      refine lv_aload_n hx hb dX12_copy_10 rfl (lv_at hl 1 rfl) ?_
      refine lv_iload_n hx hb dX12_copy_11 rfl (lv_at hl 0 rfl) ?_
      refine g_iald S hw (i := i) (x := σ j1 i) j1 0 (g1 _) rfl (by omega) hn (row_rn hne) dX12_copy_12 ?_
      refine g_iast S hw (i := i) j2 0 (g2 _) rfl (by omega) hn (w2 := wM cI a (row σ j2 (fa_fill (σ j1) (σ j2) (i + 1))) h) ((s2 _ _ _).trans (by rw [up2_row, fa_fill_succ])) dX12_copy_13 (fun H locs hw => ?_)
      refine lv_iinc (v := nI (i + 1)) (lv' := [(2, .int (nI (i + 1))), (0, .ref (a j1)), (1, .ref (a j2))]) hx hb dX12_copy_14 hl (k := 0) rfl (nI_1 _) (by decide) rfl (fun ls hl => ?_)
      refine lv_goto (tgt := 2) hx hb dX12_copy_17 (by decide) ?_
      exact ih (i + 1) _ _ _ (by omega) hw hl
  refine L2 n 0 _ _ _ (by omega) ?_ hl
  rw [fa_fill_0, row_self]
  exact hw
theorem c_M_copy_4_8 (l : Launch) (D : va_G) (cI : ClassId) (a : Nat → Nat) (σ : Nat → Nat → Int32) (h : Int64) : gV l D [(cI, .int)] yX12_copy wsX12_copy 1 [.ref (a 4), .ref (a 8)] (wM cI a σ h) (wM cI a (row σ 8 (σ 4)) h) := c_M_copy_gen l D cI a σ h (n := 4) (by decide) (by decide) (fun _ => rfl) (fun _ => rfl) (fun τ i x => wM_a8 cI a τ h i x) (fun τ g => wM_r8 cI a τ h g)
theorem c_M_copy_5_9 (l : Launch) (D : va_G) (cI : ClassId) (a : Nat → Nat) (σ : Nat → Nat → Int32) (h : Int64) : gV l D [(cI, .int)] yX12_copy wsX12_copy 1 [.ref (a 5), .ref (a 9)] (wM cI a σ h) (wM cI a (row σ 9 (σ 5)) h) := c_M_copy_gen l D cI a σ h (n := 16) (by decide) (by decide) (fun _ => rfl) (fun _ => rfl) (fun τ i x => wM_a9 cI a τ h i x) (fun τ g => wM_r9 cI a τ h g)
theorem c_M_copy_8_4 (l : Launch) (D : va_G) (cI : ClassId) (a : Nat → Nat) (σ : Nat → Nat → Int32) (h : Int64) : gV l D [(cI, .int)] yX12_copy wsX12_copy 1 [.ref (a 8), .ref (a 4)] (wM cI a σ h) (wM cI a (row σ 4 (σ 8)) h) := c_M_copy_gen l D cI a σ h (n := 4) (by decide) (by decide) (fun _ => rfl) (fun _ => rfl) (fun τ i x => wM_a4 cI a τ h i x) (fun τ g => wM_r4 cI a τ h g)
theorem c_M_copy_9_5 (l : Launch) (D : va_G) (cI : ClassId) (a : Nat → Nat) (σ : Nat → Nat → Int32) (h : Int64) : gV l D [(cI, .int)] yX12_copy wsX12_copy 1 [.ref (a 9), .ref (a 5)] (wM cI a σ h) (wM cI a (row σ 5 (σ 9)) h) := c_M_copy_gen l D cI a σ h (n := 16) (by decide) (by decide) (fun _ => rfl) (fun _ => rfl) (fun τ i x => wM_a5 cI a τ h i x) (fun τ g => wM_r5 cI a τ h g)
theorem c_M_copy_10_11 (l : Launch) (D : va_G) (cI : ClassId) (a : Nat → Nat) (σ : Nat → Nat → Int32) (h : Int64) : gV l D [(cI, .int)] yX12_copy wsX12_copy 1 [.ref (a 10), .ref (a 11)] (wM cI a σ h) (wM cI a (row σ 11 (σ 10)) h) := c_M_copy_gen l D cI a σ h (n := 4) (by decide) (by decide) (fun _ => rfl) (fun _ => rfl) (fun τ i x => wM_a11 cI a τ h i x) (fun τ g => wM_r11 cI a τ h g)
theorem c_M_copy_4_15 (l : Launch) (D : va_G) (cI : ClassId) (a : Nat → Nat) (σ : Nat → Nat → Int32) (h : Int64) : gV l D [(cI, .int)] yX12_copy wsX12_copy 1 [.ref (a 4), .ref (a 15)] (wM cI a σ h) (wM cI a (row σ 15 (σ 4)) h) := c_M_copy_gen l D cI a σ h (n := 4) (by decide) (by decide) (fun _ => rfl) (fun _ => rfl) (fun τ i x => wM_a15 cI a τ h i x) (fun τ g => wM_r15 cI a τ h g)
theorem c_M_copy_5_16 (l : Launch) (D : va_G) (cI : ClassId) (a : Nat → Nat) (σ : Nat → Nat → Int32) (h : Int64) : gV l D [(cI, .int)] yX12_copy wsX12_copy 1 [.ref (a 5), .ref (a 16)] (wM cI a σ h) (wM cI a (row σ 16 (σ 5)) h) := c_M_copy_gen l D cI a σ h (n := 16) (by decide) (by decide) (fun _ => rfl) (fun _ => rfl) (fun τ i x => wM_a16 cI a τ h i x) (fun τ g => wM_r16 cI a τ h g)
theorem c_M_copy_6_17 (l : Launch) (D : va_G) (cI : ClassId) (a : Nat → Nat) (σ : Nat → Nat → Int32) (h : Int64) : gV l D [(cI, .int)] yX12_copy wsX12_copy 1 [.ref (a 6), .ref (a 17)] (wM cI a σ h) (wM cI a (row σ 17 (σ 6)) h) := c_M_copy_gen l D cI a σ h (n := 48) (by decide) (by decide) (fun _ => rfl) (fun _ => rfl) (fun τ i x => wM_a17 cI a τ h i x) (fun τ g => wM_r17 cI a τ h g)
theorem c_M_copy_7_18 (l : Launch) (D : va_G) (cI : ClassId) (a : Nat → Nat) (σ : Nat → Nat → Int32) (h : Int64) : gV l D [(cI, .int)] yX12_copy wsX12_copy 1 [.ref (a 7), .ref (a 18)] (wM cI a σ h) (wM cI a (row σ 18 (σ 7)) h) := c_M_copy_gen l D cI a σ h (n := 8) (by decide) (by decide) (fun _ => rfl) (fun _ => rfl) (fun τ i x => wM_a18 cI a τ h i x) (fun τ g => wM_r18 cI a τ h g)
theorem c_M_copy_13_19 (l : Launch) (D : va_G) (cI : ClassId) (a : Nat → Nat) (σ : Nat → Nat → Int32) (h : Int64) : gV l D [(cI, .int)] yX12_copy wsX12_copy 1 [.ref (a 13), .ref (a 19)] (wM cI a σ h) (wM cI a (row σ 19 (σ 13)) h) := c_M_copy_gen l D cI a σ h (n := 12) (by decide) (by decide) (fun _ => rfl) (fun _ => rfl) (fun τ i x => wM_a19 cI a τ h i x) (fun τ g => wM_r19 cI a τ h g)
theorem c_M_copy_15_4 (l : Launch) (D : va_G) (cI : ClassId) (a : Nat → Nat) (σ : Nat → Nat → Int32) (h : Int64) : gV l D [(cI, .int)] yX12_copy wsX12_copy 1 [.ref (a 15), .ref (a 4)] (wM cI a σ h) (wM cI a (row σ 4 (σ 15)) h) := c_M_copy_gen l D cI a σ h (n := 4) (by decide) (by decide) (fun _ => rfl) (fun _ => rfl) (fun τ i x => wM_a4 cI a τ h i x) (fun τ g => wM_r4 cI a τ h g)
theorem c_M_copy_16_5 (l : Launch) (D : va_G) (cI : ClassId) (a : Nat → Nat) (σ : Nat → Nat → Int32) (h : Int64) : gV l D [(cI, .int)] yX12_copy wsX12_copy 1 [.ref (a 16), .ref (a 5)] (wM cI a σ h) (wM cI a (row σ 5 (σ 16)) h) := c_M_copy_gen l D cI a σ h (n := 16) (by decide) (by decide) (fun _ => rfl) (fun _ => rfl) (fun τ i x => wM_a5 cI a τ h i x) (fun τ g => wM_r5 cI a τ h g)
theorem c_M_copy_17_6 (l : Launch) (D : va_G) (cI : ClassId) (a : Nat → Nat) (σ : Nat → Nat → Int32) (h : Int64) : gV l D [(cI, .int)] yX12_copy wsX12_copy 1 [.ref (a 17), .ref (a 6)] (wM cI a σ h) (wM cI a (row σ 6 (σ 17)) h) := c_M_copy_gen l D cI a σ h (n := 48) (by decide) (by decide) (fun _ => rfl) (fun _ => rfl) (fun τ i x => wM_a6 cI a τ h i x) (fun τ g => wM_r6 cI a τ h g)
theorem c_M_copy_18_7 (l : Launch) (D : va_G) (cI : ClassId) (a : Nat → Nat) (σ : Nat → Nat → Int32) (h : Int64) : gV l D [(cI, .int)] yX12_copy wsX12_copy 1 [.ref (a 18), .ref (a 7)] (wM cI a σ h) (wM cI a (row σ 7 (σ 18)) h) := c_M_copy_gen l D cI a σ h (n := 8) (by decide) (by decide) (fun _ => rfl) (fun _ => rfl) (fun τ i x => wM_a7 cI a τ h i x) (fun τ g => wM_r7 cI a τ h g)
theorem c_M_copy_19_13 (l : Launch) (D : va_G) (cI : ClassId) (a : Nat → Nat) (σ : Nat → Nat → Int32) (h : Int64) : gV l D [(cI, .int)] yX12_copy wsX12_copy 1 [.ref (a 19), .ref (a 13)] (wM cI a σ h) (wM cI a (row σ 13 (σ 19)) h) := c_M_copy_gen l D cI a σ h (n := 12) (by decide) (by decide) (fun _ => rfl) (fun _ => rfl) (fun τ i x => wM_a13 cI a τ h i x) (fun τ g => wM_r13 cI a τ h g)
