/-! ===== the worlds ===== -/
/-- a table of rows, one row changed -/
def row (σ : Nat → Nat → Int32) (c : Nat) (f : Nat → Int32) : Nat → Nat → Int32 := fun c' => if c' = c then f else σ c'
theorem row_s (σ : Nat → Nat → Int32) (c : Nat) (f : Nat → Int32) : row σ c f c = f := if_pos rfl
theorem row_n (σ : Nat → Nat → Int32) {c c' : Nat} (f : Nat → Int32) (h : c' ≠ c) : row σ c f c' = σ c' := if_neg h
theorem g_dec {n : Nat} (h : 1 ≤ n) : nI n + Int32.ofInt (-1) = nI (n - 1) := by
  obtain ⟨k, rfl⟩ : ∃ k, n = k + 1 := ⟨n - 1, by omega⟩
  exact pk_m1 k
theorem g_dec1 (n : Nat) : nI n + Int32.ofInt (-1) = nI n - 1 := by
  show nI n + (-1) = nI n - 1
  rw [← Int32.sub_eq_add_neg]
theorem g_zz {v : Int32} (h : v = 0 ∨ v = 1) : narrow .boolean (.int v) = .int v := by
  rcases h with rfl | rfl <;> decide
theorem up2_rn {σ : Nat → Nat → Int32} {c c' k j : Nat} {x : Int32} (h : c' ≠ c) : up2 σ c k x c' j = σ c' j := congrFun (up2_n σ k x h) j
theorem up2_rs {σ : Nat → Nat → Int32} {c k : Nat} {x : Int32} : up2 σ c k x c k = x := (congrFun (up2_s σ c k x) k).trans pk_us
theorem up2_rp {σ : Nat → Nat → Int32} {c k j : Nat} {x : Int32} (h : j ≠ k) : up2 σ c k x c j = σ c j := (congrFun (up2_s σ c k x) j).trans (pk_un h)
theorem row_rn {σ : Nat → Nat → Int32} {c c' j : Nat} {f : Nat → Int32} (h : c' ≠ c) : row σ c f c' j = σ c' j := congrFun (row_n σ f h) j
/-- the model: cell 0 the object (places: its fields in order), cells 1 to 19 its arrays -/
def fM (a : Nat → Nat) (σ : Nat → Nat → Int32) (h : Int64) : List Value := [.ref (a 1), .int (σ 0 1), .ref (a 2), .int (σ 0 3), .int (σ 0 4), .int (σ 0 5), .int (σ 0 6), .int (σ 0 7), .int (σ 0 8), .int (σ 0 9), .ref (a 3), .ref (a 4), .ref (a 5), .int (σ 0 13), .ref (a 6), .int (σ 0 15), .ref (a 7), .ref (a 8), .ref (a 9), .ref (a 10), .ref (a 11), .ref (a 12), .int (σ 0 22), .ref (a 13), .ref (a 14), .int (σ 0 25), .int (σ 0 26), .int (σ 0 27), .int (σ 0 28), .int (σ 0 29), .int (σ 0 30), .int (σ 0 31), .ref (a 15), .ref (a 16), .ref (a 17), .ref (a 18), .ref (a 19), .long h]
def wM (cI : ClassId) (a : Nat → Nat) (σ : Nat → Nat → Int32) (h : Int64) : va_W :=
  [(a 0, .inr (12, fM a σ h)),
   (a 1, .inl (cI, 16, .inl (σ 1))),
   (a 2, .inl (cI, 8, .inl (σ 2))),
   (a 3, .inl (cI, 4, .inl (σ 3))),
   (a 4, .inl (cI, 4, .inl (σ 4))),
   (a 5, .inl (cI, 16, .inl (σ 5))),
   (a 6, .inl (cI, 48, .inl (σ 6))),
   (a 7, .inl (cI, 8, .inl (σ 7))),
   (a 8, .inl (cI, 4, .inl (σ 8))),
   (a 9, .inl (cI, 16, .inl (σ 9))),
   (a 10, .inl (cI, 4, .inl (σ 10))),
   (a 11, .inl (cI, 4, .inl (σ 11))),
   (a 12, .inl (cI, 4, .inl (σ 12))),
   (a 13, .inl (cI, 12, .inl (σ 13))),
   (a 14, .inl (cI, 21, .inl (σ 14))),
   (a 15, .inl (cI, 4, .inl (σ 15))),
   (a 16, .inl (cI, 16, .inl (σ 16))),
   (a 17, .inl (cI, 48, .inl (σ 17))),
   (a 18, .inl (cI, 8, .inl (σ 18))),
   (a 19, .inl (cI, 12, .inl (σ 19)))]
theorem wM_f1 (cI : ClassId) (a : Nat → Nat) (σ : Nat → Nat → Int32) (h : Int64) (x : Int32) : (wM cI a σ h).set 0 (a 0, .inr (12, (fM a σ h).set 1 (.int x))) = wM cI a (up2 σ 0 1 x) h := rfl
theorem wM_f3 (cI : ClassId) (a : Nat → Nat) (σ : Nat → Nat → Int32) (h : Int64) (x : Int32) : (wM cI a σ h).set 0 (a 0, .inr (12, (fM a σ h).set 3 (.int x))) = wM cI a (up2 σ 0 3 x) h := rfl
theorem wM_f4 (cI : ClassId) (a : Nat → Nat) (σ : Nat → Nat → Int32) (h : Int64) (x : Int32) : (wM cI a σ h).set 0 (a 0, .inr (12, (fM a σ h).set 4 (.int x))) = wM cI a (up2 σ 0 4 x) h := rfl
theorem wM_f5 (cI : ClassId) (a : Nat → Nat) (σ : Nat → Nat → Int32) (h : Int64) (x : Int32) : (wM cI a σ h).set 0 (a 0, .inr (12, (fM a σ h).set 5 (.int x))) = wM cI a (up2 σ 0 5 x) h := rfl
theorem wM_f6 (cI : ClassId) (a : Nat → Nat) (σ : Nat → Nat → Int32) (h : Int64) (x : Int32) : (wM cI a σ h).set 0 (a 0, .inr (12, (fM a σ h).set 6 (.int x))) = wM cI a (up2 σ 0 6 x) h := rfl
theorem wM_f7 (cI : ClassId) (a : Nat → Nat) (σ : Nat → Nat → Int32) (h : Int64) (x : Int32) : (wM cI a σ h).set 0 (a 0, .inr (12, (fM a σ h).set 7 (.int x))) = wM cI a (up2 σ 0 7 x) h := rfl
theorem wM_f8 (cI : ClassId) (a : Nat → Nat) (σ : Nat → Nat → Int32) (h : Int64) (x : Int32) : (wM cI a σ h).set 0 (a 0, .inr (12, (fM a σ h).set 8 (.int x))) = wM cI a (up2 σ 0 8 x) h := rfl
theorem wM_f9 (cI : ClassId) (a : Nat → Nat) (σ : Nat → Nat → Int32) (h : Int64) (x : Int32) : (wM cI a σ h).set 0 (a 0, .inr (12, (fM a σ h).set 9 (.int x))) = wM cI a (up2 σ 0 9 x) h := rfl
theorem wM_f13 (cI : ClassId) (a : Nat → Nat) (σ : Nat → Nat → Int32) (h : Int64) (x : Int32) : (wM cI a σ h).set 0 (a 0, .inr (12, (fM a σ h).set 13 (.int x))) = wM cI a (up2 σ 0 13 x) h := rfl
theorem wM_f15 (cI : ClassId) (a : Nat → Nat) (σ : Nat → Nat → Int32) (h : Int64) (x : Int32) : (wM cI a σ h).set 0 (a 0, .inr (12, (fM a σ h).set 15 (.int x))) = wM cI a (up2 σ 0 15 x) h := rfl
theorem wM_f22 (cI : ClassId) (a : Nat → Nat) (σ : Nat → Nat → Int32) (h : Int64) (x : Int32) : (wM cI a σ h).set 0 (a 0, .inr (12, (fM a σ h).set 22 (.int x))) = wM cI a (up2 σ 0 22 x) h := rfl
theorem wM_f25 (cI : ClassId) (a : Nat → Nat) (σ : Nat → Nat → Int32) (h : Int64) (x : Int32) : (wM cI a σ h).set 0 (a 0, .inr (12, (fM a σ h).set 25 (.int x))) = wM cI a (up2 σ 0 25 x) h := rfl
theorem wM_f26 (cI : ClassId) (a : Nat → Nat) (σ : Nat → Nat → Int32) (h : Int64) (x : Int32) : (wM cI a σ h).set 0 (a 0, .inr (12, (fM a σ h).set 26 (.int x))) = wM cI a (up2 σ 0 26 x) h := rfl
theorem wM_f27 (cI : ClassId) (a : Nat → Nat) (σ : Nat → Nat → Int32) (h : Int64) (x : Int32) : (wM cI a σ h).set 0 (a 0, .inr (12, (fM a σ h).set 27 (.int x))) = wM cI a (up2 σ 0 27 x) h := rfl
theorem wM_f28 (cI : ClassId) (a : Nat → Nat) (σ : Nat → Nat → Int32) (h : Int64) (x : Int32) : (wM cI a σ h).set 0 (a 0, .inr (12, (fM a σ h).set 28 (.int x))) = wM cI a (up2 σ 0 28 x) h := rfl
theorem wM_f29 (cI : ClassId) (a : Nat → Nat) (σ : Nat → Nat → Int32) (h : Int64) (x : Int32) : (wM cI a σ h).set 0 (a 0, .inr (12, (fM a σ h).set 29 (.int x))) = wM cI a (up2 σ 0 29 x) h := rfl
theorem wM_f30 (cI : ClassId) (a : Nat → Nat) (σ : Nat → Nat → Int32) (h : Int64) (x : Int32) : (wM cI a σ h).set 0 (a 0, .inr (12, (fM a σ h).set 30 (.int x))) = wM cI a (up2 σ 0 30 x) h := rfl
theorem wM_f31 (cI : ClassId) (a : Nat → Nat) (σ : Nat → Nat → Int32) (h : Int64) (x : Int32) : (wM cI a σ h).set 0 (a 0, .inr (12, (fM a σ h).set 31 (.int x))) = wM cI a (up2 σ 0 31 x) h := rfl
theorem wM_f37 (cI : ClassId) (a : Nat → Nat) (σ : Nat → Nat → Int32) (h x : Int64) : (wM cI a σ h).set 0 (a 0, .inr (12, (fM a σ h).set 37 (.long x))) = wM cI a σ x := rfl
theorem wM_a1 (cI : ClassId) (a : Nat → Nat) (σ : Nat → Nat → Int32) (h : Int64) (i : Nat) (x : Int32) : (wM cI a σ h).set 1 (a 1, .inl (cI, 16, .inl (upd (σ 1) i x))) = wM cI a (up2 σ 1 i x) h := rfl
theorem wM_a2 (cI : ClassId) (a : Nat → Nat) (σ : Nat → Nat → Int32) (h : Int64) (i : Nat) (x : Int32) : (wM cI a σ h).set 2 (a 2, .inl (cI, 8, .inl (upd (σ 2) i x))) = wM cI a (up2 σ 2 i x) h := rfl
theorem wM_a3 (cI : ClassId) (a : Nat → Nat) (σ : Nat → Nat → Int32) (h : Int64) (i : Nat) (x : Int32) : (wM cI a σ h).set 3 (a 3, .inl (cI, 4, .inl (upd (σ 3) i x))) = wM cI a (up2 σ 3 i x) h := rfl
theorem wM_a4 (cI : ClassId) (a : Nat → Nat) (σ : Nat → Nat → Int32) (h : Int64) (i : Nat) (x : Int32) : (wM cI a σ h).set 4 (a 4, .inl (cI, 4, .inl (upd (σ 4) i x))) = wM cI a (up2 σ 4 i x) h := rfl
theorem wM_a5 (cI : ClassId) (a : Nat → Nat) (σ : Nat → Nat → Int32) (h : Int64) (i : Nat) (x : Int32) : (wM cI a σ h).set 5 (a 5, .inl (cI, 16, .inl (upd (σ 5) i x))) = wM cI a (up2 σ 5 i x) h := rfl
theorem wM_a6 (cI : ClassId) (a : Nat → Nat) (σ : Nat → Nat → Int32) (h : Int64) (i : Nat) (x : Int32) : (wM cI a σ h).set 6 (a 6, .inl (cI, 48, .inl (upd (σ 6) i x))) = wM cI a (up2 σ 6 i x) h := rfl
theorem wM_a7 (cI : ClassId) (a : Nat → Nat) (σ : Nat → Nat → Int32) (h : Int64) (i : Nat) (x : Int32) : (wM cI a σ h).set 7 (a 7, .inl (cI, 8, .inl (upd (σ 7) i x))) = wM cI a (up2 σ 7 i x) h := rfl
theorem wM_a8 (cI : ClassId) (a : Nat → Nat) (σ : Nat → Nat → Int32) (h : Int64) (i : Nat) (x : Int32) : (wM cI a σ h).set 8 (a 8, .inl (cI, 4, .inl (upd (σ 8) i x))) = wM cI a (up2 σ 8 i x) h := rfl
theorem wM_a9 (cI : ClassId) (a : Nat → Nat) (σ : Nat → Nat → Int32) (h : Int64) (i : Nat) (x : Int32) : (wM cI a σ h).set 9 (a 9, .inl (cI, 16, .inl (upd (σ 9) i x))) = wM cI a (up2 σ 9 i x) h := rfl
theorem wM_a10 (cI : ClassId) (a : Nat → Nat) (σ : Nat → Nat → Int32) (h : Int64) (i : Nat) (x : Int32) : (wM cI a σ h).set 10 (a 10, .inl (cI, 4, .inl (upd (σ 10) i x))) = wM cI a (up2 σ 10 i x) h := rfl
theorem wM_a11 (cI : ClassId) (a : Nat → Nat) (σ : Nat → Nat → Int32) (h : Int64) (i : Nat) (x : Int32) : (wM cI a σ h).set 11 (a 11, .inl (cI, 4, .inl (upd (σ 11) i x))) = wM cI a (up2 σ 11 i x) h := rfl
theorem wM_a12 (cI : ClassId) (a : Nat → Nat) (σ : Nat → Nat → Int32) (h : Int64) (i : Nat) (x : Int32) : (wM cI a σ h).set 12 (a 12, .inl (cI, 4, .inl (upd (σ 12) i x))) = wM cI a (up2 σ 12 i x) h := rfl
theorem wM_a13 (cI : ClassId) (a : Nat → Nat) (σ : Nat → Nat → Int32) (h : Int64) (i : Nat) (x : Int32) : (wM cI a σ h).set 13 (a 13, .inl (cI, 12, .inl (upd (σ 13) i x))) = wM cI a (up2 σ 13 i x) h := rfl
theorem wM_a14 (cI : ClassId) (a : Nat → Nat) (σ : Nat → Nat → Int32) (h : Int64) (i : Nat) (x : Int32) : (wM cI a σ h).set 14 (a 14, .inl (cI, 21, .inl (upd (σ 14) i x))) = wM cI a (up2 σ 14 i x) h := rfl
theorem wM_a15 (cI : ClassId) (a : Nat → Nat) (σ : Nat → Nat → Int32) (h : Int64) (i : Nat) (x : Int32) : (wM cI a σ h).set 15 (a 15, .inl (cI, 4, .inl (upd (σ 15) i x))) = wM cI a (up2 σ 15 i x) h := rfl
theorem wM_a16 (cI : ClassId) (a : Nat → Nat) (σ : Nat → Nat → Int32) (h : Int64) (i : Nat) (x : Int32) : (wM cI a σ h).set 16 (a 16, .inl (cI, 16, .inl (upd (σ 16) i x))) = wM cI a (up2 σ 16 i x) h := rfl
theorem wM_a17 (cI : ClassId) (a : Nat → Nat) (σ : Nat → Nat → Int32) (h : Int64) (i : Nat) (x : Int32) : (wM cI a σ h).set 17 (a 17, .inl (cI, 48, .inl (upd (σ 17) i x))) = wM cI a (up2 σ 17 i x) h := rfl
theorem wM_a18 (cI : ClassId) (a : Nat → Nat) (σ : Nat → Nat → Int32) (h : Int64) (i : Nat) (x : Int32) : (wM cI a σ h).set 18 (a 18, .inl (cI, 8, .inl (upd (σ 18) i x))) = wM cI a (up2 σ 18 i x) h := rfl
theorem wM_a19 (cI : ClassId) (a : Nat → Nat) (σ : Nat → Nat → Int32) (h : Int64) (i : Nat) (x : Int32) : (wM cI a σ h).set 19 (a 19, .inl (cI, 12, .inl (upd (σ 19) i x))) = wM cI a (up2 σ 19 i x) h := rfl
theorem wM_r1 (cI : ClassId) (a : Nat → Nat) (σ : Nat → Nat → Int32) (h : Int64) (g : Nat → Int32) : (wM cI a σ h).set 1 (a 1, .inl (cI, 16, .inl g)) = wM cI a (row σ 1 g) h := rfl
theorem wM_r2 (cI : ClassId) (a : Nat → Nat) (σ : Nat → Nat → Int32) (h : Int64) (g : Nat → Int32) : (wM cI a σ h).set 2 (a 2, .inl (cI, 8, .inl g)) = wM cI a (row σ 2 g) h := rfl
theorem wM_r3 (cI : ClassId) (a : Nat → Nat) (σ : Nat → Nat → Int32) (h : Int64) (g : Nat → Int32) : (wM cI a σ h).set 3 (a 3, .inl (cI, 4, .inl g)) = wM cI a (row σ 3 g) h := rfl
theorem wM_r4 (cI : ClassId) (a : Nat → Nat) (σ : Nat → Nat → Int32) (h : Int64) (g : Nat → Int32) : (wM cI a σ h).set 4 (a 4, .inl (cI, 4, .inl g)) = wM cI a (row σ 4 g) h := rfl
theorem wM_r5 (cI : ClassId) (a : Nat → Nat) (σ : Nat → Nat → Int32) (h : Int64) (g : Nat → Int32) : (wM cI a σ h).set 5 (a 5, .inl (cI, 16, .inl g)) = wM cI a (row σ 5 g) h := rfl
theorem wM_r6 (cI : ClassId) (a : Nat → Nat) (σ : Nat → Nat → Int32) (h : Int64) (g : Nat → Int32) : (wM cI a σ h).set 6 (a 6, .inl (cI, 48, .inl g)) = wM cI a (row σ 6 g) h := rfl
theorem wM_r7 (cI : ClassId) (a : Nat → Nat) (σ : Nat → Nat → Int32) (h : Int64) (g : Nat → Int32) : (wM cI a σ h).set 7 (a 7, .inl (cI, 8, .inl g)) = wM cI a (row σ 7 g) h := rfl
theorem wM_r8 (cI : ClassId) (a : Nat → Nat) (σ : Nat → Nat → Int32) (h : Int64) (g : Nat → Int32) : (wM cI a σ h).set 8 (a 8, .inl (cI, 4, .inl g)) = wM cI a (row σ 8 g) h := rfl
theorem wM_r9 (cI : ClassId) (a : Nat → Nat) (σ : Nat → Nat → Int32) (h : Int64) (g : Nat → Int32) : (wM cI a σ h).set 9 (a 9, .inl (cI, 16, .inl g)) = wM cI a (row σ 9 g) h := rfl
theorem wM_r10 (cI : ClassId) (a : Nat → Nat) (σ : Nat → Nat → Int32) (h : Int64) (g : Nat → Int32) : (wM cI a σ h).set 10 (a 10, .inl (cI, 4, .inl g)) = wM cI a (row σ 10 g) h := rfl
theorem wM_r11 (cI : ClassId) (a : Nat → Nat) (σ : Nat → Nat → Int32) (h : Int64) (g : Nat → Int32) : (wM cI a σ h).set 11 (a 11, .inl (cI, 4, .inl g)) = wM cI a (row σ 11 g) h := rfl
theorem wM_r12 (cI : ClassId) (a : Nat → Nat) (σ : Nat → Nat → Int32) (h : Int64) (g : Nat → Int32) : (wM cI a σ h).set 12 (a 12, .inl (cI, 4, .inl g)) = wM cI a (row σ 12 g) h := rfl
theorem wM_r13 (cI : ClassId) (a : Nat → Nat) (σ : Nat → Nat → Int32) (h : Int64) (g : Nat → Int32) : (wM cI a σ h).set 13 (a 13, .inl (cI, 12, .inl g)) = wM cI a (row σ 13 g) h := rfl
theorem wM_r14 (cI : ClassId) (a : Nat → Nat) (σ : Nat → Nat → Int32) (h : Int64) (g : Nat → Int32) : (wM cI a σ h).set 14 (a 14, .inl (cI, 21, .inl g)) = wM cI a (row σ 14 g) h := rfl
theorem wM_r15 (cI : ClassId) (a : Nat → Nat) (σ : Nat → Nat → Int32) (h : Int64) (g : Nat → Int32) : (wM cI a σ h).set 15 (a 15, .inl (cI, 4, .inl g)) = wM cI a (row σ 15 g) h := rfl
theorem wM_r16 (cI : ClassId) (a : Nat → Nat) (σ : Nat → Nat → Int32) (h : Int64) (g : Nat → Int32) : (wM cI a σ h).set 16 (a 16, .inl (cI, 16, .inl g)) = wM cI a (row σ 16 g) h := rfl
theorem wM_r17 (cI : ClassId) (a : Nat → Nat) (σ : Nat → Nat → Int32) (h : Int64) (g : Nat → Int32) : (wM cI a σ h).set 17 (a 17, .inl (cI, 48, .inl g)) = wM cI a (row σ 17 g) h := rfl
theorem wM_r18 (cI : ClassId) (a : Nat → Nat) (σ : Nat → Nat → Int32) (h : Int64) (g : Nat → Int32) : (wM cI a σ h).set 18 (a 18, .inl (cI, 8, .inl g)) = wM cI a (row σ 18 g) h := rfl
theorem wM_r19 (cI : ClassId) (a : Nat → Nat) (σ : Nat → Nat → Int32) (h : Int64) (g : Nat → Int32) : (wM cI a σ h).set 19 (a 19, .inl (cI, 12, .inl g)) = wM cI a (row σ 19 g) h := rfl
