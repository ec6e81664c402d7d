/-! ===== the worlds ===== -/
/-- a table of rows, one row changed -/
def row (σ : Nat → Nat → Int32) (c : Nat) (f : Nat → Int32) : Nat → Nat → Int32 := fun c' => if c' = c then f else σ c'
theorem row_s (σ : Nat → Nat → Int32) (c : Nat) (f : Nat → Int32) : row σ c f c = f := if_pos rfl
theorem row_n (σ : Nat → Nat → Int32) {c c' : Nat} (f : Nat → Int32) (h : c' ≠ c) : row σ c f c' = σ c' := if_neg h
theorem g_dec {n : Nat} (h : 1 ≤ n) : nI n + Int32.ofInt (-1) = nI (n - 1) := by
  obtain ⟨k, rfl⟩ : ∃ k, n = k + 1 := ⟨n - 1, by omega⟩
  exact pk_m1 k
theorem g_zz {v : Int32} (h : v = 0 ∨ v = 1) : narrow .boolean (.int v) = .int v := by
  rcases h with rfl | rfl <;> decide
/-- the model: cell 0 the object (places: its fields in order), cells 1 to 19 its arrays -/
def wM (cI : ClassId) (a : Nat → Nat) (σ : Nat → Nat → Int32) (h : Int64) : va_W :=
  [(a 0, .inr (12, [.ref (a 1), .int (σ 0 1), .ref (a 2), .int (σ 0 3), .int (σ 0 4), .int (σ 0 5), .int (σ 0 6), .int (σ 0 7), .int (σ 0 8), .int (σ 0 9), .ref (a 3), .ref (a 4), .ref (a 5), .int (σ 0 13), .ref (a 6), .int (σ 0 15), .ref (a 7), .ref (a 8), .ref (a 9), .ref (a 10), .ref (a 11), .ref (a 12), .int (σ 0 22), .ref (a 13), .ref (a 14), .int (σ 0 25), .int (σ 0 26), .int (σ 0 27), .int (σ 0 28), .int (σ 0 29), .int (σ 0 30), .int (σ 0 31), .ref (a 15), .ref (a 16), .ref (a 17), .ref (a 18), .ref (a 19), .long h])),
   (a 1, .inl (cI, 16, .inl (σ 1))),
   (a 2, .inl (cI, 8, .inl (σ 2))),
   (a 3, .inl (cI, 4, .inl (σ 3))),
   (a 4, .inl (cI, 4, .inl (σ 4))),
   (a 5, .inl (cI, 16, .inl (σ 5))),
   (a 6, .inl (cI, 48, .inl (σ 6))),
   (a 7, .inl (cI, 8, .inl (σ 7))),
   (a 8, .inl (cI, 4, .inl (σ 8))),
   (a 9, .inl (cI, 16, .inl (σ 9))),
   (a 10, .inl (cI, 4, .inl (σ 10))),
   (a 11, .inl (cI, 4, .inl (σ 11))),
   (a 12, .inl (cI, 4, .inl (σ 12))),
   (a 13, .inl (cI, 12, .inl (σ 13))),
   (a 14, .inl (cI, 21, .inl (σ 14))),
   (a 15, .inl (cI, 4, .inl (σ 15))),
   (a 16, .inl (cI, 16, .inl (σ 16))),
   (a 17, .inl (cI, 48, .inl (σ 17))),
   (a 18, .inl (cI, 8, .inl (σ 18))),
   (a 19, .inl (cI, 12, .inl (σ 19)))]
