/-! ===== the class's world: 59 cells =====
0 the object; 1 kinds, 2 clans (arrays of references); 3 to 7 the kinds' objects; 8, 9 the page; herds at b = 10 (now), 17 (kept), 24 (trial): b, b+1 cows, b+2 debts (all 16 as ONE row, place 4 i + j), b+3 to b+6 its four arrays;
times at u = 31 (now), 45 (kept): u, u+1 weddings with u+2 to u+5, u+6 plans with u+7 to u+10, u+11 told with u+12, u+13 -/
/-- one of the four arrays of debts, out of the row of all sixteen -/
def dRow (f : Nat → Int32) (i : Nat) : Nat → Int32 := fun j => if j < 4 then f (4 * i + j) else 0
theorem dRow_lt {f : Nat → Int32} {i j : Nat} (h : j < 4) : dRow f i j = f (4 * i + j) := if_pos h
theorem dRow_s {f : Nat → Int32} {i j : Nat} {x : Int32} (h : j < 4) : dRow (upd f (4 * i + j) x) i = upd (dRow f i) j x := by
  funext q
  unfold dRow upd
  by_cases e : q = j
  · subst e
    rw [if_pos h, if_pos rfl, if_pos rfl]
  · rw [if_neg e]
    show (if q < 4 then (if 4 * i + q = 4 * i + j then x else f (4 * i + q)) else 0) = if q < 4 then f (4 * i + q) else 0
    by_cases g : q < 4
    · rw [if_pos g, if_pos g, if_neg (by omega)]
    · rw [if_neg g, if_neg g]
theorem dRow_n {f : Nat → Int32} {i i' j : Nat} {x : Int32} (h : j < 4) (hi : i' ≠ i) : dRow (upd f (4 * i + j) x) i' = dRow f i' := by
  funext q
  unfold dRow upd
  by_cases g : q < 4
  · rw [if_pos g, if_pos g, if_neg (by omega)]
  · rw [if_neg g, if_neg g]
abbrev tysX (cI cC cI2 : ClassId) : List (ClassId × FieldType) := [(cI, .int), (cC, .object "CowsOwed$Clan"), (cI2, .array .int)]
def fX0 (a : Nat → Nat) (σ : Nat → Nat → Int32) : List Value := [.ref (a 1), .ref (a 2), .ref (a 8), .ref (a 31), .ref (a 45), .ref (a 24), .int (σ 0 6), .int (σ 0 7)]
def fX8 (a : Nat → Nat) (σ : Nat → Nat → Int32) : List Value := [.ref (a 9), .int (σ 8 1)]
def fX10 (a : Nat → Nat) (σ : Nat → Nat → Int32) : List Value := [.ref (a 2), .ref (a 11), .ref (a 12), .int (σ 10 3), .int (σ 10 4)]
def fX17 (a : Nat → Nat) (σ : Nat → Nat → Int32) : List Value := [.ref (a 2), .ref (a 18), .ref (a 19), .int (σ 17 3), .int (σ 17 4)]
def fX24 (a : Nat → Nat) (σ : Nat → Nat → Int32) : List Value := [.ref (a 2), .ref (a 25), .ref (a 26), .int (σ 24 3), .int (σ 24 4)]
def fX31 (a : Nat → Nat) (σ : Nat → Nat → Int32) : List Value := [.ref (a 10), .ref (a 32), .ref (a 37), .ref (a 42), .int (σ 31 4)]
def fX32 (a : Nat → Nat) (σ : Nat → Nat → Int32) : List Value := [.ref (a 33), .ref (a 34), .ref (a 35), .ref (a 36), .int (σ 32 4)]
def fX37 (a : Nat → Nat) (σ : Nat → Nat → Int32) : List Value := [.ref (a 38), .ref (a 39), .ref (a 40), .ref (a 41), .int (σ 37 4), .int (σ 37 5)]
def fX42 (a : Nat → Nat) (σ : Nat → Nat → Int32) : List Value := [.ref (a 43), .ref (a 44), .int (σ 42 2)]
def fX45 (a : Nat → Nat) (σ : Nat → Nat → Int32) : List Value := [.ref (a 17), .ref (a 46), .ref (a 51), .ref (a 56), .int (σ 45 4)]
def fX46 (a : Nat → Nat) (σ : Nat → Nat → Int32) : List Value := [.ref (a 47), .ref (a 48), .ref (a 49), .ref (a 50), .int (σ 46 4)]
def fX51 (a : Nat → Nat) (σ : Nat → Nat → Int32) : List Value := [.ref (a 52), .ref (a 53), .ref (a 54), .ref (a 55), .int (σ 51 4), .int (σ 51 5)]
def fX56 (a : Nat → Nat) (σ : Nat → Nat → Int32) : List Value := [.ref (a 57), .ref (a 58), .int (σ 56 2)]
def wXD (cI cC cI2 : ClassId) (a : Nat → Nat) (κ : Nat → Nat) (σ : Nat → Nat → Int32) (r : Nat → Nat → Nat → Int32) : va_W :=
  [(a 0, .inr (11, fX0 a σ)),
   (a 1, .inl (cC, 5, .inr (.inr (.inr (.inr (fun i => some (a (3 + i)))))))),
   (a 2, .inl (cC, 4, .inr (.inr (.inr (.inr (fun i => some (a (3 + κ i)))))))),
   (a 3, .inr (1, [])),
   (a 4, .inr (7, [])),
   (a 5, .inr (6, [])),
   (a 6, .inr (0, [])),
   (a 7, .inr (3, [])),
   (a 8, .inr (4, fX8 a σ)),
   (a 9, .inl (cI, 16, .inl (σ 9))),
   (a 10, .inr (2, fX10 a σ)),
   (a 11, .inl (cI, 4, .inl (σ 11))),
   (a 12, .inl (cI2, 4, .inr (.inr (.inr (.inr (fun i => some (a (13 + i)))))))),
   (a 13, .inl (cI, 4, .inl (r 0 0))),
   (a 14, .inl (cI, 4, .inl (r 0 1))),
   (a 15, .inl (cI, 4, .inl (r 0 2))),
   (a 16, .inl (cI, 4, .inl (r 0 3))),
   (a 17, .inr (2, fX17 a σ)),
   (a 18, .inl (cI, 4, .inl (σ 18))),
   (a 19, .inl (cI2, 4, .inr (.inr (.inr (.inr (fun i => some (a (20 + i)))))))),
   (a 20, .inl (cI, 4, .inl (r 1 0))),
   (a 21, .inl (cI, 4, .inl (r 1 1))),
   (a 22, .inl (cI, 4, .inl (r 1 2))),
   (a 23, .inl (cI, 4, .inl (r 1 3))),
   (a 24, .inr (2, fX24 a σ)),
   (a 25, .inl (cI, 4, .inl (σ 25))),
   (a 26, .inl (cI2, 4, .inr (.inr (.inr (.inr (fun i => some (a (27 + i)))))))),
   (a 27, .inl (cI, 4, .inl (r 2 0))),
   (a 28, .inl (cI, 4, .inl (r 2 1))),
   (a 29, .inl (cI, 4, .inl (r 2 2))),
   (a 30, .inl (cI, 4, .inl (r 2 3))),
   (a 31, .inr (8, fX31 a σ)),
   (a 32, .inr (10, fX32 a σ)),
   (a 33, .inl (cI, 12, .inl (σ 33))),
   (a 34, .inl (cI, 12, .inl (σ 34))),
   (a 35, .inl (cI, 12, .inl (σ 35))),
   (a 36, .inl (cI, 12, .inl (σ 36))),
   (a 37, .inr (5, fX37 a σ)),
   (a 38, .inl (cI, 4, .inl (σ 38))),
   (a 39, .inl (cI, 4, .inl (σ 39))),
   (a 40, .inl (cI, 4, .inl (σ 40))),
   (a 41, .inl (cI, 4, .inl (σ 41))),
   (a 42, .inr (9, fX42 a σ)),
   (a 43, .inl (cI, 6, .inl (σ 43))),
   (a 44, .inl (cI, 6, .inl (σ 44))),
   (a 45, .inr (8, fX45 a σ)),
   (a 46, .inr (10, fX46 a σ)),
   (a 47, .inl (cI, 12, .inl (σ 47))),
   (a 48, .inl (cI, 12, .inl (σ 48))),
   (a 49, .inl (cI, 12, .inl (σ 49))),
   (a 50, .inl (cI, 12, .inl (σ 50))),
   (a 51, .inr (5, fX51 a σ)),
   (a 52, .inl (cI, 4, .inl (σ 52))),
   (a 53, .inl (cI, 4, .inl (σ 53))),
   (a 54, .inl (cI, 4, .inl (σ 54))),
   (a 55, .inl (cI, 4, .inl (σ 55))),
   (a 56, .inr (9, fX56 a σ)),
   (a 57, .inl (cI, 6, .inl (σ 57))),
   (a 58, .inl (cI, 6, .inl (σ 58)))]
def hcell (h : Nat) : Nat := if h = 0 then 12 else if h = 1 then 19 else 26
def rowsX (σ : Nat → Nat → Int32) : Nat → Nat → Nat → Int32 := fun h i => dRow (σ (hcell h)) i
def wX (cI cC cI2 : ClassId) (a : Nat → Nat) (κ : Nat → Nat) (σ : Nat → Nat → Int32) : va_W := wXD cI cC cI2 a κ σ (rowsX σ)
theorem hcell_ne {c : Nat} (h1 : c ≠ 12) (h2 : c ≠ 19) (h3 : c ≠ 26) (q : Nat) : hcell q ≠ c := by
  unfold hcell
  by_cases e : q = 0
  · rw [if_pos e]; omega
  · rw [if_neg e]
    by_cases e1 : q = 1
    · rw [if_pos e1]; omega
    · rw [if_neg e1]; omega
theorem rowsX_n {σ : Nat → Nat → Int32} {c k : Nat} {x : Int32} (h1 : c ≠ 12) (h2 : c ≠ 19) (h3 : c ≠ 26) : rowsX (up2 σ c k x) = rowsX σ := by
  funext q i
  unfold rowsX
  rw [up2_n _ _ _ (hcell_ne h1 h2 h3 q)]
theorem rowsX_r {σ : Nat → Nat → Int32} {c : Nat} {f : Nat → Int32} (h1 : c ≠ 12) (h2 : c ≠ 19) (h3 : c ≠ 26) : rowsX (row σ c f) = rowsX σ := by
  funext q i
  unfold rowsX
  rw [row_n _ _ (hcell_ne h1 h2 h3 q)]
/-- the herds h, each with its own place among the rows -/
def upR (r : Nat → Nat → Nat → Int32) (c : Nat) (i : Nat) (f : Nat → Int32) : Nat → Nat → Nat → Int32 := fun h' i' => if hcell h' = c then (if i' = i then f else r h' i') else r h' i'
theorem rowsX_d {σ : Nat → Nat → Int32} {c i j : Nat} {x : Int32} (hj : j < 4) : rowsX (up2 σ c (4 * i + j) x) = upR (rowsX σ) c i (upd (dRow (σ c) i) j x) := by
  funext q i'
  unfold rowsX upR
  by_cases e : hcell q = c
  · subst e
    rw [if_pos rfl, up2_s]
    by_cases e2 : i' = i
    · subst e2
      rw [if_pos rfl, dRow_s hj]
    · rw [if_neg e2, dRow_n hj e2]
  · rw [if_neg e, up2_n _ _ _ e]
def updN (κ : Nat → Nat) (i k : Nat) : Nat → Nat := fun j => if j = i then k else κ j
theorem wX_f0_6 (cI cC cI2 : ClassId) (a : Nat → Nat) (κ : Nat → Nat) (σ : Nat → Nat → Int32) (x : Int32) : (wX cI cC cI2 a κ σ).set 0 (a 0, .inr (11, (fX0 a σ).set 6 (.int x))) = wX cI cC cI2 a κ (up2 σ 0 6 x) := by
  unfold wX
  rw [rowsX_n (by decide) (by decide) (by decide)]
  rfl
theorem wX_f0_7 (cI cC cI2 : ClassId) (a : Nat → Nat) (κ : Nat → Nat) (σ : Nat → Nat → Int32) (x : Int32) : (wX cI cC cI2 a κ σ).set 0 (a 0, .inr (11, (fX0 a σ).set 7 (.int x))) = wX cI cC cI2 a κ (up2 σ 0 7 x) := by
  unfold wX
  rw [rowsX_n (by decide) (by decide) (by decide)]
  rfl
theorem wX_f8_1 (cI cC cI2 : ClassId) (a : Nat → Nat) (κ : Nat → Nat) (σ : Nat → Nat → Int32) (x : Int32) : (wX cI cC cI2 a κ σ).set 8 (a 8, .inr (4, (fX8 a σ).set 1 (.int x))) = wX cI cC cI2 a κ (up2 σ 8 1 x) := by
  unfold wX
  rw [rowsX_n (by decide) (by decide) (by decide)]
  rfl
theorem wX_f10_3 (cI cC cI2 : ClassId) (a : Nat → Nat) (κ : Nat → Nat) (σ : Nat → Nat → Int32) (x : Int32) : (wX cI cC cI2 a κ σ).set 10 (a 10, .inr (2, (fX10 a σ).set 3 (.int x))) = wX cI cC cI2 a κ (up2 σ 10 3 x) := by
  unfold wX
  rw [rowsX_n (by decide) (by decide) (by decide)]
  rfl
theorem wX_f10_4 (cI cC cI2 : ClassId) (a : Nat → Nat) (κ : Nat → Nat) (σ : Nat → Nat → Int32) (x : Int32) : (wX cI cC cI2 a κ σ).set 10 (a 10, .inr (2, (fX10 a σ).set 4 (.int x))) = wX cI cC cI2 a κ (up2 σ 10 4 x) := by
  unfold wX
  rw [rowsX_n (by decide) (by decide) (by decide)]
  rfl
theorem wX_f17_3 (cI cC cI2 : ClassId) (a : Nat → Nat) (κ : Nat → Nat) (σ : Nat → Nat → Int32) (x : Int32) : (wX cI cC cI2 a κ σ).set 17 (a 17, .inr (2, (fX17 a σ).set 3 (.int x))) = wX cI cC cI2 a κ (up2 σ 17 3 x) := by
  unfold wX
  rw [rowsX_n (by decide) (by decide) (by decide)]
  rfl
theorem wX_f17_4 (cI cC cI2 : ClassId) (a : Nat → Nat) (κ : Nat → Nat) (σ : Nat → Nat → Int32) (x : Int32) : (wX cI cC cI2 a κ σ).set 17 (a 17, .inr (2, (fX17 a σ).set 4 (.int x))) = wX cI cC cI2 a κ (up2 σ 17 4 x) := by
  unfold wX
  rw [rowsX_n (by decide) (by decide) (by decide)]
  rfl
theorem wX_f24_3 (cI cC cI2 : ClassId) (a : Nat → Nat) (κ : Nat → Nat) (σ : Nat → Nat → Int32) (x : Int32) : (wX cI cC cI2 a κ σ).set 24 (a 24, .inr (2, (fX24 a σ).set 3 (.int x))) = wX cI cC cI2 a κ (up2 σ 24 3 x) := by
  unfold wX
  rw [rowsX_n (by decide) (by decide) (by decide)]
  rfl
theorem wX_f24_4 (cI cC cI2 : ClassId) (a : Nat → Nat) (κ : Nat → Nat) (σ : Nat → Nat → Int32) (x : Int32) : (wX cI cC cI2 a κ σ).set 24 (a 24, .inr (2, (fX24 a σ).set 4 (.int x))) = wX cI cC cI2 a κ (up2 σ 24 4 x) := by
  unfold wX
  rw [rowsX_n (by decide) (by decide) (by decide)]
  rfl
theorem wX_f31_4 (cI cC cI2 : ClassId) (a : Nat → Nat) (κ : Nat → Nat) (σ : Nat → Nat → Int32) (x : Int32) : (wX cI cC cI2 a κ σ).set 31 (a 31, .inr (8, (fX31 a σ).set 4 (.int x))) = wX cI cC cI2 a κ (up2 σ 31 4 x) := by
  unfold wX
  rw [rowsX_n (by decide) (by decide) (by decide)]
  rfl
theorem wX_f32_4 (cI cC cI2 : ClassId) (a : Nat → Nat) (κ : Nat → Nat) (σ : Nat → Nat → Int32) (x : Int32) : (wX cI cC cI2 a κ σ).set 32 (a 32, .inr (10, (fX32 a σ).set 4 (.int x))) = wX cI cC cI2 a κ (up2 σ 32 4 x) := by
  unfold wX
  rw [rowsX_n (by decide) (by decide) (by decide)]
  rfl
theorem wX_f37_4 (cI cC cI2 : ClassId) (a : Nat → Nat) (κ : Nat → Nat) (σ : Nat → Nat → Int32) (x : Int32) : (wX cI cC cI2 a κ σ).set 37 (a 37, .inr (5, (fX37 a σ).set 4 (.int x))) = wX cI cC cI2 a κ (up2 σ 37 4 x) := by
  unfold wX
  rw [rowsX_n (by decide) (by decide) (by decide)]
  rfl
theorem wX_f37_5 (cI cC cI2 : ClassId) (a : Nat → Nat) (κ : Nat → Nat) (σ : Nat → Nat → Int32) (x : Int32) : (wX cI cC cI2 a κ σ).set 37 (a 37, .inr (5, (fX37 a σ).set 5 (.int x))) = wX cI cC cI2 a κ (up2 σ 37 5 x) := by
  unfold wX
  rw [rowsX_n (by decide) (by decide) (by decide)]
  rfl
theorem wX_f42_2 (cI cC cI2 : ClassId) (a : Nat → Nat) (κ : Nat → Nat) (σ : Nat → Nat → Int32) (x : Int32) : (wX cI cC cI2 a κ σ).set 42 (a 42, .inr (9, (fX42 a σ).set 2 (.int x))) = wX cI cC cI2 a κ (up2 σ 42 2 x) := by
  unfold wX
  rw [rowsX_n (by decide) (by decide) (by decide)]
  rfl
theorem wX_f45_4 (cI cC cI2 : ClassId) (a : Nat → Nat) (κ : Nat → Nat) (σ : Nat → Nat → Int32) (x : Int32) : (wX cI cC cI2 a κ σ).set 45 (a 45, .inr (8, (fX45 a σ).set 4 (.int x))) = wX cI cC cI2 a κ (up2 σ 45 4 x) := by
  unfold wX
  rw [rowsX_n (by decide) (by decide) (by decide)]
  rfl
theorem wX_f46_4 (cI cC cI2 : ClassId) (a : Nat → Nat) (κ : Nat → Nat) (σ : Nat → Nat → Int32) (x : Int32) : (wX cI cC cI2 a κ σ).set 46 (a 46, .inr (10, (fX46 a σ).set 4 (.int x))) = wX cI cC cI2 a κ (up2 σ 46 4 x) := by
  unfold wX
  rw [rowsX_n (by decide) (by decide) (by decide)]
  rfl
theorem wX_f51_4 (cI cC cI2 : ClassId) (a : Nat → Nat) (κ : Nat → Nat) (σ : Nat → Nat → Int32) (x : Int32) : (wX cI cC cI2 a κ σ).set 51 (a 51, .inr (5, (fX51 a σ).set 4 (.int x))) = wX cI cC cI2 a κ (up2 σ 51 4 x) := by
  unfold wX
  rw [rowsX_n (by decide) (by decide) (by decide)]
  rfl
theorem wX_f51_5 (cI cC cI2 : ClassId) (a : Nat → Nat) (κ : Nat → Nat) (σ : Nat → Nat → Int32) (x : Int32) : (wX cI cC cI2 a κ σ).set 51 (a 51, .inr (5, (fX51 a σ).set 5 (.int x))) = wX cI cC cI2 a κ (up2 σ 51 5 x) := by
  unfold wX
  rw [rowsX_n (by decide) (by decide) (by decide)]
  rfl
theorem wX_f56_2 (cI cC cI2 : ClassId) (a : Nat → Nat) (κ : Nat → Nat) (σ : Nat → Nat → Int32) (x : Int32) : (wX cI cC cI2 a κ σ).set 56 (a 56, .inr (9, (fX56 a σ).set 2 (.int x))) = wX cI cC cI2 a κ (up2 σ 56 2 x) := by
  unfold wX
  rw [rowsX_n (by decide) (by decide) (by decide)]
  rfl
theorem wX_a9 (cI cC cI2 : ClassId) (a : Nat → Nat) (κ : Nat → Nat) (σ : Nat → Nat → Int32) (i : Nat) (x : Int32) : (wX cI cC cI2 a κ σ).set 9 (a 9, .inl (cI, 16, .inl (upd (σ 9) i x))) = wX cI cC cI2 a κ (up2 σ 9 i x) := by
  unfold wX
  rw [rowsX_n (by decide) (by decide) (by decide)]
  rfl
theorem wX_a11 (cI cC cI2 : ClassId) (a : Nat → Nat) (κ : Nat → Nat) (σ : Nat → Nat → Int32) (i : Nat) (x : Int32) : (wX cI cC cI2 a κ σ).set 11 (a 11, .inl (cI, 4, .inl (upd (σ 11) i x))) = wX cI cC cI2 a κ (up2 σ 11 i x) := by
  unfold wX
  rw [rowsX_n (by decide) (by decide) (by decide)]
  rfl
theorem wX_a18 (cI cC cI2 : ClassId) (a : Nat → Nat) (κ : Nat → Nat) (σ : Nat → Nat → Int32) (i : Nat) (x : Int32) : (wX cI cC cI2 a κ σ).set 18 (a 18, .inl (cI, 4, .inl (upd (σ 18) i x))) = wX cI cC cI2 a κ (up2 σ 18 i x) := by
  unfold wX
  rw [rowsX_n (by decide) (by decide) (by decide)]
  rfl
theorem wX_a25 (cI cC cI2 : ClassId) (a : Nat → Nat) (κ : Nat → Nat) (σ : Nat → Nat → Int32) (i : Nat) (x : Int32) : (wX cI cC cI2 a κ σ).set 25 (a 25, .inl (cI, 4, .inl (upd (σ 25) i x))) = wX cI cC cI2 a κ (up2 σ 25 i x) := by
  unfold wX
  rw [rowsX_n (by decide) (by decide) (by decide)]
  rfl
theorem wX_a33 (cI cC cI2 : ClassId) (a : Nat → Nat) (κ : Nat → Nat) (σ : Nat → Nat → Int32) (i : Nat) (x : Int32) : (wX cI cC cI2 a κ σ).set 33 (a 33, .inl (cI, 12, .inl (upd (σ 33) i x))) = wX cI cC cI2 a κ (up2 σ 33 i x) := by
  unfold wX
  rw [rowsX_n (by decide) (by decide) (by decide)]
  rfl
theorem wX_a34 (cI cC cI2 : ClassId) (a : Nat → Nat) (κ : Nat → Nat) (σ : Nat → Nat → Int32) (i : Nat) (x : Int32) : (wX cI cC cI2 a κ σ).set 34 (a 34, .inl (cI, 12, .inl (upd (σ 34) i x))) = wX cI cC cI2 a κ (up2 σ 34 i x) := by
  unfold wX
  rw [rowsX_n (by decide) (by decide) (by decide)]
  rfl
theorem wX_a35 (cI cC cI2 : ClassId) (a : Nat → Nat) (κ : Nat → Nat) (σ : Nat → Nat → Int32) (i : Nat) (x : Int32) : (wX cI cC cI2 a κ σ).set 35 (a 35, .inl (cI, 12, .inl (upd (σ 35) i x))) = wX cI cC cI2 a κ (up2 σ 35 i x) := by
  unfold wX
  rw [rowsX_n (by decide) (by decide) (by decide)]
  rfl
theorem wX_a36 (cI cC cI2 : ClassId) (a : Nat → Nat) (κ : Nat → Nat) (σ : Nat → Nat → Int32) (i : Nat) (x : Int32) : (wX cI cC cI2 a κ σ).set 36 (a 36, .inl (cI, 12, .inl (upd (σ 36) i x))) = wX cI cC cI2 a κ (up2 σ 36 i x) := by
  unfold wX
  rw [rowsX_n (by decide) (by decide) (by decide)]
  rfl
theorem wX_a38 (cI cC cI2 : ClassId) (a : Nat → Nat) (κ : Nat → Nat) (σ : Nat → Nat → Int32) (i : Nat) (x : Int32) : (wX cI cC cI2 a κ σ).set 38 (a 38, .inl (cI, 4, .inl (upd (σ 38) i x))) = wX cI cC cI2 a κ (up2 σ 38 i x) := by
  unfold wX
  rw [rowsX_n (by decide) (by decide) (by decide)]
  rfl
theorem wX_a39 (cI cC cI2 : ClassId) (a : Nat → Nat) (κ : Nat → Nat) (σ : Nat → Nat → Int32) (i : Nat) (x : Int32) : (wX cI cC cI2 a κ σ).set 39 (a 39, .inl (cI, 4, .inl (upd (σ 39) i x))) = wX cI cC cI2 a κ (up2 σ 39 i x) := by
  unfold wX
  rw [rowsX_n (by decide) (by decide) (by decide)]
  rfl
theorem wX_a40 (cI cC cI2 : ClassId) (a : Nat → Nat) (κ : Nat → Nat) (σ : Nat → Nat → Int32) (i : Nat) (x : Int32) : (wX cI cC cI2 a κ σ).set 40 (a 40, .inl (cI, 4, .inl (upd (σ 40) i x))) = wX cI cC cI2 a κ (up2 σ 40 i x) := by
  unfold wX
  rw [rowsX_n (by decide) (by decide) (by decide)]
  rfl
theorem wX_a41 (cI cC cI2 : ClassId) (a : Nat → Nat) (κ : Nat → Nat) (σ : Nat → Nat → Int32) (i : Nat) (x : Int32) : (wX cI cC cI2 a κ σ).set 41 (a 41, .inl (cI, 4, .inl (upd (σ 41) i x))) = wX cI cC cI2 a κ (up2 σ 41 i x) := by
  unfold wX
  rw [rowsX_n (by decide) (by decide) (by decide)]
  rfl
theorem wX_a43 (cI cC cI2 : ClassId) (a : Nat → Nat) (κ : Nat → Nat) (σ : Nat → Nat → Int32) (i : Nat) (x : Int32) : (wX cI cC cI2 a κ σ).set 43 (a 43, .inl (cI, 6, .inl (upd (σ 43) i x))) = wX cI cC cI2 a κ (up2 σ 43 i x) := by
  unfold wX
  rw [rowsX_n (by decide) (by decide) (by decide)]
  rfl
theorem wX_a44 (cI cC cI2 : ClassId) (a : Nat → Nat) (κ : Nat → Nat) (σ : Nat → Nat → Int32) (i : Nat) (x : Int32) : (wX cI cC cI2 a κ σ).set 44 (a 44, .inl (cI, 6, .inl (upd (σ 44) i x))) = wX cI cC cI2 a κ (up2 σ 44 i x) := by
  unfold wX
  rw [rowsX_n (by decide) (by decide) (by decide)]
  rfl
theorem wX_a47 (cI cC cI2 : ClassId) (a : Nat → Nat) (κ : Nat → Nat) (σ : Nat → Nat → Int32) (i : Nat) (x : Int32) : (wX cI cC cI2 a κ σ).set 47 (a 47, .inl (cI, 12, .inl (upd (σ 47) i x))) = wX cI cC cI2 a κ (up2 σ 47 i x) := by
  unfold wX
  rw [rowsX_n (by decide) (by decide) (by decide)]
  rfl
theorem wX_a48 (cI cC cI2 : ClassId) (a : Nat → Nat) (κ : Nat → Nat) (σ : Nat → Nat → Int32) (i : Nat) (x : Int32) : (wX cI cC cI2 a κ σ).set 48 (a 48, .inl (cI, 12, .inl (upd (σ 48) i x))) = wX cI cC cI2 a κ (up2 σ 48 i x) := by
  unfold wX
  rw [rowsX_n (by decide) (by decide) (by decide)]
  rfl
theorem wX_a49 (cI cC cI2 : ClassId) (a : Nat → Nat) (κ : Nat → Nat) (σ : Nat → Nat → Int32) (i : Nat) (x : Int32) : (wX cI cC cI2 a κ σ).set 49 (a 49, .inl (cI, 12, .inl (upd (σ 49) i x))) = wX cI cC cI2 a κ (up2 σ 49 i x) := by
  unfold wX
  rw [rowsX_n (by decide) (by decide) (by decide)]
  rfl
theorem wX_a50 (cI cC cI2 : ClassId) (a : Nat → Nat) (κ : Nat → Nat) (σ : Nat → Nat → Int32) (i : Nat) (x : Int32) : (wX cI cC cI2 a κ σ).set 50 (a 50, .inl (cI, 12, .inl (upd (σ 50) i x))) = wX cI cC cI2 a κ (up2 σ 50 i x) := by
  unfold wX
  rw [rowsX_n (by decide) (by decide) (by decide)]
  rfl
theorem wX_a52 (cI cC cI2 : ClassId) (a : Nat → Nat) (κ : Nat → Nat) (σ : Nat → Nat → Int32) (i : Nat) (x : Int32) : (wX cI cC cI2 a κ σ).set 52 (a 52, .inl (cI, 4, .inl (upd (σ 52) i x))) = wX cI cC cI2 a κ (up2 σ 52 i x) := by
  unfold wX
  rw [rowsX_n (by decide) (by decide) (by decide)]
  rfl
theorem wX_a53 (cI cC cI2 : ClassId) (a : Nat → Nat) (κ : Nat → Nat) (σ : Nat → Nat → Int32) (i : Nat) (x : Int32) : (wX cI cC cI2 a κ σ).set 53 (a 53, .inl (cI, 4, .inl (upd (σ 53) i x))) = wX cI cC cI2 a κ (up2 σ 53 i x) := by
  unfold wX
  rw [rowsX_n (by decide) (by decide) (by decide)]
  rfl
theorem wX_a54 (cI cC cI2 : ClassId) (a : Nat → Nat) (κ : Nat → Nat) (σ : Nat → Nat → Int32) (i : Nat) (x : Int32) : (wX cI cC cI2 a κ σ).set 54 (a 54, .inl (cI, 4, .inl (upd (σ 54) i x))) = wX cI cC cI2 a κ (up2 σ 54 i x) := by
  unfold wX
  rw [rowsX_n (by decide) (by decide) (by decide)]
  rfl
theorem wX_a55 (cI cC cI2 : ClassId) (a : Nat → Nat) (κ : Nat → Nat) (σ : Nat → Nat → Int32) (i : Nat) (x : Int32) : (wX cI cC cI2 a κ σ).set 55 (a 55, .inl (cI, 4, .inl (upd (σ 55) i x))) = wX cI cC cI2 a κ (up2 σ 55 i x) := by
  unfold wX
  rw [rowsX_n (by decide) (by decide) (by decide)]
  rfl
theorem wX_a57 (cI cC cI2 : ClassId) (a : Nat → Nat) (κ : Nat → Nat) (σ : Nat → Nat → Int32) (i : Nat) (x : Int32) : (wX cI cC cI2 a κ σ).set 57 (a 57, .inl (cI, 6, .inl (upd (σ 57) i x))) = wX cI cC cI2 a κ (up2 σ 57 i x) := by
  unfold wX
  rw [rowsX_n (by decide) (by decide) (by decide)]
  rfl
theorem wX_a58 (cI cC cI2 : ClassId) (a : Nat → Nat) (κ : Nat → Nat) (σ : Nat → Nat → Int32) (i : Nat) (x : Int32) : (wX cI cC cI2 a κ σ).set 58 (a 58, .inl (cI, 6, .inl (upd (σ 58) i x))) = wX cI cC cI2 a κ (up2 σ 58 i x) := by
  unfold wX
  rw [rowsX_n (by decide) (by decide) (by decide)]
  rfl
theorem wX_dg10 (cI cC cI2 : ClassId) (a : Nat → Nat) (κ : Nat → Nat) (σ : Nat → Nat → Int32) {i : Nat} (hi : i < 4) : (wX cI cC cI2 a κ σ)[13 + i]? = some (a (13 + i), .inl (cI, 4, .inl (dRow (σ 12) i))) := by
  rcases (by omega : i = 0 ∨ i = 1 ∨ i = 2 ∨ i = 3) with rfl | rfl | rfl | rfl <;> rfl
theorem wX_ds10 (cI cC cI2 : ClassId) (a : Nat → Nat) (κ : Nat → Nat) (σ : Nat → Nat → Int32) {i j : Nat} (x : Int32) (hi : i < 4) (hj : j < 4) : (wX cI cC cI2 a κ σ).set (13 + i) (a (13 + i), .inl (cI, 4, .inl (upd (dRow (σ 12) i) j x))) = wX cI cC cI2 a κ (up2 σ 12 (4 * i + j) x) := by
  unfold wX
  rw [rowsX_d (c := 12) hj]
  rcases (by omega : i = 0 ∨ i = 1 ∨ i = 2 ∨ i = 3) with rfl | rfl | rfl | rfl <;> rfl
theorem wX_dg17 (cI cC cI2 : ClassId) (a : Nat → Nat) (κ : Nat → Nat) (σ : Nat → Nat → Int32) {i : Nat} (hi : i < 4) : (wX cI cC cI2 a κ σ)[20 + i]? = some (a (20 + i), .inl (cI, 4, .inl (dRow (σ 19) i))) := by
  rcases (by omega : i = 0 ∨ i = 1 ∨ i = 2 ∨ i = 3) with rfl | rfl | rfl | rfl <;> rfl
theorem wX_ds17 (cI cC cI2 : ClassId) (a : Nat → Nat) (κ : Nat → Nat) (σ : Nat → Nat → Int32) {i j : Nat} (x : Int32) (hi : i < 4) (hj : j < 4) : (wX cI cC cI2 a κ σ).set (20 + i) (a (20 + i), .inl (cI, 4, .inl (upd (dRow (σ 19) i) j x))) = wX cI cC cI2 a κ (up2 σ 19 (4 * i + j) x) := by
  unfold wX
  rw [rowsX_d (c := 19) hj]
  rcases (by omega : i = 0 ∨ i = 1 ∨ i = 2 ∨ i = 3) with rfl | rfl | rfl | rfl <;> rfl
theorem wX_dg24 (cI cC cI2 : ClassId) (a : Nat → Nat) (κ : Nat → Nat) (σ : Nat → Nat → Int32) {i : Nat} (hi : i < 4) : (wX cI cC cI2 a κ σ)[27 + i]? = some (a (27 + i), .inl (cI, 4, .inl (dRow (σ 26) i))) := by
  rcases (by omega : i = 0 ∨ i = 1 ∨ i = 2 ∨ i = 3) with rfl | rfl | rfl | rfl <;> rfl
theorem wX_ds24 (cI cC cI2 : ClassId) (a : Nat → Nat) (κ : Nat → Nat) (σ : Nat → Nat → Int32) {i j : Nat} (x : Int32) (hi : i < 4) (hj : j < 4) : (wX cI cC cI2 a κ σ).set (27 + i) (a (27 + i), .inl (cI, 4, .inl (upd (dRow (σ 26) i) j x))) = wX cI cC cI2 a κ (up2 σ 26 (4 * i + j) x) := by
  unfold wX
  rw [rowsX_d (c := 26) hj]
  rcases (by omega : i = 0 ∨ i = 1 ∨ i = 2 ∨ i = 3) with rfl | rfl | rfl | rfl <;> rfl
