/-! ===== level 2: the class and the model say the same ===== -/
theorem i64_lt (x y : Int32) : x.toInt64 < y.toInt64 ↔ x < y := by
  rw [Int64.lt_iff_toInt_lt, Int32.toInt_toInt64, Int32.toInt_toInt64, fa_lt]
theorem lgc_lt (a b : Int64) : (lg_cmp a b < 0) ↔ a < b := by
  unfold lg_cmp
  by_cases h : a > b
  · rw [if_pos h]
    refine ⟨fun g => absurd g (by decide), fun g => ?_⟩
    have h1 := Int64.lt_iff_toInt_lt.mp h
    have h2 := Int64.lt_iff_toInt_lt.mp g
    omega
  · rw [if_neg h]
    by_cases e : a = b
    · rw [if_pos e]
      refine ⟨fun g => absurd g (by decide), fun g => ?_⟩
      subst e
      have h2 := Int64.lt_iff_toInt_lt.mp g
      omega
    · rw [if_neg e]
      refine ⟨fun _ => ?_, fun _ => by decide⟩
      have h1 : ¬ b.toInt < a.toInt := fun q => h (Int64.lt_iff_toInt_lt.mpr q)
      have h2 : a.toInt ≠ b.toInt := fun q => e (Int64.toInt_inj.mp q)
      exact Int64.lt_iff_toInt_lt.mpr (by omega)
theorem lgc_gt (a b : Int64) : (0 < lg_cmp a b) ↔ b < a := by
  unfold lg_cmp
  by_cases h : a > b
  · rw [if_pos h]; exact ⟨fun _ => h, fun _ => by decide⟩
  · rw [if_neg h]
    by_cases e : a = b
    · rw [if_pos e]; exact ⟨fun g => absurd g (by decide), fun g => absurd g h⟩
    · rw [if_neg e]; exact ⟨fun g => absurd g (by decide), fun g => absurd g h⟩
theorem M_in_32 (x lo hi : Int32) : M_in_r x.toInt64 lo.toInt64 hi.toInt64 = if x < lo then 0 else (if x ≤ hi then 1 else 0) := by
  unfold M_in_r
  by_cases h1 : x < lo
  · rw [if_pos h1, if_pos ((lgc_lt _ _).mpr ((i64_lt x lo).mpr h1))]
  · rw [if_neg h1, if_neg (fun h => h1 ((i64_lt x lo).mp ((lgc_lt _ _).mp h)))]
    by_cases h2 : x ≤ hi
    · rw [if_pos h2, if_neg (fun h => by have h3 := (i64_lt hi x).mp ((lgc_gt _ _).mp h); rw [fa_lt] at h3; rw [fa_le] at h2; omega)]
    · rw [if_neg h2, if_pos ((lgc_gt _ _).mpr ((i64_lt hi x).mpr (by rw [fa_lt]; rw [fa_le] at h2; omega)))]
