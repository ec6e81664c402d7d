/-! ===== level 2: images ===== -/
theorem RTl.congr {tm : Nat} {s t s' t' : Int32} {r1 r2 q r1' r2' : Nat → Int32} (h : RTl tm s t r1 r2 q) (es : s' = s) (et : t' = t) (e1 : ∀ i, i < 6 → r1' i = r1 i) (e2 : ∀ i, i < 6 → r2' i = r2 i) : RTl tm s' t' r1' r2' q := by
  subst es; subst et
  have hb := h.1
  refine ⟨hb, h.2.1, h.2.2.1, fun i hi => ?_⟩
  rw [e1 i (by omega), e2 i (by omega)]
  exact h.2.2.2 i hi
theorem RPl.congr {n pl : Nat} {s t s' t' : Int32} {r1 r2 q r1' r2' : Nat → Int32} (h : RPl n pl s t r1 r2 q) (es : s' = s) (et : t' = t) (e1 : ∀ i, i < 4 → r1' i = r1 i) (e2 : ∀ i, i < 4 → r2' i = r2 i) : RPl n pl s' t' r1' r2' q := by
  subst es; subst et
  have hb := h.1
  refine ⟨hb, h.2.1, h.2.2.1, fun i hi => ?_⟩
  rw [e1 i (by omega), e2 i (by omega)]
  exact h.2.2.2 i hi
theorem RWd.congr {n wd : Nat} {s t s' t' : Int32} {r1 r2 r3 r4 q r1' r2' r3' r4' : Nat → Int32} (h : RWd n wd s t r1 r2 r3 r4 q) (es : s' = s) (et : t' = t) (e1 : ∀ i, i < 12 → r1' i = r1 i) (e2 : ∀ i, i < 12 → r2' i = r2 i) (e3 : ∀ i, i < 12 → r3' i = r3 i) (e4 : ∀ i, i < 12 → r4' i = r4 i) : RWd n wd s' t' r1' r2' r3' r4' q := by
  subst es; subst et
  have hb := h.1
  refine ⟨hb, h.2.1, h.2.2.1, fun i hi => ?_⟩
  rw [e1 i (by omega), e2 i (by omega), e3 i (by omega), e4 i (by omega)]
  exact h.2.2.2 i hi
section IM
variable {κ : Nat → Nat} {σ τ σ' : Nat → Nat → Int32} {q n pm wd pl tm hr : Nat} {B : Int}
theorem ki_56_2 : XS_copyFrom_45_31_s κ σ 56 2 = σ 42 2 := ((congrFun (up2_n _ _ _ (show 56 ≠ 45 by decide)) 2).trans (rc_56_42_size.trans ((congrFun (rc_51_37_other (show 42 ≠ 51 by decide) (show 42 ≠ 52 by decide) (show 42 ≠ 53 by decide)) 2).trans ((congrFun (rc_46_32_other (show 42 ≠ 46 by decide) (show 42 ≠ 47 by decide) (show 42 ≠ 48 by decide) (show 42 ≠ 49 by decide) (show 42 ≠ 50 by decide)) 2).trans (congrFun (hc_17_10_other (show 42 ≠ 17 by decide) (show 42 ≠ 18 by decide) (show 42 ≠ 19 by decide)) 2)))))
theorem ki_57 : ∀ i, i < 6 → XS_copyFrom_45_31_s κ σ 57 i = σ 43 i := fun i hi => ((congrFun (up2_n _ _ _ (show 57 ≠ 45 by decide)) i).trans ((rc_56_42_r57 i hi).trans ((congrFun (rc_51_37_other (show 43 ≠ 51 by decide) (show 43 ≠ 52 by decide) (show 43 ≠ 53 by decide)) i).trans ((congrFun (rc_46_32_other (show 43 ≠ 46 by decide) (show 43 ≠ 47 by decide) (show 43 ≠ 48 by decide) (show 43 ≠ 49 by decide) (show 43 ≠ 50 by decide)) i).trans (congrFun (hc_17_10_other (show 43 ≠ 17 by decide) (show 43 ≠ 18 by decide) (show 43 ≠ 19 by decide)) i)))))
theorem ki_58 : ∀ i, i < 6 → XS_copyFrom_45_31_s κ σ 58 i = σ 44 i := fun i hi => ((congrFun (up2_n _ _ _ (show 58 ≠ 45 by decide)) i).trans ((rc_56_42_r58 i hi).trans ((congrFun (rc_51_37_other (show 44 ≠ 51 by decide) (show 44 ≠ 52 by decide) (show 44 ≠ 53 by decide)) i).trans ((congrFun (rc_46_32_other (show 44 ≠ 46 by decide) (show 44 ≠ 47 by decide) (show 44 ≠ 48 by decide) (show 44 ≠ 49 by decide) (show 44 ≠ 50 by decide)) i).trans (congrFun (hc_17_10_other (show 44 ≠ 17 by decide) (show 44 ≠ 18 by decide) (show 44 ≠ 19 by decide)) i)))))
theorem ki_51_4 : XS_copyFrom_45_31_s κ σ 51 4 = σ 37 4 := ((congrFun (up2_n _ _ _ (show 51 ≠ 45 by decide)) 4).trans ((congrFun (rc_56_42_other (show 51 ≠ 56 by decide) (show 51 ≠ 57 by decide) (show 51 ≠ 58 by decide)) 4).trans (rc_51_37_size.trans ((congrFun (rc_46_32_other (show 37 ≠ 46 by decide) (show 37 ≠ 47 by decide) (show 37 ≠ 48 by decide) (show 37 ≠ 49 by decide) (show 37 ≠ 50 by decide)) 4).trans (congrFun (hc_17_10_other (show 37 ≠ 17 by decide) (show 37 ≠ 18 by decide) (show 37 ≠ 19 by decide)) 4)))))
theorem ki_52 : ∀ i, i < 4 → XS_copyFrom_45_31_s κ σ 52 i = σ 38 i := fun i hi => ((congrFun (up2_n _ _ _ (show 52 ≠ 45 by decide)) i).trans ((congrFun (rc_56_42_other (show 52 ≠ 56 by decide) (show 52 ≠ 57 by decide) (show 52 ≠ 58 by decide)) i).trans ((rc_51_37_r52 i hi).trans ((congrFun (rc_46_32_other (show 38 ≠ 46 by decide) (show 38 ≠ 47 by decide) (show 38 ≠ 48 by decide) (show 38 ≠ 49 by decide) (show 38 ≠ 50 by decide)) i).trans (congrFun (hc_17_10_other (show 38 ≠ 17 by decide) (show 38 ≠ 18 by decide) (show 38 ≠ 19 by decide)) i)))))
theorem ki_53 : ∀ i, i < 4 → XS_copyFrom_45_31_s κ σ 53 i = σ 39 i := fun i hi => ((congrFun (up2_n _ _ _ (show 53 ≠ 45 by decide)) i).trans ((congrFun (rc_56_42_other (show 53 ≠ 56 by decide) (show 53 ≠ 57 by decide) (show 53 ≠ 58 by decide)) i).trans ((rc_51_37_r53 i hi).trans ((congrFun (rc_46_32_other (show 39 ≠ 46 by decide) (show 39 ≠ 47 by decide) (show 39 ≠ 48 by decide) (show 39 ≠ 49 by decide) (show 39 ≠ 50 by decide)) i).trans (congrFun (hc_17_10_other (show 39 ≠ 17 by decide) (show 39 ≠ 18 by decide) (show 39 ≠ 19 by decide)) i)))))
theorem ki_46_4 : XS_copyFrom_45_31_s κ σ 46 4 = σ 32 4 := ((congrFun (up2_n _ _ _ (show 46 ≠ 45 by decide)) 4).trans ((congrFun (rc_56_42_other (show 46 ≠ 56 by decide) (show 46 ≠ 57 by decide) (show 46 ≠ 58 by decide)) 4).trans ((congrFun (rc_51_37_other (show 46 ≠ 51 by decide) (show 46 ≠ 52 by decide) (show 46 ≠ 53 by decide)) 4).trans (rc_46_32_size.trans (congrFun (hc_17_10_other (show 32 ≠ 17 by decide) (show 32 ≠ 18 by decide) (show 32 ≠ 19 by decide)) 4)))))
theorem ki_47 : ∀ i, i < 12 → XS_copyFrom_45_31_s κ σ 47 i = σ 33 i := fun i hi => ((congrFun (up2_n _ _ _ (show 47 ≠ 45 by decide)) i).trans ((congrFun (rc_56_42_other (show 47 ≠ 56 by decide) (show 47 ≠ 57 by decide) (show 47 ≠ 58 by decide)) i).trans ((congrFun (rc_51_37_other (show 47 ≠ 51 by decide) (show 47 ≠ 52 by decide) (show 47 ≠ 53 by decide)) i).trans ((rc_46_32_r47 i hi).trans (congrFun (hc_17_10_other (show 33 ≠ 17 by decide) (show 33 ≠ 18 by decide) (show 33 ≠ 19 by decide)) i)))))
theorem ki_48 : ∀ i, i < 12 → XS_copyFrom_45_31_s κ σ 48 i = σ 34 i := fun i hi => ((congrFun (up2_n _ _ _ (show 48 ≠ 45 by decide)) i).trans ((congrFun (rc_56_42_other (show 48 ≠ 56 by decide) (show 48 ≠ 57 by decide) (show 48 ≠ 58 by decide)) i).trans ((congrFun (rc_51_37_other (show 48 ≠ 51 by decide) (show 48 ≠ 52 by decide) (show 48 ≠ 53 by decide)) i).trans ((rc_46_32_r48 i hi).trans (congrFun (hc_17_10_other (show 34 ≠ 17 by decide) (show 34 ≠ 18 by decide) (show 34 ≠ 19 by decide)) i)))))
theorem ki_49 : ∀ i, i < 12 → XS_copyFrom_45_31_s κ σ 49 i = σ 35 i := fun i hi => ((congrFun (up2_n _ _ _ (show 49 ≠ 45 by decide)) i).trans ((congrFun (rc_56_42_other (show 49 ≠ 56 by decide) (show 49 ≠ 57 by decide) (show 49 ≠ 58 by decide)) i).trans ((congrFun (rc_51_37_other (show 49 ≠ 51 by decide) (show 49 ≠ 52 by decide) (show 49 ≠ 53 by decide)) i).trans ((rc_46_32_r49 i hi).trans (congrFun (hc_17_10_other (show 35 ≠ 17 by decide) (show 35 ≠ 18 by decide) (show 35 ≠ 19 by decide)) i)))))
theorem ki_50 : ∀ i, i < 12 → XS_copyFrom_45_31_s κ σ 50 i = σ 36 i := fun i hi => ((congrFun (up2_n _ _ _ (show 50 ≠ 45 by decide)) i).trans ((congrFun (rc_56_42_other (show 50 ≠ 56 by decide) (show 50 ≠ 57 by decide) (show 50 ≠ 58 by decide)) i).trans ((congrFun (rc_51_37_other (show 50 ≠ 51 by decide) (show 50 ≠ 52 by decide) (show 50 ≠ 53 by decide)) i).trans ((rc_46_32_r50 i hi).trans (congrFun (hc_17_10_other (show 36 ≠ 17 by decide) (show 36 ≠ 18 by decide) (show 36 ≠ 19 by decide)) i)))))
theorem ki_17_3 : XS_copyFrom_45_31_s κ σ 17 3 = σ 10 3 := ((congrFun (up2_n _ _ _ (show 17 ≠ 45 by decide)) 3).trans ((congrFun (rc_56_42_other (show 17 ≠ 56 by decide) (show 17 ≠ 57 by decide) (show 17 ≠ 58 by decide)) 3).trans ((congrFun (rc_51_37_other (show 17 ≠ 51 by decide) (show 17 ≠ 52 by decide) (show 17 ≠ 53 by decide)) 3).trans ((congrFun (rc_46_32_other (show 17 ≠ 46 by decide) (show 17 ≠ 47 by decide) (show 17 ≠ 48 by decide) (show 17 ≠ 49 by decide) (show 17 ≠ 50 by decide)) 3).trans hc_17_10_size))))
theorem ki_17_4 : XS_copyFrom_45_31_s κ σ 17 4 = σ 10 4 := ((congrFun (up2_n _ _ _ (show 17 ≠ 45 by decide)) 4).trans ((congrFun (rc_56_42_other (show 17 ≠ 56 by decide) (show 17 ≠ 57 by decide) (show 17 ≠ 58 by decide)) 4).trans ((congrFun (rc_51_37_other (show 17 ≠ 51 by decide) (show 17 ≠ 52 by decide) (show 17 ≠ 53 by decide)) 4).trans ((congrFun (rc_46_32_other (show 17 ≠ 46 by decide) (show 17 ≠ 47 by decide) (show 17 ≠ 48 by decide) (show 17 ≠ 49 by decide) (show 17 ≠ 50 by decide)) 4).trans hc_17_10_price))))
theorem ki_18 : ∀ i, i < 4 → XS_copyFrom_45_31_s κ σ 18 i = σ 11 i := fun i hi => ((congrFun (up2_n _ _ _ (show 18 ≠ 45 by decide)) i).trans ((congrFun (rc_56_42_other (show 18 ≠ 56 by decide) (show 18 ≠ 57 by decide) (show 18 ≠ 58 by decide)) i).trans ((congrFun (rc_51_37_other (show 18 ≠ 51 by decide) (show 18 ≠ 52 by decide) (show 18 ≠ 53 by decide)) i).trans ((congrFun (rc_46_32_other (show 18 ≠ 46 by decide) (show 18 ≠ 47 by decide) (show 18 ≠ 48 by decide) (show 18 ≠ 49 by decide) (show 18 ≠ 50 by decide)) i).trans (hc_17_10_cows i hi)))))
theorem ki_19 : ∀ i, i < 16 → XS_copyFrom_45_31_s κ σ 19 i = σ 12 i := fun i hi => ((congrFun (up2_n _ _ _ (show 19 ≠ 45 by decide)) i).trans ((congrFun (rc_56_42_other (show 19 ≠ 56 by decide) (show 19 ≠ 57 by decide) (show 19 ≠ 58 by decide)) i).trans ((congrFun (rc_51_37_other (show 19 ≠ 51 by decide) (show 19 ≠ 52 by decide) (show 19 ≠ 53 by decide)) i).trans ((congrFun (rc_46_32_other (show 19 ≠ 46 by decide) (show 19 ≠ 47 by decide) (show 19 ≠ 48 by decide) (show 19 ≠ 49 by decide) (show 19 ≠ 50 by decide)) i).trans (hc_17_10_debts i hi)))))
theorem ki_years : XS_copyFrom_45_31_s κ σ 45 4 = σ 31 4 := up2_rs
theorem ki_other (h17 : q ≠ 17) (h18 : q ≠ 18) (h19 : q ≠ 19) (h45 : q ≠ 45) (h46 : q ≠ 46) (h47 : q ≠ 47) (h48 : q ≠ 48) (h49 : q ≠ 49) (h50 : q ≠ 50) (h51 : q ≠ 51) (h52 : q ≠ 52) (h53 : q ≠ 53) (h56 : q ≠ 56) (h57 : q ≠ 57) (h58 : q ≠ 58) : XS_copyFrom_45_31_s κ σ q = σ q := ((up2_n _ _ _ h45).trans ((rc_56_42_other h56 h57 h58).trans ((rc_51_37_other h51 h52 h53).trans ((rc_46_32_other h46 h47 h48 h49 h50).trans (hc_17_10_other h17 h18 h19)))))
theorem ki_form (h : ∀ q, q ≠ 17 → q ≠ 18 → q ≠ 19 → q ≠ 45 → q ≠ 46 → q ≠ 47 → q ≠ 48 → q ≠ 49 → q ≠ 50 → q ≠ 51 → q ≠ 52 → q ≠ 53 → q ≠ 56 → q ≠ 57 → q ≠ 58 → σ' q = σ q) : σ' = row (row (row (row (row (row (row (row (row (row (row (row (row (row (row σ 17 (σ' 17)) 18 (σ' 18)) 19 (σ' 19)) 45 (σ' 45)) 46 (σ' 46)) 47 (σ' 47)) 48 (σ' 48)) 49 (σ' 49)) 50 (σ' 50)) 51 (σ' 51)) 52 (σ' 52)) 53 (σ' 53)) 56 (σ' 56)) 57 (σ' 57)) 58 (σ' 58) := by
  funext q
  by_cases e58 : q = 58
  · rw [e58, row_s]
  rw [row_n _ _ e58]
  by_cases e57 : q = 57
  · rw [e57, row_s]
  rw [row_n _ _ e57]
  by_cases e56 : q = 56
  · rw [e56, row_s]
  rw [row_n _ _ e56]
  by_cases e53 : q = 53
  · rw [e53, row_s]
  rw [row_n _ _ e53]
  by_cases e52 : q = 52
  · rw [e52, row_s]
  rw [row_n _ _ e52]
  by_cases e51 : q = 51
  · rw [e51, row_s]
  rw [row_n _ _ e51]
  by_cases e50 : q = 50
  · rw [e50, row_s]
  rw [row_n _ _ e50]
  by_cases e49 : q = 49
  · rw [e49, row_s]
  rw [row_n _ _ e49]
  by_cases e48 : q = 48
  · rw [e48, row_s]
  rw [row_n _ _ e48]
  by_cases e47 : q = 47
  · rw [e47, row_s]
  rw [row_n _ _ e47]
  by_cases e46 : q = 46
  · rw [e46, row_s]
  rw [row_n _ _ e46]
  by_cases e45 : q = 45
  · rw [e45, row_s]
  rw [row_n _ _ e45]
  by_cases e19 : q = 19
  · rw [e19, row_s]
  rw [row_n _ _ e19]
  by_cases e18 : q = 18
  · rw [e18, row_s]
  rw [row_n _ _ e18]
  by_cases e17 : q = 17
  · rw [e17, row_s]
  rw [row_n _ _ e17]
  exact h q e17 e18 e19 e45 e46 e47 e48 e49 e50 e51 e52 e53 e56 e57 e58
theorem kr_42_2 : XS_copyFrom_31_45_s κ σ 42 2 = σ 56 2 := ((congrFun (up2_n _ _ _ (show 42 ≠ 31 by decide)) 2).trans (rc_42_56_size.trans ((congrFun (rc_37_51_other (show 56 ≠ 37 by decide) (show 56 ≠ 38 by decide) (show 56 ≠ 39 by decide)) 2).trans ((congrFun (rc_32_46_other (show 56 ≠ 32 by decide) (show 56 ≠ 33 by decide) (show 56 ≠ 34 by decide) (show 56 ≠ 35 by decide) (show 56 ≠ 36 by decide)) 2).trans (congrFun (hc_10_17_other (show 56 ≠ 10 by decide) (show 56 ≠ 11 by decide) (show 56 ≠ 12 by decide)) 2)))))
theorem kr_43 : ∀ i, i < 6 → XS_copyFrom_31_45_s κ σ 43 i = σ 57 i := fun i hi => ((congrFun (up2_n _ _ _ (show 43 ≠ 31 by decide)) i).trans ((rc_42_56_r43 i hi).trans ((congrFun (rc_37_51_other (show 57 ≠ 37 by decide) (show 57 ≠ 38 by decide) (show 57 ≠ 39 by decide)) i).trans ((congrFun (rc_32_46_other (show 57 ≠ 32 by decide) (show 57 ≠ 33 by decide) (show 57 ≠ 34 by decide) (show 57 ≠ 35 by decide) (show 57 ≠ 36 by decide)) i).trans (congrFun (hc_10_17_other (show 57 ≠ 10 by decide) (show 57 ≠ 11 by decide) (show 57 ≠ 12 by decide)) i)))))
theorem kr_44 : ∀ i, i < 6 → XS_copyFrom_31_45_s κ σ 44 i = σ 58 i := fun i hi => ((congrFun (up2_n _ _ _ (show 44 ≠ 31 by decide)) i).trans ((rc_42_56_r44 i hi).trans ((congrFun (rc_37_51_other (show 58 ≠ 37 by decide) (show 58 ≠ 38 by decide) (show 58 ≠ 39 by decide)) i).trans ((congrFun (rc_32_46_other (show 58 ≠ 32 by decide) (show 58 ≠ 33 by decide) (show 58 ≠ 34 by decide) (show 58 ≠ 35 by decide) (show 58 ≠ 36 by decide)) i).trans (congrFun (hc_10_17_other (show 58 ≠ 10 by decide) (show 58 ≠ 11 by decide) (show 58 ≠ 12 by decide)) i)))))
theorem kr_37_4 : XS_copyFrom_31_45_s κ σ 37 4 = σ 51 4 := ((congrFun (up2_n _ _ _ (show 37 ≠ 31 by decide)) 4).trans ((congrFun (rc_42_56_other (show 37 ≠ 42 by decide) (show 37 ≠ 43 by decide) (show 37 ≠ 44 by decide)) 4).trans (rc_37_51_size.trans ((congrFun (rc_32_46_other (show 51 ≠ 32 by decide) (show 51 ≠ 33 by decide) (show 51 ≠ 34 by decide) (show 51 ≠ 35 by decide) (show 51 ≠ 36 by decide)) 4).trans (congrFun (hc_10_17_other (show 51 ≠ 10 by decide) (show 51 ≠ 11 by decide) (show 51 ≠ 12 by decide)) 4)))))
theorem kr_38 : ∀ i, i < 4 → XS_copyFrom_31_45_s κ σ 38 i = σ 52 i := fun i hi => ((congrFun (up2_n _ _ _ (show 38 ≠ 31 by decide)) i).trans ((congrFun (rc_42_56_other (show 38 ≠ 42 by decide) (show 38 ≠ 43 by decide) (show 38 ≠ 44 by decide)) i).trans ((rc_37_51_r38 i hi).trans ((congrFun (rc_32_46_other (show 52 ≠ 32 by decide) (show 52 ≠ 33 by decide) (show 52 ≠ 34 by decide) (show 52 ≠ 35 by decide) (show 52 ≠ 36 by decide)) i).trans (congrFun (hc_10_17_other (show 52 ≠ 10 by decide) (show 52 ≠ 11 by decide) (show 52 ≠ 12 by decide)) i)))))
theorem kr_39 : ∀ i, i < 4 → XS_copyFrom_31_45_s κ σ 39 i = σ 53 i := fun i hi => ((congrFun (up2_n _ _ _ (show 39 ≠ 31 by decide)) i).trans ((congrFun (rc_42_56_other (show 39 ≠ 42 by decide) (show 39 ≠ 43 by decide) (show 39 ≠ 44 by decide)) i).trans ((rc_37_51_r39 i hi).trans ((congrFun (rc_32_46_other (show 53 ≠ 32 by decide) (show 53 ≠ 33 by decide) (show 53 ≠ 34 by decide) (show 53 ≠ 35 by decide) (show 53 ≠ 36 by decide)) i).trans (congrFun (hc_10_17_other (show 53 ≠ 10 by decide) (show 53 ≠ 11 by decide) (show 53 ≠ 12 by decide)) i)))))
theorem kr_32_4 : XS_copyFrom_31_45_s κ σ 32 4 = σ 46 4 := ((congrFun (up2_n _ _ _ (show 32 ≠ 31 by decide)) 4).trans ((congrFun (rc_42_56_other (show 32 ≠ 42 by decide) (show 32 ≠ 43 by decide) (show 32 ≠ 44 by decide)) 4).trans ((congrFun (rc_37_51_other (show 32 ≠ 37 by decide) (show 32 ≠ 38 by decide) (show 32 ≠ 39 by decide)) 4).trans (rc_32_46_size.trans (congrFun (hc_10_17_other (show 46 ≠ 10 by decide) (show 46 ≠ 11 by decide) (show 46 ≠ 12 by decide)) 4)))))
theorem kr_33 : ∀ i, i < 12 → XS_copyFrom_31_45_s κ σ 33 i = σ 47 i := fun i hi => ((congrFun (up2_n _ _ _ (show 33 ≠ 31 by decide)) i).trans ((congrFun (rc_42_56_other (show 33 ≠ 42 by decide) (show 33 ≠ 43 by decide) (show 33 ≠ 44 by decide)) i).trans ((congrFun (rc_37_51_other (show 33 ≠ 37 by decide) (show 33 ≠ 38 by decide) (show 33 ≠ 39 by decide)) i).trans ((rc_32_46_r33 i hi).trans (congrFun (hc_10_17_other (show 47 ≠ 10 by decide) (show 47 ≠ 11 by decide) (show 47 ≠ 12 by decide)) i)))))
theorem kr_34 : ∀ i, i < 12 → XS_copyFrom_31_45_s κ σ 34 i = σ 48 i := fun i hi => ((congrFun (up2_n _ _ _ (show 34 ≠ 31 by decide)) i).trans ((congrFun (rc_42_56_other (show 34 ≠ 42 by decide) (show 34 ≠ 43 by decide) (show 34 ≠ 44 by decide)) i).trans ((congrFun (rc_37_51_other (show 34 ≠ 37 by decide) (show 34 ≠ 38 by decide) (show 34 ≠ 39 by decide)) i).trans ((rc_32_46_r34 i hi).trans (congrFun (hc_10_17_other (show 48 ≠ 10 by decide) (show 48 ≠ 11 by decide) (show 48 ≠ 12 by decide)) i)))))
theorem kr_35 : ∀ i, i < 12 → XS_copyFrom_31_45_s κ σ 35 i = σ 49 i := fun i hi => ((congrFun (up2_n _ _ _ (show 35 ≠ 31 by decide)) i).trans ((congrFun (rc_42_56_other (show 35 ≠ 42 by decide) (show 35 ≠ 43 by decide) (show 35 ≠ 44 by decide)) i).trans ((congrFun (rc_37_51_other (show 35 ≠ 37 by decide) (show 35 ≠ 38 by decide) (show 35 ≠ 39 by decide)) i).trans ((rc_32_46_r35 i hi).trans (congrFun (hc_10_17_other (show 49 ≠ 10 by decide) (show 49 ≠ 11 by decide) (show 49 ≠ 12 by decide)) i)))))
theorem kr_36 : ∀ i, i < 12 → XS_copyFrom_31_45_s κ σ 36 i = σ 50 i := fun i hi => ((congrFun (up2_n _ _ _ (show 36 ≠ 31 by decide)) i).trans ((congrFun (rc_42_56_other (show 36 ≠ 42 by decide) (show 36 ≠ 43 by decide) (show 36 ≠ 44 by decide)) i).trans ((congrFun (rc_37_51_other (show 36 ≠ 37 by decide) (show 36 ≠ 38 by decide) (show 36 ≠ 39 by decide)) i).trans ((rc_32_46_r36 i hi).trans (congrFun (hc_10_17_other (show 50 ≠ 10 by decide) (show 50 ≠ 11 by decide) (show 50 ≠ 12 by decide)) i)))))
theorem kr_10_3 : XS_copyFrom_31_45_s κ σ 10 3 = σ 17 3 := ((congrFun (up2_n _ _ _ (show 10 ≠ 31 by decide)) 3).trans ((congrFun (rc_42_56_other (show 10 ≠ 42 by decide) (show 10 ≠ 43 by decide) (show 10 ≠ 44 by decide)) 3).trans ((congrFun (rc_37_51_other (show 10 ≠ 37 by decide) (show 10 ≠ 38 by decide) (show 10 ≠ 39 by decide)) 3).trans ((congrFun (rc_32_46_other (show 10 ≠ 32 by decide) (show 10 ≠ 33 by decide) (show 10 ≠ 34 by decide) (show 10 ≠ 35 by decide) (show 10 ≠ 36 by decide)) 3).trans hc_10_17_size))))
theorem kr_10_4 : XS_copyFrom_31_45_s κ σ 10 4 = σ 17 4 := ((congrFun (up2_n _ _ _ (show 10 ≠ 31 by decide)) 4).trans ((congrFun (rc_42_56_other (show 10 ≠ 42 by decide) (show 10 ≠ 43 by decide) (show 10 ≠ 44 by decide)) 4).trans ((congrFun (rc_37_51_other (show 10 ≠ 37 by decide) (show 10 ≠ 38 by decide) (show 10 ≠ 39 by decide)) 4).trans ((congrFun (rc_32_46_other (show 10 ≠ 32 by decide) (show 10 ≠ 33 by decide) (show 10 ≠ 34 by decide) (show 10 ≠ 35 by decide) (show 10 ≠ 36 by decide)) 4).trans hc_10_17_price))))
theorem kr_11 : ∀ i, i < 4 → XS_copyFrom_31_45_s κ σ 11 i = σ 18 i := fun i hi => ((congrFun (up2_n _ _ _ (show 11 ≠ 31 by decide)) i).trans ((congrFun (rc_42_56_other (show 11 ≠ 42 by decide) (show 11 ≠ 43 by decide) (show 11 ≠ 44 by decide)) i).trans ((congrFun (rc_37_51_other (show 11 ≠ 37 by decide) (show 11 ≠ 38 by decide) (show 11 ≠ 39 by decide)) i).trans ((congrFun (rc_32_46_other (show 11 ≠ 32 by decide) (show 11 ≠ 33 by decide) (show 11 ≠ 34 by decide) (show 11 ≠ 35 by decide) (show 11 ≠ 36 by decide)) i).trans (hc_10_17_cows i hi)))))
theorem kr_12 : ∀ i, i < 16 → XS_copyFrom_31_45_s κ σ 12 i = σ 19 i := fun i hi => ((congrFun (up2_n _ _ _ (show 12 ≠ 31 by decide)) i).trans ((congrFun (rc_42_56_other (show 12 ≠ 42 by decide) (show 12 ≠ 43 by decide) (show 12 ≠ 44 by decide)) i).trans ((congrFun (rc_37_51_other (show 12 ≠ 37 by decide) (show 12 ≠ 38 by decide) (show 12 ≠ 39 by decide)) i).trans ((congrFun (rc_32_46_other (show 12 ≠ 32 by decide) (show 12 ≠ 33 by decide) (show 12 ≠ 34 by decide) (show 12 ≠ 35 by decide) (show 12 ≠ 36 by decide)) i).trans (hc_10_17_debts i hi)))))
theorem kr_years : XS_copyFrom_31_45_s κ σ 31 4 = σ 45 4 := up2_rs
theorem kr_other (h10 : q ≠ 10) (h11 : q ≠ 11) (h12 : q ≠ 12) (h31 : q ≠ 31) (h32 : q ≠ 32) (h33 : q ≠ 33) (h34 : q ≠ 34) (h35 : q ≠ 35) (h36 : q ≠ 36) (h37 : q ≠ 37) (h38 : q ≠ 38) (h39 : q ≠ 39) (h42 : q ≠ 42) (h43 : q ≠ 43) (h44 : q ≠ 44) : XS_copyFrom_31_45_s κ σ q = σ q := ((up2_n _ _ _ h31).trans ((rc_42_56_other h42 h43 h44).trans ((rc_37_51_other h37 h38 h39).trans ((rc_32_46_other h32 h33 h34 h35 h36).trans (hc_10_17_other h10 h11 h12)))))
theorem kr_form (h : ∀ q, q ≠ 10 → q ≠ 11 → q ≠ 12 → q ≠ 31 → q ≠ 32 → q ≠ 33 → q ≠ 34 → q ≠ 35 → q ≠ 36 → q ≠ 37 → q ≠ 38 → q ≠ 39 → q ≠ 42 → q ≠ 43 → q ≠ 44 → σ' q = σ q) : σ' = row (row (row (row (row (row (row (row (row (row (row (row (row (row (row σ 10 (σ' 10)) 11 (σ' 11)) 12 (σ' 12)) 31 (σ' 31)) 32 (σ' 32)) 33 (σ' 33)) 34 (σ' 34)) 35 (σ' 35)) 36 (σ' 36)) 37 (σ' 37)) 38 (σ' 38)) 39 (σ' 39)) 42 (σ' 42)) 43 (σ' 43)) 44 (σ' 44) := by
  funext q
  by_cases e44 : q = 44
  · rw [e44, row_s]
  rw [row_n _ _ e44]
  by_cases e43 : q = 43
  · rw [e43, row_s]
  rw [row_n _ _ e43]
  by_cases e42 : q = 42
  · rw [e42, row_s]
  rw [row_n _ _ e42]
  by_cases e39 : q = 39
  · rw [e39, row_s]
  rw [row_n _ _ e39]
  by_cases e38 : q = 38
  · rw [e38, row_s]
  rw [row_n _ _ e38]
  by_cases e37 : q = 37
  · rw [e37, row_s]
  rw [row_n _ _ e37]
  by_cases e36 : q = 36
  · rw [e36, row_s]
  rw [row_n _ _ e36]
  by_cases e35 : q = 35
  · rw [e35, row_s]
  rw [row_n _ _ e35]
  by_cases e34 : q = 34
  · rw [e34, row_s]
  rw [row_n _ _ e34]
  by_cases e33 : q = 33
  · rw [e33, row_s]
  rw [row_n _ _ e33]
  by_cases e32 : q = 32
  · rw [e32, row_s]
  rw [row_n _ _ e32]
  by_cases e31 : q = 31
  · rw [e31, row_s]
  rw [row_n _ _ e31]
  by_cases e12 : q = 12
  · rw [e12, row_s]
  rw [row_n _ _ e12]
  by_cases e11 : q = 11
  · rw [e11, row_s]
  rw [row_n _ _ e11]
  by_cases e10 : q = 10
  · rw [e10, row_s]
  rw [row_n _ _ e10]
  exact h q e10 e11 e12 e31 e32 e33 e34 e35 e36 e37 e38 e39 e42 e43 e44
end IM
section IN
variable {κ : Nat → Nat} {σ τ K : Nat → Nat → Int32} {n pm wd pl tm hr : Nat} {B : Int}
theorem image_rel (h : Rel κ σ τ n pm wd pl tm hr B) (ho : ∀ q, q ≠ 17 → q ≠ 18 → q ≠ 19 → q ≠ 45 → q ≠ 46 → q ≠ 47 → q ≠ 48 → q ≠ 49 → q ≠ 50 → q ≠ 51 → q ≠ 52 → q ≠ 53 → q ≠ 56 → q ≠ 57 → q ≠ 58 → K q = σ q)
    (k3 : K 17 3 = σ 10 3) (k4 : K 17 4 = σ 10 4) (k18 : ∀ i, i < 4 → K 18 i = σ 11 i) (k19 : ∀ i, i < 16 → K 19 i = σ 12 i)
    (k46 : K 46 4 = σ 32 4) (k47 : ∀ i, i < 12 → K 47 i = σ 33 i) (k48 : ∀ i, i < 12 → K 48 i = σ 34 i) (k49 : ∀ i, i < 12 → K 49 i = σ 35 i) (k50 : ∀ i, i < 12 → K 50 i = σ 36 i)
    (k51 : K 51 4 = σ 37 4) (k52 : ∀ i, i < 4 → K 52 i = σ 38 i) (k53 : ∀ i, i < 4 → K 53 i = σ 39 i) (k56 : K 56 2 = σ 42 2) (k57 : ∀ i, i < 6 → K 57 i = σ 43 i) (k58 : ∀ i, i < 6 → K 58 i = σ 44 i) (k45 : K 45 4 = σ 31 4)
    {V : Nat → Nat → Int32} (hV : V = (up2 (up2 (up2 (up2 (up2 (up2 (row (row (row (row (row τ 15 (τ 4)) 16 (τ 5)) 17 (τ 6)) 18 (τ 7)) 19 (τ 13)) 0 27 (τ 0 7)) 0 28 (τ 0 8)) 0 29 (τ 0 13)) 0 30 (τ 0 15)) 0 31 (τ 0 22)) 0 26 (τ 0 9))) : Rel κ (up2 K 0 6 1) V n pm wd pl tm hr B := by
  subst hV
  obtain ⟨hk, hp, hN, hI, hH⟩ := h
  have hn4 := hN.1.1
  have hq : RKp K (up2 (up2 (up2 (up2 (up2 (up2 (row (row (row (row (row τ 15 (τ 4)) 16 (τ 5)) 17 (τ 6)) 18 (τ 7)) 19 (τ 13)) 0 27 (τ 0 7)) 0 28 (τ 0 8)) 0 29 (τ 0 13)) 0 30 (τ 0 15)) 0 31 (τ 0 22)) 0 26 (τ 0 9)) n B :=
    ⟨k3.trans hN.1.2.2.2.1, hN.1.2.2.1.congr (fun i hi => k18 i (by omega)) k19, ⟨k4.trans hN.2.1.1, fun w => by rw [k4]; exact hN.2.1.2 w⟩, ⟨wd, hN.2.2.1.congr k46 rfl k47 k48 k49 k50⟩, ⟨pl, hN.2.2.2.1.congr k51 rfl k52 k53⟩, ⟨tm, hN.2.2.2.2.1.congr k56 rfl k57 k58⟩, k45.trans hN.2.2.2.2.2⟩
  rw [ki_form ho] at hq ⊢
  exact ⟨hk, hp, hN, Or.inr ⟨(show ¬ ((1 : Int32) = 0) by decide), rfl, hq⟩, hH.1, hH.2.1, hH.2.2.1, Or.inr ⟨hr, Nat.le_refl _, hH.2.2.1⟩⟩
theorem L_image (h : Rel κ σ τ n pm wd pl tm hr B) : X_image_r κ σ = M_image_r τ ∧ RelE κ (X_image_s κ σ) (M_image_s τ) B := by
  unfold X_image_r M_image_r X_image_s M_image_s
  rcases hasHills h.2.2.1.1 with ⟨w, e1, e2⟩ | ⟨w, e1, e2⟩
  · have e2' : ¬ M_lacks_r τ = 0 := by rw [e2]; decide
    rw [if_pos e1, if_neg e2', if_pos e1, if_neg e2']
    exact ⟨rfl, h.E⟩
  · have e1' : ¬ X_hasHills_r κ σ = 0 := by rw [e1]; decide
    rw [if_neg e1', if_pos e2, if_neg e1', if_pos e2]
    refine ⟨ki_years.trans h.2.2.1.2.2.2.2.2, ?_⟩
    exact (image_rel h (fun q a1 a2 a3 a4 a5 a6 a7 a8 a9 b1 b2 b3 b4 b5 b6 => ki_other a1 a2 a3 a4 a5 a6 a7 a8 a9 b1 b2 b3 b4 b5 b6) ki_17_3 ki_17_4 ki_18 ki_19 ki_46_4 ki_47 ki_48 ki_49 ki_50 ki_51_4 ki_52 ki_53 ki_56_2 ki_57 ki_58 ki_years rfl).E
theorem restore_rel (h : Rel κ σ τ n pm wd pl tm hr B) (hK : RKp σ τ n B) (ho : ∀ q, q ≠ 10 → q ≠ 11 → q ≠ 12 → q ≠ 31 → q ≠ 32 → q ≠ 33 → q ≠ 34 → q ≠ 35 → q ≠ 36 → q ≠ 37 → q ≠ 38 → q ≠ 39 → q ≠ 42 → q ≠ 43 → q ≠ 44 → K q = σ q)
    (k3 : K 10 3 = σ 17 3) (k4 : K 10 4 = σ 17 4) (k11 : ∀ i, i < 4 → K 11 i = σ 18 i) (k12 : ∀ i, i < 16 → K 12 i = σ 19 i)
    (k32 : K 32 4 = σ 46 4) (k33 : ∀ i, i < 12 → K 33 i = σ 47 i) (k34 : ∀ i, i < 12 → K 34 i = σ 48 i) (k35 : ∀ i, i < 12 → K 35 i = σ 49 i) (k36 : ∀ i, i < 12 → K 36 i = σ 50 i)
    (k37 : K 37 4 = σ 51 4) (k38 : ∀ i, i < 4 → K 38 i = σ 52 i) (k39 : ∀ i, i < 4 → K 39 i = σ 53 i) (k42 : K 42 2 = σ 56 2) (k43 : ∀ i, i < 6 → K 43 i = σ 57 i) (k44 : ∀ i, i < 6 → K 44 i = σ 58 i) (k31 : K 31 4 = σ 45 4)
    {V : Nat → Nat → Int32} (hV : V = (up2 (up2 (up2 (up2 (up2 (row (row (row (row (row τ 4 (τ 15)) 5 (τ 16)) 6 (τ 17)) 7 (τ 18)) 13 (τ 19)) 0 7 (τ 0 27)) 0 8 (τ 0 28)) 0 13 (τ 0 29)) 0 15 (τ 0 30)) 0 22 (τ 0 31))) : RelE κ K V B := by
  subst hV
  obtain ⟨hk, hp, hN, hI, hH⟩ := h
  obtain ⟨q3, qR, qr, ⟨wd', qw⟩, ⟨pl', qp⟩, ⟨tm', qt⟩, qy⟩ := hK
  have hn4 := hN.1.1
  have hq : RNow κ K (up2 (up2 (up2 (up2 (up2 (row (row (row (row (row τ 4 (τ 15)) 5 (τ 16)) 6 (τ 17)) 7 (τ 18)) 13 (τ 19)) 0 7 (τ 0 27)) 0 8 (τ 0 28)) 0 13 (τ 0 29)) 0 15 (τ 0 30)) 0 22 (τ 0 31)) n wd' pl' tm' B :=
    ⟨⟨hn4, hN.1.2.1, qR.congr (fun i hi => k11 i (by omega)) k12, k3.trans q3, hN.1.2.2.2.2⟩, ⟨k4.trans qr.1, fun w => by rw [k4]; exact qr.2 w⟩, qw.congr k32 rfl k33 k34 k35 k36, qp.congr k37 rfl k38 k39, qt.congr k42 rfl k43 k44, k31.trans qy⟩
  rw [kr_form ho] at hq ⊢
  exact ⟨n, pm, wd', pl', tm', hr, hk, hp, hq, hI, hH⟩
theorem L_restore (h : Rel κ σ τ n pm wd pl tm hr B) : X_restore_r κ σ = M_restore_r τ ∧ RelE κ (X_restore_s κ σ) (M_restore_s τ) B := by
  unfold X_restore_r M_restore_r X_restore_s M_restore_s
  rcases h.2.2.2.1 with ⟨a1, a2⟩ | ⟨a1, a2, a3⟩
  · rw [if_pos a1, if_neg a2, if_pos a1, if_neg a2]
    exact ⟨rfl, h.E⟩
  · rw [if_neg a1, if_pos a2, if_neg a1, if_pos a2]
    refine ⟨kr_years.trans a3.2.2.2.2.2.2, ?_⟩
    exact restore_rel h a3 (fun q a1 a2 a3 a4 a5 a6 a7 a8 a9 b1 b2 b3 b4 b5 b6 => kr_other a1 a2 a3 a4 a5 a6 a7 a8 a9 b1 b2 b3 b4 b5 b6) kr_10_3 kr_10_4 kr_11 kr_12 kr_32_4 kr_33 kr_34 kr_35 kr_36 kr_37_4 kr_38 kr_39 kr_42_2 kr_43 kr_44 kr_years rfl
end IN
