/-! ===== level 2: the calls, one by one ===== -/
theorem up2_cg {A A' : Nat → Nat → Int32} {c k q : Nat} {x : Int32} (h : A q = A' q) : up2 A c k x q = up2 A' c k x q := by
  by_cases e : q = c
  · subst e; rw [up2_s, up2_s, h]
  · rw [up2_n _ _ _ e, up2_n _ _ _ e, h]
theorem RTl.push {tm : Nat} {s t : Int32} {r1 r2 q : Nat → Int32} (h : RTl tm s t r1 r2 q) (w : tm < 6) {v : Nat} (h1 : 1 ≤ v) (h9 : v < 10) (x : Int32) : RTl (tm + 1) (nI (tm + 1)) (nI (tm + 1)) (upd r1 tm (nI v)) (upd r2 tm x) (upd (upd q (2 * tm) (nI v)) (2 * tm + 1) x) := by
  refine ⟨by omega, rfl, rfl, fun k hk => ?_⟩
  by_cases e : k = tm
  · subst e
    have u1 : upd (upd q (2 * k) (nI v)) (2 * k + 1) x (2 * k) = nI v := (pk_un (by omega)).trans pk_us
    have u2 : upd (upd q (2 * k) (nI v)) (2 * k + 1) x (2 * k + 1) = x := pk_us
    have v1 : upd r1 k (nI v) k = nI v := pk_us
    have v2 : upd r2 k x k = x := pk_us
    exact ⟨u1.trans v1.symm, u2.trans v2.symm, v, h1, h9, v1⟩
  · have u1 : upd (upd q (2 * tm) (nI v)) (2 * tm + 1) x (2 * k) = q (2 * k) := (pk_un (by omega)).trans (pk_un (by omega))
    have u2 : upd (upd q (2 * tm) (nI v)) (2 * tm + 1) x (2 * k + 1) = q (2 * k + 1) := (pk_un (by omega)).trans (pk_un (by omega))
    have v1 : upd r1 tm (nI v) k = r1 k := pk_un e
    have v2 : upd r2 tm x k = r2 k := pk_un e
    obtain ⟨q1, q2, y, y1, y2, y3⟩ := h.2.2.2 k (by omega)
    exact ⟨u1.trans (q1.trans v1.symm), u2.trans (q2.trans v2.symm), y, y1, y2, v1.trans y3⟩
theorem RPl.push {n pl : Nat} {s t : Int32} {r1 r2 q : Nat → Int32} (h : RPl n pl s t r1 r2 q) (w : pl < 4) {i j : Nat} (hi : i < n) (hj : j < n) (hij : i ≠ j) : RPl n (pl + 1) (nI (pl + 1)) (nI (pl + 1)) (upd r1 pl (nI i)) (upd r2 pl (nI j)) (upd (upd q (2 * pl) (nI i)) (2 * pl + 1) (nI j)) := by
  refine ⟨by omega, rfl, rfl, fun k hk => ?_⟩
  by_cases e : k = pl
  · subst e
    have u1 : upd (upd q (2 * k) (nI i)) (2 * k + 1) (nI j) (2 * k) = nI i := (pk_un (by omega)).trans pk_us
    have u2 : upd (upd q (2 * k) (nI i)) (2 * k + 1) (nI j) (2 * k + 1) = nI j := pk_us
    have v1 : upd r1 k (nI i) k = nI i := pk_us
    have v2 : upd r2 k (nI j) k = nI j := pk_us
    exact ⟨u1.trans v1.symm, u2.trans v2.symm, i, j, hi, hj, hij, v1, v2⟩
  · have u1 : upd (upd q (2 * pl) (nI i)) (2 * pl + 1) (nI j) (2 * k) = q (2 * k) := (pk_un (by omega)).trans (pk_un (by omega))
    have u2 : upd (upd q (2 * pl) (nI i)) (2 * pl + 1) (nI j) (2 * k + 1) = q (2 * k + 1) := (pk_un (by omega)).trans (pk_un (by omega))
    have v1 : upd r1 pl (nI i) k = r1 k := pk_un e
    have v2 : upd r2 pl (nI j) k = r2 k := pk_un e
    obtain ⟨q1, q2, c, d, y1, y2, y3, y4, y5⟩ := h.2.2.2 k (by omega)
    exact ⟨u1.trans (q1.trans v1.symm), u2.trans (q2.trans v2.symm), c, d, y1, y2, y3, v1.trans y4, v2.trans y5⟩
theorem RWd.push {n wd : Nat} {s t : Int32} {r1 r2 r3 r4 q : Nat → Int32} (h : RWd n wd s t r1 r2 r3 r4 q) (w : wd < 12) {i j v : Nat} (hi : i < n) (hj : j < n) (hij : i ≠ j) (hv : v ≤ 20) : RWd n (wd + 1) (nI (wd + 1)) (nI (wd + 1)) (upd r1 wd (nI i)) (upd r2 wd (nI j)) (upd r3 wd (nI v)) (upd r4 wd 0) (upd (upd (upd (upd q (4 * wd) (nI i)) (4 * wd + 1) (nI j)) (4 * wd + 2) (nI v)) (4 * wd + 3) 0) := by
  refine ⟨by omega, rfl, rfl, fun k hk => ?_⟩
  by_cases e : k = wd
  · subst e
    have u1 : upd (upd (upd (upd q (4 * k) (nI i)) (4 * k + 1) (nI j)) (4 * k + 2) (nI v)) (4 * k + 3) 0 (4 * k) = nI i := (pk_un (by omega)).trans ((pk_un (by omega)).trans ((pk_un (by omega)).trans pk_us))
    have u2 : upd (upd (upd (upd q (4 * k) (nI i)) (4 * k + 1) (nI j)) (4 * k + 2) (nI v)) (4 * k + 3) 0 (4 * k + 1) = nI j := (pk_un (by omega)).trans ((pk_un (by omega)).trans pk_us)
    have u3 : upd (upd (upd (upd q (4 * k) (nI i)) (4 * k + 1) (nI j)) (4 * k + 2) (nI v)) (4 * k + 3) 0 (4 * k + 2) = nI v := (pk_un (by omega)).trans pk_us
    have u4 : upd (upd (upd (upd q (4 * k) (nI i)) (4 * k + 1) (nI j)) (4 * k + 2) (nI v)) (4 * k + 3) 0 (4 * k + 3) = 0 := pk_us
    have v1 : upd r1 k (nI i) k = nI i := pk_us
    have v2 : upd r2 k (nI j) k = nI j := pk_us
    have v3 : upd r3 k (nI v) k = nI v := pk_us
    have v4 : upd r4 k 0 k = 0 := pk_us
    exact ⟨u1.trans v1.symm, u2.trans v2.symm, u3.trans v3.symm, u4.trans v4.symm, ⟨i, j, v, hi, hj, hij, hv, v1, v2, v3⟩, Or.inl v4⟩
  · have u : ∀ m, m < 4 * wd → upd (upd (upd (upd q (4 * wd) (nI i)) (4 * wd + 1) (nI j)) (4 * wd + 2) (nI v)) (4 * wd + 3) 0 m = q m := fun m hm => (pk_un (by omega)).trans ((pk_un (by omega)).trans ((pk_un (by omega)).trans (pk_un (by omega))))
    have v1 : upd r1 wd (nI i) k = r1 k := pk_un e
    have v2 : upd r2 wd (nI j) k = r2 k := pk_un e
    have v3 : upd r3 wd (nI v) k = r3 k := pk_un e
    have v4 : upd r4 wd 0 k = r4 k := pk_un e
    obtain ⟨q1, q2, q3, q4, ⟨c, d, x, y1, y2, y3, y4, y5, y6, y7⟩, y8⟩ := h.2.2.2 k (by omega)
    exact ⟨(u _ (by omega)).trans (q1.trans v1.symm), (u _ (by omega)).trans (q2.trans v2.symm), (u _ (by omega)).trans (q3.trans v3.symm), (u _ (by omega)).trans (q4.trans v4.symm), ⟨c, d, x, y1, y2, y3, y4, v1.trans y5, v2.trans y6, v3.trans y7⟩, by rw [v4]; exact y8⟩
theorem RWd.undo {n wd : Nat} {s t : Int32} {r1 r2 r3 r4 q : Nat → Int32} (h : RWd n wd s t r1 r2 r3 r4 q) {i : Nat} : RWd n wd s t r1 r2 r3 (upd r4 i 1) (upd q (4 * i + 3) 1) := by
  refine ⟨h.1, h.2.1, h.2.2.1, fun k hk => ?_⟩
  obtain ⟨q1, q2, q3, q4, y, z⟩ := h.2.2.2 k hk
  by_cases e : k = i
  · subst e
    have v4 : upd r4 k 1 k = 1 := pk_us
    exact ⟨(pk_un (by omega)).trans q1, (pk_un (by omega)).trans q2, (pk_un (by omega)).trans q3, pk_us.trans v4.symm, y, Or.inr v4⟩
  · have v4 : upd r4 i 1 k = r4 k := pk_un e
    exact ⟨(pk_un (by omega)).trans q1, (pk_un (by omega)).trans q2, (pk_un (by omega)).trans q3, (pk_un (by omega)).trans (q4.trans v4.symm), y, by rw [v4]; exact z⟩
theorem in_eq {m : Nat} (hm : m ≤ 1000) (x : Int32) : M_in_r x.toInt64 0 ((nI m - 1).toInt64) = if x < 0 then 0 else (if nI m ≤ x then 0 else 1) := by
  refine (M_in_32 x 0 (nI m - 1)).trans ?_
  by_cases a : x < 0
  · rw [if_pos a, if_pos a]
  · rw [if_neg a, if_neg a]
    have h2 : (nI m).toInt = m := nI_toInt (by omega)
    have e : (nI m - 1).toInt = (m : Int) - 1 := by
      have h3 : (1 : Int32).toInt = 1 := rfl
      rw [fb_subI (by omega) (by omega)]; omega
    by_cases b : nI m ≤ x
    · have b' := (fa_le _ _).mp b
      rw [if_pos b, if_neg (fun k => by have k' := (fa_le _ _).mp k; omega)]
    · have b' : ¬ (nI m).toInt ≤ x.toInt := fun k => b ((fa_le _ _).mpr k)
      rw [if_neg b, if_pos ((fa_le _ _).mpr (by omega))]
section C1
variable {κ : Nat → Nat} {σ τ : Nat → Nat → Int32} {b n pm wd pl tm hr : Nat} {B : Int}
theorem knows_eq (h : HW b κ σ τ n B) (c : Int32) : XH_knows_r b κ σ c = M_isClan_r τ c := by
  have h4 := h.1
  unfold XH_knows_r M_isClan_r
  rw [h.2.2.2.1, h.2.2.2.2, in_eq (by omega)]
theorem couple_eq (h : HW b κ σ τ n B) (c d : Int32) : XH_knowsCouple_r b κ σ c d = M_areTwo_r τ c d := by
  unfold XH_knowsCouple_r M_areTwo_r
  rw [knows_eq h c, knows_eq h d]
theorem couple_cases (h : HW b κ σ τ n B) (c d : Int32) : (XH_knowsCouple_r b κ σ c d = 0 ∧ M_areTwo_r τ c d = 0) ∨ (¬ XH_knowsCouple_r b κ σ c d = 0 ∧ ¬ M_areTwo_r τ c d = 0 ∧ ∃ i j, i < n ∧ j < n ∧ i ≠ j ∧ c.toNatClampNeg = i ∧ d.toNatClampNeg = j) := by
  by_cases a : M_areTwo_r τ c d = 0
  · exact Or.inl ⟨(couple_eq h c d).trans a, a⟩
  · obtain ⟨_, x2, _, x4, x5⟩ := M_areTwo_ok h.2.2.2.2 h.1 a
    exact Or.inr ⟨fun k => a ((couple_eq h c d).symm.trans k), a, _, _, x2, x4, x5, rfl, rfl⟩
theorem hasHills (h : HW 10 κ σ τ n B) : (n = 0 ∧ X_hasHills_r κ σ = 0 ∧ M_lacks_r τ = 1) ∨ (0 < n ∧ X_hasHills_r κ σ = 1 ∧ M_lacks_r τ = 0) := by
  have h4 := h.1
  have e1 : σ 10 3 = nI n := h.2.2.2.1
  have e2 := h.2.2.2.2
  unfold X_hasHills_r M_lacks_r
  rw [e1, e2]
  rcases Nat.eq_zero_or_pos n with w | w
  · subst w
    exact Or.inl ⟨rfl, if_pos (by decide), if_pos rfl⟩
  · exact Or.inr ⟨w, if_neg (nI_nle w (by omega)), if_neg (nI_ne0 w (by omega))⟩
theorem HW.note (h : HW 10 κ σ τ n B) (wd : Nat) (x y z : Int32) : HW 10 κ (XW_note_s κ σ wd x y z) τ n B := h
theorem HW.years (h : HW 10 κ σ τ n B) (x y : Int32) : HW 10 κ (up2 σ 31 4 x) (up2 τ 0 8 y) n B := h
theorem Rel.years (h : Rel κ σ τ n pm wd pl tm hr B) {x y : Int32} (e : x = y) : Rel κ (up2 σ 31 4 x) (up2 τ 0 8 y) n pm wd pl tm hr B := ⟨h.1, h.2.1, ⟨h.2.2.1.1, h.2.2.1.2.1, h.2.2.1.2.2.1, h.2.2.1.2.2.2.1, h.2.2.1.2.2.2.2.1, e⟩, h.2.2.2.1, h.2.2.2.2⟩
theorem Rel.E (h : Rel κ σ τ n pm wd pl tm hr B) : RelE κ σ τ B := ⟨n, pm, wd, pl, tm, hr, h⟩
theorem RPg.page (h : RPg σ τ pm) : RPage σ τ pm := ⟨h.1, h.2.1, h.2.2.1, fun i hi => (h.2.2.2 i hi).1⟩
theorem L_letter (h : Rel κ σ τ n pm wd pl tm hr B) (x : Int32) : X_letter_r κ σ pm x = M_letter_r τ pm x ∧ RelE κ (X_letter_s κ σ pm x) (M_letter_s τ pm x) B := by
  have h0 := h.E
  obtain ⟨hk, hp, hN, hI, hH⟩ := h
  refine ⟨l_letter_r hp.page x, ?_⟩
  unfold X_letter_s M_letter_s
  rw [M_in_1_126]
  by_cases h1 : x < 1
  · rw [if_pos h1, if_pos (if_pos h1)]; exact h0
  · rw [if_neg h1, if_neg h1]
    by_cases h2 : x ≤ 126
    · rw [if_pos h2, if_pos h2, if_neg (show ¬ ((1 : Int32) = 0) by decide)]
      by_cases h3 : pm < 16
      · rw [if_pos h3, if_neg (by omega)]
        have z1 : (1 : Int32).toInt = 1 := rfl
        have z2 : (126 : Int32).toInt = 126 := rfl
        have a1 : ¬ x.toInt < 1 := fun q => h1 ((fa_lt x 1).mpr (by omega))
        have a2 := (fa_le x 126).mp h2
        have a0 : 0 ≤ x.toInt := by omega
        have a3 := tN_toInt a0
        refine ⟨n, pm + 1, wd, pl, tm, hr, hk, ⟨by omega, up2_rs, up2_rs, fun i hi => ?_⟩, hN, hI, hH⟩
        unfold XG_put_s
        rw [up2_rn (show 9 ≠ 8 by decide), up2_rn (show 1 ≠ 0 by decide)]
        by_cases e : i = pm
        · subst e; rw [up2_rs, up2_rs]; exact ⟨rfl, x.toNatClampNeg, by omega, by omega, tN_of a0⟩
        · rw [up2_rp e, up2_rp e]; exact hp.2.2.2 i (by omega)
      · rw [if_neg h3, if_pos (by have := hp.1; omega)]; exact h0
    · rw [if_neg h2, if_neg h2, if_pos rfl]; exact h0
theorem L_blank (h : Rel κ σ τ n pm wd pl tm hr B) : X_blank_r κ σ = M_blank_r τ ∧ RelE κ (X_blank_s κ σ) (M_blank_s τ) B :=
  ⟨h.2.1.2.1.trans h.2.1.2.2.1.symm, n, 0, wd, pl, tm, hr, h.1, ⟨by decide, up2_rs, up2_rs, fun i hi => absurd hi (Nat.not_lt_zero i)⟩, h.2.2.1, h.2.2.2.1, h.2.2.2.2⟩
theorem L_rate (h : Rel κ σ τ n pm wd pl tm hr B) (x : Int32) : X_rate_r κ σ x = M_rate_r τ x ∧ RelE κ (X_rate_s κ σ x) (M_rate_s τ x) B := by
  have h0 := h.E
  obtain ⟨hk, hp, hN, hI, hH⟩ := h
  unfold X_rate_r M_rate_r X_rate_s M_rate_s
  rw [l_rate9]
  by_cases a : X_isRate_r x = 0
  · refine ⟨(if_pos a).trans (if_pos a).symm, ?_⟩
    rw [if_pos a, if_pos a]; exact h0
  · rcases hasHills hN.1 with ⟨w, e1, e2⟩ | ⟨w, e1, e2⟩
    · have e2' : ¬ M_lacks_r τ = 0 := by rw [e2]; decide
      refine ⟨((if_neg a).trans (if_pos e1)).trans ((if_neg a).trans (if_neg e2')).symm, ?_⟩
      rw [if_neg a, if_neg a, if_pos e1, if_neg e2']; exact h0
    · have e1' : ¬ X_hasHills_r κ σ = 0 := by rw [e1]; decide
      refine ⟨((if_neg a).trans (if_neg e1')).trans (hN.2.1.1.trans ((if_neg a).trans (if_pos e2)).symm), ?_⟩
      rw [if_neg a, if_neg a, if_neg e1', if_pos e2]
      have q : ¬ x < 1 ∧ ¬ 9 < x := by
        unfold X_isRate_r at a
        by_cases a1 : x < 1
        · rw [if_pos a1] at a; exact absurd rfl a
        · rw [if_neg a1] at a
          by_cases a2 : 9 < x
          · rw [if_pos a2] at a; exact absurd rfl a
          · exact ⟨a1, a2⟩
      have z1 : (1 : Int32).toInt = 1 := rfl
      have z2 : (9 : Int32).toInt = 9 := rfl
      have a1 : ¬ x.toInt < 1 := fun k => q.1 ((fa_lt x 1).mpr (by omega))
      have a2 : ¬ 9 < x.toInt := fun k => q.2 ((fa_lt 9 x).mpr (by omega))
      have a0 : 0 ≤ x.toInt := by omega
      have a3 := tN_toInt a0
      exact ⟨n, pm, wd, pl, tm, hr, hk, hp, ⟨hN.1, ⟨rfl, fun _ => ⟨x.toNatClampNeg, by omega, by omega, tN_of a0⟩⟩, hN.2.2⟩, hI, hH⟩
theorem L_plan (h : Rel κ σ τ n pm wd pl tm hr B) (c d : Int32) : X_plan_r κ σ n pl c d = M_plan_r τ n pl c d ∧ RelE κ (X_plan_s κ σ n pl c d) (M_plan_s τ n pl c d) B := by
  have h0 := h.E
  obtain ⟨hk, hp, hN, hI, hH⟩ := h
  unfold X_plan_r M_plan_r X_plan_s M_plan_s
  rcases couple_cases hN.1 c d with ⟨a1, a2⟩ | ⟨a1, a2, i, j, hi, hj, hij, tc, td⟩
  · refine ⟨(if_pos a1).trans (if_pos a2).symm, ?_⟩
    rw [if_pos a1, if_pos a2]; exact h0
  · by_cases w : pl < 4
    · have w' : ¬ pl = 4 := by omega
      refine ⟨((if_neg a1).trans (if_pos w)).trans ((if_neg a2).trans (if_neg w')).symm, ?_⟩
      rw [if_neg a1, if_neg a2, if_pos w, if_neg w', tc, td]
      exact ⟨n, pm, wd, pl + 1, tm, hr, hk, hp, ⟨hN.1, hN.2.1, hN.2.2.1, hN.2.2.2.1.push w hi hj hij, hN.2.2.2.2⟩, hI, hH⟩
    · have w' : pl = 4 := by have := hN.2.2.2.1.1; omega
      refine ⟨((if_neg a1).trans (if_neg w)).trans ((if_neg a2).trans (if_pos w')).symm, ?_⟩
      rw [if_neg a1, if_neg a2, if_neg w, if_pos w']; exact h0
theorem L_dream (h : Rel κ σ τ n pm wd pl tm hr B) : X_dream_r κ σ = M_dream_r τ ∧ RelE κ (X_dream_s κ σ) (M_dream_s τ) B :=
  ⟨h.2.2.1.2.2.2.1.2.1.trans h.2.2.1.2.2.2.1.2.2.1.symm, n, pm, wd, 0, tm, hr, h.1, h.2.1, ⟨h.2.2.1.1, h.2.2.1.2.1, h.2.2.1.2.2.1, ⟨by decide, rfl, rfl, fun i hi => absurd hi (Nat.not_lt_zero i)⟩, h.2.2.1.2.2.2.2⟩, h.2.2.2.1, h.2.2.2.2⟩
theorem L_forget (h : Rel κ σ τ n pm wd pl tm hr B) : X_forget_r κ σ = M_forget_r τ ∧ RelE κ (X_forget_s κ σ) (M_forget_s τ) B :=
  ⟨h.2.2.1.2.2.2.2.1.2.1.trans h.2.2.1.2.2.2.2.1.2.2.1.symm, n, pm, wd, pl, 0, hr, h.1, h.2.1, ⟨h.2.2.1.1, h.2.2.1.2.1, h.2.2.1.2.2.1, h.2.2.1.2.2.2.1, ⟨by decide, rfl, rfl, fun i hi => absurd hi (Nat.not_lt_zero i)⟩, h.2.2.1.2.2.2.2.2⟩, h.2.2.2.1, h.2.2.2.2⟩
theorem isRate_nat {x : Int32} (a : ¬ X_isRate_r x = 0) : ∃ v, 1 ≤ v ∧ v < 10 ∧ x = nI v := by
  have q : ¬ x < 1 ∧ ¬ 9 < x := by
    unfold X_isRate_r at a
    by_cases a1 : x < 1
    · rw [if_pos a1] at a; exact absurd rfl a
    · rw [if_neg a1] at a
      by_cases a2 : 9 < x
      · rw [if_pos a2] at a; exact absurd rfl a
      · exact ⟨a1, a2⟩
  have z1 : (1 : Int32).toInt = 1 := rfl
  have z2 : (9 : Int32).toInt = 9 := rfl
  have a1 : ¬ x.toInt < 1 := fun k => q.1 ((fa_lt x 1).mpr (by omega))
  have a2 : ¬ 9 < x.toInt := fun k => q.2 ((fa_lt 9 x).mpr (by omega))
  have a0 : 0 ≤ x.toInt := by omega
  have a3 := tN_toInt a0
  exact ⟨x.toNatClampNeg, by omega, by omega, tN_of a0⟩
theorem L_tell (h : Rel κ σ τ n pm wd pl tm hr B) (x y : Int32) : X_tell_r κ σ tm x y = M_tell_r τ tm x y ∧ RelE κ (X_tell_s κ σ tm x y) (M_tell_s τ tm x y) B := by
  have h0 := h.E
  obtain ⟨hk, hp, hN, hI, hH⟩ := h
  have hT : RTold σ τ tm := ⟨hN.2.2.2.2.1.1, hN.2.2.2.2.1.2.1, hN.2.2.2.2.1.2.2.1, fun i hi => ⟨(hN.2.2.2.2.1.2.2.2 i hi).1, (hN.2.2.2.2.1.2.2.2 i hi).2.1⟩⟩
  refine ⟨(l_tell (κ := κ) hT x y).1, ?_⟩
  unfold X_tell_s M_tell_s
  rw [l_rate9, M_in_1_20]
  by_cases a : X_isRate_r x = 0
  · rw [if_pos a, if_pos a]; exact h0
  · rw [if_neg a, if_neg a]
    by_cases h1 : y < 1
    · rw [if_pos h1, if_pos (if_pos h1)]; exact h0
    · rw [if_neg h1, if_neg h1]
      by_cases h2 : y ≤ 20
      · rw [if_pos h2, if_pos h2, if_neg (show ¬ ((1 : Int32) = 0) by decide)]
        by_cases w : tm < 6
        · rw [if_pos w, if_neg (by omega)]
          obtain ⟨v, v1, v2, rfl⟩ := isRate_nat a
          exact ⟨n, pm, wd, pl, tm + 1, hr, hk, hp, ⟨hN.1, hN.2.1, hN.2.2.1, hN.2.2.2.1, hN.2.2.2.2.1.push w v1 v2 y, hN.2.2.2.2.2⟩, hI, hH⟩
        · rw [if_neg w, if_pos (by have := hN.2.2.2.2.1.1; omega)]; exact h0
      · rw [if_neg h2, if_neg h2, if_pos rfl]; exact h0
theorem L_wed (h : Rel κ σ τ n pm wd pl tm hr B) (hB : B ≤ 800000) (c d : Int32) : X_wed_r κ σ n wd c d = M_wed_r τ n wd c d ∧ RelE κ (X_wed_s κ σ n wd c d) (M_wed_s τ n wd c d) (B + 400) := by
  have h0 := (h.mono (B' := B + 400) (by omega)).E
  have hR := h
  obtain ⟨hk, hp, hN, hI, hH⟩ := h
  unfold X_wed_r M_wed_r X_wed_s M_wed_s
  rcases couple_cases hN.1 c d with ⟨a1, a2⟩ | ⟨a1, a2, i, j, hi, hj, hij, tc, td⟩
  · refine ⟨(if_pos a1).trans (if_pos a2).symm, ?_⟩
    rw [if_pos a1, if_pos a2]; exact h0
  · by_cases w : wd < 12
    · have w' : ¬ wd = 12 := by omega
      refine ⟨((if_neg a1).trans (if_pos w)).trans ((if_neg a2).trans (if_neg w')).symm, ?_⟩
      obtain ⟨r, r1, r9, er⟩ := hN.2.1.2 (by omega)
      have er' : τ 0 7 = nI r := hN.2.1.1.symm.trans er
      have ha := asks_spec (hN.1.2.1 j hj).1 r1 r9
      have em : M_asksBy_r (τ 3 j) (τ 0 7) = nI (asksN (κ j) r) := by rw [er', (hN.1.2.1 j hj).2, ← ha.1, ha.2.1]
      have ex : XH_marry_r 10 κ σ i j = nI (asksN (κ j) r) := by
        show X_asks (κ j) (σ 10 4) = _
        rw [er, ha.2.1]
      rw [if_neg a1, if_neg a2, if_pos w, if_neg w', tc, td, em, ex, er']
      have h1 : Rel κ (XW_note_s κ σ wd (nI i) (nI j) (nI (asksN (κ j) r))) (up2 (up2 (up2 (up2 (up2 τ 6 (4 * wd) (nI i)) 6 (4 * wd + 1) (nI j)) 6 (4 * wd + 2) (nI (asksN (κ j) r))) 6 (4 * wd + 3) 0) 0 13 (nI (wd + 1))) n pm (wd + 1) pl tm hr B :=
        ⟨hk, hp, ⟨hN.1, hN.2.1, hN.2.2.1.push w hi hj hij ha.2.2, hN.2.2.2⟩, hI, hH⟩
      have hw : HW 10 κ σ (up2 (up2 (up2 (up2 (up2 τ 6 (4 * wd) (nI i)) 6 (4 * wd + 1) (nI j)) 6 (4 * wd + 2) (nI (asksN (κ j) r))) 6 (4 * wd + 3) 0) 0 13 (nI (wd + 1))) n B := hN.1
      have hm : HW 10 κ (XW_note_s κ (XH_marry_s 10 κ σ i j) wd (nI i) (nI j) (nI (asksN (κ j) r))) (M_marry_s (up2 (up2 (up2 (up2 (up2 τ 6 (4 * wd) (nI i)) 6 (4 * wd + 1) (nI j)) 6 (4 * wd + 2) (nI (asksN (κ j) r))) 6 (4 * wd + 3) 0) 0 13 (nI (wd + 1))) i j (nI r)) n (B + 400) := HW.note ((hw.marry (by omega) hi hj hij er r1 r9).mono (B' := B + 400) (by omega)) _ _ _ _
      exact (h1.herds (B' := B + 400) (by omega) hm (fun q q1 q2 => up2_cg (up2_cg (up2_cg (up2_cg (up2_cg (XH_marry_other q1 q2)))))) (fun q q1 q2 => M_marry_other q1 q2)).E
    · have w' : wd = 12 := by have := hN.2.2.1.1; omega
      refine ⟨((if_neg a1).trans (if_neg w)).trans ((if_neg a2).trans (if_pos w')).symm, ?_⟩
      rw [if_neg a1, if_neg a2, if_neg w, if_pos w']; exact h0
theorem wknows_eq (h : RNow κ σ τ n wd pl tm B) (c : Int32) : XW_knows_r κ σ c = M_in_r c.toInt64 0 ((nI wd - 1).toInt64) := by
  have h12 := h.2.2.1.1
  unfold XW_knows_r
  rw [h.2.2.1.2.1, in_eq (by omega)]
theorem L_wedding (h : Rel κ σ τ n pm wd pl tm hr B) (c y : Int32) : X_wedding_r κ σ wd c y = M_wedding_r τ wd c y := by
  obtain ⟨hk, hp, hN, hI, hH⟩ := h
  unfold X_wedding_r M_wedding_r
  rw [wknows_eq hN c]
  by_cases a : M_in_r c.toInt64 0 ((nI wd - 1).toInt64) = 0
  · rw [if_pos a, if_pos a]
  · rw [if_neg a, if_neg a]
    obtain ⟨_, hi⟩ := M_in_lt (by have := hN.2.2.1.1; omega) a
    obtain ⟨q1, q2, q3, q4, _⟩ := hN.2.2.1.2.2.2 _ hi
    by_cases y0 : y = 0
    · subst y0; rw [if_pos rfl, if_neg (by decide)]; exact q1.symm
    · rw [if_neg y0]
      by_cases y1 : y = 1
      · subst y1; rw [if_pos rfl, if_neg (by decide)]; exact q2.symm
      · rw [if_neg y1]
        by_cases y2 : y = 2
        · subst y2; rw [if_pos rfl, if_neg (by decide)]; exact q3.symm
        · rw [if_neg y2]
          by_cases y3 : y = 3
          · subst y3; rw [if_pos rfl, if_neg (by decide)]; exact q4.symm
          · rw [if_neg y3]
            have b : M_in_r y.toInt64 0 3 = 0 := by
              refine (M_in_32 y 0 3).trans ?_
              by_cases b0 : y < 0
              · rw [if_pos b0]
              · rw [if_neg b0]
                by_cases b1 : y ≤ 3
                · have z0 : (0 : Int32).toInt = 0 := rfl
                  have z1 : (1 : Int32).toInt = 1 := rfl
                  have z2 : (2 : Int32).toInt = 2 := rfl
                  have z3 : (3 : Int32).toInt = 3 := rfl
                  rw [fa_lt] at b0
                  rw [fa_le] at b1
                  rw [fa_eq] at y0 y1 y2 y3
                  omega
                · rw [if_neg b1]
            rw [if_pos b]
theorem L_divorce (h : Rel κ σ τ n pm wd pl tm hr B) (hB : B ≤ 800000) (c : Int32) : X_divorce_r κ σ wd c = M_divorce_r τ wd c ∧ RelE κ (X_divorce_s κ σ wd c) (M_divorce_s τ wd c) (B + 400) := by
  have h0 := (h.mono (B' := B + 400) (by omega)).E
  obtain ⟨hk, hp, hN, hI, hH⟩ := h
  unfold X_divorce_r M_divorce_r X_divorce_s M_divorce_s
  rw [wknows_eq hN c]
  by_cases a : M_in_r c.toInt64 0 ((nI wd - 1).toInt64) = 0
  · refine ⟨(if_pos a).trans (if_pos a).symm, ?_⟩
    rw [if_pos a, if_pos a]; exact h0
  · obtain ⟨_, hi⟩ := M_in_lt (by have := hN.2.2.1.1; omega) a
    generalize c.toNatClampNeg = i at hi
    obtain ⟨q1, q2, q3, q4, ⟨x, y, v, x1, x2, x3, x4, x5, x6, x7⟩, q5⟩ := hN.2.2.1.2.2.2 i hi
    rcases q5 with q5 | q5
    · have e2 : ¬ τ 6 (4 * i + 3) = 1 := by rw [q4, q5]; decide
      have h1 : Rel κ (up2 σ 36 i 1) (up2 τ 6 (4 * i + 3) 1) n pm wd pl tm hr B := ⟨hk, hp, ⟨hN.1, hN.2.1, hN.2.2.1.undo, hN.2.2.2⟩, hI, hH⟩
      have c1 : (σ 34 i).toNatClampNeg = y := by rw [x6]; exact nI_clamp (by have := hN.1.1; omega)
      have c2 : (σ 33 i).toNatClampNeg = x := by rw [x5]; exact nI_clamp (by have := hN.1.1; omega)
      have c3 : (τ 6 (4 * i + 1)).toNatClampNeg = y := by rw [q2]; exact c1
      have c4 : (τ 6 (4 * i)).toNatClampNeg = x := by rw [q1]; exact c2
      have c5 : (up2 σ 36 i 1) 34 i = σ 34 i := rfl
      have c6 : (up2 σ 36 i 1) 33 i = σ 33 i := rfl
      have hp' := h1.2.2.1.1.pay (c := y) (d := x) (v := v) (by omega) x2 x1 (Ne.symm x3) x4
      have c7 : τ 6 (4 * i + 2) = nI v := q3.trans x7
      refine ⟨?_, ?_⟩
      · rw [if_neg a, if_neg a, if_pos q5, if_neg e2, c5, c6, c1, c2, c3, c4, x7, c7]
        exact hp'.1.symm
      · rw [if_neg a, if_neg a, if_pos q5, if_neg e2, c5, c6, c1, c2, c3, c4, x7, c7]
        exact (h1.herds (B' := B + 400) (by omega) (hp'.2.mono (by omega)) (fun q k1 k2 => XH_pay_other k1 k2) (fun q k1 k2 => M_pays_other k1 k2)).E
    · have e1 : ¬ σ 36 i = 0 := by rw [q5]; decide
      have e2 : τ 6 (4 * i + 3) = 1 := by rw [q4, q5]
      refine ⟨((if_neg a).trans (if_neg e1)).trans ((if_neg a).trans (if_pos e2)).symm, ?_⟩
      rw [if_neg a, if_neg a, if_neg e1, if_pos e2]; exact h0
theorem L_year (h : Rel κ σ τ n pm wd pl tm hr B) (hB : B ≤ 700000) : X_year_r κ σ n = M_year_r τ n ∧ RelE κ (X_year_s κ σ n) (M_year_s τ n) (B + 400) := by
  have h0 := (h.mono (B' := B + 400) (by omega)).E
  unfold X_year_r M_year_r X_year_s M_year_s
  rcases hasHills h.2.2.1.1 with ⟨w, e1, e2⟩ | ⟨w, e1, e2⟩
  · have e2' : ¬ M_lacks_r τ = 0 := by rw [e2]; decide
    refine ⟨(if_pos e1).trans (if_neg e2').symm, ?_⟩
    rw [if_pos e1, if_neg e2']; exact h0
  · have e1' : ¬ X_hasHills_r κ σ = 0 := by rw [e1]; decide
    have hy := (h.2.2.1.1.year (by omega)).mono (B' := B + 400) (by omega)
    have h1 := h.herds (B' := B + 400) (by omega) hy (fun q k1 k2 => XH_passYear_other k1 k2) (fun q k1 k2 => M_passYear_other k1 k2)
    have ey : σ 31 4 = τ 0 8 := h.2.2.1.2.2.2.2.2
    refine ⟨(if_neg e1').trans ((hy.years _ _).allOwed.trans (if_pos e2).symm), ?_⟩
    rw [if_neg e1', if_pos e2]
    exact (h1.years (by rw [ey])).E
theorem L_settled (h : Rel κ σ τ n pm wd pl tm hr B) : X_settled_r κ σ n = M_settled_r τ n := by
  unfold X_settled_r M_settled_r
  rcases hasHills h.2.2.1.1 with ⟨w, e1, e2⟩ | ⟨w, e1, e2⟩
  · exact (if_pos e1).trans (if_neg (by rw [e2]; decide)).symm
  · exact (if_neg (by rw [e1]; decide)).trans (h.2.2.1.1.leastLed.trans (if_pos e2).symm)
theorem L_count (h : Rel κ σ τ n pm wd pl tm hr B) (c : Int32) : X_count_r κ σ n c = M_count_r τ n c := by
  obtain ⟨hk, hp, hN, hI, hH⟩ := h
  unfold X_count_r M_count_r M_countOf_r
  rw [hN.1.allCows, hN.1.allOwed, hN.2.1.1, hN.2.2.1.2.1, hN.2.2.1.2.2.1, hN.2.2.2.1.2.1, hN.2.2.2.1.2.2.1, hN.2.2.2.2.1.2.1, hN.2.2.2.2.1.2.2.1, hN.2.2.2.2.2, hp.2.1, hp.2.2.1, hH.2.1, hH.2.2.1]
end C1
