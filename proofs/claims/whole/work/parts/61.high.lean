/-! ===== level 2: high, ages ===== -/
section HI
variable {κ : Nat → Nat} {σ τ σ' ρ : Nat → Nat → Int32} {n pl q k i r : Nat} {B : Int} {s t : Int32}
theorem perm0_tab : ∀ pl, pl < 5 → ∀ k, k < 4 → permT pl 0 k = k := by decide +kernel
theorem HW.highL (x : Int32) (r1 : 1 ≤ r) (r9 : r < 10) : ∀ (m i : Nat) (σ τ : Nat → Nat → Int32) (B : Int), i + m = pl → B + 20 * m ≤ 900000 → RPl n pl s t (σ 38) (σ 39) (τ 7) → (∀ k, k < pl → σ 40 k = nI k) → σ 24 4 = nI r → HW 24 κ σ τ n B → HW 24 κ (XP_marryInOrder_L2 κ pl m i σ) (M_highOf_L43 n pl r x m i τ) n (B + 20 * m)
  | 0, i, σ, τ, B, _, _, _, _, _, h => h.mono (by omega)
  | m + 1, i, σ, τ, B, e, hB, hP, h40, er, h => by
    have st := h.planStep (by omega) hP (show i < pl by omega) (h40 i (by omega)) er r1 r9
    have o : ∀ q, q ≠ 25 → q ≠ 26 → XP_marryInOrder_S2_0 κ pl i σ q = σ q := fun q a b => XH_marry_other a b
    have o' : ∀ q, q ≠ 4 → q ≠ 5 → M_highOf_S43_0 n pl r x i τ q = τ q := fun q a b => M_marry_other a b
    refine (HW.highL x r1 r9 m (i + 1) (XP_marryInOrder_S2_0 κ pl i σ) (M_highOf_S43_0 n pl r x i τ) (B + 20) (by omega) (by omega) ?_ ?_ ?_ st).mono (by omega)
    · rw [o 38 (by decide) (by decide), o 39 (by decide) (by decide), o' 7 (by decide) (by decide)]; exact hP
    · rw [o 40 (by decide) (by decide)]; exact h40
    · rw [o 24 (by decide) (by decide)]; exact er
theorem M_L43_other (h1 : q ≠ 4) (h2 : q ≠ 5) (a : Nat) (x : Int32) : ∀ (m i : Nat) (τ : Nat → Nat → Int32), M_highOf_L43 n pl a x m i τ q = τ q
  | 0, _, _ => rfl
  | m + 1, i, τ => (M_L43_other h1 h2 a x m (i + 1) (M_highOf_S43_0 n pl a x i τ)).trans (M_marry_other h1 h2)
theorem M_L43_x (a : Nat) (x : Int32) : ∀ (m i : Nat) (τ : Nat → Nat → Int32), M_highOf_L43 n pl a x m i τ = M_highOf_L43 n pl a 0 m i τ
  | 0, _, _ => rfl
  | m + 1, i, τ => M_L43_x a x m (i + 1) (M_highOf_S43_0 n pl a x i τ)
theorem M_L87_x (a : Nat) (x : Int32) : ∀ (m i : Nat) (y : Int32), M_highOf_L87 τ n pl a x m i y = M_highOf_L87 τ n pl a 0 m i y
  | 0, _, _ => rfl
  | m + 1, i, y => M_L87_x a x m (i + 1) (M_highOf_S87_0 τ n pl a x i y)
theorem M_L87_0 (a : Nat) (x : Int32) : ∀ (m i : Nat), M_highOf_L87 τ n pl a x m i 0 = 0
  | 0, _ => rfl
  | m + 1, i => by
    show M_highOf_L87 τ n pl a x m (i + 1) (M_highOf_S87_0 τ n pl a x i 0) = 0
    rw [show M_highOf_S87_0 τ n pl a x i 0 = 0 from if_pos rfl]
    exact M_L87_0 a x m (i + 1)
theorem owesMore_L (a : Nat) (x : Int32) (h1 : ∀ c, c < n → XH_owedBy_r 24 κ σ n c = M_owesOf_r τ c) (h2 : ∀ c, c < n → XH_owedBy_r 10 κ σ n c = τ 12 c) : ∀ (m i : Nat), i + m ≤ n → (XP_owesMore_L2 κ σ n m i = 0 ∧ M_highOf_L87 τ n pl a x m i 1 = 1) ∨ (¬ XP_owesMore_L2 κ σ n m i = 0 ∧ M_highOf_L87 τ n pl a x m i 1 = 0)
  | 0, _, _ => Or.inl ⟨rfl, rfl⟩
  | m + 1, i, e => by
    show ((if XH_owedBy_r 24 κ σ n i ≤ XH_owedBy_r 10 κ σ n i then XP_owesMore_L2 κ σ n m (i + 1) else 1) = 0 ∧ M_highOf_L87 τ n pl a x m (i + 1) (M_highOf_S87_0 τ n pl a x i 1) = 1) ∨ (¬ (if XH_owedBy_r 24 κ σ n i ≤ XH_owedBy_r 10 κ σ n i then XP_owesMore_L2 κ σ n m (i + 1) else 1) = 0 ∧ M_highOf_L87 τ n pl a x m (i + 1) (M_highOf_S87_0 τ n pl a x i 1) = 0)
    have s1 : M_highOf_S87_0 τ n pl a x i 1 = if τ 12 i < M_owesOf_r τ i then 0 else 1 := if_neg (by decide)
    rw [h1 i (by omega), h2 i (by omega), s1]
    by_cases c : M_owesOf_r τ i ≤ τ 12 i
    · rw [if_pos c, if_neg (fun k => by rw [fa_lt] at k; rw [fa_le] at c; omega)]
      exact owesMore_L a x h1 h2 m (i + 1) (by omega)
    · rw [if_neg c, if_pos (fa_of_nle c), M_L87_0]
      exact Or.inr ⟨by decide, rfl⟩
theorem hL2_other (hq : q ≠ 12) : ∀ (m i : Nat) (τ : Nat → Nat → Int32), M_highOf_L2 n pl m i τ q = τ q
  | 0, _, _ => rfl
  | m + 1, i, τ => (hL2_other hq m (i + 1) (M_highOf_S2_0 n pl i τ)).trans (up2_n _ _ _ hq)
theorem hL2_low : ∀ (m i : Nat) (τ : Nat → Nat → Int32), k < i → M_highOf_L2 n pl m i τ 12 k = τ 12 k
  | 0, _, _, _ => rfl
  | m + 1, i, τ, h => (hL2_low m (i + 1) (M_highOf_S2_0 n pl i τ) (by omega)).trans (up2_rp (by omega))
theorem hL2_row : ∀ (m i : Nat) (τ : Nat → Nat → Int32), i ≤ k → k < i + m → M_highOf_L2 n pl m i τ 12 k = M_owesOf_r τ k
  | 0, i, _, h1, h2 => absurd h2 (by omega)
  | m + 1, i, τ, h1, h2 => by
    show M_highOf_L2 n pl m (i + 1) (M_highOf_S2_0 n pl i τ) 12 k = _
    by_cases e : k = i
    · subst e; exact (hL2_low m (k + 1) _ (by omega)).trans up2_rs
    · exact (hL2_row m (i + 1) (M_highOf_S2_0 n pl i τ) (by omega) (by omega)).trans rfl
/-- the model's table while it tries rates -/
def rho0 (τ : Nat → Nat → Int32) (n pl : Nat) : Nat → Nat → Int32 := M_layAside_s (M_highOf_L2 n pl n 0 τ)
theorem rho0_other (h8 : q ≠ 8) (h9 : q ≠ 9) (h12 : q ≠ 12) : rho0 τ n pl q = τ q := (row_n _ _ h9).trans ((row_n _ _ h8).trans (hL2_other h12 n 0 τ))
theorem rho0_8 : rho0 τ n pl 8 = τ 4 := (show rho0 τ n pl 8 = M_highOf_L2 n pl n 0 τ 4 from rfl).trans (hL2_other (by decide) n 0 τ)
theorem rho0_9 : rho0 τ n pl 9 = τ 5 := (show rho0 τ n pl 9 = M_highOf_L2 n pl n 0 τ 5 from rfl).trans (hL2_other (by decide) n 0 τ)
theorem rho0_12 (hk : k < n) : rho0 τ n pl 12 k = M_owesOf_r τ k := by
  have e : rho0 τ n pl 12 = M_highOf_L2 n pl n 0 τ 12 := rfl
  rw [e]
  exact hL2_row n 0 τ (by omega) (by omega)
theorem rho0_back (a : Nat) (x : Int32) : M_layBack_s (M_highOf_L43 n pl a x pl 0 (rho0 τ n pl)) = rho0 τ n pl := by
  funext q
  by_cases e5 : q = 5
  · subst e5
    refine (row_s _ _ _).trans ((row_n _ _ (show 9 ≠ 4 by decide)).trans ?_)
    rw [M_L43_other (by decide) (by decide), rho0_9, rho0_other (by decide) (by decide) (by decide)]
  · by_cases e4 : q = 4
    · subst e4
      refine (row_n _ _ e5).trans ((row_s _ _ _).trans ?_)
      rw [M_L43_other (by decide) (by decide), rho0_8, rho0_other (by decide) (by decide) (by decide)]
    · exact (row_n _ _ e5).trans ((row_n _ _ e4).trans (M_L43_other e4 e5 a x pl 0 _))
def okI (τ : Nat → Nat → Int32) (n pl i : Nat) : Int32 := M_highOf_L87 (M_highOf_L43 n pl i 0 pl 0 (rho0 τ n pl)) n pl i 0 n 0 1
def hF (ok : Nat → Int32) : Nat → Nat → Int32 → Int32
  | 0, _, x => x
  | m + 1, i, x => hF ok m (i + 1) (if ok i = 0 then x else nI i)
theorem hF_snoc (ok : Nat → Int32) : ∀ (m i : Nat) (x : Int32), hF ok (m + 1) i x = if ok (i + m) = 0 then hF ok m i x else nI (i + m)
  | 0, _, _ => rfl
  | m + 1, i, x => by
    refine (hF_snoc ok m (i + 1) (if ok i = 0 then x else nI i)).trans ?_
    rw [show i + 1 + m = i + (m + 1) by omega]
    rfl
theorem L35_form : ∀ (m i : Nat) (x : Int32), M_highOf_L35 n pl m i x (rho0 τ n pl) = (hF (okI τ n pl) m i x, rho0 τ n pl)
  | 0, _, _ => rfl
  | m + 1, i, x => by
    have e : M_highOf_L87 (M_highOf_L43 n pl i x pl 0 (rho0 τ n pl)) n pl i x n 0 1 = okI τ n pl i := by
      unfold okI
      rw [M_L87_x, M_L43_x]
    have s0 : M_highOf_S35_0 n pl i x (rho0 τ n pl) = if okI τ n pl i = 0 then x else nI i := by
      unfold M_highOf_S35_0
      rw [e]
    have s1 : M_highOf_S35_1 n pl i x (rho0 τ n pl) = rho0 τ n pl := by
      unfold M_highOf_S35_1
      rw [ite_self]
      exact rho0_back i x
    show M_highOf_L35 n pl m (i + 1) (M_highOf_S35_0 n pl i x (rho0 τ n pl)) (M_highOf_S35_1 n pl i x (rho0 τ n pl)) = _
    rw [s1, L35_form m (i + 1), s0]
    rfl
theorem HW.rate24 (h : HW 24 κ σ τ n B) (x : Int32) : HW 24 κ (up2 σ 24 4 x) τ n B := h
theorem high_test (hW : HW 10 κ σ τ n B) (hB : B ≤ 800000) (hP : RPl n pl s t (σ 38) (σ 39) (τ 7)) (hX : AgX σ' σ) (h40 : σ' 40 = permRow pl 0) (r1 : 1 ≤ r) (r9 : r < 10) :
    AgX (XP_marryInOrder_s κ (up2 (XH_copyFrom_24_10_s κ σ') 24 4 (nI r)) pl) σ ∧ XP_marryInOrder_s κ (up2 (XH_copyFrom_24_10_s κ σ') 24 4 (nI r)) pl 40 = permRow pl 0 ∧
    ((XP_owesMore_r κ (XP_marryInOrder_s κ (up2 (XH_copyFrom_24_10_s κ σ') 24 4 (nI r)) pl) n = 0 ∧ okI τ n pl r = 1) ∨ (¬ XP_owesMore_r κ (XP_marryInOrder_s κ (up2 (XH_copyFrom_24_10_s κ σ') 24 4 (nI r)) pl) n = 0 ∧ okI τ n pl r = 0)) := by
  have hpl := hP.1
  have a10 := hX.1 10 (by decide) (by decide) (by decide) (by decide) (by decide) (by decide)
  have a11 := hX.1 11 (by decide) (by decide) (by decide) (by decide) (by decide) (by decide)
  have a12 := hX.1 12 (by decide) (by decide) (by decide) (by decide) (by decide) (by decide)
  have g : ∀ q, q ≠ 24 → q ≠ 25 → q ≠ 26 → XP_marryInOrder_s κ (up2 (XH_copyFrom_24_10_s κ σ') 24 4 (nI r)) pl q = σ' q := fun q q0 q1 q2 => (XP_mio_other q1 q2).trans ((up2_n _ _ _ q0).trans (hc_24_10_other q0 q1 q2))
  have u : ∀ q, q ≠ 24 → q ≠ 25 → q ≠ 26 → up2 (XH_copyFrom_24_10_s κ σ') 24 4 (nI r) q = σ' q := fun q q0 q1 q2 => (up2_n _ _ _ q0).trans (hc_24_10_other q0 q1 q2)
  have m0 : rho0 τ n pl 0 = τ 0 := rho0_other (by decide) (by decide) (by decide)
  have hT : HW 24 κ (XH_copyFrom_24_10_s κ σ') (rho0 τ n pl) n B := hW.trial a10 a11 a12 (rho0_other (by decide) (by decide) (by decide)) (rho0_other (by decide) (by decide) (by decide)) (rho0_other (by decide) (by decide) (by decide)) (by rw [m0])
  have hO := HW.highL (κ := κ) (n := n) (pl := pl) (s := s) (t := t) 0 r1 r9 pl 0 (up2 (XH_copyFrom_24_10_s κ σ') 24 4 (nI r)) (rho0 τ n pl) B (by omega) (by omega)
    (by rw [u 38 (by decide) (by decide) (by decide), u 39 (by decide) (by decide) (by decide), hX.1 38 (by decide) (by decide) (by decide) (by decide) (by decide) (by decide), hX.1 39 (by decide) (by decide) (by decide) (by decide) (by decide) (by decide), rho0_other (by decide) (by decide) (by decide)]; exact hP)
    (fun k hk => by rw [u 40 (by decide) (by decide) (by decide), h40]; exact congrArg nI (perm0_tab pl (by omega) k (by omega)))
    up2_rs (hT.rate24 _)
  refine ⟨⟨fun q b1 b2 b3 b4 b5 b6 => (g q b1 b2 b3).trans (hX.1 q b1 b2 b3 b4 b5 b6), fun k hk => (congrFun (g 37 (by decide) (by decide) (by decide)) k).trans (hX.2 k hk)⟩, (g 40 (by decide) (by decide) (by decide)).trans h40, ?_⟩
  refine owesMore_L r 0 (fun c hc => hO.owedBy hc) (fun c hc => ?_) n 0 (by omega)
  rw [M_L43_other (by decide) (by decide), rho0_12 hc]
  have hW' : HW 10 κ (XP_marryInOrder_s κ (up2 (XH_copyFrom_24_10_s κ σ') 24 4 (nI r)) pl) τ n B := by
    obtain ⟨h4, hk, hR, hn, hm⟩ := hW
    refine ⟨h4, hk, ?_, ?_, hm⟩
    · show RHd n B (XP_marryInOrder_s κ (up2 (XH_copyFrom_24_10_s κ σ') 24 4 (nI r)) pl 11) (XP_marryInOrder_s κ (up2 (XH_copyFrom_24_10_s κ σ') 24 4 (nI r)) pl 12) (τ 4) (τ 5)
      rw [g 11 (by decide) (by decide) (by decide), g 12 (by decide) (by decide) (by decide), a11, a12]
      exact hR
    · rw [g 10 (by decide) (by decide) (by decide), a10]; exact hn
  exact hW'.owedBy hc
theorem high_L (hW : HW 10 κ σ τ n B) (hB : B ≤ 800000) (hP : RPl n pl s t (σ 38) (σ 39) (τ 7)) : ∀ (m : Nat) (σ' : Nat → Nat → Int32), m < 10 → AgX σ' σ → σ' 40 = permRow pl 0 → (XP_highestRate_L7 κ pl n m σ').1 = hF (okI τ n pl) m 1 (-1) ∧ AgX (XP_highestRate_L7 κ pl n m σ').2 σ
  | 0, σ', _, hX, _ => ⟨rfl, hX⟩
  | m + 1, σ', hm, hX, h40 => by
    obtain ⟨t1, t2, t3⟩ := high_test (r := m + 1) hW hB hP hX h40 (by omega) (by omega)
    rw [hF_snoc, show 1 + m = m + 1 by omega]
    have e : XP_highestRate_L7 κ pl n (m + 1) σ' = if (XP_owesMore_r κ (XP_marryInOrder_s κ (up2 (XH_copyFrom_24_10_s κ σ') 24 4 (nI (m + 1))) pl) n) = 0 then (nI (m + 1), XP_marryInOrder_s κ (up2 (XH_copyFrom_24_10_s κ σ') 24 4 (nI (m + 1))) pl) else XP_highestRate_L7 κ pl n m (XP_marryInOrder_s κ (up2 (XH_copyFrom_24_10_s κ σ') 24 4 (nI (m + 1))) pl) := rfl
    rw [e]
    rcases t3 with ⟨a1, a2⟩ | ⟨a1, a2⟩
    · rw [if_pos a1, a2, if_neg (by decide)]
      exact ⟨rfl, t1⟩
    · rw [if_neg a1, a2, if_pos rfl]
      exact high_L hW hB hP m _ (by omega) t1 t2
end HI
section HJ
variable {κ : Nat → Nat} {σ τ : Nat → Nat → Int32} {n pm wd pl tm hr : Nat} {B : Int}
theorem Rel.high (h : Rel κ σ τ n pm wd pl tm hr B) (hB : B ≤ 800000) : AgX (XP_highestRate_s κ σ pl n) σ ∧ AgM (M_highOf_s τ n pl) τ ∧ XP_highestRate_r κ σ pl n = M_highOf_r τ n pl := by
  have hX : AgX (row σ 40 (permRow pl 0)) σ := ⟨fun q _ _ _ _ b5 _ => row_n _ _ b5, fun k _ => rfl⟩
  obtain ⟨a1, a2⟩ := high_L h.2.2.1.1 hB h.2.2.1.2.2.2.1 9 _ (by decide) hX (row_s _ _ _)
  have f : M_highOf_L35 n pl 9 1 (-1) (rho0 τ n pl) = (hF (okI τ n pl) 9 1 (-1), rho0 τ n pl) := L35_form 9 1 (-1)
  have f1 : M_highOf_r τ n pl = hF (okI τ n pl) 9 1 (-1) := congrArg Prod.fst f
  have f2 : M_highOf_s τ n pl = rho0 τ n pl := congrArg Prod.snd f
  refine ⟨a2, ?_, a1.trans f1.symm⟩
  rw [f2]
  exact ⟨fun q _ _ b8 b9 _ _ b12 _ => rho0_other b8 b9 b12, fun k _ _ _ _ => congrFun (rho0_other (by decide) (by decide) (by decide)) k⟩
theorem L_high (h : Rel κ σ τ n pm wd pl tm hr B) (hB : B ≤ 800000) : X_high_r κ σ pl n = M_high_r τ n pl ∧ RelE κ (X_high_s κ σ pl n) (M_high_s τ n pl) B := by
  unfold X_high_r M_high_r X_high_s M_high_s
  rcases hasHills h.2.2.1.1 with ⟨w, e1, e2⟩ | ⟨w, e1, e2⟩
  · have e2' : ¬ M_lacks_r τ = 0 := by rw [e2]; decide
    rw [if_pos e1, if_neg e2', if_pos e1, if_neg e2']
    exact ⟨rfl, h.E⟩
  · have e1' : ¬ X_hasHills_r κ σ = 0 := by rw [e1]; decide
    obtain ⟨k1, k2, k3⟩ := h.high hB
    rw [if_neg e1', if_pos e2, if_neg e1', if_pos e2]
    exact ⟨k3, (h.agree k1 k2).E⟩
end HJ
/-! ages -/
section AG
variable {κ : Nat → Nat} {σ τ : Nat → Nat → Int32} {b n c d r sd : Nat} {B : Int}
theorem draw_seed (h : τ 0 25 = nI sd) (hs : sd < 2147483648) : (((1103515245 * ((τ 0 25).toInt64)) + 12345) &&& 2147483647).toInt32 = nI (seedN sd) := by
  have e : lN (2 ^ 31 - 1) = (2147483647 : Int64) := by decide +kernel
  rw [h, nI_l (by omega), show (1103515245 : Int64) = lN 1103515245 from rfl, show (12345 : Int64) = lN 12345 from rfl, lN_mul, lN_add, ← e, fb_maskL, lN_i]
  rfl
theorem draw_n (h : τ 0 25 = nI sd) (hs : sd < 2147483648) : M_draw_n τ n = (seedN sd / 65536) % n := by
  unfold M_draw_n
  rw [draw_seed h hs, nI_clamp (by have := seedN_lt sd; omega)]
theorem draw_s (h : τ 0 25 = nI sd) (hs : sd < 2147483648) : M_draw_s τ n = up2 τ 0 25 (nI (seedN sd)) := by
  unfold M_draw_s
  rw [draw_seed h hs]
theorem HW.seed (h : HW b κ σ τ n B) (x : Int32) : HW b κ σ (up2 τ 0 25 x) n B := h
theorem couple_nat (h : HW b κ σ τ n B) (hc : c < n) (hd : d < n) : XH_knowsCouple_r b κ σ (nI c) (nI d) = if c = d then 0 else 1 := by
  have h4 := h.1
  rw [couple_eq h]
  unfold M_areTwo_r
  rw [isClan_nat h.2.2.2.2 h4 (by omega), isClan_nat h.2.2.2.2 h4 (by omega), if_pos hc, if_pos hd, if_neg (show ¬ ((1 : Int32) = 0) by decide), if_neg (show ¬ ((1 : Int32) = 0) by decide)]
  by_cases e : c = d
  · rw [if_pos e, if_pos (by rw [e])]
  · rw [if_neg e, if_neg (fun k => e ((nI_eq (by omega) (by omega)).mp k))]
theorem ages_L (hn : 0 < n) (r1 : 1 ≤ r) (r9 : r < 10) (ya : Nat) (sa : Nat) (ys ss ws : Int32) (yn : Nat) : ∀ (m i : Nat) (sd : Nat) (σ τ : Nat → Nat → Int32) (B : Int), B + 416 * m ≤ 800000 → sd < 2147483648 → τ 0 25 = nI sd → σ 24 4 = nI r → τ 0 7 = nI r → HW 24 κ σ τ n B →
    HW 24 κ (XH_live_L5 24 κ n ya sa m i sd σ).2 (M_ages_L53 n ys ss ws yn m i τ) n (B + 416 * m) ∧ M_ages_L53 n ys ss ws yn m i τ 0 25 = nI (XH_live_L5 24 κ n ya sa m i sd σ).1 ∧ (∀ q, q ≠ 25 → q ≠ 26 → (XH_live_L5 24 κ n ya sa m i sd σ).2 q = σ q) ∧ (∀ q, q ≠ 0 → q ≠ 4 → q ≠ 5 → M_ages_L53 n ys ss ws yn m i τ q = τ q) ∧ ∀ k, k ≠ 25 → M_ages_L53 n ys ss ws yn m i τ 0 k = τ 0 k
  | 0, _, _, _, _, _, _, _, h25, _, _, h => ⟨h.mono (by omega), h25, fun _ _ _ => rfl, fun _ _ _ _ => rfl, fun _ _ => rfl⟩
  | m + 1, i, sd, σ, τ, B, hB, hs, h25, er, er', h => by
    have s1 := seedN_lt sd
    have s2 := seedN_lt (seedN sd)
    have d1 : M_draw_n τ n = (seedN sd / 65536) % n := draw_n h25 hs
    have e1 : M_draw_s τ n = up2 τ 0 25 (nI (seedN sd)) := draw_s h25 hs
    have h25' : up2 τ 0 25 (nI (seedN sd)) 0 25 = nI (seedN sd) := up2_rs
    have d2 : M_draw_n (up2 τ 0 25 (nI (seedN sd))) n = (seedN (seedN sd) / 65536) % n := draw_n h25' s1
    have e2 : M_draw_s (up2 τ 0 25 (nI (seedN sd))) n = up2 (up2 τ 0 25 (nI (seedN sd))) 0 25 (nI (seedN (seedN sd))) := draw_s h25' s1
    have hl1 : (seedN sd / 65536) % n < n := Nat.mod_lt _ hn
    have hl2 : (seedN (seedN sd) / 65536) % n < n := Nat.mod_lt _ hn
    have hz : HW 24 κ σ (up2 (up2 τ 0 25 (nI (seedN sd))) 0 25 (nI (seedN (seedN sd)))) n B := (h.seed _).seed _
    have kc := couple_nat h hl1 hl2
    have hS : ∃ σ1 τ1, XH_live_S5_1 24 κ n ya sa i sd σ = XH_passYear_s 24 κ σ1 n ∧ M_ages_S53_0 n ys ss ws yn i τ = M_passYear_s τ1 n ∧ HW 24 κ σ1 τ1 n (B + 20) ∧ τ1 0 25 = nI (seedN (seedN sd)) ∧ (∀ q, q ≠ 25 → q ≠ 26 → σ1 q = σ q) ∧ (∀ q, q ≠ 0 → q ≠ 4 → q ≠ 5 → τ1 q = τ q) ∧ ∀ k, k ≠ 25 → τ1 0 k = τ 0 k := by
      unfold XH_live_S5_1 M_ages_S53_0 XH_drawn_n
      rw [e1, d1, d2, e2, kc]
      by_cases w : seedN sd / 65536 % n = seedN (seedN sd) / 65536 % n
      · rw [if_pos w, if_pos w, if_pos rfl]
        exact ⟨_, _, rfl, rfl, hz.mono (by omega), up2_rs, fun _ _ _ => rfl, fun q q0 _ _ => (up2_n _ _ _ q0).trans (up2_n _ _ _ q0), fun k hk => (up2_rp hk).trans (up2_rp hk)⟩
      · rw [if_neg w, if_neg w, if_neg (by decide), er']
        refine ⟨_, _, rfl, rfl, hz.marry (by omega) hl1 hl2 w er r1 r9, ?_, fun q q1 q2 => XH_marry_other q1 q2, fun q q0 q4 q5 => (M_marry_other q4 q5).trans ((up2_n _ _ _ q0).trans (up2_n _ _ _ q0)), fun k hk => ?_⟩
        · rw [M_marry_other (by decide) (by decide)]; exact up2_rs
        · rw [M_marry_other (by decide) (by decide)]; exact (up2_rp hk).trans (up2_rp hk)
    have hs0 : XH_live_S5_0 24 κ n ya sa i sd σ = seedN (seedN sd) := by
      unfold XH_live_S5_0
      rw [ite_self]
    obtain ⟨σ1, τ1, x1, x2, x3, x4, x5, x6, x7⟩ := hS
    have hy := (x3.year (by omega)).mono (B' := B + 416) (by omega)
    have y0 : ∀ k, M_passYear_s τ1 n 0 k = τ1 0 k := fun k => congrFun (M_passYear_other (by decide) (by decide)) k
    have ih := ages_L hn r1 r9 ya sa ys ss ws yn m (i + 1) (seedN (seedN sd)) (XH_passYear_s 24 κ σ1 n) (M_passYear_s τ1 n) (B + 416) (by omega) s2 ((y0 25).trans x4) (by rw [XH_passYear_other (by decide) (by decide), x5 24 (by decide) (by decide)]; exact er) (by rw [y0, x7 7 (by decide)]; exact er') hy
    have fX : XH_live_L5 24 κ n ya sa (m + 1) i sd σ = XH_live_L5 24 κ n ya sa m (i + 1) (seedN (seedN sd)) (XH_passYear_s 24 κ σ1 n) := by
      show XH_live_L5 24 κ n ya sa m (i + 1) (XH_live_S5_0 24 κ n ya sa i sd σ) (XH_live_S5_1 24 κ n ya sa i sd σ) = _
      rw [hs0, x1]
    have fM : M_ages_L53 n ys ss ws yn (m + 1) i τ = M_ages_L53 n ys ss ws yn m (i + 1) (M_passYear_s τ1 n) := by
      show M_ages_L53 n ys ss ws yn m (i + 1) (M_ages_S53_0 n ys ss ws yn i τ) = _
      rw [x2]
    rw [fX, fM]
    obtain ⟨i1, i2, i3, i4, i5⟩ := ih
    exact ⟨i1.mono (by omega), i2, fun q q1 q2 => (i3 q q1 q2).trans ((XH_passYear_other q1 q2).trans (x5 q q1 q2)), fun q q0 q4 q5 => (i4 q q0 q4 q5).trans ((M_passYear_other q4 q5).trans (x6 q q0 q4 q5)), fun k hk => (i5 k hk).trans ((y0 k).trans (x7 k hk))⟩
end AG
section AH
variable {κ : Nat → Nat} {σ τ : Nat → Nat → Int32} {n pm wd pl tm hr : Nat} {B : Int}
theorem Rel.ages (h : Rel κ σ τ n pm wd pl tm hr B) (hB : B ≤ 700000) (hn : 0 < n) (ys ss ws : Int32) {m sd : Nat} (hm : m ≤ 40) (hs : sd < 2147483648) (es : ss = nI sd) (yn : Nat) :
    HW 24 κ (XH_live_s 24 κ (XH_copyFrom_24_10_s κ σ) n m sd) (M_ages_L53 n ys ss ws yn m 0 (up2 (M_layAside_s τ) 0 25 ss)) n (B + 16640) ∧ M_ages_L53 n ys ss ws yn m 0 (up2 (M_layAside_s τ) 0 25 ss) 0 25 = nI (XH_live_n 24 κ (XH_copyFrom_24_10_s κ σ) n m sd) ∧ AgX (XH_live_s 24 κ (XH_copyFrom_24_10_s κ σ) n m sd) σ ∧ AgM (M_layBack_s (M_ages_L53 n ys ss ws yn m 0 (up2 (M_layAside_s τ) 0 25 ss))) τ := by
  obtain ⟨r, r1, r9, er⟩ := h.2.2.1.2.1.2 hn
  have hT : HW 24 κ (XH_copyFrom_24_10_s κ σ) (up2 (M_layAside_s τ) 0 25 ss) n B := h.2.2.1.1.trial rfl rfl rfl rfl rfl rfl rfl
  obtain ⟨i1, i2, i3, i4, i5⟩ := ages_L (κ := κ) hn r1 r9 m sd ys ss ws yn m 0 sd (XH_copyFrom_24_10_s κ σ) (up2 (M_layAside_s τ) 0 25 ss) B (by omega) hs (by rw [up2_rs, es]) (hc_24_10_price.trans er) (show τ 0 7 = nI r from h.2.2.1.2.1.1.symm.trans er) hT
  refine ⟨i1.mono (by omega), i2, ⟨fun q a b c _ _ _ => (i3 q b c).trans (hc_24_10_other a b c), fun k _ => (congrFun (i3 37 (by decide) (by decide)) k).trans (congrFun (hc_24_10_other (by decide) (by decide) (by decide)) k)⟩, ?_⟩
  generalize M_ages_L53 n ys ss ws yn m 0 (up2 (M_layAside_s τ) 0 25 ss) = R at i4 i5
  refine ⟨fun q a _ c8 c9 _ _ _ _ => ?_, fun k _ _ _ k25 => (i5 k k25).trans (up2_rp k25)⟩
  by_cases e5 : q = 5
  · subst e5; exact i4 9 (by decide) (by decide) (by decide)
  · by_cases e4 : q = 4
    · subst e4; exact i4 8 (by decide) (by decide) (by decide)
    · exact (row_n _ _ e5).trans ((row_n _ _ e4).trans ((i4 q a e4 e5).trans ((up2_n _ _ _ a).trans ((row_n _ _ c9).trans (row_n _ _ c8)))))
theorem L_ages (h : Rel κ σ τ n pm wd pl tm hr B) (hB : B ≤ 700000) (x y z : Int32) : X_ages_r κ σ n x y z = M_ages_r τ n x y z ∧ RelE κ (X_ages_s κ σ n x y z) (M_ages_s τ n x y z) B := by
  have h0 := h.E
  have z0 : (0 : Int32).toInt = 0 := rfl
  have z1 : (1 : Int32).toInt = 1 := rfl
  have z2 : (2 : Int32).toInt = 2 := rfl
  have z40 : (40 : Int32).toInt = 40 := rfl
  have n10 : ¬ ((1 : Int32) = 0) := by decide
  have hin1 : M_in_r x.toInt64 1 40 = if x < 1 then 0 else (if x ≤ 40 then 1 else 0) := M_in_32 x 1 40
  have hin2 : M_in_r z.toInt64 0 2 = if z < 0 then 0 else (if z ≤ 2 then 1 else 0) := M_in_32 z 0 2
  unfold X_ages_r M_ages_r X_ages_s M_ages_s
  rw [hin1, hin2]
  by_cases a1 : x < 1
  · simp only [if_pos a1, if_true]; exact ⟨trivial, h0⟩
  · by_cases a2 : 40 < x
    · have a2' : ¬ x ≤ 40 := fun k => by rw [fa_le] at k; rw [fa_lt] at a2; omega
      simp only [if_neg a1, if_pos a2, if_neg a2', if_true]; exact ⟨trivial, h0⟩
    · have a2' : x ≤ 40 := fa_of_nlt a2
      by_cases a3 : y < 0
      · simp only [if_neg a1, if_neg a2, if_pos a2', if_neg n10, if_pos a3]; exact ⟨trivial, h0⟩
      · by_cases a4 : z < 0
        · simp only [if_neg a1, if_neg a2, if_pos a2', if_neg n10, if_neg a3, if_pos a4, if_true]; exact ⟨trivial, h0⟩
        · by_cases a5 : z ≤ 2
          · rcases hasHills h.2.2.1.1 with ⟨w, e1, e2⟩ | ⟨w, e1, e2⟩
            · have e2' : ¬ M_lacks_r τ = 0 := by rw [e2]; decide
              simp only [if_neg a1, if_neg a2, if_pos a2', if_neg n10, if_neg a3, if_neg a4, if_pos a5, if_pos e1, if_neg e2']; exact ⟨trivial, h0⟩
            · have e1' : ¬ X_hasHills_r κ σ = 0 := by rw [e1]; decide
              have b1 : ¬ x.toInt < 1 := fun k => a1 ((fa_lt _ _).mpr (by omega))
              have b2 := (fa_le _ _).mp a2'
              have b3 : ¬ y.toInt < 0 := fun k => a3 ((fa_lt _ _).mpr (by omega))
              have t1 := tN_toInt (x := x) (by omega)
              have t2 := tN_toInt (x := y) (by omega)
              have t3 := fb_rng y
              obtain ⟨k1, k2, k3, k4⟩ := h.ages hB w x y z (m := x.toNatClampNeg) (sd := y.toNatClampNeg) (by omega) (by omega) (tN_of (by omega)) x.toNatClampNeg
              have q1 := k1.allOwed
              have q2 := k1.allCows
              have hR := (h.agree k3 k4).E
              by_cases c0 : z = 0
              · simp only [if_neg a1, if_neg a2, if_pos a2', if_neg n10, if_neg a3, if_neg a4, if_pos a5, if_neg e1', if_pos e2, if_pos c0]
                exact ⟨q1, hR⟩
              · by_cases c1 : z = 1
                · simp only [if_neg a1, if_neg a2, if_pos a2', if_neg n10, if_neg a3, if_neg a4, if_pos a5, if_neg e1', if_pos e2, if_neg c0, if_pos c1]
                  exact ⟨q2, hR⟩
                · simp only [if_neg a1, if_neg a2, if_pos a2', if_neg n10, if_neg a3, if_neg a4, if_pos a5, if_neg e1', if_pos e2, if_neg c0, if_neg c1]
                  exact ⟨k2.symm, hR⟩
          · simp only [if_neg a1, if_neg a2, if_pos a2', if_neg n10, if_neg a3, if_neg a4, if_neg a5, if_true]; exact ⟨trivial, h0⟩
end AH
