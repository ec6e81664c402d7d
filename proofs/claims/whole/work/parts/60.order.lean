/-! ===== level 2: order ===== -/
section OD
variable {κ : Nat → Nat} {σ τ σ' ρ : Nat → Nat → Int32} {n pl q k i r : Nat} {B : Int} {s t : Int32}
theorem HW.trial (h : HW 10 κ σ τ n B) (x0 : σ' 10 = σ 10) (x1 : σ' 11 = σ 11) (x2 : σ' 12 = σ 12) (y3 : ρ 3 = τ 3) (y4 : ρ 4 = τ 4) (y5 : ρ 5 = τ 5) (y0 : ρ 0 6 = τ 0 6) : HW 24 κ (XH_copyFrom_24_10_s κ σ') ρ n B := by
  obtain ⟨h4, hk, hR, hn, hm⟩ := h
  refine ⟨h4, ?_, ?_, ?_, y0.trans hm⟩
  · rw [y3]; exact hk
  · rw [y4, y5]
    refine hR.congr (fun i hi => ?_) (fun k hk => ?_)
    · exact (hc_24_10_cows i (by omega)).trans (congrFun x1 i)
    · exact (hc_24_10_debts k hk).trans (congrFun x2 k)
  · exact hc_24_10_size.trans ((congrFun x0 3).trans hn)
theorem HW.planStep (h : HW 24 κ σ τ n B) (hB : B ≤ 900000) (hP : RPl n pl s t (σ 38) (σ 39) (τ 7)) (hk : k < pl) (e40 : σ 40 i = nI k) (er : σ 24 4 = nI r) (r1 : 1 ≤ r) (r9 : r < 10) : HW 24 κ (XP_marryInOrder_S2_0 κ pl i σ) (M_marry_s τ ((τ 7 (2 * k)).toNatClampNeg) ((τ 7 (2 * k + 1)).toNatClampNeg) (nI r)) n (B + 20) := by
  obtain ⟨q1, q2, c, d, hc, hd, hcd, y1, y2⟩ := hP.2.2.2 k hk
  have h4 := h.1
  have hp := hP.1
  have c0 : (σ 40 i).toNatClampNeg = k := by rw [e40]; exact nI_clamp (by omega)
  have c1 : (σ 38 k).toNatClampNeg = c := by rw [y1]; exact nI_clamp (by omega)
  have c2 : (σ 39 k).toNatClampNeg = d := by rw [y2]; exact nI_clamp (by omega)
  unfold XP_marryInOrder_S2_0
  rw [q1, q2, c0, c1, c2]
  exact h.marry hB hc hd hcd er r1 r9
theorem HW.orderL {p : Nat → Nat} (hp : ∀ k, k < pl → p k < pl) (r1 : 1 ≤ r) (r9 : r < 10) (a : Nat) (x : Int32) (y : Nat) : ∀ (m i : Nat) (σ τ : Nat → Nat → Int32) (B : Int), i + m = pl → B + 20 * m ≤ 900000 → RPl n pl s t (σ 38) (σ 39) (τ 7) → (∀ k, k < pl → σ 40 k = nI (p k)) → (∀ k, k < pl → τ 10 k = nI (p k)) → σ 24 4 = nI r → τ 0 7 = nI r → HW 24 κ σ τ n B → HW 24 κ (XP_marryInOrder_L2 κ pl m i σ) (M_layOrder_L49 pl a x y m i τ) n (B + 20 * m)
  | 0, i, σ, τ, B, _, _, _, _, _, _, _, h => h.mono (by omega)
  | m + 1, i, σ, τ, B, e, hB, hP, h40, h10, er, er', h => by
    have k10 : (τ 10 i).toNatClampNeg = p i := by rw [h10 i (by omega)]; exact nI_clamp (by have := hp i (by omega); have := hP.1; omega)
    have st := h.planStep (by omega) hP (hp i (by omega)) (h40 i (by omega)) er r1 r9
    have eS : M_layOrder_S49_0 pl a x y i τ = M_marry_s τ ((τ 7 (2 * p i)).toNatClampNeg) ((τ 7 (2 * p i + 1)).toNatClampNeg) (nI r) := by
      unfold M_layOrder_S49_0
      rw [k10, er']
    have o : ∀ q, q ≠ 25 → q ≠ 26 → XP_marryInOrder_S2_0 κ pl i σ q = σ q := fun q a b => XH_marry_other a b
    have o' : ∀ q, q ≠ 4 → q ≠ 5 → M_layOrder_S49_0 pl a x y i τ q = τ q := fun q a b => M_marry_other a b
    rw [← eS] at st
    refine (HW.orderL hp r1 r9 a x y m (i + 1) _ _ (B + 20) (by omega) (by omega) ?_ ?_ ?_ ?_ ?_ st).mono (by omega)
    · rw [o 38 (by decide) (by decide), o 39 (by decide) (by decide), o' 7 (by decide) (by decide)]; exact hP
    · rw [o 40 (by decide) (by decide)]; exact h40
    · rw [o' 10 (by decide) (by decide)]; exact h10
    · rw [o 24 (by decide) (by decide)]; exact er
    · rw [o' 0 (by decide) (by decide)]; exact er'
theorem XP_L2_other (h1 : q ≠ 25) (h2 : q ≠ 26) : ∀ (m i : Nat) (σ : Nat → Nat → Int32), XP_marryInOrder_L2 κ pl m i σ q = σ q
  | 0, _, _ => rfl
  | m + 1, i, σ => (XP_L2_other h1 h2 m (i + 1) (XP_marryInOrder_S2_0 κ pl i σ)).trans (XH_marry_other h1 h2)
theorem XP_mio_other (h1 : q ≠ 25) (h2 : q ≠ 26) : XP_marryInOrder_s κ σ pl q = σ q := XP_L2_other h1 h2 pl 0 σ
theorem M_L49_other (h1 : q ≠ 4) (h2 : q ≠ 5) (a : Nat) (x : Int32) (y : Nat) : ∀ (m i : Nat) (τ : Nat → Nat → Int32), M_layOrder_L49 pl a x y m i τ q = τ q
  | 0, _, _ => rfl
  | m + 1, i, τ => (M_L49_other h1 h2 a x y m (i + 1) (M_layOrder_S49_0 pl a x y i τ)).trans (M_marry_other h1 h2)
/-! which codes are orders -/
def ordL (pl : Nat) : Nat → Nat → Int32 → Int32
  | 0, _, s => s
  | m + 1, x, s => ordL pl m (x / pl) (s ||| (1 <<< ((nI (x % pl)) &&& 31)))
def ordB (pl code : Nat) : Bool := decide (ordL pl pl code 0 = (1 <<< ((nI pl) &&& 31)) - 1)
def digL (pl : Nat) : Nat → Nat → Nat → Nat
  | 0, _, _ => 0
  | m + 1, x, k => if k = m then x % pl else digL pl m (x / pl) k
def ordC : List (List Nat) := [[0], [0], [1, 2], [5, 7, 11, 15, 19, 21], [27, 30, 39, 45, 54, 57, 75, 78, 99, 108, 114, 120, 135, 141, 147, 156, 177, 180, 198, 201, 210, 216, 225, 228]]
def idxO (pl c : Nat) : Nat := ((ordC.getD pl []).filter (fun x => Nat.blt x c)).length
theorem ord_tab : ∀ pl, pl < 5 → ∀ c, c < pl ^ pl → if ordB pl c = true then (idxO pl c < nperm pl ∧ idxO pl (c + 1) = idxO pl c + 1 ∧ ∀ k, k < pl → digL pl pl c k = permT pl (idxO pl c) k ∧ permT pl (idxO pl c) k < pl) else idxO pl (c + 1) = idxO pl c := by decide +kernel
theorem ord_ends : ∀ pl, pl < 5 → idxO pl 0 = 0 ∧ idxO pl (pl ^ pl) = nperm pl ∧ 0 < nperm pl := by decide +kernel
theorem L12_seen (code : Nat) : ∀ (m x : Nat) (y : Int32) (τ : Nat → Nat → Int32), (M_isOrder_L12 pl code m x y τ).2.1 = ordL pl m x y
  | 0, _, _, _ => rfl
  | m + 1, x, y, τ => L12_seen code m (x / pl) _ (M_isOrder_S12_2 pl code m x y τ)
theorem L12_other (code : Nat) (hq : q ≠ 10) : ∀ (m x : Nat) (y : Int32) (τ : Nat → Nat → Int32), (M_isOrder_L12 pl code m x y τ).2.2 q = τ q
  | 0, _, _, _ => rfl
  | m + 1, x, y, τ => (L12_other code hq m (x / pl) _ (M_isOrder_S12_2 pl code m x y τ)).trans (up2_n _ _ _ hq)
theorem L12_row (code : Nat) : ∀ (m x : Nat) (y : Int32) (τ : Nat → Nat → Int32) (k : Nat), (M_isOrder_L12 pl code m x y τ).2.2 10 k = if k < m then nI (digL pl m x k) else τ 10 k
  | 0, _, _, _, _ => (if_neg (Nat.not_lt_zero _)).symm
  | m + 1, x, y, τ, k => by
    refine (L12_row code m (x / pl) _ (M_isOrder_S12_2 pl code m x y τ) k).trans ?_
    show _ = if k < m + 1 then nI (if k = m then x % pl else digL pl m (x / pl) k) else τ 10 k
    by_cases a : k < m
    · rw [if_pos a, if_pos (by omega), if_neg (by omega)]
    · rw [if_neg a]
      by_cases b : k = m
      · rw [if_pos (by omega), if_pos b, b]; exact up2_rs
      · rw [if_neg (by omega)]; exact up2_rp b
theorem isOrder_r_eq (τ : Nat → Nat → Int32) (code : Nat) : M_isOrder_r τ pl code = if ordB pl code = true then 1 else 0 := by
  unfold M_isOrder_r ordB
  rw [L12_seen]
  by_cases a : ordL pl pl code 0 = (1 <<< ((nI pl) &&& 31)) - 1
  · rw [if_pos a, if_pos (decide_eq_true a)]
  · rw [if_neg a, if_neg (fun e => a (of_decide_eq_true e))]
theorem isOrder_other (code : Nat) (hq : q ≠ 10) : M_isOrder_s τ pl code q = τ q := by
  unfold M_isOrder_s
  rw [ite_self]
  exact L12_other code hq _ _ _ _
theorem isOrder_row (code : Nat) (hk : k < pl) : M_isOrder_s τ pl code 10 k = nI (digL pl pl code k) := by
  unfold M_isOrder_s
  rw [ite_self]
  exact (L12_row code _ _ _ _ _).trans (if_pos hk)
theorem codes_eq (τ : Nat → Nat → Int32) : ∀ (m i x : Nat), M_layOrder_L4 τ pl m i x = x * pl ^ m
  | 0, _, x => (Nat.mul_one x).symm
  | m + 1, i, x => (codes_eq τ m (i + 1) (x * pl)).trans (by rw [Nat.mul_assoc, Nat.pow_succ, Nat.mul_comm pl])
/-- the model's table while it tries orders: all but its own rows is as it was, the herds are laid aside -/
def BM (ρ τ : Nat → Nat → Int32) : Prop := (∀ q, q ≠ 8 → q ≠ 9 → q ≠ 10 → q ≠ 11 → ρ q = τ q) ∧ ρ 8 = τ 4 ∧ ρ 9 = τ 5
/-- class and model have tried the first i orders -/
def OR (pl : Nat) (σ τ : Nat → Nat → Int32) (i : Nat) (σ' ρ : Nat → Nat → Int32) (x : Int32) : Prop :=
  AgX σ' σ ∧ (i < nperm pl → σ' 40 = permRow pl i) ∧ BM ρ τ ∧ (i = 0 → x = -1) ∧ (0 < i → 0 ≤ x.toInt ∧ σ' 37 5 = x ∧ ∀ k, k < pl → σ' 41 k = ρ 11 k)
theorem layBack_BM (h8 : ρ 8 = τ 4) (h9 : ρ 9 = τ 5) (h : ∀ q, q ≠ 4 → q ≠ 5 → q ≠ 8 → q ≠ 9 → q ≠ 10 → q ≠ 11 → ρ q = τ q) : BM (M_layBack_s ρ) τ := by
  refine ⟨fun q a b c d => ?_, h8, h9⟩
  by_cases e5 : q = 5
  · subst e5; exact h9
  · by_cases e4 : q = 4
    · subst e4; exact h8
    · exact (row_n _ _ e5).trans ((row_n _ _ e4).trans (h q e4 e5 a b c d))
theorem OR.step (hW : HW 10 κ σ τ n B) (hB : B ≤ 800000) (hP : RPl n pl s t (σ 38) (σ 39) (τ 7)) (er : σ 10 4 = nI r) (er' : τ 0 7 = nI r) (r1 : 1 ≤ r) (r9 : r < 10) {x : Int32} {c y z : Nat} (hc : c < pl ^ pl) (ho : ordB pl c = true)
    (h : OR pl σ τ (idxO pl c) σ' ρ x) : OR pl σ τ (idxO pl c + 1) (XP_findOrder_S9_0 κ pl n y (idxO pl c) σ') (M_layOrder_S33_1 pl z c x ρ) (M_layOrder_S33_0 pl z c x ρ) := by
  obtain ⟨hX, h40, hM, hx0, hx1⟩ := h
  have hpl := hP.1
  have tab := ord_tab pl (by omega) c hc
  rw [if_pos ho] at tab
  obtain ⟨t1, t2, t3⟩ := tab
  have e40 := h40 t1
  have io : ¬ M_isOrder_r ρ pl c = 0 := by rw [isOrder_r_eq, if_pos ho]; decide
  generalize hi : idxO pl c = i at t1 t2 t3 e40 hx0 hx1 h40
  have m3 : M_isOrder_s ρ pl c 3 = τ 3 := (isOrder_other c (by decide)).trans (hM.1 3 (by decide) (by decide) (by decide) (by decide))
  have m4 : M_isOrder_s ρ pl c 4 = τ 4 := (isOrder_other c (by decide)).trans (hM.1 4 (by decide) (by decide) (by decide) (by decide))
  have m5 : M_isOrder_s ρ pl c 5 = τ 5 := (isOrder_other c (by decide)).trans (hM.1 5 (by decide) (by decide) (by decide) (by decide))
  have m7 : M_isOrder_s ρ pl c 7 = τ 7 := (isOrder_other c (by decide)).trans (hM.1 7 (by decide) (by decide) (by decide) (by decide))
  have m0 : M_isOrder_s ρ pl c 0 = τ 0 := (isOrder_other c (by decide)).trans (hM.1 0 (by decide) (by decide) (by decide) (by decide))
  have m8 : M_isOrder_s ρ pl c 8 = τ 4 := (isOrder_other c (by decide)).trans hM.2.1
  have m9 : M_isOrder_s ρ pl c 9 = τ 5 := (isOrder_other c (by decide)).trans hM.2.2
  have a10 := hX.1 10 (by decide) (by decide) (by decide) (by decide) (by decide) (by decide)
  have a11 := hX.1 11 (by decide) (by decide) (by decide) (by decide) (by decide) (by decide)
  have a12 := hX.1 12 (by decide) (by decide) (by decide) (by decide) (by decide) (by decide)
  have c38 : XH_copyFrom_24_10_s κ σ' 38 = σ 38 := (hc_24_10_other (by decide) (by decide) (by decide)).trans (hX.1 38 (by decide) (by decide) (by decide) (by decide) (by decide) (by decide))
  have c39 : XH_copyFrom_24_10_s κ σ' 39 = σ 39 := (hc_24_10_other (by decide) (by decide) (by decide)).trans (hX.1 39 (by decide) (by decide) (by decide) (by decide) (by decide) (by decide))
  have c40 : XH_copyFrom_24_10_s κ σ' 40 = permRow pl i := (hc_24_10_other (by decide) (by decide) (by decide)).trans e40
  have hT : HW 24 κ (XH_copyFrom_24_10_s κ σ') (M_isOrder_s ρ pl c) n B := hW.trial a10 a11 a12 m3 m4 m5 (by rw [m0])
  have hO := HW.orderL (p := permT pl i) (κ := κ) (s := s) (t := t) (fun k hk => (t3 k hk).2) r1 r9 c x z pl 0 (XH_copyFrom_24_10_s κ σ') (M_isOrder_s ρ pl c) B (by omega) (by omega) (by rw [c38, c39, m7]; exact hP) (fun k hk => by rw [c40]; rfl) (fun k hk => by rw [isOrder_row c hk, (t3 k hk).1]) (by rw [hc_24_10_price, a10]; exact er) (by rw [m0]; exact er') hT
  have g : ∀ q, q ≠ 24 → q ≠ 25 → q ≠ 26 → XP_marryInOrder_s κ (XH_copyFrom_24_10_s κ σ') pl q = σ' q := fun q q0 q1 q2 => (XP_mio_other q1 q2).trans (hc_24_10_other q0 q1 q2)
  have g' : ∀ q, q ≠ 4 → q ≠ 5 → q ≠ 10 → M_layOrder_L49 pl c x z pl 0 (M_isOrder_s ρ pl c) q = ρ q := fun q q0 q1 q2 => (M_L49_other q0 q1 c x z pl 0 _).trans (isOrder_other c q2)
  have g10 : ∀ k, k < pl → M_layOrder_L49 pl c x z pl 0 (M_isOrder_s ρ pl c) 10 k = nI (permT pl i k) := fun k hk => by
    rw [M_L49_other (by decide) (by decide) c x z pl 0 _, isOrder_row c hk, (t3 k hk).1]
  have hw := hO.allOwed
  have hw0 := hO.owedAll_pos (by omega)
  change HW 24 κ (XP_marryInOrder_s κ (XH_copyFrom_24_10_s κ σ') pl) (M_layOrder_L49 pl c x z pl 0 (M_isOrder_s ρ pl c)) n _ at hO
  change XH_allOwed_r 24 κ (XP_marryInOrder_s κ (XH_copyFrom_24_10_s κ σ') pl) n = M_owedAll_r (M_layOrder_L49 pl c x z pl 0 (M_isOrder_s ρ pl c)) at hw
  unfold XP_findOrder_S9_0 M_layOrder_S33_0 M_layOrder_S33_1
  rw [if_neg io, if_neg io, hw]
  generalize XP_marryInOrder_s κ (XH_copyFrom_24_10_s κ σ') pl = T at g hw hO
  generalize M_layOrder_L49 pl c x z pl 0 (M_isOrder_s ρ pl c) = R at g' g10 hw hO hw0
  have r8 : R 8 = τ 4 := (g' 8 (by decide) (by decide) (by decide)).trans hM.2.1
  have r9' : R 9 = τ 5 := (g' 9 (by decide) (by decide) (by decide)).trans hM.2.2
  have nx : i + 1 < nperm pl → nextI pl i = i + 1 := fun k => if_pos k
  have take : OR pl σ τ (i + 1) (row (row (up2 T 37 5 (M_owedAll_r R)) 41 ((up2 T 37 5 (M_owedAll_r R)) 40)) 40 (permRow pl (nextI pl i))) (M_layBack_s (row R 11 (R 10))) (M_owedAll_r R) := by
    refine ⟨⟨fun q b1 b2 b3 b4 b5 b6 => ?_, fun k hk => ?_⟩, fun k => ?_, ?_, fun k => absurd k (by omega), fun _ => ⟨hw0, ?_, fun k hk => ?_⟩⟩
    · rw [row_n _ _ b5, row_n _ _ b6, up2_n _ _ _ b4, g q b1 b2 b3]; exact hX.1 q b1 b2 b3 b4 b5 b6
    · rw [row_n _ _ (show 37 ≠ 40 by decide), row_n _ _ (show 37 ≠ 41 by decide), up2_rp hk, g 37 (by decide) (by decide) (by decide)]; exact hX.2 k hk
    · rw [row_s, nx k]
    · refine layBack_BM ((row_n _ _ (by decide)).trans r8) ((row_n _ _ (by decide)).trans r9') (fun q b4 b5 b8 b9 b10 b11 => ?_)
      rw [row_n _ _ b11, g' q b4 b5 b10]; exact hM.1 q b8 b9 b10 b11
    · rw [row_n _ _ (show 37 ≠ 40 by decide), row_n _ _ (show 37 ≠ 41 by decide), up2_rs]
    · rw [row_n _ _ (show 41 ≠ 40 by decide), row_s, up2_n _ _ _ (show 40 ≠ 37 by decide), g 40 (by decide) (by decide) (by decide), e40]
      exact (g10 k hk).symm
  have keep : 0 < i → OR pl σ τ (i + 1) (row T 40 (permRow pl (nextI pl i))) (M_layBack_s R) x := by
    intro hi0
    obtain ⟨k1, k2, k3⟩ := hx1 hi0
    refine ⟨⟨fun q b1 b2 b3 b4 b5 b6 => ?_, fun k hk => ?_⟩, fun k => ?_, ?_, fun k => absurd k (by omega), fun _ => ⟨k1, ?_, fun k hk => ?_⟩⟩
    · rw [row_n _ _ b5, g q b1 b2 b3]; exact hX.1 q b1 b2 b3 b4 b5 b6
    · rw [row_n _ _ (show 37 ≠ 40 by decide), g 37 (by decide) (by decide) (by decide)]; exact hX.2 k hk
    · rw [row_s, nx k]
    · exact layBack_BM r8 r9' (fun q b4 b5 b8 b9 b10 b11 => (g' q b4 b5 b10).trans (hM.1 q b8 b9 b10 b11))
    · rw [row_n _ _ (show 37 ≠ 40 by decide), g 37 (by decide) (by decide) (by decide)]; exact k2
    · rw [row_n _ _ (show 41 ≠ 40 by decide), g 41 (by decide) (by decide) (by decide)]
      refine (k3 k hk).trans ?_
      exact (congrFun (g' 11 (by decide) (by decide) (by decide)) k).symm
  by_cases i0 : i = 0
  · rw [if_pos i0, if_pos (hx0 i0), if_pos (hx0 i0)]
    exact take
  · have ip : 0 < i := Nat.pos_of_ne_zero i0
    obtain ⟨k1, k2, k3⟩ := hx1 ip
    have xn : ¬ x = -1 := fun e => by
      rw [e] at k1; exact absurd k1 (by decide)
    rw [if_neg i0, if_neg xn, if_neg xn, k2]
    by_cases w : x ≤ M_owedAll_r R
    · rw [if_pos w, if_pos w, if_pos w]; exact keep ip
    · rw [if_neg w, if_neg w, if_neg w]; exact take
theorem OR.loop (hW : HW 10 κ σ τ n B) (hB : B ≤ 800000) (hP : RPl n pl s t (σ 38) (σ 39) (τ 7)) (er : σ 10 4 = nI r) (er' : τ 0 7 = nI r) (r1 : 1 ≤ r) (r9 : r < 10) (y z : Nat) : ∀ (m c : Nat) (σ' ρ : Nat → Nat → Int32) (x : Int32), c + m = pl ^ pl → OR pl σ τ (idxO pl c) σ' ρ x →
    OR pl σ τ (nperm pl) (XP_findOrder_L9 κ pl n y (nperm pl - idxO pl c) (idxO pl c) σ') (M_layOrder_L33 pl z m c x ρ).2 (M_layOrder_L33 pl z m c x ρ).1
  | 0, c, σ', ρ, x, e, h => by
    have e1 : idxO pl c = nperm pl := by
      rw [show c = pl ^ pl by omega]
      exact (ord_ends pl (by have := hP.1; omega)).2.1
    rw [e1] at h
    rw [e1, Nat.sub_self]
    exact h
  | m + 1, c, σ', ρ, x, e, h => by
    have tab := ord_tab pl (by have := hP.1; omega) c (by omega)
    by_cases ho : ordB pl c = true
    · rw [if_pos ho] at tab
      have st := OR.step (y := y) (z := z) hW hB hP er er' r1 r9 (c := c) (by omega) ho h
      rw [← tab.2.1] at st
      have ih := OR.loop hW hB hP er er' r1 r9 y z m (c + 1) _ _ _ (by omega) st
      rw [show nperm pl - idxO pl c = (nperm pl - idxO pl (c + 1)) + 1 by have := tab.1; have := tab.2.1; omega]
      rw [tab.2.1] at ih ⊢
      exact ih
    · rw [if_neg ho] at tab
      have io : M_isOrder_r ρ pl c = 0 := by rw [isOrder_r_eq, if_neg ho]
      have s0 : M_layOrder_S33_0 pl z c x ρ = x := if_pos io
      have s1 : M_layOrder_S33_1 pl z c x ρ = M_isOrder_s ρ pl c := if_pos io
      have st : OR pl σ τ (idxO pl (c + 1)) σ' (M_layOrder_S33_1 pl z c x ρ) (M_layOrder_S33_0 pl z c x ρ) := by
        rw [tab, s0, s1]
        obtain ⟨hX, h40, hM, hx0, hx1⟩ := h
        refine ⟨hX, h40, ⟨fun q b8 b9 b10 b11 => (isOrder_other c b10).trans (hM.1 q b8 b9 b10 b11), (isOrder_other c (by decide)).trans hM.2.1, (isOrder_other c (by decide)).trans hM.2.2⟩, hx0, fun k => ?_⟩
        obtain ⟨k1, k2, k3⟩ := hx1 k
        exact ⟨k1, k2, fun k hk => (k3 k hk).trans (congrFun (isOrder_other c (by decide)) k).symm⟩
      have ih := OR.loop hW hB hP er er' r1 r9 y z m (c + 1) σ' _ _ (by omega) st
      rw [tab] at ih
      exact ih
theorem order_main (hW : HW 10 κ σ τ n B) (hB : B ≤ 800000) (hP : RPl n pl s t (σ 38) (σ 39) (τ 7)) (er : σ 10 4 = nI r) (er' : τ 0 7 = nI r) (r1 : 1 ≤ r) (r9 : r < 10) :
    AgX (XP_findOrder_s κ σ pl n) σ ∧ AgM (M_layOrder_s τ pl) τ ∧ XP_findOrder_s κ σ pl n 37 5 = M_layOrder_r τ pl ∧ ∀ k, k < pl → XP_findOrder_s κ σ pl n 41 k = M_layOrder_s τ pl 11 k := by
  have hpl := hP.1
  obtain ⟨o1, o2, o3⟩ := ord_ends pl (by omega)
  have h0 : OR pl σ τ (idxO pl 0) (row σ 40 (permRow pl 0)) (M_layAside_s τ) (-1) := by
    rw [o1]
    refine ⟨⟨fun q _ _ _ _ b5 _ => row_n _ _ b5, fun k _ => rfl⟩, fun _ => row_s _ _ _, ⟨fun q b8 b9 _ _ => (row_n _ _ b9).trans (row_n _ _ b8), rfl, rfl⟩, fun _ => rfl, fun k => absurd k (by omega)⟩
  have hL := OR.loop hW hB hP er er' r1 r9 (moreN pl 0) (M_layOrder_L4 τ pl pl 0 1) (pl ^ pl) 0 _ _ _ (by omega) h0
  rw [o1, Nat.sub_zero] at hL
  have ec : M_layOrder_L4 τ pl pl 0 1 = pl ^ pl := (codes_eq τ pl 0 1).trans (Nat.one_mul _)
  have e1 : M_layOrder_r τ pl = (M_layOrder_L33 pl (M_layOrder_L4 τ pl pl 0 1) (pl ^ pl) 0 (-1) (M_layAside_s τ)).1 := by unfold M_layOrder_r; rw [ec]
  have e2 : M_layOrder_s τ pl = (M_layOrder_L33 pl (M_layOrder_L4 τ pl pl 0 1) (pl ^ pl) 0 (-1) (M_layAside_s τ)).2 := by unfold M_layOrder_s; rw [ec]
  rw [← e1, ← e2] at hL
  obtain ⟨hX, _, hM, _, hx1⟩ := hL
  obtain ⟨k1, k2, k3⟩ := hx1 o3
  exact ⟨hX, ⟨fun q _ _ b8 b9 b10 b11 _ _ => hM.1 q b8 b9 b10 b11, fun k _ _ _ _ => congrFun (hM.1 0 (by decide) (by decide) (by decide) (by decide)) k⟩, k2, k3⟩
end OD
section OE
variable {κ : Nat → Nat} {σ τ : Nat → Nat → Int32} {n pm wd pl tm hr : Nat} {B : Int}
theorem Rel.order (h : Rel κ σ τ n pm wd pl tm hr B) (hB : B ≤ 800000) (hn : 0 < n) : AgX (XP_findOrder_s κ σ pl n) σ ∧ AgM (M_layOrder_s τ pl) τ ∧ XP_findOrder_s κ σ pl n 37 5 = M_layOrder_r τ pl ∧ ∀ k, k < pl → XP_findOrder_s κ σ pl n 41 k = M_layOrder_s τ pl 11 k := by
  obtain ⟨r, r1, r9, er⟩ := h.2.2.1.2.1.2 hn
  exact order_main h.2.2.1.1 hB h.2.2.1.2.2.2.1 er (h.2.2.1.2.1.1.symm.trans er) r1 r9
theorem orderOf_s_eq (τ : Nat → Nat → Int32) (pl w : Nat) : M_orderOf_s τ pl w = M_layOrder_s τ pl := by
  unfold M_orderOf_s
  rw [ite_self, ite_self]
/-- the so-manieth plan -/
theorem bestAt_eq {ρ σ' : Nat → Nat → Int32} (h4 : pl ≤ 4) (h : ∀ k, k < pl → σ' 41 k = ρ 11 k) {v : Nat} (hv : v < 4) : XP_bestAt_r κ σ' pl (nI v) = if pl ≤ v then (-1) else ρ 11 v := by
  unfold XP_bestAt_r
  rw [if_neg (nI_pos (by omega)), nI_clamp (by omega)]
  by_cases a : pl ≤ v
  · rw [if_pos a, if_pos (nI_le a (by omega))]
  · rw [if_neg a, if_neg (nI_ge (by omega) (by omega))]; exact h v (by omega)
theorem L_order (h : Rel κ σ τ n pm wd pl tm hr B) (hB : B ≤ 800000) (c : Int32) : X_order_r κ σ pl n c = M_order_r τ pl c ∧ RelE κ (X_order_s κ σ pl n c) (M_order_s τ pl c) B := by
  have h0 := h.E
  have z0 : (0 : Int32).toInt = 0 := rfl
  have z1 : (10 : Int32).toInt = 10 := rfl
  have z2 : (13 : Int32).toInt = 13 := rfl
  have z3 : (14 : Int32).toInt = 14 := rfl
  have hin : M_in_r c.toInt64 10 13 = if c < 10 then 0 else (if c ≤ 13 then 1 else 0) := M_in_32 c 10 13
  unfold X_order_r M_order_r X_order_s M_order_s
  rw [hin, orderOf_s_eq, orderOf_s_eq]
  by_cases b : c < 10
  · by_cases c0 : c = 0
    · rcases hasHills h.2.2.1.1 with ⟨w, e1, e2⟩ | ⟨w, e1, e2⟩
      · have e2' : ¬ M_lacks_r τ = 0 := by rw [e2]; decide
        simp only [if_pos b, if_pos c0, if_pos e1, if_neg e2']
        exact ⟨trivial, h0⟩
      · have e1' : ¬ X_hasHills_r κ σ = 0 := by rw [e1]; decide
        simp only [if_pos b, if_pos c0, if_neg e1', if_pos e2]
        obtain ⟨k1, k2, k3, k4⟩ := h.order hB w
        exact ⟨k3.trans (if_pos rfl).symm, (h.agree k1 k2).E⟩
    · simp only [if_pos b, if_neg c0, if_true]
      exact ⟨trivial, h0⟩
  · have c0 : ¬ c = 0 := fun e => b (by rw [e]; decide)
    by_cases b2 : 14 ≤ c
    · have b3 : ¬ c ≤ 13 := fun k => by rw [fa_le] at k b2; omega
      simp only [if_neg b, if_pos b2, if_neg c0, if_neg b3, if_true]
      exact ⟨trivial, h0⟩
    · have b3 : c ≤ 13 := (fa_le _ _).mpr (by rw [fa_le] at b2; omega)
      rcases hasHills h.2.2.1.1 with ⟨w, e1, e2⟩ | ⟨w, e1, e2⟩
      · have e2' : ¬ M_lacks_r τ = 0 := by rw [e2]; decide
        simp only [if_neg b, if_neg b2, if_neg c0, if_pos b3, if_neg (show ¬ ((1 : Int32) = 0) by decide), if_pos e1, if_neg e2']
        exact ⟨trivial, h0⟩
      · have e1' : ¬ X_hasHills_r κ σ = 0 := by rw [e1]; decide
        simp only [if_neg b, if_neg b2, if_neg c0, if_pos b3, if_neg (show ¬ ((1 : Int32) = 0) by decide), if_neg e1', if_pos e2]
        obtain ⟨k1, k2, k3, k4⟩ := h.order hB w
        refine ⟨?_, (h.agree k1 k2).E⟩
        have b' : ¬ c.toInt < 10 := fun k => b ((fa_lt _ _).mpr (by omega))
        have b3' := (fa_le _ _).mp b3
        have t := tN_toInt (x := c) (by omega)
        have ey := tN_of (x := c) (by omega)
        have ec : c - 10 = nI (c.toNatClampNeg - 10) := by
          rw [ey, nI_clamp (by omega)]
          exact pk_sub (b := 10) (by omega)
        rw [ec, bestAt_eq h.2.2.1.2.2.2.1.1 k4 (by omega)]
        unfold M_orderOf_r
        rw [if_neg (show ¬ c.toNatClampNeg = 0 by omega)]
end OE
