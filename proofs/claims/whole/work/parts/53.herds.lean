/-! ===== level 2: herds and debts, row by row ===== -/
def sumI (f : Nat → Int32) (n : Nat) : Int := fb_si (fun k => (f k).toInt) n
theorem sumI_upd (f : Nat → Int32) (x : Int32) {i n : Nat} (h : i < n) : sumI (upd f i x) n = sumI f n - (f i).toInt + x.toInt := by
  unfold sumI
  rw [← fb_si_upd (fun k => (f k).toInt) x.toInt h]
  refine fb_si_cong (fun k _ => ?_)
  by_cases e : k = i
  · subst e; rw [if_pos rfl]; exact congrArg Int32.toInt pk_us
  · rw [if_neg e]; exact congrArg Int32.toInt (pk_un e)
theorem sumI_cong {f g : Nat → Int32} {n : Nat} (h : ∀ k, k < n → f k = g k) : sumI f n = sumI g n := fb_si_cong (fun k hk => congrArg Int32.toInt (h k hk))
theorem sumI_pos {f : Nat → Int32} : ∀ {n : Nat}, (∀ k, k < n → 0 ≤ (f k).toInt) → 0 ≤ sumI f n
  | 0, _ => Int.le_refl 0
  | n + 1, h => by
    have h1 := sumI_pos (f := f) (n := n) (fun k hk => h k (by omega))
    have h2 := h n (by omega)
    show 0 ≤ sumI f n + (f n).toInt
    omega
theorem sumI_two {f : Nat → Int32} {n c d : Nat} (h : ∀ k, k < n → 0 ≤ (f k).toInt) (hc : c < n) (hd : d < n) (hcd : c ≠ d) : (f c).toInt + (f d).toInt ≤ sumI f n := by
  have h1 := sumI_upd f 0 hc
  have h2 := sumI_upd (upd f c 0) 0 hd
  rw [pk_un (Ne.symm hcd)] at h2
  have e0 : (0 : Int32).toInt = 0 := rfl
  have h3 : 0 ≤ sumI (upd (upd f c 0) d 0) n := sumI_pos (fun k hk => by
    by_cases e : k = d
    · subst e; rw [pk_us]; exact Int.le_refl 0
    · rw [pk_un e]
      by_cases e2 : k = c
      · subst e2; rw [pk_us]; exact Int.le_refl 0
      · rw [pk_un e2]; exact h k hk)
  omega
theorem sumI_one {f : Nat → Int32} {n c : Nat} (h : ∀ k, k < n → 0 ≤ (f k).toInt) (hc : c < n) : (f c).toInt ≤ sumI f n := by
  have h1 := sumI_upd f 0 hc
  have e0 : (0 : Int32).toInt = 0 := rfl
  have h3 : 0 ≤ sumI (upd f c 0) n := sumI_pos (fun k hk => by
    by_cases e2 : k = c
    · subst e2; rw [pk_us]; exact Int.le_refl 0
    · rw [pk_un e2]; exact h k hk)
  omega
/-- the class's herds f, debts g and the model's f', g' are the same; no herd is negative, their sum and each debt at most B, nobody owes himself -/
def RHd (n : Nat) (B : Int) (f g f' g' : Nat → Int32) : Prop :=
  (∀ i, i < n → f i = f' i ∧ 0 ≤ (f i).toInt) ∧ sumI f n ≤ B ∧ ∀ k, k < 16 → g k = g' k ∧ 0 ≤ (g k).toInt ∧ (g k).toInt ≤ B ∧ ((n ≤ k / 4 ∨ n ≤ k % 4 ∨ k / 4 = k % 4) → g k = 0)
theorem RHd.mono {n : Nat} {B B' : Int} {f g f' g' : Nat → Int32} (h : RHd n B f g f' g') (hB : B ≤ B') : RHd n B' f g f' g' := by
  obtain ⟨hf, hs, hg⟩ := h
  exact ⟨hf, by omega, fun k hk => ⟨(hg k hk).1, (hg k hk).2.1, by have := (hg k hk).2.2.1; omega, (hg k hk).2.2.2⟩⟩
theorem RHd.congr {n : Nat} {B : Int} {f g f' g' f2 g2 : Nat → Int32} (h : RHd n B f g f' g') (h1 : ∀ i, i < n → f2 i = f i) (h2 : ∀ k, k < 16 → g2 k = g k) : RHd n B f2 g2 f' g' := by
  obtain ⟨hf, hs, hg⟩ := h
  refine ⟨fun i hi => ?_, ?_, fun k hk => ?_⟩
  · rw [h1 i hi]; exact hf i hi
  · rw [sumI_cong h1]; exact hs
  · rw [h2 k hk]; exact hg k hk
theorem RHd.congrM {n : Nat} {B : Int} {f g f' g' f2 g2 : Nat → Int32} (h : RHd n B f g f' g') (h1 : ∀ i, i < n → f2 i = f' i) (h2 : ∀ k, k < 16 → g2 k = g' k) : RHd n B f g f2 g2 := by
  obtain ⟨hf, hs, hg⟩ := h
  refine ⟨fun i hi => ?_, hs, fun k hk => ?_⟩
  · rw [h1 i hi]; exact hf i hi
  · rw [h2 k hk]; exact hg k hk
theorem RHd.move {n c d : Nat} {B B' : Int} {f g f' g' : Nat → Int32} (h : RHd n B f g f' g') (hB1 : B ≤ B') (hB : B' ≤ 1000000) (hc : c < n) (hd : d < n) (hcd : c ≠ d) (h4 : n ≤ 4) {led x : Int32} (h0 : 0 ≤ led.toInt) (h1 : led.toInt ≤ (f c).toInt) (hx0 : 0 ≤ x.toInt) (hx1 : x.toInt ≤ B') :
    RHd n B' (upd (upd f c (f c - led)) d (upd f c (f c - led) d + led)) (upd g (4 * c + d) x) (upd (upd f' c (f' c - led)) d (upd f' c (f' c - led) d + led)) (upd g' (4 * c + d) x) := by
  obtain ⟨hf, hs, hg⟩ := h
  have hfc := hf c hc
  have hfd := hf d hd
  have h2 := sumI_two (fun k hk => (hf k hk).2) hc hd hcd
  have r1 := fb_rng (f c)
  have ec : (f c - led).toInt = (f c).toInt - led.toInt := fb_subI (by omega) (by omega)
  have ed : (f d + led).toInt = (f d).toInt + led.toInt := fb_addI (by omega) (by omega)
  have q1 : upd f c (f c - led) d = f d := pk_un (Ne.symm hcd)
  have q2 : upd f' c (f' c - led) d = f' d := pk_un (Ne.symm hcd)
  rw [q1, q2, ← hfc.1, ← hfd.1]
  refine ⟨fun i hi => ?_, ?_, fun k hk => ?_⟩
  · by_cases e : i = d
    · subst e; rw [pk_us, pk_us]; exact ⟨rfl, by omega⟩
    · rw [pk_un e, pk_un e]
      by_cases e2 : i = c
      · subst e2; rw [pk_us, pk_us]; exact ⟨rfl, by omega⟩
      · rw [pk_un e2, pk_un e2]; exact hf i hi
  · rw [sumI_upd _ _ hd, sumI_upd _ _ hc, q1, ec, ed]; omega
  · by_cases e : k = 4 * c + d
    · subst e; rw [pk_us, pk_us]; exact ⟨rfl, hx0, hx1, fun q => absurd q (by omega)⟩
    · rw [pk_un e, pk_un e]
      have := hg k hk
      exact ⟨this.1, this.2.1, by omega, this.2.2.2⟩
theorem RHd.set {n i : Nat} {B : Int} {f g f' g' : Nat → Int32} (h : RHd n B f g f' g') (hi : i < n) {x : Int32} (h0 : 0 ≤ x.toInt) (h1 : x.toInt ≤ (f i).toInt + 99) : RHd n (B + 99) (upd f i x) g (upd f' i x) g' := by
  obtain ⟨hf, hs, hg⟩ := h
  refine ⟨fun j hj => ?_, ?_, fun k hk => ?_⟩
  · by_cases e : j = i
    · subst e; rw [pk_us, pk_us]; exact ⟨rfl, h0⟩
    · rw [pk_un e, pk_un e]; exact hf j hj
  · rw [sumI_upd _ _ hi]; omega
  · have := hg k hk
    exact ⟨this.1, this.2.1, by omega, this.2.2.2⟩
/-! what a clan spares, asks, grows -/
theorem spares_other (x : Int32) : ∀ k : Nat, k ≠ 3 → X_spares k x = x
  | 0, _ => rfl
  | 1, _ => rfl
  | 2, _ => rfl
  | 3, h => absurd rfl h
  | _ + 4, _ => rfl
theorem spares_spec {k : Nat} (hk : k < 5) {x : Int32} (h0 : 0 ≤ x.toInt) : (if nI k = 3 then (if x ≤ 1 then (0 : Int32) else x - 1) else (if x ≤ 0 then 0 else x - 0)) = X_spares k x ∧ 0 ≤ (X_spares k x).toInt ∧ (X_spares k x).toInt ≤ x.toInt := by
  have z0 : (0 : Int32).toInt = 0 := rfl
  have z1 : (1 : Int32).toInt = 1 := rfl
  have hr := fb_rng x
  have e1 : 0 < x.toInt → (x - 1).toInt = x.toInt - 1 := fun q => by rw [fb_subI (by omega) (by omega)]; omega
  by_cases h3 : k = 3
  · subst h3
    rw [if_pos (show nI 3 = 3 from rfl)]
    show (if x ≤ 1 then (0 : Int32) else x - 1) = (if x ≤ 0 then (0 : Int32) else x - 1) ∧ 0 ≤ (if x ≤ 0 then (0 : Int32) else x - 1).toInt ∧ (if x ≤ 0 then (0 : Int32) else x - 1).toInt ≤ x.toInt
    by_cases a : x ≤ 0
    · have a' := (fa_le _ _).mp a
      have a2 : x ≤ 1 := (fa_le _ _).mpr (by omega)
      rw [if_pos a, if_pos a2]; exact ⟨rfl, by omega, by omega⟩
    · have a' : ¬ x.toInt ≤ 0 := fun q => a ((fa_le _ _).mpr (by omega))
      have e1' := e1 (by omega)
      rw [if_neg a]
      refine ⟨?_, by omega, by omega⟩
      by_cases b : x ≤ 1
      · have b' := (fa_le _ _).mp b
        rw [if_pos b, fa_eq]; omega
      · rw [if_neg b]
  · have e3 := spares_other x k h3
    rw [if_neg (show ¬ nI k = 3 from fun q => h3 ((nI_eq (b := 3) (by omega) (by decide)).mp q)), e3]
    refine ⟨?_, h0, Int.le_refl _⟩
    by_cases a : x ≤ 0
    · have a' := (fa_le _ _).mp a
      rw [if_pos a, fa_eq]; omega
    · rw [if_neg a, Int32.sub_zero]
theorem asks_tab : ∀ k, k < 5 → ∀ r, r < 10 → 1 ≤ r → X_asks k (nI r) = nI (asksN k r) := by decide +kernel
theorem asks_spec {k r : Nat} (hk : k < 5) (h1 : 1 ≤ r) (h2 : r < 10) : X_asks k (nI r) = M_asksBy_r (nI k) (nI r) ∧ X_asks k (nI r) = nI (asksN k r) ∧ asksN k r ≤ 20 := by
  have a := asks_tab k hk r h2 h1
  have b := M_asksBy_tab k hk r h2 h1
  exact ⟨a.trans b.1.symm, a, by omega⟩
def grownN (v : Nat) : Nat := if v ≤ 99 then (if v + v / 2 ≤ 99 then v + v / 2 else 99) else v
theorem grown_X {v : Nat} (h : v < 2 ^ 29) : XH_grown_r (nI v) = nI (grownN v) := by
  unfold XH_grown_r grownN
  rw [show (2 : Int32) = nI 2 from rfl, show (99 : Int32) = nI 99 from rfl, pk_div (by omega) (by decide) (by decide), nI_add]
  by_cases a : v + v / 2 < 99
  · rw [if_pos (nI_lt a (by decide))]
    by_cases b : v < v + v / 2
    · rw [if_pos (nI_lt b (by omega)), if_pos (by omega), if_pos (by omega)]
    · rw [if_neg (nI_nlt (by omega) (by omega)), if_pos (by omega), if_pos (by omega)]
      exact congrArg nI (by omega)
  · rw [if_neg (nI_nlt (by omega) (by omega))]
    by_cases b : v < 99
    · rw [if_pos (nI_lt b (by decide)), if_pos (by omega)]
      by_cases c : v + v / 2 ≤ 99
      · rw [if_pos c]; exact congrArg nI (by omega)
      · rw [if_neg c]
    · rw [if_neg (nI_nlt (by omega) (by omega))]
      by_cases c : v ≤ 99
      · rw [if_pos c]
        by_cases d : v + v / 2 ≤ 99
        · omega
        · rw [if_neg d]; exact congrArg nI (by omega)
      · rw [if_neg c]
theorem grown_M {v : Nat} (h : v < 2 ^ 29) (τ : Nat → Nat → Int32) (n i : Nat) (e : τ 4 i = nI v) : M_passYear_S2_0 n i τ = up2 τ 4 i (nI (grownN v)) := by
  unfold M_passYear_S2_0 grownN
  rw [e, show (2 : Int32) = nI 2 from rfl, show (99 : Int32) = nI 99 from rfl, pk_div (by omega) (by decide) (by decide), nI_add]
  by_cases a : v ≤ 99
  · rw [if_pos a, if_pos (nI_le a (by decide))]
    by_cases b : v + v / 2 ≤ 99
    · rw [if_pos b, if_pos (nI_le b (by decide))]
    · rw [if_neg b, if_neg (nI_ge (by omega) (by omega))]
  · rw [if_neg a, if_neg (nI_ge (by omega) (by omega))]
theorem grownN_le (v : Nat) : grownN v ≤ v + 99 := by
  unfold grownN
  by_cases a : v ≤ 99
  · rw [if_pos a]
    by_cases b : v + v / 2 ≤ 99
    · rw [if_pos b]; omega
    · rw [if_neg b]; omega
  · rw [if_neg a]; omega
/-! who is a clan -/
theorem isClan_tab : ∀ n, n < 5 → ∀ i, i < 4 → M_in_r (nI i).toInt64 0 ((nI n - 1).toInt64) = if i < n then 1 else 0 := by decide +kernel
theorem isClan_nat {τ : Nat → Nat → Int32} {n i : Nat} (hn : τ 0 6 = nI n) (h4 : n ≤ 4) (hi : i < 4) : M_isClan_r τ (nI i) = if i < n then 1 else 0 := by
  unfold M_isClan_r
  rw [hn]
  exact isClan_tab n (by omega) i hi
