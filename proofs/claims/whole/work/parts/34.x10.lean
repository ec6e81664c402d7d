/-! ===== how long a page of hills is ===== -/
def XG_ok (i : Nat) (x : Int32) : Prop := (x = 0 ∧ i % 3 = 0 ∧ i ≤ 9) ∨ (x = 1 ∧ i % 3 = 1 ∧ i ≤ 10) ∨ (x = 2 ∧ i % 3 = 2 ∧ i ≤ 11) ∨ (x = 3 ∧ i % 3 = 0 ∧ i ≤ 12) ∨ (x = 4 ∧ i % 3 = 1 ∧ i ≤ 13)
theorem XG_mark_ok {c : Int32} {n : Nat} (hn : n ≤ 4) (h : ¬ XG_behindMark_r c (nI n) = 5) : (XG_behindMark_r c (nI n) = 0 ∧ n < 4) ∨ (XG_behindMark_r c (nI n) = 3) := by
  unfold XG_behindMark_r at h ⊢
  by_cases h1 : c = 44
  · subst h1
    rw [if_pos rfl] at h ⊢
    by_cases h2 : 4 ≤ nI n
    · rw [if_pos h2, if_neg (by decide)] at h
      exact absurd rfl h
    · rw [if_neg h2]
      refine Or.inl ⟨rfl, ?_⟩
      rw [fa_le, nI_toInt (by omega), show (4 : Int32).toInt = 4 from rfl] at h2
      omega
  · rw [if_neg h1] at h ⊢
    by_cases h2 : c = 59
    · rw [if_pos h2] at h ⊢
      by_cases h3 : nI n < 2
      · rw [if_pos h3] at h; exact absurd rfl h
      · rw [if_neg h3]; exact Or.inr rfl
    · rw [if_neg h2] at h; exact absurd rfl h
theorem XG_step_ok {i : Nat} {x c : Int32} (hi : XG_ok i x) (h : ¬ XG_behind_r x c (nI ((i + 1) / 3)) = 5) : XG_ok (i + 1) (XG_behind_r x c (nI ((i + 1) / 3))) := by
  rcases hi with ⟨rfl, h1, h2⟩ | ⟨rfl, h1, h2⟩ | ⟨rfl, h1, h2⟩ | ⟨rfl, h1, h2⟩ | ⟨rfl, h1, h2⟩
  · unfold XG_behind_r at h ⊢
    rw [if_pos rfl] at h ⊢
    by_cases q : XG_kindOfLetter_r c = -1
    · rw [if_pos q] at h; exact absurd rfl h
    · rw [if_neg q]; exact Or.inr (Or.inl ⟨rfl, by omega, by omega⟩)
  · unfold XG_behind_r at h ⊢
    rw [if_neg (by decide), if_pos rfl] at h ⊢
    by_cases q : c < 48
    · rw [if_pos q] at h; exact absurd rfl h
    · rw [if_neg q] at h ⊢
      by_cases q : 57 < c
      · rw [if_pos q] at h; exact absurd rfl h
      · rw [if_neg q]; exact Or.inr (Or.inr (Or.inl ⟨rfl, by omega, by omega⟩))
  · have e : XG_behind_r 2 c (nI ((i + 1) / 3)) = XG_behindMark_r c (nI ((i + 1) / 3)) := by
      unfold XG_behind_r
      rw [if_neg (by decide), if_neg (by decide), if_pos rfl]
    rw [e] at h ⊢
    rcases XG_mark_ok (by omega) h with ⟨q1, q2⟩ | q1
    · rw [q1]; exact Or.inl ⟨rfl, by omega, by omega⟩
    · rw [q1]; exact Or.inr (Or.inr (Or.inr (Or.inl ⟨rfl, by omega, by omega⟩)))
  · unfold XG_behind_r at h ⊢
    rw [if_neg (by decide), if_neg (by decide), if_neg (by decide), if_pos rfl] at h ⊢
    by_cases q : c < 49
    · rw [if_pos q] at h; exact absurd rfl h
    · rw [if_neg q] at h ⊢
      by_cases q : 53 < c
      · rw [if_pos q] at h; exact absurd rfl h
      · rw [if_neg q]; exact Or.inr (Or.inr (Or.inr (Or.inr ⟨rfl, by omega, by omega⟩)))
  · unfold XG_behind_r at h
    rw [if_neg (by decide), if_neg (by decide), if_neg (by decide), if_neg (by decide)] at h
    exact absurd rfl h
theorem XG_fault_ok (κ : Nat → Nat) (σ : Nat → Nat → Int32) (pm : Nat) (hpm : pm ≤ 16) : ∀ (n4 i4 : Nat) (x : Int32), i4 + n4 = pm → XG_ok i4 x → XG_firstFault_L4 κ σ pm n4 i4 x = nI pm → ∃ x', XG_ok pm x' := by
  intro n4
  induction n4 with
  | zero => intro i4 x h1 h2 _; exact ⟨x, by rw [← h1]; exact h2⟩
  | succ n4 ih =>
    intro i4 x h1 h2 h3
    unfold XG_firstFault_L4 at h3
    by_cases q : XG_behind_r x (σ 9 i4) (nI ((i4 + 1) / 3)) = 5
    · rw [if_pos q] at h3
      have e := congrArg Int32.toNatClampNeg h3
      rw [nI_clamp (by omega), nI_clamp (by omega)] at e
      omega
    · rw [if_neg q] at h3
      exact ih (i4 + 1) _ (by omega) (XG_step_ok h2 q) h3
theorem XG_hills_ok {κ : Nat → Nat} {σ : Nat → Nat → Int32} {pm : Nat} (hpm : pm ≤ 16) (h : ¬ XG_isHills_r κ σ pm = 0) : pm ≤ 13 ∧ 2 ≤ pm ∧ XG_firstFault_r κ σ pm = nI pm ∧ σ 9 (pm - 2) = 59 := by
  unfold XG_isHills_r at h
  by_cases h1 : pm < 2
  · rw [if_pos h1] at h; exact absurd rfl h
  · rw [if_neg h1] at h
    by_cases h2 : XG_firstFault_r κ σ pm = nI pm
    · rw [if_pos h2] at h
      by_cases h3 : σ 9 (pm - 2) = 59
      · obtain ⟨x, hx⟩ := XG_fault_ok κ σ pm hpm pm 0 0 (by omega) (Or.inl ⟨rfl, rfl, by omega⟩) h2
        refine ⟨?_, by omega, h2, h3⟩
        rcases hx with ⟨_, _, q⟩ | ⟨_, _, q⟩ | ⟨_, _, q⟩ | ⟨_, _, q⟩ | ⟨_, _, q⟩ <;> omega
      · rw [if_neg h3] at h; exact absurd rfl h
    · rw [if_neg h2] at h; exact absurd rfl h
theorem XG_clanCount_le {κ : Nat → Nat} {σ : Nat → Nat → Int32} {pm : Nat} (h : pm ≤ 13) : XG_clanCount_n κ σ pm ≤ 4 := by unfold XG_clanCount_n; omega
theorem X_kindAt_lt (κ : Nat → Nat) (σ : Nat → Nat → Int32) (c : Int32) : X_kindAt_n κ σ c < 5 := by
  unfold X_kindAt_n
  by_cases h0 : c < 0
  · rw [if_pos h0]; decide
  · rw [if_neg h0]
    by_cases h1 : 5 ≤ c
    · rw [if_pos h1]; decide
    · rw [if_neg h1]; exact (X_in_lt (n := 5) (by decide) h0 h1).2
theorem wX_k (cI cC cI2 : ClassId) (a : Nat → Nat) (κ : Nat → Nat) (σ : Nat → Nat → Int32) (i k : Nat) : (wX cI cC cI2 a κ σ).set 2 (a 2, .inl (cC, 4, .inr (.inr (.inr (.inr (va_up (fun i => some (a (3 + κ i))) i (some (a (3 + k)))))))))  = wX cI cC cI2 a (updN κ i k) σ := by
  have e : va_up (fun i => some (a (3 + κ i))) i (some (a (3 + k))) = fun j => some (a (3 + updN κ i k j)) := by
    funext j
    unfold va_up updN
    by_cases h : j = i
    · rw [if_pos h, if_pos h]
    · rw [if_neg h, if_neg h]
  rw [e]
  rfl
section GAK
variable {p : Program} {l : Launch} {e : Env} {R : Room} {s : State} {m : MethodId} {args : Array Value} {below : List Frame} {meth : Method} {c : Code} {H : Heap} {locs : List Loc} {cells slots : Nat} {Q : State → Prop}
variable {cc : ByteArray} {pc nL : Nat} {ls : Array Slot} {rest : List Value} {D : va_G} {z : Nat → Nat} {A : Nat → Prop} {Ts : List Cond} {own : String} {cI cC cI2 : ClassId} {a κ : Nat → Nat} {σ : Nat → Nat → Int32}
theorem g_aastK (S : CallFix p m c cc nL s args Ts own) (hw : gw D (tysX cI cC cI2) A s H locs (wX cI cC cI2 a κ σ)) (hE : xE z A s s.heap) {i k : Nat} (hi : i < 4) (hk : k < 5) (hdg : decode cc pc = .ok (.aastore, 1))
    (kk : ∀ (H1 : Heap) (locs1 : List Loc), gw D (tysX cI cC cI2) A s H1 locs1 (wX cI cC cI2 a (updN κ i k) σ) → W p l e R s m args below meth c H1 locs1 cells slots Q (F0 m (pc + 1) ls rest)) :
    W p l e R s m args below meth c H locs cells slots Q (F0 m pc ls (.ref (a (3 + k)) :: .int (nI i) :: .ref (a 2) :: rest)) := by
  have hcl : (nI i).toNatClampNeg = i := nI_clamp (by omega)
  have hin : vp_in (nI i) 4 := vp_in_nI hi (by decide)
  have fin : ∀ (H1 : Heap) (locs1 : List Loc), va_P D vwCl ((wX cI cC cI2 a κ σ).set 2 (a 2, .inl (cC, 4, .inr (.inr (.inr (.inr (va_up (fun i => some (a (3 + κ i))) (nI i).toNatClampNeg (some (a (3 + k)))))))))) H1 → va_D A ((wX cI cC cI2 a κ σ).set 2 (a 2, .inl (cC, 4, .inr (.inr (.inr (.inr (va_up (fun i => some (a (3 + κ i))) (nI i).toNatClampNeg (some (a (3 + k)))))))))) → va_S A s.heap H1 locs1 → W p l e R s m args below meth c H1 locs1 cells slots Q (F0 m (pc + 1) ls rest) := by
    intro H1 locs1 hP hD hS
    rw [hcl, wX_k] at hP hD
    exact kk H1 locs1 ⟨hw.1, hP, hD, hS, hw.2.2.2.2⟩
  rcases (by omega : k = 0 ∨ k = 1 ∨ k = 2 ∨ k = 3 ∨ k = 4) with rfl | rfl | rfl | rfl | rfl
  · exact va_astq S.1 S.2.1 hw.1 hw.2.1 hw.2.2.1 hw.2.2.2.1 2 1 3 1 (r := (RX1, TX1, 0)) rfl rfl rfl rfl hin hdg fin
  · exact va_astqO S.1 S.2.1 hw.1 hw.2.1 hw.2.2.1 hw.2.2.2.1 2 1 4 7 (r := (RX7, TX7, 0)) rfl rfl (hE.1.1 ("CowsOwed$Proud", "CowsOwed$Clan") (by decide +kernel)) rfl rfl hin hdg fin
  · exact va_astqO S.1 S.2.1 hw.1 hw.2.1 hw.2.2.1 hw.2.2.2.1 2 1 5 6 (r := (RX6, TX6, 0)) rfl rfl (hE.1.1 ("CowsOwed$Poor", "CowsOwed$Clan") (by decide +kernel)) rfl rfl hin hdg fin
  · exact va_astqO S.1 S.2.1 hw.1 hw.2.1 hw.2.2.1 hw.2.2.2.1 2 1 6 0 (r := (RX0, TX0, 0)) rfl rfl (hE.1.1 ("CowsOwed$Careful", "CowsOwed$Clan") (by decide +kernel)) rfl rfl hin hdg fin
  · exact va_astqO S.1 S.2.1 hw.1 hw.2.1 hw.2.2.1 hw.2.2.2.1 2 1 7 3 (r := (RX3, TX3, 0)) rfl rfl (hE.1.1 ("CowsOwed$Kings", "CowsOwed$Clan") (by decide +kernel)) rfl rfl hin hdg fin
end GAK
def X_hills_S38_0 (pm : Nat) (y38_1 : Nat) (i38 : Nat) (σ38 : Nat → Nat → Int32) (κ38 : Nat → Nat) : Nat → Nat → Int32 := up2 σ38 11 i38 (XG_herdOf_r (updN κ38 i38 (X_kindAt_n κ38 σ38 (XG_kindOf_r κ38 σ38 i38))) σ38 i38)
def X_hills_S38_1 (pm : Nat) (y38_1 : Nat) (i38 : Nat) (σ38 : Nat → Nat → Int32) (κ38 : Nat → Nat) : Nat → Nat := (updN κ38 i38 (X_kindAt_n κ38 σ38 (XG_kindOf_r κ38 σ38 i38)))
def X_hills_L38 (pm : Nat) (y38_1 : Nat) : Nat → Nat → (Nat → Nat → Int32) → (Nat → Nat) → (Nat → Nat → Int32) × (Nat → Nat)
  | 0, _, σ38, κ38 => (σ38, κ38)
  | n38 + 1, i38, σ38, κ38 => X_hills_L38 pm y38_1 n38 (i38 + 1) (X_hills_S38_0 pm y38_1 i38 σ38 κ38) (X_hills_S38_1 pm y38_1 i38 σ38 κ38)
theorem X_hills_S38_k (pm : Nat) (y38_1 : Nat) (c9 : Nat) (q0 : c9 ≠ 11) (i38 : Nat) (σ38 : Nat → Nat → Int32) (κ38 : Nat → Nat) : X_hills_S38_0 pm y38_1 i38 σ38 κ38 c9 = σ38 c9 := by
  unfold X_hills_S38_0
  exact up2_n _ _ _ q0
theorem X_hills_L38_k (pm : Nat) (y38_1 : Nat) (c9 : Nat) (q0 : c9 ≠ 11) : ∀ (n38 i38 : Nat) (σ38 : Nat → Nat → Int32) (κ38 : Nat → Nat), (X_hills_L38 pm y38_1 n38 i38 σ38 κ38).1 c9 = σ38 c9 := by
  intro n38
  induction n38 with
  | zero => intros; rfl
  | succ n38 ih => intro i38 σ38 κ38; exact (ih (i38 + 1) (X_hills_S38_0 pm y38_1 i38 σ38 κ38) (X_hills_S38_1 pm y38_1 i38 σ38 κ38)).trans (X_hills_S38_k pm y38_1 c9 q0 i38 σ38 κ38)
def X_hills_r (κ : Nat → Nat) (σ : Nat → Nat → Int32) (pm : Nat) : Int32 := if (XG_isHills_r κ σ pm) = 0 then (-103) else (nI (XG_clanCount_n κ σ pm))
def X_hills_s (κ : Nat → Nat) (σ : Nat → Nat → Int32) (pm : Nat) : Nat → Nat → Int32 := if (XG_isHills_r κ σ pm) = 0 then σ else (up2 (up2 (up2 ((X_hills_L38 pm (XG_clanCount_n κ σ pm) (XG_clanCount_n κ σ pm) 0 (XS_begin_s κ σ (nI (XG_clanCount_n κ σ pm)) (XG_rateDigit_r κ σ pm)) κ).1) 8 1 0) 0 6 0) 0 7 ((σ 0 7) + 1))
def X_hills_k (κ : Nat → Nat) (σ : Nat → Nat → Int32) (pm : Nat) : Nat → Nat := if (XG_isHills_r κ σ pm) = 0 then κ else ((X_hills_L38 pm (XG_clanCount_n κ σ pm) (XG_clanCount_n κ σ pm) 0 (XS_begin_s κ σ (nI (XG_clanCount_n κ σ pm)) (XG_rateDigit_r κ σ pm)) κ).2)
theorem X_hills_s_k (κ : Nat → Nat) (σ : Nat → Nat → Int32) (pm : Nat) (c9 : Nat) (q0 : c9 ≠ 0) (q1 : c9 ≠ 10) (q2 : c9 ≠ 11) (q3 : c9 ≠ 12) (q4 : c9 ≠ 31) (q5 : c9 ≠ 32) (q6 : c9 ≠ 37) (q7 : c9 ≠ 42) (q8 : c9 ≠ 8) : X_hills_s κ σ pm c9 = σ c9 := by
  unfold X_hills_s
  by_cases z1 : (XG_isHills_r κ σ pm) = 0
  · refine Eq.trans (congrFun (if_pos z1) c9) ?_
    exact rfl
  · refine Eq.trans (congrFun (if_neg z1) c9) ?_
    exact (up2_n _ _ _ q0).trans ((up2_n _ _ _ q0).trans ((up2_n _ _ _ q8).trans ((X_hills_L38_k pm (XG_clanCount_n κ σ pm) c9 q2 (XG_clanCount_n κ σ pm) 0 (XS_begin_s κ σ (nI (XG_clanCount_n κ σ pm)) (XG_rateDigit_r κ σ pm)) κ).trans (XS_begin_s_k κ σ (nI (XG_clanCount_n κ σ pm)) (XG_rateDigit_r κ σ pm) c9 q1 q2 q3 q4 q5 q6 q7))))
set_option maxHeartbeats 4000000 in
set_option maxRecDepth 100000 in
theorem c_X_hills (l : Launch) (D : va_G) (z : Nat → Nat) (cI cC cI2 : ClassId) (a : Nat → Nat) (κ : Nat → Nat) (σ : Nat → Nat → Int32) (pm : Nat) (hpm : σ 8 1 = nI pm) (hpmb : pm ≤ 16) : gIE l D z (tysX cI cC cI2) yX11_hills wsX11_hills 10 [.ref (a 0)] (wX cI cC cI2 a κ σ) (X_hills_r κ σ pm) (wX cI cC cI2 a (X_hills_k κ σ pm) (X_hills_s κ σ pm)) := by
  refine g_startE (cc := cX11_hills) (maxL := 3) (ret := some .int) (Qc := gQi D (tysX cI cC cI2) (X_hills_r κ σ pm) (wX cI cC cI2 a (X_hills_k κ σ pm) (X_hills_s κ σ pm))) (by decide) rfl (Nat.le_of_ble_eq_true rfl) ?_
  intro p e s m below meth C A ls S hr hlk hw hE hl
  obtain ⟨hx, hb, hml, hown, hts⟩ := id S
  have hinX11 : ∀ x ∈ u_ws RX11 TX11 8, x ∈ wsX11_hills := fun x h => List.mem_cons_of_mem _ (List.mem_append_left _ (List.mem_append_left _ (List.mem_append_left _ (List.mem_append_left _ (List.mem_append_left _ (List.mem_append_left _ (List.mem_append_right _ h)))))))
  have hinX2 : ∀ x ∈ u_ws RX2 TX2 5, x ∈ wsX11_hills := fun x h => List.mem_cons_of_mem _ (List.mem_append_left _ (List.mem_append_left _ (List.mem_append_left _ (List.mem_append_left _ (List.mem_append_right _ h)))))
  have hinX4 : ∀ x ∈ u_ws RX4 TX4 2, x ∈ wsX11_hills := fun x h => List.mem_cons_of_mem _ (List.mem_append_left _ (List.mem_append_left _ (List.mem_append_left _ (List.mem_append_right _ h))))
  have hinX8 : ∀ x ∈ u_ws RX8 TX8 5, x ∈ wsX11_hills := fun x h => List.mem_cons_of_mem _ (List.mem_append_left _ (List.mem_append_left _ (List.mem_append_left _ (List.mem_append_left _ (List.mem_append_left _ (List.mem_append_right _ h))))))
  have lk0 : Cond.fieldLink RX11 34 "CowsOwed" "page" "LCowsOwed$Page;" ∈ wsX11_hills := by decide +kernel
  have lk1 : Cond.fieldLink RX11 43 "CowsOwed" "now" "LCowsOwed$Times;" ∈ wsX11_hills := by decide +kernel
  have lk2 : Cond.fieldLink RX11 28 "CowsOwed" "clans" "[LCowsOwed$Clan;" ∈ wsX11_hills := by decide +kernel
  have lk3 : Cond.fieldLink RX11 97 "CowsOwed$Times" "herds" "LCowsOwed$Herds;" ∈ wsX11_hills := by decide +kernel
  have lk4 : Cond.fieldLink RX11 100 "CowsOwed$Herds" "cows" "[I" ∈ wsX11_hills := by decide +kernel
  have lk5 : Cond.fieldLink RX11 65 "CowsOwed$Page" "size" "I" ∈ wsX11_hills := by decide +kernel
  have lk6 : Cond.fieldLink RX11 57 "CowsOwed" "hasImage" "Z" ∈ wsX11_hills := by decide +kernel
  have lk7 : Cond.fieldLink RX11 61 "CowsOwed" "timesRead" "I" ∈ wsX11_hills := by decide +kernel
  have hl : lv_has ls 3 [(0, .ref (a 0))] := hl
  refine lv_aload_n hx hb dX11_hills_0 rfl (lv_at hl 0 rfl) ?_
  refine g_get S hw hinX11 (fs := fX0 a σ) 0 rfl rfl 2 (by decide) lk0 (v := .ref (a 8)) rfl dX11_hills_1 ?_
  refine g_callViE S hw hE (c_XG_isHills l D z cI cC cI2 a κ σ pm (hpm) (by omega)) gX11_hills_X4_isHills rfl (va_recv hw.1 hw.2.1 (q0 := 8) rfl rfl) 0 rfl (by decide +kernel) (by decide) (by decide) hl.1 rfl (Nat.le_of_ble_eq_true rfl) dX11_hills_4 (fun H locs hw => ?_)
  refine lv_if_ne hx hb (tgt := 13) dX11_hills_7 (by decide) (fun c_1 => ?_) (fun c_1 => ?_)
  · obtain ⟨q13, q2, q3, q4⟩ := XG_hills_ok hpmb c_1
    have hc4 := XG_clanCount_le (κ := κ) (σ := σ) q13
    refine lv_aload_n hx hb dX11_hills_13 rfl (lv_at hl 0 rfl) ?_
    refine g_get S hw hinX11 (fs := fX0 a σ) 0 rfl rfl 2 (by decide) lk0 (v := .ref (a 8)) rfl dX11_hills_14 ?_
    refine g_callVi S hw (c_XG_clanCount l D cI cC cI2 a κ σ pm (hpm) (by omega)) gX11_hills_X4_clanCount rfl 8 rfl rfl 0 rfl (by decide +kernel) (by decide) (by decide) hl.1 rfl (Nat.le_of_ble_eq_true rfl) dX11_hills_17 (fun H locs hw => ?_)
    refine lv_istore_n (lv' := [(1, .int (nI (XG_clanCount_n κ σ pm))), (0, .ref (a 0))]) hx hb dX11_hills_20 rfl hl (by decide) rfl (fun ls hl => ?_)
    refine lv_aload_n hx hb dX11_hills_21 rfl (lv_at hl 1 rfl) ?_
    refine g_get S hw hinX11 (fs := fX0 a σ) 0 rfl rfl 3 (by decide) lk1 (v := .ref (a 31)) rfl dX11_hills_22 ?_
    refine lv_iload_n hx hb dX11_hills_25 rfl (lv_at hl 0 rfl) ?_
    refine lv_aload_n hx hb dX11_hills_26 rfl (lv_at hl 1 rfl) ?_
    refine g_get S hw hinX11 (fs := fX0 a σ) 0 rfl rfl 2 (by decide) lk0 (v := .ref (a 8)) rfl dX11_hills_27 ?_
    refine g_callVi S hw (c_XG_rateDigit l D cI cC cI2 a κ σ pm (hpm) (by omega)) gX11_hills_X4_rateDigit rfl 8 rfl rfl 0 rfl (by decide +kernel) (by decide) (by decide) hl.1 rfl (Nat.le_of_ble_eq_true rfl) dX11_hills_30 (fun H locs hw => ?_)
    refine g_callVv S hw (c_XS_begin l D cI cC cI2 a κ σ (nI (XG_clanCount_n κ σ pm)) (XG_rateDigit_r κ σ pm)) gX11_hills_X8_begin rfl 31 rfl rfl 2 rfl (by decide +kernel) (by decide) (by decide) hl.1 rfl (Nat.le_of_ble_eq_true rfl) dX11_hills_33 (fun H locs hw => ?_)
    refine lv_iconst (v := 0) hx hb dX11_hills_36 (by decide) ?_
    refine lv_istore_n (lv' := [(2, .int 0), (1, .int (nI (XG_clanCount_n κ σ pm))), (0, .ref (a 0))]) hx hb dX11_hills_37 rfl hl (by decide) rfl (fun ls hl => ?_)
    have L38 : ∀ (n38 i38 : Nat) (σ38 : Nat → Nat → Int32) (κ38 : Nat → Nat) (H : Heap) (locs : List Loc) (ls : Array Slot), i38 + n38 = XG_clanCount_n κ σ pm → σ38 8 = (XS_begin_s κ σ (nI (XG_clanCount_n κ σ pm)) (XG_rateDigit_r κ σ pm)) 8 → σ38 9 = (XS_begin_s κ σ (nI (XG_clanCount_n κ σ pm)) (XG_rateDigit_r κ σ pm)) 9 → X_hills_L38 pm (XG_clanCount_n κ σ pm) n38 i38 σ38 κ38 = X_hills_L38 pm (XG_clanCount_n κ σ pm) (XG_clanCount_n κ σ pm) 0 (XS_begin_s κ σ (nI (XG_clanCount_n κ σ pm)) (XG_rateDigit_r κ σ pm)) κ → gw D (tysX cI cC cI2) A s H locs (wX cI cC cI2 a κ38 σ38) → lv_has ls 3 [(2, .int (nI i38)), (1, .int (nI (XG_clanCount_n κ σ pm))), (0, .ref (a 0))] → W p l e (gR 10) s m ([.ref (a 0)] : List Value).toArray below meth C H locs 0 0 (MQ below (gQi D (tysX cI cC cI2) (X_hills_r κ σ pm) (wX cI cC cI2 a (X_hills_k κ σ pm) (X_hills_s κ σ pm)) A) ([.ref (a 0)] : List Value).toArray s 0 0 A) (F0 m 38 ls []) := by
      intro n38
      induction n38 with
      | zero =>
        intro i38 σ38 κ38 H locs ls hi38 k38_8 k38_9 hF38 hw hl
        refine lv_iload_n hx hb dX11_hills_38 rfl (lv_at hl 0 rfl) ?_
        refine lv_iload_n hx hb dX11_hills_39 rfl (lv_at hl 1 rfl) ?_
        refine ln_ge (x := i38) (y := (XG_clanCount_n κ σ pm)) hx hb (by omega) (by omega) (tgt := 87) dX11_hills_40 (by decide) (fun c_x => ?_) (fun c_x => absurd (by omega) c_x)
        have hz38 : XG_clanCount_n κ σ pm = i38 := by omega
        subst hz38
        have e38_0 : (X_hills_L38 pm (XG_clanCount_n κ σ pm) (XG_clanCount_n κ σ pm) 0 (XS_begin_s κ σ (nI (XG_clanCount_n κ σ pm)) (XG_rateDigit_r κ σ pm)) κ).1 = σ38 := (congrArg (fun z => z.1) hF38).symm
        have e38_1 : (X_hills_L38 pm (XG_clanCount_n κ σ pm) (XG_clanCount_n κ σ pm) 0 (XS_begin_s κ σ (nI (XG_clanCount_n κ σ pm)) (XG_rateDigit_r κ σ pm)) κ).2 = κ38 := (congrArg (fun z => z.2) hF38).symm
        subst e38_0
        subst e38_1
        refine lv_aload_n hx hb dX11_hills_87 rfl (lv_at hl 2 rfl) ?_
        refine g_get S hw hinX11 (fs := fX0 a ((X_hills_L38 pm (XG_clanCount_n κ σ pm) (XG_clanCount_n κ σ pm) 0 (XS_begin_s κ σ (nI (XG_clanCount_n κ σ pm)) (XG_rateDigit_r κ σ pm)) κ).1)) 0 rfl rfl 2 (by decide) lk0 (v := .ref (a 8)) rfl dX11_hills_88 ?_
        refine lv_iconst (v := 0) hx hb dX11_hills_91 (by decide) ?_
        refine g_put S hw hinX4 tyX4 tyX4_ok nmX4 (fs := fX8 a ((X_hills_L38 pm (XG_clanCount_n κ σ pm) (XG_clanCount_n κ σ pm) 0 (XS_begin_s κ σ (nI (XG_clanCount_n κ σ pm)) (XG_rateDigit_r κ σ pm)) κ).1)) 8 rfl rfl 1 (by decide) lk5 rfl rfl rfl (Nat.le_of_ble_eq_true rfl) (w2 := wX cI cC cI2 a ((X_hills_L38 pm (XG_clanCount_n κ σ pm) (XG_clanCount_n κ σ pm) 0 (XS_begin_s κ σ (nI (XG_clanCount_n κ σ pm)) (XG_rateDigit_r κ σ pm)) κ).2) (up2 ((X_hills_L38 pm (XG_clanCount_n κ σ pm) (XG_clanCount_n κ σ pm) 0 (XS_begin_s κ σ (nI (XG_clanCount_n κ σ pm)) (XG_rateDigit_r κ σ pm)) κ).1) 8 1 0)) (wX_f8_1 _ _ _ _ _ _ _) dX11_hills_92 (fun H locs hw => ?_)
        refine lv_aload_n hx hb dX11_hills_95 rfl (lv_at hl 2 rfl) ?_
        refine lv_iconst (v := 0) hx hb dX11_hills_96 (by decide) ?_
        refine g_put S hw hinX11 tyX11 tyX11_ok nmX11 (fs := fX0 a (up2 ((X_hills_L38 pm (XG_clanCount_n κ σ pm) (XG_clanCount_n κ σ pm) 0 (XS_begin_s κ σ (nI (XG_clanCount_n κ σ pm)) (XG_rateDigit_r κ σ pm)) κ).1) 8 1 0)) 0 rfl rfl 6 (by decide) lk6 rfl (by decide) rfl (Nat.le_of_ble_eq_true rfl) (w2 := wX cI cC cI2 a ((X_hills_L38 pm (XG_clanCount_n κ σ pm) (XG_clanCount_n κ σ pm) 0 (XS_begin_s κ σ (nI (XG_clanCount_n κ σ pm)) (XG_rateDigit_r κ σ pm)) κ).2) (up2 (up2 ((X_hills_L38 pm (XG_clanCount_n κ σ pm) (XG_clanCount_n κ σ pm) 0 (XS_begin_s κ σ (nI (XG_clanCount_n κ σ pm)) (XG_rateDigit_r κ σ pm)) κ).1) 8 1 0) 0 6 0)) (wX_f0_6 _ _ _ _ _ _ _) dX11_hills_97 (fun H locs hw => ?_)
        refine lv_aload_n hx hb dX11_hills_100 rfl (lv_at hl 2 rfl) ?_
        refine lv_dup hx hb dX11_hills_101 rfl ?_
        refine g_get S hw hinX11 (fs := fX0 a (up2 (up2 ((X_hills_L38 pm (XG_clanCount_n κ σ pm) (XG_clanCount_n κ σ pm) 0 (XS_begin_s κ σ (nI (XG_clanCount_n κ σ pm)) (XG_rateDigit_r κ σ pm)) κ).1) 8 1 0) 0 6 0)) 0 rfl rfl 7 (by decide) lk7 (v := .int (σ 0 7)) (congrArg (fun z => some (Value.int z)) ((up2_rp (by decide)).trans ((up2_rn (by omega)).trans ((congrFun (X_hills_L38_k pm (XG_clanCount_n κ σ pm) 0 (by omega) (XG_clanCount_n κ σ pm) 0 (XS_begin_s κ σ (nI (XG_clanCount_n κ σ pm)) (XG_rateDigit_r κ σ pm)) κ) 7).trans (congrFun (XS_begin_s_k κ σ (nI (XG_clanCount_n κ σ pm)) (XG_rateDigit_r κ σ pm) 0 (by omega) (by omega) (by omega) (by omega) (by omega) (by omega) (by omega)) 7))))) dX11_hills_102 ?_
        refine lv_iconst (v := 1) hx hb dX11_hills_105 (by decide) ?_
        refine lv_iadd hx hb dX11_hills_106 ?_
        refine g_put S hw hinX11 tyX11 tyX11_ok nmX11 (fs := fX0 a (up2 (up2 ((X_hills_L38 pm (XG_clanCount_n κ σ pm) (XG_clanCount_n κ σ pm) 0 (XS_begin_s κ σ (nI (XG_clanCount_n κ σ pm)) (XG_rateDigit_r κ σ pm)) κ).1) 8 1 0) 0 6 0)) 0 rfl rfl 7 (by decide) lk7 rfl rfl rfl (Nat.le_of_ble_eq_true rfl) (w2 := wX cI cC cI2 a ((X_hills_L38 pm (XG_clanCount_n κ σ pm) (XG_clanCount_n κ σ pm) 0 (XS_begin_s κ σ (nI (XG_clanCount_n κ σ pm)) (XG_rateDigit_r κ σ pm)) κ).2) (up2 (up2 (up2 ((X_hills_L38 pm (XG_clanCount_n κ σ pm) (XG_clanCount_n κ σ pm) 0 (XS_begin_s κ σ (nI (XG_clanCount_n κ σ pm)) (XG_rateDigit_r κ σ pm)) κ).1) 8 1 0) 0 6 0) 0 7 ((σ 0 7) + 1))) (wX_f0_7 _ _ _ _ _ _ _) dX11_hills_107 (fun H locs hw => ?_)
        refine lv_iload_n hx hb dX11_hills_110 rfl (lv_at hl 1 rfl) ?_
        exact g_iret S hr hlk hw (by simp only [X_hills_r, if_neg c_1]) (by simp only [X_hills_s, X_hills_k, if_neg c_1]) dX11_hills_111
      | succ n38 ih38 =>
        intro i38 σ38 κ38 H locs ls hi38 k38_8 k38_9 hF38 hw hl
        refine lv_iload_n hx hb dX11_hills_38 rfl (lv_at hl 0 rfl) ?_
        refine lv_iload_n hx hb dX11_hills_39 rfl (lv_at hl 1 rfl) ?_
        refine ln_ge (x := i38) (y := (XG_clanCount_n κ σ pm)) hx hb (by omega) (by omega) (tgt := 87) dX11_hills_40 (by decide) (fun c_x => absurd c_x (by omega)) (fun c_x => ?_)
        refine lv_aload_n hx hb dX11_hills_43 rfl (lv_at hl 2 rfl) ?_
        refine g_get S hw hinX11 (fs := fX0 a σ38) 0 rfl rfl 1 (by decide) lk2 (v := .ref (a 2)) rfl dX11_hills_44 ?_
        refine lv_iload_n hx hb dX11_hills_47 rfl (lv_at hl 0 rfl) ?_
        refine lv_aload_n hx hb dX11_hills_48 rfl (lv_at hl 2 rfl) ?_
        refine lv_aload_n hx hb dX11_hills_49 rfl (lv_at hl 2 rfl) ?_
        refine g_get S hw hinX11 (fs := fX0 a σ38) 0 rfl rfl 2 (by decide) lk0 (v := .ref (a 8)) rfl dX11_hills_50 ?_
        refine lv_iload_n hx hb dX11_hills_53 rfl (lv_at hl 0 rfl) ?_
        refine g_callViE S hw hE (c_XG_kindOf l D z cI cC cI2 a κ38 σ38 i38 (by omega)) gX11_hills_X4_kindOf rfl (va_recv hw.1 hw.2.1 (q0 := 8) rfl rfl) 1 rfl (by decide +kernel) (by decide) (by decide) hl.1 rfl (Nat.le_of_ble_eq_true rfl) dX11_hills_54 (fun H locs hw => ?_)
        refine g_callVa S hw (c_X_kindAt l D cI cC cI2 a κ38 σ38 (XG_kindOf_r κ38 σ38 i38)) gX11_hills_X11_kindAt rfl 0 rfl rfl 1 rfl (by decide +kernel) (by decide) (by decide) hl.1 rfl (Nat.le_of_ble_eq_true rfl) dX11_hills_57 (fun H locs hw => ?_)
        refine g_aastK S hw hE (i := i38) (k := X_kindAt_n κ38 σ38 (XG_kindOf_r κ38 σ38 i38)) (by omega) (X_kindAt_lt _ _ _) dX11_hills_60 (fun H locs hw => ?_)
        refine lv_aload_n hx hb dX11_hills_61 rfl (lv_at hl 2 rfl) ?_
        refine g_get S hw hinX11 (fs := fX0 a σ38) 0 rfl rfl 3 (by decide) lk1 (v := .ref (a 31)) rfl dX11_hills_62 ?_
        refine g_get S hw hinX8 (fs := fX31 a σ38) 31 rfl rfl 0 (by decide) lk3 (v := .ref (a 10)) rfl dX11_hills_65 ?_
        refine g_get S hw hinX2 (fs := fX10 a σ38) 10 rfl rfl 1 (by decide) lk4 (v := .ref (a 11)) rfl dX11_hills_68 ?_
        refine lv_iload_n hx hb dX11_hills_71 rfl (lv_at hl 0 rfl) ?_
        refine lv_aload_n hx hb dX11_hills_72 rfl (lv_at hl 2 rfl) ?_
        refine g_get S hw hinX11 (fs := fX0 a σ38) 0 rfl rfl 2 (by decide) lk0 (v := .ref (a 8)) rfl dX11_hills_73 ?_
        refine lv_iload_n hx hb dX11_hills_76 rfl (lv_at hl 0 rfl) ?_
        refine g_callVi S hw (c_XG_herdOf l D cI cC cI2 a (updN κ38 i38 (X_kindAt_n κ38 σ38 (XG_kindOf_r κ38 σ38 i38))) σ38 i38 (by omega)) gX11_hills_X4_herdOf rfl 8 rfl rfl 1 rfl (by decide +kernel) (by decide) (by decide) hl.1 rfl (Nat.le_of_ble_eq_true rfl) dX11_hills_77 (fun H locs hw => ?_)
        refine g_iast S hw (f := σ38 11) (i := i38) 11 0 rfl rfl (by omega) (by decide) (w2 := wX cI cC cI2 a (updN κ38 i38 (X_kindAt_n κ38 σ38 (XG_kindOf_r κ38 σ38 i38))) (up2 σ38 11 i38 (XG_herdOf_r (updN κ38 i38 (X_kindAt_n κ38 σ38 (XG_kindOf_r κ38 σ38 i38))) σ38 i38))) (wX_a11 _ _ _ _ _ _ _ _) dX11_hills_80 (fun H locs hw => ?_)
        refine lv_iinc (v := nI (i38 + 1)) (lv' := [(2, .int (nI (i38 + 1))), (1, .int (nI (XG_clanCount_n κ σ pm))), (0, .ref (a 0))]) hx hb dX11_hills_81 hl (k := 0) rfl (nI_1 _) (by decide) rfl (fun ls hl => ?_)
        refine lv_goto (tgt := 38) hx hb dX11_hills_84 (by decide) ?_
        exact ih38 (i38 + 1) (up2 σ38 11 i38 (XG_herdOf_r (updN κ38 i38 (X_kindAt_n κ38 σ38 (XG_kindOf_r κ38 σ38 i38))) σ38 i38)) (updN κ38 i38 (X_kindAt_n κ38 σ38 (XG_kindOf_r κ38 σ38 i38))) _ _ _ (by omega) ((up2_n _ _ _ (by omega)).trans (k38_8)) ((up2_n _ _ _ (by omega)).trans (k38_9)) hF38 hw (lv_sub hl [0, 1, 2] rfl)
    exact L38 (XG_clanCount_n κ σ pm) 0 (XS_begin_s κ σ (nI (XG_clanCount_n κ σ pm)) (XG_rateDigit_r κ σ pm)) κ _ _ _ (by omega) rfl rfl rfl hw (lv_sub hl [0, 1, 2] rfl)
  · refine lv_bipush (v := (-103)) hx hb dX11_hills_10 (by decide) ?_
    exact g_iret S hr hlk hw (by simp only [X_hills_r, if_pos c_1]) (by simp only [X_hills_s, X_hills_k, if_pos c_1]) dX11_hills_12
