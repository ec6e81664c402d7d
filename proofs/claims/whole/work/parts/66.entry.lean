/-! ===== what the contracts ask, out of the relation; the start ===== -/
section RP
variable {κ : Nat → Nat} {σ τ : Nat → Nat → Int32} {n pm wd pl tm hr : Nat} {B : Int}
theorem natOK_of {x : Int32} {c b : Nat} (e : x = nI c) (h : c < b) (hb : b < 2 ^ 31) : natOK x b := by rw [e]; exact natOK_nI h hb
theorem RWd.nat {s t : Int32} {r1 r2 r3 r4 q : Nat → Int32} (h : RWd n wd s t r1 r2 r3 r4 q) (h4 : n ≤ 4) : natRow r1 wd 4 ∧ natRow r2 wd 4 ∧ ∀ k, k < wd → natOK (q (4 * k)) 4 ∧ natOK (q (4 * k + 1)) 4 := by
  refine ⟨fun k hk => ?_, fun k hk => ?_, fun k hk => ?_⟩
  · obtain ⟨_, _, _, _, ⟨c, d, v, x1, x2, x3, x4, x5, x6, x7⟩, _⟩ := h.2.2.2 k hk
    exact natOK_of x5 (by omega) (by decide)
  · obtain ⟨_, _, _, _, ⟨c, d, v, x1, x2, x3, x4, x5, x6, x7⟩, _⟩ := h.2.2.2 k hk
    exact natOK_of x6 (by omega) (by decide)
  · obtain ⟨q1, q2, _, _, ⟨c, d, v, x1, x2, x3, x4, x5, x6, x7⟩, _⟩ := h.2.2.2 k hk
    exact ⟨natOK_of (q1.trans x5) (by omega) (by decide), natOK_of (q2.trans x6) (by omega) (by decide)⟩
theorem RPl.nat {s t : Int32} {r1 r2 q : Nat → Int32} (h : RPl n pl s t r1 r2 q) (h4 : n ≤ 4) : natRow r1 pl 4 ∧ natRow r2 pl 4 ∧ planOK q pl := by
  refine ⟨fun k hk => ?_, fun k hk => ?_, fun k hk => ?_⟩
  · obtain ⟨_, _, c, d, x1, x2, x3, x4, x5⟩ := h.2.2.2 k hk
    exact natOK_of x4 (by omega) (by decide)
  · obtain ⟨_, _, c, d, x1, x2, x3, x4, x5⟩ := h.2.2.2 k hk
    exact natOK_of x5 (by omega) (by decide)
  · obtain ⟨q1, q2, c, d, x1, x2, x3, x4, x5⟩ := h.2.2.2 k hk
    exact ⟨natOK_of (q1.trans x4) (by omega) (by decide), natOK_of (q2.trans x5) (by omega) (by decide)⟩
theorem Rel.n4 (h : Rel κ σ τ n pm wd pl tm hr B) : n ≤ 4 := h.2.2.1.1.1
theorem Rel.xn (h : Rel κ σ τ n pm wd pl tm hr B) : σ 10 3 = nI n := h.2.2.1.1.2.2.2.1
theorem Rel.mn (h : Rel κ σ τ n pm wd pl tm hr B) : τ 0 6 = nI n := h.2.2.1.1.2.2.2.2
theorem Rel.p16 (h : Rel κ σ τ n pm wd pl tm hr B) : pm ≤ 16 := h.2.1.1
theorem Rel.xp (h : Rel κ σ τ n pm wd pl tm hr B) : σ 8 1 = nI pm := h.2.1.2.1
theorem Rel.mp (h : Rel κ σ τ n pm wd pl tm hr B) : τ 0 1 = nI pm := h.2.1.2.2.1
theorem Rel.w12 (h : Rel κ σ τ n pm wd pl tm hr B) : wd ≤ 12 := h.2.2.1.2.2.1.1
theorem Rel.xw (h : Rel κ σ τ n pm wd pl tm hr B) : σ 32 4 = nI wd := h.2.2.1.2.2.1.2.1
theorem Rel.mw (h : Rel κ σ τ n pm wd pl tm hr B) : τ 0 13 = nI wd := h.2.2.1.2.2.1.2.2.1
theorem Rel.l4 (h : Rel κ σ τ n pm wd pl tm hr B) : pl ≤ 4 := h.2.2.1.2.2.2.1.1
theorem Rel.xl (h : Rel κ σ τ n pm wd pl tm hr B) : σ 37 4 = nI pl := h.2.2.1.2.2.2.1.2.1
theorem Rel.ml (h : Rel κ σ τ n pm wd pl tm hr B) : τ 0 15 = nI pl := h.2.2.1.2.2.2.1.2.2.1
theorem Rel.t6 (h : Rel κ σ τ n pm wd pl tm hr B) : tm ≤ 6 := h.2.2.1.2.2.2.2.1.1
theorem Rel.xt (h : Rel κ σ τ n pm wd pl tm hr B) : σ 42 2 = nI tm := h.2.2.1.2.2.2.2.1.2.1
theorem Rel.mt (h : Rel κ σ τ n pm wd pl tm hr B) : τ 0 22 = nI tm := h.2.2.1.2.2.2.2.1.2.2.1
theorem Rel.wn (h : Rel κ σ τ n pm wd pl tm hr B) : natRow (σ 33) wd 4 ∧ natRow (σ 34) wd 4 ∧ ∀ k, k < wd → natOK (τ 6 (4 * k)) 4 ∧ natOK (τ 6 (4 * k + 1)) 4 := h.2.2.1.2.2.1.nat h.n4
theorem Rel.ln (h : Rel κ σ τ n pm wd pl tm hr B) : natRow (σ 38) pl 4 ∧ natRow (σ 39) pl 4 ∧ planOK (τ 7) pl := h.2.2.1.2.2.2.1.nat h.n4
theorem Rel.init : Rel (fun _ => 0) (fun _ _ => 0) (up2 (fun _ _ => 0) 0 26 (-1)) 0 0 0 0 0 0 400 := by
  refine ⟨fun i _ => Nat.zero_lt_succ 4, ⟨by decide, rfl, rfl, fun i hi => absurd hi (Nat.not_lt_zero i)⟩, ⟨⟨by decide, fun i hi => absurd hi (Nat.not_lt_zero i), ⟨fun i hi => absurd hi (Nat.not_lt_zero i), ?_, fun k hk => ⟨rfl, ?_, ?_, fun _ => rfl⟩⟩, rfl, rfl⟩, ⟨rfl, fun w => absurd w (by decide)⟩, ⟨by decide, rfl, rfl, fun i hi => absurd hi (Nat.not_lt_zero i)⟩, ⟨by decide, rfl, rfl, fun i hi => absurd hi (Nat.not_lt_zero i)⟩, ⟨by decide, rfl, rfl, fun i hi => absurd hi (Nat.not_lt_zero i)⟩, rfl⟩, Or.inl ⟨rfl, ?_⟩, by decide, rfl, rfl, Or.inl rfl⟩
  · show (0 : Int) ≤ 400
    decide
  · show (0 : Int) ≤ (0 : Int32).toInt
    decide
  · show (0 : Int32).toInt ≤ 400
    decide
  · show ¬ ((-1 : Int32) = 0)
    decide
end RP
/-! ===== the entry of the law: classes, arrays, constants ===== -/
section EN
variable {s : State} {av : Array Value}
theorem en_tys (hts : ∀ w ∈ lw_tbl, w.before av s = true) : ∃ cI cC cI2 : ClassId, ∀ (k : Nat) (q : ClassId × FieldType), (tysX cI cC cI2)[k]? = some q → ArrOfT s q.1 q.2 ∧ va_RA s q.1 q.2 := by
  obtain ⟨cI, kI, comp, f1, f2, f3⟩ := Cond.arrayClass_spec (hts (.arrayClass .int) (by decide +kernel))
  obtain ⟨compC, cC, kC, g1, -, g3, g4, g5⟩ := Cond.arrayOver_spec (hts (.arrayOver (.object "CowsOwed$Clan")) (by decide +kernel))
  obtain ⟨comp2, cI2, k2, e1, -, e2, e3, e4⟩ := arrayOverA_spec (hts (.arrayOver (.array .int)) (by decide +kernel))
  refine ⟨cI, cC, cI2, fun k q hq => ?_⟩
  match k, hq with
  | 0, hq => cases hq; exact ⟨fun N z => ⟨(fun k h => by cases h), kI, f2, comp, f3⟩, f1⟩
  | 1, hq => cases hq; exact ⟨fun N z => ⟨(fun k h => by cases h), kC, g3, compC, g4⟩, kC, compC, g3, g4, g1, g5⟩
  | 2, hq => cases hq; exact ⟨fun N z => ⟨(fun k h => by cases h), k2, e2, comp2, e3⟩, e4⟩
  | k + 3, hq => simp [tysX] at hq
theorem en_D (hts : ∀ w ∈ lw_tbl, w.before av s = true) : ∃ D : va_G, ∀ (k : Nat) (q : vw_C), vwCl[k]? = some q → u_Kn s q.1 q.2.1 q.2.2 (D.1 k) (D.2 k) := by
  obtain ⟨c0, i0, h0⟩ := u_known (C := RX0) (T := TX0) (N := 0) (n := 0) hts inX0 (hts (.instantiable RX0 0) (by decide +kernel))
  obtain ⟨c1, i1, h1⟩ := u_known (C := RX1) (T := TX1) (N := 0) (n := 0) hts inX1 (hts (.instantiable RX1 0) (by decide +kernel))
  obtain ⟨c2, i2, h2⟩ := u_known (C := RX2) (T := TX2) (N := 5) (n := 5) hts inX2 (hts (.instantiable RX2 5) (by decide +kernel))
  obtain ⟨c3, i3, h3⟩ := u_known (C := RX3) (T := TX3) (N := 0) (n := 0) hts inX3 (hts (.instantiable RX3 0) (by decide +kernel))
  obtain ⟨c4, i4, h4⟩ := u_known (C := RX4) (T := TX4) (N := 2) (n := 2) hts inX4 (hts (.instantiable RX4 2) (by decide +kernel))
  obtain ⟨c5, i5, h5⟩ := u_known (C := RX5) (T := TX5) (N := 6) (n := 6) hts inX5 (hts (.instantiable RX5 6) (by decide +kernel))
  obtain ⟨c6, i6, h6⟩ := u_known (C := RX6) (T := TX6) (N := 0) (n := 0) hts inX6 (hts (.instantiable RX6 0) (by decide +kernel))
  obtain ⟨c7, i7, h7⟩ := u_known (C := RX7) (T := TX7) (N := 0) (n := 0) hts inX7 (hts (.instantiable RX7 0) (by decide +kernel))
  obtain ⟨c8, i8, h8⟩ := u_known (C := RX8) (T := TX8) (N := 5) (n := 5) hts inX8 (hts (.instantiable RX8 5) (by decide +kernel))
  obtain ⟨c9, i9, h9⟩ := u_known (C := RX9) (T := TX9) (N := 3) (n := 3) hts inX9 (hts (.instantiable RX9 3) (by decide +kernel))
  obtain ⟨c10, i10, h10⟩ := u_known (C := RX10) (T := TX10) (N := 5) (n := 5) hts inX10 (hts (.instantiable RX10 5) (by decide +kernel))
  obtain ⟨c11, i11, h11⟩ := u_known (C := RX11) (T := TX11) (N := 8) (n := 8) hts inX11 (hts (.instantiable RX11 8) (by decide +kernel))
  obtain ⟨c12, i12, h12⟩ := u_known (C := RX12) (T := TX12) (N := 38) (n := 38) hts inX12 (hts (.instantiable RX12 38) (by decide +kernel))
  refine ⟨(fun k => if k = 0 then c0 else if k = 1 then c1 else if k = 2 then c2 else if k = 3 then c3 else if k = 4 then c4 else if k = 5 then c5 else if k = 6 then c6 else if k = 7 then c7 else if k = 8 then c8 else if k = 9 then c9 else if k = 10 then c10 else if k = 11 then c11 else c12, fun k => if k = 0 then i0 else if k = 1 then i1 else if k = 2 then i2 else if k = 3 then i3 else if k = 4 then i4 else if k = 5 then i5 else if k = 6 then i6 else if k = 7 then i7 else if k = 8 then i8 else if k = 9 then i9 else if k = 10 then i10 else if k = 11 then i11 else i12), fun k q hq => ?_⟩
  match k, hq with
  | 0, hq => cases hq; exact h0
  | 1, hq => cases hq; exact h1
  | 2, hq => cases hq; exact h2
  | 3, hq => cases hq; exact h3
  | 4, hq => cases hq; exact h4
  | 5, hq => cases hq; exact h5
  | 6, hq => cases hq; exact h6
  | 7, hq => cases hq; exact h7
  | 8, hq => cases hq; exact h8
  | 9, hq => cases hq; exact h9
  | 10, hq => cases hq; exact h10
  | 11, hq => cases hq; exact h11
  | 12, hq => cases hq; exact h12
  | k + 13, hq => simp [vwCl] at hq
theorem nest_mem : ∀ q ∈ nestL, Cond.methodLinkNest q.1 q.2.1 q.2.2.1 q.2.2.2 ∈ lw_tbl := by decide +kernel
theorem yc_mem : ∀ q ∈ ycL, Cond.castable q.1 q.2 ∈ lw_tbl := by decide +kernel
theorem nc_mem : ∀ q ∈ ncL, Cond.not (Cond.castable q.1 q.2) ∈ flatC (Jvm.Cond.and given_1 narrow_1) := by decide +kernel
theorem en_xN (hts : ∀ w ∈ lw_tbl, w.before av s = true) : xN s :=
  ⟨fun q hq => va_Nw.of rfl (hts _ (nest_mem q hq)), va_AO.of (hts (.arrayOver (.object "CowsOwed$Clan")) (by decide +kernel)), va_AOA.of (hts (.arrayOver (.array .int)) (by decide +kernel)), fun q hq => va_Nw.of rfl (hts _ (yc_mem q hq))⟩
theorem en_xE (hts : ∀ w ∈ lw_tbl, w.before av s = true) (hs : ∀ w ∈ flatC (Jvm.Cond.and given_1 narrow_1), w.before av s = true) : ∃ z : Nat → Nat, xE z (fun q : Nat => s.heap.size ≤ q) s s.heap := by
  have hA : ∀ a : Nat, a < s.heap.size → ¬ (fun q : Nat => s.heap.size ≤ q) a := fun a h k => absurd h (Nat.not_lt.mpr k)
  obtain ⟨tp, hp, hT⟩ := va_Tof (tm := .static "CowsOwed" "CLAN_PARTS" "[I") (ty := .int) (N := 11) (f := partsV) (A := fun q : Nat => s.heap.size ≤ q) (by decide) (hs (.arrayOf (.static "CowsOwed" "CLAN_PARTS" "[I") .int) (by decide +kernel)) (va_eqt (hs (.eq (.length (.static "CowsOwed" "CLAN_PARTS" "[I")) (.int 11)) (by decide +kernel))) (fun j hj => by
    match j, hj with
    | 0, _ => exact va_eqt (hs (.eq (.elem (.static "CowsOwed" "CLAN_PARTS" "[I") (.int 0)) (.int 0)) (by decide +kernel))
    | 1, _ => exact va_eqt (hs (.eq (.elem (.static "CowsOwed" "CLAN_PARTS" "[I") (.int 1)) (.int 1)) (by decide +kernel))
    | 2, _ => exact va_eqt (hs (.eq (.elem (.static "CowsOwed" "CLAN_PARTS" "[I") (.int 2)) (.int 2)) (by decide +kernel))
    | 3, _ => exact va_eqt (hs (.eq (.elem (.static "CowsOwed" "CLAN_PARTS" "[I") (.int 3)) (.int 3)) (by decide +kernel))
    | 4, _ => exact va_eqt (hs (.eq (.elem (.static "CowsOwed" "CLAN_PARTS" "[I") (.int 4)) (.int 4)) (by decide +kernel))
    | 5, _ => exact va_eqt (hs (.eq (.elem (.static "CowsOwed" "CLAN_PARTS" "[I") (.int 5)) (.int 5)) (by decide +kernel))
    | 6, _ => exact va_eqt (hs (.eq (.elem (.static "CowsOwed" "CLAN_PARTS" "[I") (.int 6)) (.int 6)) (by decide +kernel))
    | 7, _ => exact va_eqt (hs (.eq (.elem (.static "CowsOwed" "CLAN_PARTS" "[I") (.int 7)) (.int 10)) (by decide +kernel))
    | 8, _ => exact va_eqt (hs (.eq (.elem (.static "CowsOwed" "CLAN_PARTS" "[I") (.int 8)) (.int 11)) (by decide +kernel))
    | 9, _ => exact va_eqt (hs (.eq (.elem (.static "CowsOwed" "CLAN_PARTS" "[I") (.int 9)) (.int 12)) (by decide +kernel))
    | 10, _ => exact va_eqt (hs (.eq (.elem (.static "CowsOwed" "CLAN_PARTS" "[I") (.int 10)) (.int 13)) (by decide +kernel))
    | j + 11, hj => exact absurd hj (by omega)) hA
  have hex := hs (.exactly (.string "CowsOwed$Page" 31) "java/lang/String") (by decide +kernel)
  obtain ⟨as, _, _, _, q1, _⟩ := Cond.exactly_spec hex
  obtain ⟨tb, hb, hB⟩ := va_Tof (tm := .field (.string "CowsOwed$Page" 31) "java/lang/String" "value" "[B") (ty := .byte) (N := 5) (f := lettersV) (A := fun q : Nat => s.heap.size ≤ q) (by decide) (hs (.arrayOf (.field (.string "CowsOwed$Page" 31) "java/lang/String" "value" "[B") .byte) (by decide +kernel)) (va_eqt (hs (.eq (.length (.field (.string "CowsOwed$Page" 31) "java/lang/String" "value" "[B")) (.int 5)) (by decide +kernel))) (fun j hj => by
    match j, hj with
    | 0, _ => exact va_eqt (hs (.eq (.elem (.field (.string "CowsOwed$Page" 31) "java/lang/String" "value" "[B") (.int 0)) (.int 99)) (by decide +kernel))
    | 1, _ => exact va_eqt (hs (.eq (.elem (.field (.string "CowsOwed$Page" 31) "java/lang/String" "value" "[B") (.int 1)) (.int 112)) (by decide +kernel))
    | 2, _ => exact va_eqt (hs (.eq (.elem (.field (.string "CowsOwed$Page" 31) "java/lang/String" "value" "[B") (.int 2)) (.int 111)) (by decide +kernel))
    | 3, _ => exact va_eqt (hs (.eq (.elem (.field (.string "CowsOwed$Page" 31) "java/lang/String" "value" "[B") (.int 3)) (.int 119)) (by decide +kernel))
    | 4, _ => exact va_eqt (hs (.eq (.elem (.field (.string "CowsOwed$Page" 31) "java/lang/String" "value" "[B") (.int 4)) (.int 107)) (by decide +kernel))
    | j + 5, hj => exact absurd hj (by omega)) hA
  refine ⟨fun k => if k = 0 then as else if k = 1 then tb else tp, ⟨fun q hq => va_Nw.of rfl (hts _ (yc_mem q hq)), fun q hq => va_Nc.of (hs _ (nc_mem q hq))⟩, ?_, ⟨?_, hT⟩, ?_, ?_, ?_, ?_, hB⟩
  · exact va_Zof (hts (.laysStatic "java/lang/String" "COMPACT_STRINGS" "Z") (by decide +kernel)) (hts (.initialized "java/lang/String") (by decide +kernel)) (va_eqi (hs (.eq (.static "java/lang/String" "COMPACT_STRINGS" "Z") (.int 1)) (by decide +kernel))) hA
  · exact va_Zref (hts (.laysStatic "CowsOwed" "CLAN_PARTS" "[I") (by decide +kernel)) (hts (.initialized "CowsOwed") (by decide +kernel)) hp hA
  · exact vk_R.of (hts (.stringRef "CowsOwed$Page" 31 "cpowk") (by decide +kernel)) q1
  · exact va_Oof hex q1 hA
  · exact vk_OFof q1 (va_eqt (hs (.eq (.field (.string "CowsOwed$Page" 31) "java/lang/String" "coder" "B") (.int 0)) (by decide +kernel))) hA
  · exact vk_OFof q1 hb hA
end EN
