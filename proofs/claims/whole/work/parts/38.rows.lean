/-! ===== arrays of references, and of arrays ===== -/
section GQ
variable {p : Program} {l : Launch} {e : Env} {R : Room} {s : State} {m : MethodId} {args : Array Value} {below : List Frame} {meth : Method} {c : Code} {H : Heap} {locs : List Loc} {Q : State → Prop} {cells slots : Nat}
variable {cc : ByteArray} {pc nL index : Nat} {ls : Array Slot} {rest : List Value} {D : va_G} {A : Nat → Prop} {tys : List (ClassId × FieldType)} {w : va_W} {Ts : List Cond} {own : String} {cI cC cI2 : ClassId}
theorem gw.arrq (hw : gw D tys A s H locs w) (q0 : Nat) {a : Nat} {cA : ClassId} {n : Nat} {f g : Nat → Option Nat} (he : w[q0]? = some (a, .inl (cA, n, .inr (.inr (.inr (.inr f)))))) (hfg : ∀ k, k < n → f k = g k) {w2 : va_W} (hset : w.set q0 (a, .inl (cA, n, .inr (.inr (.inr (.inr g))))) = w2) : gw D tys A s H locs w2 := by
  subst hset
  obtain ⟨hK, hP, hD, hS, hA⟩ := hw
  refine ⟨hK, hP.set hD he ?_ (fun _ _ => rfl), hD.set he, hS, hA⟩
  have h1 := hP q0 _ he
  have h2 : vp_cell cA (n, .inr (.inr (.inr (.inr f)))) = vp_cell cA (n, .inr (.inr (.inr (.inr g)))) := by
    rw [vp_cell_q, vp_cell_q]
    unfold arrV
    have h3 : (fun j : Fin n => va_rf (f j.val)) = (fun j : Fin n => va_rf (g j.val)) := funext fun j => by rw [hfg j.val j.isLt]
    rw [h3]
  exact h1.trans (congrArg some h2)
theorem g_cAeq {t0 : Nat} {cJ cA : ClassId} (h1 : va_K D vwCl (tys ++ [(cA, .array .int)]) s) (h2 : va_K D vwCl tys s) (ht : tys[t0]? = some (cJ, .array .int)) : cA = cJ := by
  have e1 := (h1.2 tys.length (cA, .array .int) (by rw [List.getElem?_append_right (Nat.le_refl _), Nat.sub_self]; rfl)).2
  have e2 := (h2.2 t0 (cJ, .array .int) ht).2
  exact Option.some.inj (e1.symm.trans e2)
theorem g_cOeq {t0 : Nat} {cJ cA : ClassId} {C : String} (h1 : va_K D vwCl (tys ++ [(cA, .object C)]) s) (h2 : va_K D vwCl tys s) (ht : tys[t0]? = some (cJ, .object C)) : cA = cJ := by
  obtain ⟨_, _, _, _, _, e1⟩ := (h1.2 tys.length (cA, .object C) (by rw [List.getElem?_append_right (Nat.le_refl _), Nat.sub_self]; rfl)).2
  obtain ⟨_, _, _, _, _, e2⟩ := (h2.2 t0 (cJ, .object C) ht).2
  exact Option.some.inj (e1.symm.trans e2)
/-- new int[4][4] -/
theorem g_mna4 (S : CallFix p m c cc nL s args Ts own) (hw : gw D (tysX cI cC cI2) A s H locs w) (hN : xN s) (hcl : Cond.classLink own index "[[I" ∈ Ts) (harr : Cond.arrayClass .int ∈ Ts) (hcells : cells + (1 + 4) ≤ R.cells) (hslots : slots + (4 + 4 * 4) ≤ R.slots) (hdg : decode cc pc = .ok (.multianewarray index 2, 4))
    (kk : ∀ (q : Nat) (r : Nat → Nat) (H1 : Heap), gw D (tysX cI cC cI2) A s H1 locs (w ++ [(q, .inl (cI2, 4, .inr (.inr (.inr (.inr (fun i => some (r i))))))), (r 0, .inl (cI, 4, .inl (fun _ => 0))), (r 1, .inl (cI, 4, .inl (fun _ => 0))), (r 2, .inl (cI, 4, .inl (fun _ => 0))), (r 3, .inl (cI, 4, .inl (fun _ => 0)))]) → W p l e R s m args below meth c H1 locs (cells + 1 + 4) (slots + 4 + 4 * 4) Q (F0 m (pc + 4) ls (.ref q :: rest))) :
    W p l e R s m args below meth c H locs cells slots Q (F0 m pc ls (.int 4 :: .int 4 :: rest)) := by
  have es : "[" ++ (FieldType.array .int).toString = "[[I" := by decide +kernel
  have hcy : s.vm.findClass (FieldType.array .int).toString = some cI := (hw.1.2 0 (cI, .int) rfl).2
  have hP0 : va_P D vwCl (w ++ va_pl [] (fun _ => .inr (0, []))) H := by show va_P D vwCl (w ++ []) H; rw [List.append_nil]; exact hw.2.1
  have hD0 : va_D A (w ++ va_pl [] (fun _ => .inr (0, []))) := by show va_D A (w ++ []); rw [List.append_nil]; exact hw.2.2.1
  refine va_mna (X := w) (L := []) (f := fun _ => .inr (0, [])) (z := (4, .inl (fun _ => 0))) S.1 S.2.1 (ty := .int) (cy := cI) S.2.2.2.1 (by rw [es]; exact S.2.2.2.2 _ hcl) hN.2.2.1 (S.2.2.2.2 _ harr) hcy hw.1 hP0 hD0 hw.2.2.2.1 hw.2.2.2.2 (n := 4) (k := 4) (N' := 4) (K' := 4) (by decide) (by decide) (by decide) (by decide) (by decide) (by decide) (by decide) (by decide) (by decide) hcells hslots (fun c => arrV_new c 4 _) hdg (fun q r cA H1 hinj hnl hK hP hD hS => ?_)
  have eA : cA = cI2 := g_cAeq hK hw.1 (t0 := 2) rfl
  subst eA
  have ew : (w ++ [(q, (.inl (cA, 4, .inr (.inr (.inr (.inr (fun i => if i < 4 then some (r i) else none))))) : va_E))]) ++ va_pl ([] ++ (List.range 4).map r) (vr_up (fun _ => .inr (0, [])) ((List.range 4).map r) (.inl (cI, (4, .inl (fun _ => 0))))) = w ++ [(q, .inl (cA, 4, .inr (.inr (.inr (.inr (fun i => if i < 4 then some (r i) else none)))))), (r 0, .inl (cI, 4, .inl (fun _ => 0))), (r 1, .inl (cI, 4, .inl (fun _ => 0))), (r 2, .inl (cI, 4, .inl (fun _ => 0))), (r 3, .inl (cI, 4, .inl (fun _ => 0)))] := by
    rw [List.append_assoc]
    have hr : (List.range 4).map r = [r 0, r 1, r 2, r 3] := rfl
    rw [hr]
    show w ++ ([(q, _)] ++ [(r 0, vr_up _ _ _ (r 0)), (r 1, vr_up _ _ _ (r 1)), (r 2, vr_up _ _ _ (r 2)), (r 3, vr_up _ _ _ (r 3))]) = _
    rw [vr_up_in (a := r 0) (by simp), vr_up_in (a := r 1) (by simp), vr_up_in (a := r 2) (by simp), vr_up_in (a := r 3) (by simp)]
    rfl
  rw [ew] at hP hD
  have hw1 : gw D (tysX cI cC cA) A s H1 locs _ := ⟨hw.1, hP, hD, hS, hw.2.2.2.2⟩
  refine kk q r H1 (hw1.arrq w.length (a := q) (cA := cA) (n := 4) (f := fun i => if i < 4 then some (r i) else none) (g := fun i => some (r i)) ?_ (fun k hk => if_pos hk) ?_)
  · rw [List.getElem?_append_right (Nat.le_refl _), Nat.sub_self]; rfl
  · rw [List.set_append_right _ _ (Nat.le_refl _), Nat.sub_self]; rfl
/-- new Clan[n] -/
theorem g_newqK (S : CallFix p m c cc nL s args Ts own) (hw : gw D (tysX cI cC cI2) A s H locs w) (hN : xN s) (hcl : Cond.classLink own index "CowsOwed$Clan" ∈ Ts) {n : Nat} (hn : n < 1000) (hcells : cells + 1 ≤ R.cells) (hslots : slots + n ≤ R.slots) (hdg : decode cc pc = .ok (.anewarray index, 3))
    (kk : ∀ (q : Nat) (H1 : Heap), gw D (tysX cI cC cI2) A s H1 locs (w ++ [(q, .inl (cC, n, .inr (.inr (.inr (.inr (fun _ => none))))))]) → W p l e R s m args below meth c H1 locs (cells + 1) (slots + n) Q (F0 m (pc + 3) ls (.ref q :: rest))) : W p l e R s m args below meth c H locs cells slots Q (F0 m pc ls (.int (nI n) :: rest)) := by
  refine va_newq S.1 S.2.1 S.2.2.2.1 (S.2.2.2.2 _ hcl) hN.2.1 hw.1 hw.2.1 hw.2.2.1 hw.2.2.2.1 hw.2.2.2.2 (nI_pos (by omega)) (nI_clamp (by omega)) (by omega) hcells hslots hdg (fun q cA H1 hK hP hD hS => ?_)
  have e1 : cA = cC := g_cOeq hK hw.1 (t0 := 1) rfl
  subst e1
  exact kk q H1 ⟨hw.1, hP, hD, hS, hw.2.2.2.2⟩
/-- a clan of its own class, or of one below it, into an array of clans -/
theorem g_aast1 (S : CallFix p m c cc nL s args Ts own) (hw : gw D (tysX cI cC cI2) A s H locs w) (q0 qk : Nat) {a n v : Nat} {vs : List Value} {f : Nat → Option Nat} (ha : w[q0]? = some (a, .inl (cC, n, .inr (.inr (.inr (.inr f)))))) (hv : w[qk]? = some (v, .inr (1, vs))) {i : Nat} (hi : i < n) (hn : n < 2 ^ 31) {w2 : va_W} (hset : w.set q0 (a, .inl (cC, n, .inr (.inr (.inr (.inr (va_up f i (some v))))))) = w2) (hdg : decode cc pc = .ok (.aastore, 1))
    (kk : ∀ (H1 : Heap) (locs1 : List Loc), gw D (tysX cI cC cI2) A s H1 locs1 w2 → W p l e R s m args below meth c H1 locs1 cells slots Q (F0 m (pc + 1) ls rest)) : W p l e R s m args below meth c H locs cells slots Q (F0 m pc ls (.ref v :: .int (nI i) :: .ref a :: rest)) := by
  subst hset
  refine va_astq S.1 S.2.1 hw.1 hw.2.1 hw.2.2.1 hw.2.2.2.1 q0 1 qk 1 (r := (RX1, TX1, 0)) ha rfl hv rfl (vp_in_nI hi hn) hdg (fun H1 locs1 hP hD hS => ?_)
  rw [nI_clamp (by omega)] at hP hD
  exact kk H1 locs1 ⟨hw.1, hP, hD, hS, hw.2.2.2.2⟩
theorem g_aastO {r : vw_C} (S : CallFix p m c cc nL s args Ts own) (hw : gw D (tysX cI cC cI2) A s H locs w) (hN : xN s) (q0 qk ci : Nat) {a n v : Nat} {vs : List Value} {f : Nat → Option Nat} (ha : w[q0]? = some (a, .inl (cC, n, .inr (.inr (.inr (.inr f)))))) (hca : (r.1, "CowsOwed$Clan") ∈ ycL) (hv : w[qk]? = some (v, .inr (ci, vs))) (hc : vwCl[ci]? = some r) {i : Nat} (hi : i < n) (hn : n < 2 ^ 31) {w2 : va_W} (hset : w.set q0 (a, .inl (cC, n, .inr (.inr (.inr (.inr (va_up f i (some v))))))) = w2) (hdg : decode cc pc = .ok (.aastore, 1))
    (kk : ∀ (H1 : Heap) (locs1 : List Loc), gw D (tysX cI cC cI2) A s H1 locs1 w2 → W p l e R s m args below meth c H1 locs1 cells slots Q (F0 m (pc + 1) ls rest)) : W p l e R s m args below meth c H locs cells slots Q (F0 m pc ls (.ref v :: .int (nI i) :: .ref a :: rest)) := by
  subst hset
  refine va_astqO S.1 S.2.1 hw.1 hw.2.1 hw.2.2.1 hw.2.2.2.1 q0 1 qk ci (r := r) ha rfl (hN.2.2.2 _ hca) hv hc (vp_in_nI hi hn) hdg (fun H1 locs1 hP hD hS => ?_)
  rw [nI_clamp (by omega)] at hP hD
  exact kk H1 locs1 ⟨hw.1, hP, hD, hS, hw.2.2.2.2⟩
end GQ
