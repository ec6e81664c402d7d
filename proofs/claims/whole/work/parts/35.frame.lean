/-! ===== the frame rule: a callee's world is the right part of the caller's ===== -/
theorem gP_l {D : va_G} {v w : va_W} {H : Heap} (h : va_P D vwCl (v ++ w) H) : va_P D vwCl v H := fun k q hk => h k q (by rw [List.getElem?_append_left (List.getElem?_eq_some_iff.mp hk).1]; exact hk)
theorem gP_r {D : va_G} {v w : va_W} {H : Heap} (h : va_P D vwCl (v ++ w) H) : va_P D vwCl w H := fun k q hk => h (v.length + k) q (by rw [List.getElem?_append_right (by omega), show v.length + k - v.length = k by omega]; exact hk)
theorem gD_at {v w : va_W} {k : Nat} {q : Nat × va_E} (hk : w[k]? = some q) : (v ++ w)[v.length + k]? = some q := by rw [List.getElem?_append_right (by omega), show v.length + k - v.length = k by omega]; exact hk
theorem gD_al {v w : va_W} {k : Nat} {q : Nat × va_E} (hk : v[k]? = some q) : (v ++ w)[k]? = some q := by rw [List.getElem?_append_left (List.getElem?_eq_some_iff.mp hk).1]; exact hk
theorem gD_l {A : Nat → Prop} {v w : va_W} (h : va_D A (v ++ w)) : va_D A v := ⟨fun i j p q hi hj e => h.1 i j p q (gD_al hi) (gD_al hj) e, fun k q hk => h.2 k q (gD_al hk)⟩
theorem gD_r {A : Nat → Prop} {v w : va_W} (h : va_D A (v ++ w)) : va_D A w := ⟨fun i j p q hi hj e => by have := h.1 _ _ p q (gD_at hi) (gD_at hj) e; omega, fun k q hk => h.2 _ q (gD_at hk)⟩
theorem gD_x {A : Nat → Prop} {v w : va_W} (h : va_D A (v ++ w)) : ∀ (i j : Nat) (p q : Nat × va_E), v[i]? = some p → w[j]? = some q → p.1 ≠ q.1 := by
  intro i j p q hi hj e
  have h1 := h.1 _ _ p q (gD_al hi) (gD_at hj) e
  have h2 := (List.getElem?_eq_some_iff.mp hi).1
  omega
section GF
variable {p : Program} {l : Launch} {e : Env} {s : State} {m : MethodId} {args : Array Value} {below : List Frame} {meth : Method} {c : Code} {H : Heap} {locs : List Loc} {Q : State → Prop}
variable {cc : ByteArray} {pc nL : Nat} {ls : Array Slot} {rest : List Value} {D : va_G} {z : Nat → Nat} {A : Nat → Prop} {tys : List (ClassId × FieldType)} {v w w1 : va_W} {Ts : List Cond} {own : String} {cells slots : Nat}
variable {k kc : Nat} {C owner : String} {T : u_T} {N ci index maxL : Nat} {x y : MethodName} {ws ws' : List Cond} {bytes : ByteArray} {ret : Option FieldType} {b : Nat} {As st0 : List Value} {fs : List Value}
theorem gw.swap (hw : gw D tys A s H locs (v ++ w)) : gw D tys A s H locs (w ++ v) := by
  obtain ⟨hK, hP, hD, hS, hA⟩ := hw
  exact ⟨hK, (gP_r hP).app (gP_l hP), (gD_r hD).app (gD_l hD) (fun i j p q hi hj e => gD_x hD j i q p hj hi e.symm), hS, hA⟩
theorem gw.right (hw : gw D tys A s H locs (v ++ w)) : gw D tys A s H locs w := ⟨hw.1, gP_r hw.2.1, gD_r hw.2.2.1, hw.2.2.2⟩
theorem gw.afterF (hw : gw D tys A s H locs (v ++ w)) {t : State} {H1 : Heap} {locs1 : List Loc} (ht : t.heap = H1) (hk : ∀ q : Nat, q < H.size → ¬ va_A w H.size q → H1[q]? = H[q]?) (hP1 : va_P D vwCl w1 t.heap) (hD1 : va_D (va_A w H.size) w1) (hS1 : va_S A s.heap H1 locs1) : gw D tys A s H1 locs1 (v ++ w1) := by
  rw [ht] at hP1
  have hf := hw.right.free
  obtain ⟨hK, hP, hD, hS, hA⟩ := hw
  have apart : ∀ (i : Nat) (q : Nat × va_E), v[i]? = some q → q.1 < H.size ∧ ¬ va_A w H.size q.1 := by
    intro i q hq
    have hl := (gP_l hP i q hq).lt
    refine ⟨hl, fun h => ?_⟩
    rcases h with ⟨k2, e2, h⟩ | h
    · exact gD_x hD i k2 q (q.1, e2) hq h rfl
    · omega
  refine ⟨hK, ((gP_l hP).kept (fun i q hq => hk q.1 (apart i q hq).1 (apart i q hq).2)).app hP1, (gD_l hD).app (hD1.weaken (fun i q _ h => hf q.1 h)) (fun i j p' q hi hj e => ?_), hS1, hA⟩
  exact (apart i p' hi).2 (by rw [e]; exact hD1.2 j q hj)
/-- calls of a method of the right part -/
theorem g_callViF {r : Int32} (S : CallFix p m c cc nL s args Ts own) (hw : gw D tys A s H locs (v ++ w)) {R : Room} (hM : gI l D tys y ws kc (.ref b :: As) w r w1) (hG : GoodIn Ts (wsV own index C y ws)) (hws : ws = Cond.code y bytes maxL ret :: ws') (q0 : Nat) (he : w[q0]? = some (b, .inr (ci, fs))) (hc : vwCl[ci]? = some (C, T, N))
    (n : Nat) (hn : As.length = n) (hd : y.cls = C ∧ y.cls ≠ "java/lang/invoke/MethodHandle" ∧ y.cls ≠ "java/lang/invoke/VarHandle" ∧ (parseMethodDescriptor y.desc).map (fun d => d.parameters.length) = some n) (hR : (gR kc).frames + 1 ≤ R.frames ∧ 8 + (maxL + 11) + (gR kc).locals ≤ R.locals) (hf : cells ≤ R.cells ∧ slots ≤ R.slots) (hsz : ls.size = nL) (hst : st0 = As.reverse ++ .ref b :: rest) (hroom : (rest.map fun v => v.category).sum ≤ 8) (hdg : decode cc pc = .ok (.invokevirtual index, 3))
    (kk : ∀ H1 locs1, gw D tys A s H1 locs1 (v ++ w1) → W p l e R s m args below meth c H1 locs1 cells slots Q (F0 m (pc + 3) ls (.int r :: rest))) :
    W p l e R s m args below meth c H locs cells slots Q (F0 m pc ls st0) := by
  subst hn
  refine va_calli (va_runV (As := As) (rest := rest) (g := F0 m pc ls st0) S (hM H.size) (cwV As.length S.2.2.2.2 hG hws rfl rfl hd hR) ⟨gPre_blind, va_recv hw.1 hw.right.2.1 hc he, hw.right.pre _⟩ rfl rfl hsz hst (lv_room hroom) hdg hf) hw.2.2.2.1 (fun q _ h => hw.right.free q h) hw.right.free (fun x u t H1 locs1 ht hvm hx hB hz1 hk1 hS => ?_)
  subst hx
  exact kk H1 locs1 (hw.afterF ht hk1 hB.1 hB.2.2 hS)
theorem g_callVlF {r : Int64} (S : CallFix p m c cc nL s args Ts own) (hw : gw D tys A s H locs (v ++ w)) {R : Room} (hM : gL l D tys y ws kc (.ref b :: As) w r w1) (hG : GoodIn Ts (wsV own index C y ws)) (hws : ws = Cond.code y bytes maxL ret :: ws') (q0 : Nat) (he : w[q0]? = some (b, .inr (ci, fs))) (hc : vwCl[ci]? = some (C, T, N))
    (n : Nat) (hn : As.length = n) (hd : y.cls = C ∧ y.cls ≠ "java/lang/invoke/MethodHandle" ∧ y.cls ≠ "java/lang/invoke/VarHandle" ∧ (parseMethodDescriptor y.desc).map (fun d => d.parameters.length) = some n) (hR : (gR kc).frames + 1 ≤ R.frames ∧ 8 + (maxL + 11) + (gR kc).locals ≤ R.locals) (hf : cells ≤ R.cells ∧ slots ≤ R.slots) (hsz : ls.size = nL) (hst : st0 = As.reverse ++ .ref b :: rest) (hroom : (rest.map fun v => v.category).sum ≤ 8) (hdg : decode cc pc = .ok (.invokevirtual index, 3))
    (kk : ∀ H1 locs1, gw D tys A s H1 locs1 (v ++ w1) → W p l e R s m args below meth c H1 locs1 cells slots Q (F0 m (pc + 3) ls (.long r :: rest))) :
    W p l e R s m args below meth c H locs cells slots Q (F0 m pc ls st0) := by
  subst hn
  refine va_calll (va_runV (As := As) (rest := rest) (g := F0 m pc ls st0) S (hM H.size) (cwV As.length S.2.2.2.2 hG hws rfl rfl hd hR) ⟨gPre_blind, va_recv hw.1 hw.right.2.1 hc he, hw.right.pre _⟩ rfl rfl hsz hst (lv_room hroom) hdg hf) hw.2.2.2.1 (fun q _ h => hw.right.free q h) hw.right.free (fun x u t H1 locs1 ht hvm hx hB hz1 hk1 hS => ?_)
  subst hx
  exact kk H1 locs1 (hw.afterF ht hk1 hB.1 hB.2.2 hS)
theorem g_callViEF {r : Int32} (S : CallFix p m c cc nL s args Ts own) (hw : gw D tys A s H locs (v ++ w)) (hE : xE z A s s.heap) {R : Room} (hM : gIE l D z tys y ws kc (.ref b :: As) w r w1) (hG : GoodIn Ts (wsV own index C y ws)) (hws : ws = Cond.code y bytes maxL ret :: ws') (q0 : Nat) (he : w[q0]? = some (b, .inr (ci, fs))) (hc : vwCl[ci]? = some (C, T, N))
    (n : Nat) (hn : As.length = n) (hd : y.cls = C ∧ y.cls ≠ "java/lang/invoke/MethodHandle" ∧ y.cls ≠ "java/lang/invoke/VarHandle" ∧ (parseMethodDescriptor y.desc).map (fun d => d.parameters.length) = some n) (hR : (gR kc).frames + 1 ≤ R.frames ∧ 8 + (maxL + 11) + (gR kc).locals ≤ R.locals) (hf : cells ≤ R.cells ∧ slots ≤ R.slots) (hsz : ls.size = nL) (hst : st0 = As.reverse ++ .ref b :: rest) (hroom : (rest.map fun v => v.category).sum ≤ 8) (hdg : decode cc pc = .ok (.invokevirtual index, 3))
    (kk : ∀ H1 locs1, gw D tys A s H1 locs1 (v ++ w1) → W p l e R s m args below meth c H1 locs1 cells slots Q (F0 m (pc + 3) ls (.int r :: rest))) :
    W p l e R s m args below meth c H locs cells slots Q (F0 m pc ls st0) := by
  subst hn
  refine va_calli (va_runV (As := As) (rest := rest) (g := F0 m pc ls st0) S (hM H.size) (cwV As.length S.2.2.2.2 hG hws rfl rfl hd hR) ⟨gPreE_blind, va_recv hw.1 hw.right.2.1 hc he, hw.right.preE hE _⟩ rfl rfl hsz hst (lv_room hroom) hdg hf) hw.2.2.2.1 (fun q _ h => hw.right.free q h) hw.right.free (fun x u t H1 locs1 ht hvm hx hB hz1 hk1 hS => ?_)
  subst hx
  exact kk H1 locs1 (hw.afterF ht hk1 hB.1 hB.2.2 hS)
theorem g_callVlEF {r : Int64} (S : CallFix p m c cc nL s args Ts own) (hw : gw D tys A s H locs (v ++ w)) (hE : xE z A s s.heap) {R : Room} (hM : gLE l D z tys y ws kc (.ref b :: As) w r w1) (hG : GoodIn Ts (wsV own index C y ws)) (hws : ws = Cond.code y bytes maxL ret :: ws') (q0 : Nat) (he : w[q0]? = some (b, .inr (ci, fs))) (hc : vwCl[ci]? = some (C, T, N))
    (n : Nat) (hn : As.length = n) (hd : y.cls = C ∧ y.cls ≠ "java/lang/invoke/MethodHandle" ∧ y.cls ≠ "java/lang/invoke/VarHandle" ∧ (parseMethodDescriptor y.desc).map (fun d => d.parameters.length) = some n) (hR : (gR kc).frames + 1 ≤ R.frames ∧ 8 + (maxL + 11) + (gR kc).locals ≤ R.locals) (hf : cells ≤ R.cells ∧ slots ≤ R.slots) (hsz : ls.size = nL) (hst : st0 = As.reverse ++ .ref b :: rest) (hroom : (rest.map fun v => v.category).sum ≤ 8) (hdg : decode cc pc = .ok (.invokevirtual index, 3))
    (kk : ∀ H1 locs1, gw D tys A s H1 locs1 (v ++ w1) → W p l e R s m args below meth c H1 locs1 cells slots Q (F0 m (pc + 3) ls (.long r :: rest))) :
    W p l e R s m args below meth c H locs cells slots Q (F0 m pc ls st0) := by
  subst hn
  refine va_calll (va_runV (As := As) (rest := rest) (g := F0 m pc ls st0) S (hM H.size) (cwV As.length S.2.2.2.2 hG hws rfl rfl hd hR) ⟨gPreE_blind, va_recv hw.1 hw.right.2.1 hc he, hw.right.preE hE _⟩ rfl rfl hsz hst (lv_room hroom) hdg hf) hw.2.2.2.1 (fun q _ h => hw.right.free q h) hw.right.free (fun x u t H1 locs1 ht hvm hx hB hz1 hk1 hS => ?_)
  subst hx
  exact kk H1 locs1 (hw.afterF ht hk1 hB.1 hB.2.2 hS)
end GF
