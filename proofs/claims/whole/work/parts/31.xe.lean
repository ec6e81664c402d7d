/-! ===== what the whole program stands on beside the worlds: the string of the letters, the array of the parts, which kind is which ===== -/
def lettersV : Nat → Value := fun j => .int (([99, 112, 111, 119, 107] : List Int32).getD j 0)
def partsV : Nat → Value := fun j => .int (([0, 1, 2, 3, 4, 5, 6, 10, 11, 12, 13] : List Int32).getD j 0)
/-- the pairs of kinds of which the first is not the second -/
def ncL : List (String × String) := [("CowsOwed$Clan", "CowsOwed$Proud"), ("CowsOwed$Poor", "CowsOwed$Proud"), ("CowsOwed$Careful", "CowsOwed$Proud"), ("CowsOwed$Clan", "CowsOwed$Poor"), ("CowsOwed$Proud", "CowsOwed$Poor"), ("CowsOwed$Careful", "CowsOwed$Poor"), ("CowsOwed$Kings", "CowsOwed$Poor"), ("CowsOwed$Clan", "CowsOwed$Careful"), ("CowsOwed$Proud", "CowsOwed$Careful"), ("CowsOwed$Poor", "CowsOwed$Careful"), ("CowsOwed$Kings", "CowsOwed$Careful"), ("CowsOwed$Clan", "CowsOwed$Kings"), ("CowsOwed$Proud", "CowsOwed$Kings"), ("CowsOwed$Poor", "CowsOwed$Kings"), ("CowsOwed$Careful", "CowsOwed$Kings")]
/-- and those of which it is -/
def ycL : List (String × String) := [("CowsOwed$Kings", "CowsOwed$Proud"), ("CowsOwed$Proud", "CowsOwed$Clan"), ("CowsOwed$Poor", "CowsOwed$Clan"), ("CowsOwed$Careful", "CowsOwed$Clan"), ("CowsOwed$Kings", "CowsOwed$Clan")]
/-- z 0 the string, z 1 its bytes, z 2 the parts -/
def xE (z : Nat → Nat) (A : Nat → Prop) (U : State) (H : Heap) : Prop :=
  ((∀ q ∈ ycL, va_Nw (.castable q.1 q.2) U) ∧ ∀ q ∈ ncL, va_Nc q.1 q.2 U) ∧ va_Z "java/lang/String" "COMPACT_STRINGS" "Z" (.int 1) A U H ∧
  (va_Z "CowsOwed" "CLAN_PARTS" "[I" (.ref (z 2)) A U H ∧ va_T .int (z 2) 11 partsV A U H) ∧ vk_R "CowsOwed$Page" 31 "cpowk" (z 0) U ∧
  va_O "java/lang/String" (z 0) A U H ∧ va_OF "java/lang/String" "coder" "B" (.int 0) (z 0) A U H ∧ va_OF "java/lang/String" "value" "[B" (.ref (z 1)) (z 0) A U H ∧ va_T .byte (z 1) 5 lettersV A U H
theorem xE.warm {z : Nat → Nat} {A : Nat → Prop} {u U : State} {H : Heap} (hW : u.WarmedH U.vm) (h : xE z A u H) : xE z A U H := by
  obtain ⟨⟨h1, h2⟩, h3, ⟨h4, h5⟩, h6, h7, h8, h9, h10⟩ := h
  exact ⟨⟨fun q hq => (h1 q hq).warmC hW, fun q hq => (h2 q hq).moved hW.alike⟩, h3.moved hW.alike, ⟨h4.moved hW.alike, h5.moved hW.alike⟩, h6.warm hW, h7.moved hW.alike, h8.moved hW.alike, h9.moved hW.alike, h10.moved hW.alike⟩
theorem xE.same {z : Nat → Nat} {A : Nat → Prop} {u U : State} {H : Heap} (hv : U.vm = u.vm) (h : xE z A u H) : xE z A U H := by
  obtain ⟨⟨h1, h2⟩, h3, ⟨h4, h5⟩, h6, h7, h8, h9, h10⟩ := h
  have ha : u.vm.Alike U.vm := by rw [hv]; exact Vm.Alike.refl u.vm
  exact ⟨⟨fun q hq => (h1 q hq).same rfl hv.symm, fun q hq => (h2 q hq).moved ha⟩, h3.moved ha, ⟨h4.moved ha, h5.moved ha⟩, h6.same hv, h7.moved ha, h8.moved ha, h9.moved ha, h10.moved ha⟩
theorem xE.kept {z : Nat → Nat} {A : Nat → Prop} {U : State} {H H1 : Heap} (h : xE z A U H) (hq : ∀ a : Nat, a < H.size → ¬ A a → H1[a]? = H[a]?) : xE z A U H1 := by
  obtain ⟨h12, h3, ⟨h4, h5⟩, h6, h7, h8, h9, h10⟩ := h
  exact ⟨h12, h3.kept hq, ⟨h4.kept hq, h5.kept hq⟩, h6, h7.kept hq, h8.kept hq, h9.kept hq, h10.kept hq⟩
theorem xE.narrow {z : Nat → Nat} {A B : Nat → Prop} {U : State} {H : Heap} (h : xE z A U H) (hAB : ∀ q, B q → A q) : xE z B U H := by
  obtain ⟨h12, h3, ⟨h4, h5⟩, h6, h7, h8, h9, h10⟩ := h
  exact ⟨h12, h3.narrow hAB, ⟨h4.narrow hAB, h5.narrow hAB⟩, h6, h7.narrow hAB, h8.narrow hAB, h9.narrow hAB, h10.narrow hAB⟩
def gPreE (D : va_G) (z : Nat → Nat) (tys : List (ClassId × FieldType)) (av : List Value) (w : va_W) (sz : Nat) : Array Value → State → Prop :=
  va_Pc av (fun U => U.heap.size = sz ∧ va_P D vwCl w U.heap ∧ va_K D vwCl tys U ∧ va_D (fun _ => True) w ∧ xE z (va_A w sz) U U.heap)
def gIE (l : Launch) (D : va_G) (z : Nat → Nat) (tys : List (ClassId × FieldType)) (y : MethodName) (ws : List Cond) (k : Nat) (av : List Value) (w : va_W) (r : Int32) (w1 : va_W) : Prop :=
  ∀ sz, Met l y ws (gR k) (gPreE D z tys av w sz) (gQi D tys r w1 (va_A w sz)) 0 0 (va_A w sz)
def gLE (l : Launch) (D : va_G) (z : Nat → Nat) (tys : List (ClassId × FieldType)) (y : MethodName) (ws : List Cond) (k : Nat) (av : List Value) (w : va_W) (r : Int64) (w1 : va_W) : Prop :=
  ∀ sz, Met l y ws (gR k) (gPreE D z tys av w sz) (gQl D tys r w1 (va_A w sz)) 0 0 (va_A w sz)
/-- the start of such a contract -/
theorem g_startE {l : Launch} {D : va_G} {z : Nat → Nat} {tys : List (ClassId × FieldType)} {y : MethodName} {ws ws' : List Cond} {k : Nat} {av : List Value} {w : va_W} {cc : ByteArray} {maxL : Nat} {ret : Option FieldType} {Qc : (Nat → Prop) → Array Value → State → Outcome → State → Prop}
    (hy : plainName y.cls = true) (hw : ws = Cond.code y cc maxL ret :: ws') (hl : (lg_sl av).length ≤ maxL)
    (body : ∀ (p : Program) (e : Env) (s : State) (m : MethodId) (below : List Frame) (meth : Method) (c : Code) (A : Nat → Prop) (ls : Array Slot),
      CallFix p m c cc maxL s av.toArray ws y.cls → meth.sig.returnType = ret → meth.locks = false → gw D tys A s s.heap [] w → xE z A s s.heap → lv_has ls maxL (lv_args 0 av) →
      W p l e (gR k) s m av.toArray below meth c s.heap [] 0 0 (MQ below (Qc A) av.toArray s 0 0 A) (F0 m 0 ls [])) :
    ∀ sz, Met l y ws (gR k) (gPreE D z tys av w sz) (Qc (va_A w sz)) 0 0 (va_A w sz) := by
  intro sz
  refine Met.ofW (cc := cc) (maxL := maxL) (ret := ret) hy hw ?_
  intro p e s m args below meth c s₁ B hml hv
  obtain ⟨rfl, hsz, hP, hK, hD0, hE⟩ := hv
  have hts := atoms_spec (ws := ws) B.pre
  have hown : s.vm.findClass y.cls = some m.cls := findClass_of_methodNamed B.named
  subst hsz
  have hD := hD0.self (sz := s.heap.size)
  have hA : ∀ q : Nat, s.heap.size ≤ q → va_A w s.heap.size q := fun q h => Or.inr h
  have hS : va_S (va_A w s.heap.size) s.heap s.heap [] := va_S.rf
  have hlv := lv_entry av (n := maxL) hl
  rw [lg_entry_eq]
  exact body p e s m below meth c _ _ ⟨B.exec, B.bytes, hml, hown, hts⟩ B.returns B.notSynchronized ⟨hK, hP, hD, hS, hA⟩ hE hlv
theorem gPreE_blind {D : va_G} {z : Nat → Nat} {tys : List (ClassId × FieldType)} {av : List Value} {w : va_W} {sz : Nat} : FrameBlind (gPreE D z tys av w sz) := by
  intro a U g mk q
  obtain ⟨q0, q1, qP, qK, qD, qE⟩ := q
  exact ⟨q0, q1, qP, va_K.moved (u := U) (U := U.calling g mk a) (Vm.Alike.refl U.vm) qK, qD, xE.same (u := U) (U := U.calling g mk a) rfl qE⟩
section GCE
variable {p : Program} {l : Launch} {e : Env} {s : State} {m : MethodId} {args : Array Value} {below : List Frame} {meth : Method} {c : Code} {H : Heap} {locs : List Loc} {Q : State → Prop}
variable {cc : ByteArray} {pc nL : Nat} {ls : Array Slot} {rest : List Value} {D : va_G} {z : Nat → Nat} {A : Nat → Prop} {tys : List (ClassId × FieldType)} {w w1 : va_W} {Ts : List Cond} {own : String}
variable {k kc : Nat} {C owner : String} {T : u_T} {N ci index maxL : Nat} {x y : MethodName} {ws ws' : List Cond} {bytes : ByteArray} {ret : Option FieldType} {b : Nat} {As st0 : List Value} {fs : List Value}
theorem gw.preE {A : Nat → Prop} (hw : gw D tys A s H locs w) (hE : xE z A s s.heap) (av : List Value) : ∀ U : State, U.heap = H → s.WarmedH U.vm → gPreE D z tys av w H.size av.toArray U := by
  intro U hU hW
  have h1 : xE z (va_A w H.size) U U.heap := by
    rw [hU]
    exact ((hE.warm hW).kept hw.2.2.2.1.2.1).narrow hw.free
  obtain ⟨hK, hP, hD, hS, hA⟩ := hw
  exact ⟨rfl, by rw [hU], by rw [hU]; exact hP, va_K.moved hW.alike hK, hD.weaken (fun _ _ _ _ => trivial), h1⟩
theorem g_callViE {r : Int32} (S : CallFix p m c cc nL s args Ts own) (hw : gw D tys A s H locs w) (hE : xE z A s s.heap) (hM : gIE l D z tys y ws kc (.ref b :: As) w r w1) (hG : GoodIn Ts (wsV own index C y ws)) (hws : ws = Cond.code y bytes maxL ret :: ws') (hrc : ∃ cell : Cell, H[b]? = some cell ∧ cell.vm.isStatics = false ∧ s.vm.findClass C = some cell.cls)
    (n : Nat) (hn : As.length = n) (hd : y.cls = C ∧ y.cls ≠ "java/lang/invoke/MethodHandle" ∧ y.cls ≠ "java/lang/invoke/VarHandle" ∧ (parseMethodDescriptor y.desc).map (fun d => d.parameters.length) = some n) (hk : kc + 1 ≤ k) (hm : maxL ≤ 21) (hsz : ls.size = nL) (hst : st0 = As.reverse ++ .ref b :: rest) (hroom : (rest.map fun v => v.category).sum ≤ 8) (hdg : decode cc pc = .ok (.invokevirtual index, 3))
    (kk : ∀ H1 locs1, gw D tys A s H1 locs1 w1 → W p l e (gR k) s m args below meth c H1 locs1 0 0 Q (F0 m (pc + 3) ls (.int r :: rest))) :
    W p l e (gR k) s m args below meth c H locs 0 0 Q (F0 m pc ls st0) := by
  subst hn
  refine va_calli (va_runV (As := As) (rest := rest) (g := F0 m pc ls st0) S (hM H.size) (cwV As.length S.2.2.2.2 hG hws rfl rfl hd (g_hR hk hm)) ⟨gPreE_blind, hrc, hw.preE hE _⟩ rfl rfl hsz hst (lv_room hroom) hdg ⟨Nat.le_refl _, Nat.le_refl _⟩) hw.2.2.2.1 (fun q _ h => hw.free q h) hw.free (fun x u t H1 locs1 ht hvm hx hB hz1 hk1 hS => ?_)
  subst hx
  exact kk H1 locs1 (hw.after ht hB hS)
theorem g_callVlE {r : Int64} (S : CallFix p m c cc nL s args Ts own) (hw : gw D tys A s H locs w) (hE : xE z A s s.heap) (hM : gLE l D z tys y ws kc (.ref b :: As) w r w1) (hG : GoodIn Ts (wsV own index C y ws)) (hws : ws = Cond.code y bytes maxL ret :: ws') (hrc : ∃ cell : Cell, H[b]? = some cell ∧ cell.vm.isStatics = false ∧ s.vm.findClass C = some cell.cls)
    (n : Nat) (hn : As.length = n) (hd : y.cls = C ∧ y.cls ≠ "java/lang/invoke/MethodHandle" ∧ y.cls ≠ "java/lang/invoke/VarHandle" ∧ (parseMethodDescriptor y.desc).map (fun d => d.parameters.length) = some n) (hk : kc + 1 ≤ k) (hm : maxL ≤ 21) (hsz : ls.size = nL) (hst : st0 = As.reverse ++ .ref b :: rest) (hroom : (rest.map fun v => v.category).sum ≤ 8) (hdg : decode cc pc = .ok (.invokevirtual index, 3))
    (kk : ∀ H1 locs1, gw D tys A s H1 locs1 w1 → W p l e (gR k) s m args below meth c H1 locs1 0 0 Q (F0 m (pc + 3) ls (.long r :: rest))) :
    W p l e (gR k) s m args below meth c H locs 0 0 Q (F0 m pc ls st0) := by
  subst hn
  refine va_calll (va_runV (As := As) (rest := rest) (g := F0 m pc ls st0) S (hM H.size) (cwV As.length S.2.2.2.2 hG hws rfl rfl hd (g_hR hk hm)) ⟨gPreE_blind, hrc, hw.preE hE _⟩ rfl rfl hsz hst (lv_room hroom) hdg ⟨Nat.le_refl _, Nat.le_refl _⟩) hw.2.2.2.1 (fun q _ h => hw.free q h) hw.free (fun x u t H1 locs1 ht hvm hx hB hz1 hk1 hS => ?_)
  subst hx
  exact kk H1 locs1 (hw.after ht hB hS)
theorem g_callSiE {r : Int32} (S : CallFix p m c cc nL s args Ts own) (hw : gw D tys A s H locs w) (hE : xE z A s s.heap) (hM : gIE l D z tys y ws kc As w r w1) (hG : GoodIn Ts (va_wsS own index y ws)) (hws : ws = Cond.code y bytes maxL ret :: ws')
    (n : Nat) (hn : As.length = n) (hd : y.cls ≠ "java/lang/invoke/MethodHandle" ∧ y.cls ≠ "java/lang/invoke/VarHandle" ∧ (parseMethodDescriptor y.desc).map (fun d => d.parameters.length) = some n) (hk : kc + 1 ≤ k) (hm : maxL ≤ 21) (hsz : ls.size = nL) (hst : st0 = As.reverse ++ rest) (hroom : (rest.map fun v => v.category).sum ≤ 8) (hdg : decode cc pc = .ok (.invokestatic index, 3))
    (kk : ∀ H1 locs1, gw D tys A s H1 locs1 w1 → W p l e (gR k) s m args below meth c H1 locs1 0 0 Q (F0 m (pc + 3) ls (.int r :: rest))) :
    W p l e (gR k) s m args below meth c H locs 0 0 Q (F0 m pc ls st0) := by
  subst hn
  refine va_calli (va_runS (As := As) (rest := rest) (g := F0 m pc ls st0) S (hM H.size) (va_cwS As.length S.2.2.2.2 hG hws rfl rfl hd (g_hR hk hm)) ⟨gPreE_blind, hw.preE hE _⟩ rfl rfl hsz hst (lv_room hroom) hdg ⟨Nat.le_refl _, Nat.le_refl _⟩) hw.2.2.2.1 (fun q _ h => hw.free q h) hw.free (fun x u t H1 locs1 ht hvm hx hB hz1 hk1 hS => ?_)
  subst hx
  exact kk H1 locs1 (hw.after ht hB hS)
/-- the string as a receiver -/
theorem xE.recv (hE : xE z A s s.heap) (hw : gw D tys A s H locs w) : ∃ cell : Cell, H[z 0]? = some cell ∧ cell.vm.isStatics = false ∧ s.vm.findClass "java/lang/String" = some cell.cls := by
  obtain ⟨cell, h1, h2, h3, -⟩ := hE.2.2.2.2.1.kept hw.2.2.2.1.2.1
  exact ⟨cell, h1, h2, h3⟩
end GCE
