/-! ===== constructors: contracts that make cells ===== -/
def gRn (k mc ms : Nat) : Room := { frames := k, cells := mc, slots := ms, locals := 40 * k }
def nestL : List (String × Nat × MethodName × String) := [("CowsOwed", 9, yX1_init, "CowsOwed"), ("CowsOwed", 12, yX7_init, "CowsOwed"), ("CowsOwed$Proud", 3, yX1_init, "CowsOwed"), ("CowsOwed", 15, yX6_init, "CowsOwed"), ("CowsOwed$Poor", 3, yX1_init, "CowsOwed"), ("CowsOwed", 18, yX0_init, "CowsOwed"), ("CowsOwed$Careful", 3, yX1_init, "CowsOwed"), ("CowsOwed", 21, yX3_init, "CowsOwed"), ("CowsOwed$Kings", 3, yX7_init, "CowsOwed"), ("CowsOwed", 33, yX4_init, "CowsOwed"), ("CowsOwed$Times", 9, yX10_init, "CowsOwed"), ("CowsOwed$Times", 18, yX5_init, "CowsOwed"), ("CowsOwed$Times", 25, yX9_init, "CowsOwed")]
theorem va_AOA.moved {ty : FieldType} {u U : State} (hvm : u.vm.Alike U.vm) (h : va_AOA ty u) : va_AOA ty U := by
  have hb : U.vm.bare = u.vm.bare := by first | exact hvm.bare_eq | exact hvm.bare_eq.symm
  unfold va_AOA Cond.before Cond.holds at h ⊢
  simp only [Cond.value, hvm.findClass, beq_iff_eq] at h ⊢
  cases hc : u.vm.findClass (FieldType.array ty).toString with
  | none => rw [hc] at h; cases h
  | some comp =>
    have hi := (va_idx_bare U.vm comp).symm
    rw [hb] at hi
    have hi2 := hi.trans (va_idx_bare u.vm comp)
    rw [hc] at h
    simp only [Option.bind_some] at h ⊢
    obtain ⟨c, hd, hx⟩ := Option.bind_eq_some_iff.mp h
    obtain ⟨k, hk, hy⟩ := Option.map_eq_some_iff.mp hx
    obtain ⟨k', hk', he⟩ := hvm.2.2 _ _ hk
    refine Option.bind_eq_some_iff.mpr ⟨c, hi2.trans hd, ?_⟩
    refine Option.map_eq_some_iff.mpr ⟨k', hk', ?_⟩
    rw [he]
    exact hy
/-- what the tables say of the constructors: the links within the nest, the arrays of references -/
def xN (U : State) : Prop := (∀ q ∈ nestL, va_Nw (.methodLinkNest q.1 q.2.1 q.2.2.1 q.2.2.2) U) ∧ va_AO "CowsOwed$Clan" U ∧ va_AOA .int U ∧ ∀ q ∈ ycL, va_Nw (.castable q.1 q.2) U
theorem xN.warm {u U : State} (hW : u.WarmedH U.vm) (h : xN u) : xN U := ⟨fun q hq => (h.1 q hq).warmM hW, h.2.1.moved hW.alike, h.2.2.1.moved hW.alike, fun q hq => (h.2.2.2 q hq).warmC hW⟩
theorem xN.same {u U : State} (hv : U.vm = u.vm) (h : xN u) : xN U := by
  have ha : u.vm.Alike U.vm := by rw [hv]; exact Vm.Alike.refl u.vm
  exact ⟨fun q hq => (h.1 q hq).same rfl hv.symm, h.2.1.moved ha, h.2.2.1.moved ha, fun q hq => (h.2.2.2 q hq).same rfl hv.symm⟩
def gPreN (D : va_G) (tys : List (ClassId × FieldType)) (av : List Value) (w : va_W) (sz : Nat) : Array Value → State → Prop :=
  va_Pc av (fun U => U.heap.size = sz ∧ va_P D vwCl w U.heap ∧ va_K D vwCl tys U ∧ va_D (fun _ => True) w ∧ xN U)
def gQn (D : va_G) (tys : List (ClassId × FieldType)) (w1 : (Nat → Nat) → va_W) (A : Nat → Prop) : Array Value → State → Outcome → State → Prop := va_Qv (fun (_ : Nat → Nat) => True) (fun u t => va_P D vwCl (w1 u) t.heap ∧ va_K D vwCl tys t ∧ va_D A (w1 u)) A
/-- THE CONTRACT of a constructor: in the world w, mc cells and ms slots are made, and behind it stands w1 u, u the addresses of the new cells -/
def gN (l : Launch) (D : va_G) (tys : List (ClassId × FieldType)) (y : MethodName) (ws : List Cond) (k mc ms : Nat) (av : List Value) (w : va_W) (w1 : (Nat → Nat) → va_W) : Prop :=
  ∀ sz, Met l y ws (gRn k mc ms) (gPreN D tys av w sz) (gQn D tys w1 (va_A w sz)) mc ms (va_A w sz)
theorem g_startN {l : Launch} {D : va_G} {tys : List (ClassId × FieldType)} {y : MethodName} {ws ws' : List Cond} {k mc ms : Nat} {av : List Value} {w : va_W} {w1 : (Nat → Nat) → va_W} {cc : ByteArray} {maxL : Nat}
    (hy : plainName y.cls = true) (hw : ws = Cond.code y cc maxL none :: ws') (hl : (lg_sl av).length ≤ maxL)
    (body : ∀ (p : Program) (e : Env) (s : State) (m : MethodId) (below : List Frame) (meth : Method) (c : Code) (A : Nat → Prop) (ls : Array Slot),
      CallFix p m c cc maxL s av.toArray ws y.cls → meth.sig.returnType = none → meth.locks = false → meth.name = y.name → gw D tys A s s.heap [] w → xN s → lv_has ls maxL (lv_args 0 av) →
      W p l e (gRn k mc ms) s m av.toArray below meth c s.heap [] 0 0 (MQ below (gQn D tys w1 A) av.toArray s mc ms A) (F0 m 0 ls [])) :
    gN l D tys y ws k mc ms av w w1 := by
  intro sz
  refine Met.ofW (cc := cc) (maxL := maxL) (ret := none) hy hw ?_
  intro p e s m args below meth c s₁ B hml hv
  obtain ⟨rfl, hsz, hP, hK, hD0, hE⟩ := hv
  have hts := atoms_spec (ws := ws) B.pre
  have hown : s.vm.findClass y.cls = some m.cls := findClass_of_methodNamed B.named
  subst hsz
  have hD := hD0.self (sz := s.heap.size)
  have hA : ∀ q : Nat, s.heap.size ≤ q → va_A w s.heap.size q := fun q h => Or.inr h
  have hS : va_S (va_A w s.heap.size) s.heap s.heap [] := va_S.rf
  have hlv := lv_entry av (n := maxL) hl
  rw [lg_entry_eq]
  exact body p e s m below meth c _ _ ⟨B.exec, B.bytes, hml, hown, hts⟩ B.returns B.notSynchronized (name_of_methodNamed B.named B.method).1 ⟨hK, hP, hD, hS, hA⟩ hE hlv
theorem gPreN_blind {D : va_G} {tys : List (ClassId × FieldType)} {av : List Value} {w : va_W} {sz : Nat} : FrameBlind (gPreN D tys av w sz) := by
  intro a U g mk q
  obtain ⟨q0, q1, qP, qK, qD, qE⟩ := q
  exact ⟨q0, q1, qP, va_K.moved (u := U) (U := U.calling g mk a) (Vm.Alike.refl U.vm) qK, qD, xN.same (u := U) (U := U.calling g mk a) rfl qE⟩
section GN
variable {p : Program} {l : Launch} {e : Env} {R : Room} {s : State} {m : MethodId} {args : Array Value} {below : List Frame} {meth : Method} {c : Code} {H : Heap} {locs : List Loc} {Q : State → Prop} {cells slots mc ms : Nat}
variable {cc : ByteArray} {pc nL : Nat} {ls : Array Slot} {rest : List Value} {D : va_G} {A : Nat → Prop} {tys : List (ClassId × FieldType)} {v w : va_W} {w1 : (Nat → Nat) → va_W} {Ts : List Cond} {own : String}
variable {k kc : Nat} {C : String} {T : u_T} {N ci index maxL : Nat} {y : MethodName} {ws ws' : List Cond} {bytes : ByteArray} {b : Nat} {As st0 : List Value}
theorem gw.preN (hw : gw D tys A s H locs w) (hN : xN s) (av : List Value) : ∀ U : State, U.heap = H → s.WarmedH U.vm → gPreN D tys av w H.size av.toArray U := by
  intro U hU hW
  obtain ⟨hK, hP, hD, hS, hA⟩ := hw
  exact ⟨rfl, by rw [hU], by rw [hU]; exact hP, va_K.moved hW.alike hK, hD.weaken (fun _ _ _ _ => trivial), hN.warm hW⟩
theorem g_vretN (u : Nat → Nat) (S : CallFix p m c cc nL s args Ts own) (hr : meth.sig.returnType = none) (hlk : meth.locks = false) (hw : gw D tys A s H locs w) (ew : w = w1 u) (hdg : decode cc pc = .ok (.return_, 1)) :
    W p l e R s m args below meth c H locs cells slots (MQ below (gQn D tys w1 A) args s cells slots A) (F0 m pc ls []) := by
  subst ew
  obtain ⟨hK, hP, hD, hS, hA⟩ := hw
  exact W.vret S.1 S.2.1 hr (fun t ht hW => ⟨⟨u, rfl, trivial, by rw [ht]; exact hP, va_K.moved hW.alike hK, hD⟩, hS.F ht⟩) hS.2.2 hdg hlk
theorem g_objI (S : CallFix p m c cc nL s args Ts own) {idx : Nat} (h1 : Cond.methodLink own idx Lib.objectInit ∈ Ts) (h2 : Cond.instanceMethod Lib.objectInit ∈ Ts) (h3 : Cond.code Lib.objectInit ⟨#[0xb1]⟩ 1 none ∈ Ts) (hsz : ls.size = nL) (hframes : 1 ≤ R.frames) (hlocals : (rest.map fun v => v.category).sum + 12 ≤ R.locals) (hdg : decode cc pc = .ok (.invokespecial idx, 3))
    (kk : W p l e R s m args below meth c H locs cells slots Q (F0 m (pc + 3) ls rest)) : W p l e R s m args below meth c H locs cells slots Q (F0 m pc ls (.ref b :: rest)) :=
  W.objInit S.1 S.2.1 S.2.2.2.1 (S.2.2.2.2 _ h1) (S.2.2.2.2 _ h2) (S.2.2.2.2 _ h3) (g := F0 m pc ls (.ref b :: rest)) rfl (hsz.trans S.2.2.1.symm) rfl hdg hframes (by show 2 * 0 + _ + 12 ≤ _; omega) kk
theorem g_putF {a : Nat} (S : CallFix p m c cc nL s args Ts own) (hw : gw D tys A s H locs w) (hin : ∀ x ∈ u_ws C T N, x ∈ Ts) (ty0 : Nat → FieldType) (hty : ∀ k, k < N → parseFieldDescriptor (T k).2.2.1 = some (ty0 k)) (hnm : ∀ a, a < N → ∀ b, b < N → a ≠ b → (T a).2.1 ≠ (T b).2.1) (q0 : Nat) {fs : List Value} (he : w[q0]? = some (a, .inr (ci, fs))) (hc : vwCl[ci]? = some (C, T, N)) (k : Nat) (hk : k < N) (hlink : Cond.fieldLink own index (T k).1 (T k).2.1 (T k).2.2.1 ∈ Ts) (hfin : (T k).2.2.2 = true) (hin2 : meth.name = "<init>") (hdecl : (T k).1 = own) {v : Value} (hn : narrow (ty0 k) v = v) (hfit : fits (ty0 k) v = true) (hl : k < fs.length)
    {w2 : va_W} (hset : w.set q0 (a, .inr (ci, fs.set k v)) = w2) (hdg : decode cc pc = .ok (.putfield index, 3)) (kk : ∀ (H1 : Heap) (locs1 : List Loc), gw D tys A s H1 locs1 w2 → W p l e R s m args below meth c H1 locs1 cells slots Q (F0 m (pc + 3) ls rest)) : W p l e R s m args below meth c H locs cells slots Q (F0 m pc ls (v :: .ref a :: rest)) := by
  subst hset
  obtain ⟨hK, hP, hD, hS, hA⟩ := hw
  exact va_putF S.1 S.2.1 S.2.2.2.2 hin ty0 hty hnm S.2.2.2.1 hK hP hD hS q0 he hc k hk (S.2.2.2.2 _ hlink) (fun _ h => h) hfin hin2 hdecl (hty k hk) hn hfit hl hdg (fun H1 locs1 hP hD hS => kk H1 locs1 ⟨hK, hP, hD, hS, hA⟩)
theorem g_cIeq {t0 : Nat} {cI cA : ClassId} (h1 : va_K D vwCl (tys ++ [(cA, .int)]) s) (h2 : va_K D vwCl tys s) (ht : tys[t0]? = some (cI, .int)) : cA = cI := by
  have e1 := (h1.2 tys.length (cA, .int) (by rw [List.getElem?_append_right (Nat.le_refl _), Nat.sub_self]; rfl)).2
  have e2 := (h2.2 t0 (cI, .int) ht).2
  exact Option.some.inj (e1.symm.trans e2)
theorem g_newaI (S : CallFix p m c cc nL s args Ts own) (hw : gw D tys A s H locs w) {t0 : Nat} {cI : ClassId} (ht : tys[t0]? = some (cI, .int)) (harr : Cond.arrayClass .int ∈ Ts) {n : Nat} (hn : n < 1000) (hcells : cells + 1 ≤ R.cells) (hslots : slots + n ≤ R.slots) (hdg : decode cc pc = .ok (.newarray .int, 2))
    (kk : ∀ (q : Nat) (H1 : Heap), gw D tys A s H1 locs (w ++ [(q, .inl (cI, n, .inl (fun _ => 0)))]) → W p l e R s m args below meth c H1 locs (cells + 1) (slots + n) Q (F0 m (pc + 2) ls (.ref q :: rest))) : W p l e R s m args below meth c H locs cells slots Q (F0 m pc ls (.int (nI n) :: rest)) := by
  refine va_newa (atype := .int) S.1 S.2.1 (S.2.2.2.2 _ harr) (ty := .int) rfl hw.1 hw.2.1 hw.2.2.1 hw.2.2.2.1 hw.2.2.2.2 (a0 := (n, .inl (fun _ => 0))) (fun cA => rfl) (nI_pos (by omega)) (nI_clamp (by omega)) (by show n * 4 ≤ _; omega) hcells hslots hdg (fun q cA H1 hK hP hD hS => ?_)
  have e1 : cA = cI := g_cIeq hK hw.1 ht
  subst e1
  exact kk q H1 ⟨hw.1, hP, hD, hS, hw.2.2.2.2⟩
theorem g_new (S : CallFix p m c cc nL s args Ts own) (hw : gw D tys A s H locs w) (hin : ∀ w ∈ u_ws C T N, w ∈ Ts) (ty : Nat → FieldType) (hty : ∀ k, k < N → parseFieldDescriptor (T k).2.2.1 = some (ty k)) (h1 : Cond.classLink own index C ∈ Ts) (h2 : Cond.instantiable C N ∈ Ts) (h3 : Cond.initialized C ∈ Ts) (hc : vwCl[ci]? = some (C, T, N)) {fs : List Value} (hfs : ∀ j, j < N → defaultValue (ty j) = vp_V fs j) (hcells : cells + 1 ≤ R.cells) (hslots : slots + N ≤ R.slots) (hdg : decode cc pc = .ok (.new index, 3))
    (kk : ∀ (q : Nat) (H1 : Heap), gw D tys A s H1 locs (w ++ [(q, .inr (ci, fs))]) → W p l e R s m args below meth c H1 locs (cells + 1) (slots + N) Q (F0 m (pc + 3) ls (.ref q :: rest))) : W p l e R s m args below meth c H locs cells slots Q (F0 m pc ls rest) :=
  va_new S.1 S.2.1 S.2.2.2.2 hin ty hty S.2.2.2.1 (S.2.2.2.2 _ h1) (S.2.2.2.2 _ h2) (S.2.2.2.2 _ h3) hw.1 hw.2.1 hw.2.2.1 hw.2.2.2.1 hw.2.2.2.2 hc hfs hcells hslots hdg (fun q H1 hP hD hS => kk q H1 ⟨hw.1, hP, hD, hS, hw.2.2.2.2⟩)
theorem g_callN (S : CallFix p m c cc nL s args Ts own) (hw : gw D tys A s H locs (v ++ w)) (hN : xN s) (hM : gN l D tys y ws kc mc ms (.ref b :: As) w w1) (hG : GoodIn Ts ws) (hws : ws = Cond.code y bytes maxL none :: ws') (hini : Cond.initialized y.cls ∈ Ts) (hl : Cond.methodLink own index y ∈ Ts) (hin : Cond.instanceMethod y ∈ Ts) (hy1 : y.name = "<init>")
    (n : Nat) (hn : As.length = n) (hd : y.cls ≠ "java/lang/invoke/MethodHandle" ∧ y.cls ≠ "java/lang/invoke/VarHandle" ∧ (parseMethodDescriptor y.desc).map (fun d => d.parameters.length) = some n) (hR : (gRn kc mc ms).frames + 1 ≤ R.frames ∧ 8 + (maxL + 11) + (gRn kc mc ms).locals ≤ R.locals) (hf : cells + mc ≤ R.cells ∧ slots + ms ≤ R.slots) (hsz : ls.size = nL) (hst : st0 = As.reverse ++ .ref b :: rest) (hroom : (rest.map fun v => v.category).sum ≤ 8) (hdg : decode cc pc = .ok (.invokespecial index, 3))
    (kk : ∀ (u : Nat → Nat) H1 locs1, gw D tys A s H1 locs1 (v ++ w1 u) → W p l e R s m args below meth c H1 locs1 (cells + mc) (slots + ms) Q (F0 m (pc + 3) ls rest)) :
    W p l e R s m args below meth c H locs cells slots Q (F0 m pc ls st0) := by
  subst hn
  refine va_callv (va_runI (As := As) (rest := rest) (g := F0 m pc ls st0) S (hM H.size) (cwI As.length S.2.2.2.2 hG hws rfl rfl (S.2.2.2.2 _ hini) (S.2.2.2.2 _ hl) (S.2.2.2.2 _ hin) hy1 hd hR) ⟨gPreN_blind, hw.right.preN hN _⟩ rfl rfl hsz hst (lv_room hroom) hdg hf) hw.2.2.2.1 (fun q _ h => hw.right.free q h) hw.right.free (fun u t H1 locs1 ht hvm hx hB hz1 hk1 hS => ?_)
  exact kk u H1 locs1 (hw.afterF ht hk1 hB.1 hB.2.2 hS)
theorem g_callNN {host : String} (S : CallFix p m c cc nL s args Ts own) (hw : gw D tys A s H locs (v ++ w)) (hN : xN s) (hM : gN l D tys y ws kc mc ms (.ref b :: As) w w1) (hG : GoodIn Ts ws) (hws : ws = Cond.code y bytes maxL none :: ws') (hini : Cond.initialized y.cls ∈ Ts) (hl : (own, index, y, host) ∈ nestL) (hin : Cond.instanceMethod y ∈ Ts) (hy1 : y.name = "<init>")
    (n : Nat) (hn : As.length = n) (hd : y.cls ≠ "java/lang/invoke/MethodHandle" ∧ y.cls ≠ "java/lang/invoke/VarHandle" ∧ (parseMethodDescriptor y.desc).map (fun d => d.parameters.length) = some n) (hR : (gRn kc mc ms).frames + 1 ≤ R.frames ∧ 8 + (maxL + 11) + (gRn kc mc ms).locals ≤ R.locals) (hf : cells + mc ≤ R.cells ∧ slots + ms ≤ R.slots) (hsz : ls.size = nL) (hst : st0 = As.reverse ++ .ref b :: rest) (hroom : (rest.map fun v => v.category).sum ≤ 8) (hdg : decode cc pc = .ok (.invokespecial index, 3))
    (kk : ∀ (u : Nat → Nat) H1 locs1, gw D tys A s H1 locs1 (v ++ w1 u) → W p l e R s m args below meth c H1 locs1 (cells + mc) (slots + ms) Q (F0 m (pc + 3) ls rest)) :
    W p l e R s m args below meth c H locs cells slots Q (F0 m pc ls st0) := by
  subst hn
  refine va_callv (va_runIN (As := As) (rest := rest) (g := F0 m pc ls st0) S (hM H.size) ⟨va_cnB As.length S.2.2.2.2 hG hws rfl rfl (hN.1 _ hl) (S.2.2.2.2 _ hini) hd hR, hy1, S.2.2.2.2 _ hin⟩ ⟨gPreN_blind, hw.right.preN hN _⟩ rfl rfl hsz hst (lv_room hroom) hdg hf) hw.2.2.2.1 (fun q _ h => hw.right.free q h) hw.right.free (fun u t H1 locs1 ht hvm hx hB hz1 hk1 hS => ?_)
  exact kk u H1 locs1 (hw.afterF ht hk1 hB.1 hB.2.2 hS)
end GN
