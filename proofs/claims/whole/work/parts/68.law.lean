/-! ===== the law, call by call ===== -/
theorem gw.toM {D : va_G} {cI cC cI2 : ClassId} {A : Nat → Prop} {s : State} {H : Heap} {locs : List Loc} {v w : va_W} (hw : gw D (tysX cI cC cI2) A s H locs (v ++ w)) : gw D [(cI, .int)] A s H locs (w ++ v) := ⟨hw.1.sub [0] rfl, hw.swap.2⟩
theorem gw.toX {D : va_G} {cI cC cI2 : ClassId} {A : Nat → Prop} {s : State} {H : Heap} {locs : List Loc} {v w : va_W} (hK : va_K D vwCl (tysX cI cC cI2) s) (hw : gw D [(cI, .int)] A s H locs (v ++ w)) : gw D (tysX cI cC cI2) A s H locs (w ++ v) := ⟨hK, hw.swap.2⟩
theorem RelE.mono {κ : Nat → Nat} {σ τ : Nat → Nat → Int32} {B B' : Int} (h : RelE κ σ τ B) (hB : B ≤ B') : RelE κ σ τ B' := by
  obtain ⟨n, pm, wd, pl, tm, hr, h⟩ := h
  exact ⟨n, pm, wd, pl, tm, hr, h.mono hB⟩
section LA
variable {p : Program} {l : Launch} {e : Env} {s : State} {m : MethodId} {below : List Frame} {meth : Method} {c : Code} {b L : Nat} {xs : Nat → Int32} {D : va_G} {z : Nat → Nat} {cI cC cI2 : ClassId} {a a' : Nat → Nat} {κ : Nat → Nat} {σ τ : Nat → Nat → Int32} {hh : Int64} {B : Int} {H : Heap} {locs : List Loc} {ls : Array Slot} {i cells slots : Nat} {Q : State → Prop}
theorem lw_arg {w : va_W} {pc k : Nat} {kz : Int} {rest : List Value} (S : CallFix p m c code 4 s #[Value.ref b] wsL_law RL) (hX : va_X b L xs s s.heap) (hbl : b < s.heap.size) (hw : gw D (tysX cI cC cI2) (fun q : Nat => s.heap.size ≤ q) s H locs w) (hl : lv_has ls 4 [(3, .int (nI i)), (2, .ref (a' 0)), (1, .ref (a 0)), (0, .ref b)]) (hk : i + k < L) (hL : L ≤ 256) (hz : Int32.ofInt kz = nI k)
    (d0 : decode code pc = .ok (.aload_n 0, 1)) (d1 : decode code (pc + 1) = .ok (.iload_n 3, 1)) (d2 : decode code (pc + 2) = .ok (.iconst kz, 1)) (d3 : decode code (pc + 3) = .ok (.iadd, 1)) (d4 : decode code (pc + 4) = .ok (.iaload, 1))
    (kk : W p l e room_1 s m #[Value.ref b] below meth c H locs cells slots Q (F0 m (pc + 5) ls (.int (xs (i + k)) :: rest))) : W p l e room_1 s m #[Value.ref b] below meth c H locs cells slots Q (F0 m pc ls rest) := by
  refine lv_aload_n S.1 S.2.1 d0 rfl (lv_at hl 3 rfl) ?_
  refine lv_iload_n S.1 S.2.1 d1 rfl (lv_at hl 0 rfl) ?_
  refine lv_iconst (v := nI k) S.1 S.2.1 d2 hz ?_
  refine lv_iadd S.1 S.2.1 d3 ?_
  rw [nI_add]
  refine va_sld S.1 S.2.1 hX hbl (Nat.not_le.mpr hbl) hw.2.2.2.1 (i := nI (i + k)) (vp_in_nI hk (by omega)) d4 ?_
  rw [nI_clamp (by omega)]
  exact kk
theorem law_letter (S : CallFix p m c code 4 s #[Value.ref b] wsL_law RL) (hX : va_X b L xs s s.heap) (hbl : b < s.heap.size) (hE : xE z (fun q : Nat => s.heap.size ≤ q) s s.heap) (hw : gw D (tysX cI cC cI2) (fun q : Nat => s.heap.size ≤ q) s H locs (wM cI a' τ hh ++ wX cI cC cI2 a κ σ)) (hR : RelE κ σ τ B) (hB0 : 400 ≤ B) (hB : B ≤ 100000) (hi : i + 3 < L) (hL : L ≤ 256) (hl : lv_has ls 4 [(3, .int (nI i)), (2, .ref (a' 0)), (1, .ref (a 0)), (0, .ref b)]) (hcs : cells ≤ 600000 ∧ slots ≤ 7302250)
    (kk : ∀ (κ : Nat → Nat) (σ τ : Nat → Nat → Int32) (hh : Int64) (H : Heap) (locs : List Loc), gw D (tysX cI cC cI2) (fun q : Nat => s.heap.size ≤ q) s H locs (wM cI a' τ hh ++ wX cI cC cI2 a κ σ) → RelE κ σ τ (B + 400) → W p l e room_1 s m #[Value.ref b] below meth c H locs cells slots Q (F0 m 674 ls [])) :
    W p l e room_1 s m #[Value.ref b] below meth c H locs cells slots Q (F0 m 148 ls []) := by
  obtain ⟨n, pm, wd, pl, tm, hr, h⟩ := hR
  have hK := hw.1
  refine lv_aload_n S.1 S.2.1 dL_148 rfl (lv_at hl 2 rfl) ?_
  refine lw_arg (k := 1) S hX hbl hw hl (by omega) hL rfl dL_149 dL_150 dL_151 dL_152 dL_153 ?_
  refine g_callViF S hw (c_X_letter l D cI cC cI2 a κ σ pm (xs (i + 1)) h.xp h.p16) gL_law_X11_letter rfl 0 rfl rfl 1 rfl (by decide +kernel) ⟨by decide, by decide⟩ hcs hl.1 rfl (Nat.le_of_ble_eq_true rfl) dL_154 (fun H locs hw => ?_)
  refine lv_aload_n S.1 S.2.1 dL_157 rfl (lv_at hl 1 rfl) ?_
  refine lw_arg (k := 1) S hX hbl hw hl (by omega) hL rfl dL_158 dL_159 dL_160 dL_161 dL_162 ?_
  refine g_callViF S hw.toM (c_M_letter l D cI a' τ hh pm (xs (i + 1)) h.mp h.p16) gL_law_X12_letter rfl 0 rfl rfl 1 rfl (by decide +kernel) ⟨by decide, by decide⟩ hcs hl.1 rfl (Nat.le_of_ble_eq_true rfl) dL_163 (fun H locs hw => ?_)
  refine lv_icmp_eq (tgt := 674) S.1 S.2.1 dL_166 (by decide) (fun _ => ?_) (fun q => absurd (L_letter h (xs (i + 1))).1 q)
  exact kk _ _ _ _ _ _ (gw.toX hK hw) ((L_letter h (xs (i + 1))).2.mono (by omega))
theorem law_blank (S : CallFix p m c code 4 s #[Value.ref b] wsL_law RL) (hX : va_X b L xs s s.heap) (hbl : b < s.heap.size) (hE : xE z (fun q : Nat => s.heap.size ≤ q) s s.heap) (hw : gw D (tysX cI cC cI2) (fun q : Nat => s.heap.size ≤ q) s H locs (wM cI a' τ hh ++ wX cI cC cI2 a κ σ)) (hR : RelE κ σ τ B) (hB0 : 400 ≤ B) (hB : B ≤ 100000) (hi : i + 3 < L) (hL : L ≤ 256) (hl : lv_has ls 4 [(3, .int (nI i)), (2, .ref (a' 0)), (1, .ref (a 0)), (0, .ref b)]) (hcs : cells ≤ 600000 ∧ slots ≤ 7302250)
    (kk : ∀ (κ : Nat → Nat) (σ τ : Nat → Nat → Int32) (hh : Int64) (H : Heap) (locs : List Loc), gw D (tysX cI cC cI2) (fun q : Nat => s.heap.size ≤ q) s H locs (wM cI a' τ hh ++ wX cI cC cI2 a κ σ) → RelE κ σ τ (B + 400) → W p l e room_1 s m #[Value.ref b] below meth c H locs cells slots Q (F0 m 674 ls [])) :
    W p l e room_1 s m #[Value.ref b] below meth c H locs cells slots Q (F0 m 171 ls []) := by
  obtain ⟨n, pm, wd, pl, tm, hr, h⟩ := hR
  have hK := hw.1
  refine lv_aload_n S.1 S.2.1 dL_171 rfl (lv_at hl 2 rfl) ?_
  refine g_callViF S hw (c_X_blank l D cI cC cI2 a κ σ) gL_law_X11_blank rfl 0 rfl rfl 0 rfl (by decide +kernel) ⟨by decide, by decide⟩ hcs hl.1 rfl (Nat.le_of_ble_eq_true rfl) dL_172 (fun H locs hw => ?_)
  refine lv_aload_n S.1 S.2.1 dL_175 rfl (lv_at hl 1 rfl) ?_
  refine g_callViF S hw.toM (c_M_blank l D cI a' τ hh ) gL_law_X12_blank rfl 0 rfl rfl 0 rfl (by decide +kernel) ⟨by decide, by decide⟩ hcs hl.1 rfl (Nat.le_of_ble_eq_true rfl) dL_176 (fun H locs hw => ?_)
  refine lv_icmp_eq (tgt := 674) S.1 S.2.1 dL_179 (by decide) (fun _ => ?_) (fun q => absurd (L_blank h).1 q)
  exact kk _ _ _ _ _ _ (gw.toX hK hw) ((L_blank h).2.mono (by omega))
theorem law_fault (S : CallFix p m c code 4 s #[Value.ref b] wsL_law RL) (hX : va_X b L xs s s.heap) (hbl : b < s.heap.size) (hE : xE z (fun q : Nat => s.heap.size ≤ q) s s.heap) (hw : gw D (tysX cI cC cI2) (fun q : Nat => s.heap.size ≤ q) s H locs (wM cI a' τ hh ++ wX cI cC cI2 a κ σ)) (hR : RelE κ σ τ B) (hB0 : 400 ≤ B) (hB : B ≤ 100000) (hi : i + 3 < L) (hL : L ≤ 256) (hl : lv_has ls 4 [(3, .int (nI i)), (2, .ref (a' 0)), (1, .ref (a 0)), (0, .ref b)]) (hcs : cells ≤ 600000 ∧ slots ≤ 7302250)
    (kk : ∀ (κ : Nat → Nat) (σ τ : Nat → Nat → Int32) (hh : Int64) (H : Heap) (locs : List Loc), gw D (tysX cI cC cI2) (fun q : Nat => s.heap.size ≤ q) s H locs (wM cI a' τ hh ++ wX cI cC cI2 a κ σ) → RelE κ σ τ (B + 400) → W p l e room_1 s m #[Value.ref b] below meth c H locs cells slots Q (F0 m 674 ls [])) :
    W p l e room_1 s m #[Value.ref b] below meth c H locs cells slots Q (F0 m 184 ls []) := by
  obtain ⟨n, pm, wd, pl, tm, hr, h⟩ := hR
  have hK := hw.1
  refine lv_aload_n S.1 S.2.1 dL_184 rfl (lv_at hl 2 rfl) ?_
  refine g_callViEF S hw hE (c_X_fault l D z cI cC cI2 a κ σ pm h.xp h.p16) gL_law_X11_fault rfl 0 rfl rfl 0 rfl (by decide +kernel) ⟨by decide, by decide⟩ hcs hl.1 rfl (Nat.le_of_ble_eq_true rfl) dL_185 (fun H locs hw => ?_)
  refine lv_aload_n S.1 S.2.1 dL_188 rfl (lv_at hl 1 rfl) ?_
  refine g_callViF S hw.toM (c_M_fault l D cI a' τ hh pm h.mp h.p16) gL_law_X12_fault rfl 0 rfl rfl 0 rfl (by decide +kernel) ⟨by decide, by decide⟩ hcs hl.1 rfl (Nat.le_of_ble_eq_true rfl) dL_189 (fun H locs hw => ?_)
  refine lv_icmp_eq (tgt := 674) S.1 S.2.1 dL_192 (by decide) (fun _ => ?_) (fun q => absurd (L_fault h).1 q)
  exact kk _ _ _ _ _ _ (gw.toX hK hw) ((L_fault h).2.mono (by omega))
theorem law_hills (S : CallFix p m c code 4 s #[Value.ref b] wsL_law RL) (hX : va_X b L xs s s.heap) (hbl : b < s.heap.size) (hE : xE z (fun q : Nat => s.heap.size ≤ q) s s.heap) (hw : gw D (tysX cI cC cI2) (fun q : Nat => s.heap.size ≤ q) s H locs (wM cI a' τ hh ++ wX cI cC cI2 a κ σ)) (hR : RelE κ σ τ B) (hB0 : 400 ≤ B) (hB : B ≤ 100000) (hi : i + 3 < L) (hL : L ≤ 256) (hl : lv_has ls 4 [(3, .int (nI i)), (2, .ref (a' 0)), (1, .ref (a 0)), (0, .ref b)]) (hcs : cells ≤ 600000 ∧ slots ≤ 7302250)
    (kk : ∀ (κ : Nat → Nat) (σ τ : Nat → Nat → Int32) (hh : Int64) (H : Heap) (locs : List Loc), gw D (tysX cI cC cI2) (fun q : Nat => s.heap.size ≤ q) s H locs (wM cI a' τ hh ++ wX cI cC cI2 a κ σ) → RelE κ σ τ (B + 400) → W p l e room_1 s m #[Value.ref b] below meth c H locs cells slots Q (F0 m 674 ls [])) :
    W p l e room_1 s m #[Value.ref b] below meth c H locs cells slots Q (F0 m 197 ls []) := by
  obtain ⟨n, pm, wd, pl, tm, hr, h⟩ := hR
  have hK := hw.1
  refine lv_aload_n S.1 S.2.1 dL_197 rfl (lv_at hl 2 rfl) ?_
  refine g_callViEF S hw hE (c_X_hills l D z cI cC cI2 a κ σ pm h.xp h.p16) gL_law_X11_hills rfl 0 rfl rfl 0 rfl (by decide +kernel) ⟨by decide, by decide⟩ hcs hl.1 rfl (Nat.le_of_ble_eq_true rfl) dL_198 (fun H locs hw => ?_)
  refine lv_aload_n S.1 S.2.1 dL_201 rfl (lv_at hl 1 rfl) ?_
  refine g_callViF S hw.toM (c_M_hills l D cI a' τ hh pm h.mp h.p16) gL_law_X12_hills rfl 0 rfl rfl 0 rfl (by decide +kernel) ⟨by decide, by decide⟩ hcs hl.1 rfl (Nat.le_of_ble_eq_true rfl) dL_202 (fun H locs hw => ?_)
  refine lv_icmp_eq (tgt := 674) S.1 S.2.1 dL_205 (by decide) (fun _ => ?_) (fun q => absurd (L_hills h hB0 (by omega)).1 q)
  exact kk _ _ _ _ _ _ (gw.toX hK hw) (L_hills h hB0 (by omega)).2
theorem law_clan (S : CallFix p m c code 4 s #[Value.ref b] wsL_law RL) (hX : va_X b L xs s s.heap) (hbl : b < s.heap.size) (hE : xE z (fun q : Nat => s.heap.size ≤ q) s s.heap) (hw : gw D (tysX cI cC cI2) (fun q : Nat => s.heap.size ≤ q) s H locs (wM cI a' τ hh ++ wX cI cC cI2 a κ σ)) (hR : RelE κ σ τ B) (hB0 : 400 ≤ B) (hB : B ≤ 100000) (hi : i + 3 < L) (hL : L ≤ 256) (hl : lv_has ls 4 [(3, .int (nI i)), (2, .ref (a' 0)), (1, .ref (a 0)), (0, .ref b)]) (hcs : cells ≤ 600000 ∧ slots ≤ 7302250)
    (kk : ∀ (κ : Nat → Nat) (σ τ : Nat → Nat → Int32) (hh : Int64) (H : Heap) (locs : List Loc), gw D (tysX cI cC cI2) (fun q : Nat => s.heap.size ≤ q) s H locs (wM cI a' τ hh ++ wX cI cC cI2 a κ σ) → RelE κ σ τ (B + 400) → W p l e room_1 s m #[Value.ref b] below meth c H locs cells slots Q (F0 m 674 ls [])) :
    W p l e room_1 s m #[Value.ref b] below meth c H locs cells slots Q (F0 m 210 ls []) := by
  obtain ⟨n, pm, wd, pl, tm, hr, h⟩ := hR
  have hK := hw.1
  refine lv_aload_n S.1 S.2.1 dL_210 rfl (lv_at hl 2 rfl) ?_
  refine lw_arg (k := 1) S hX hbl hw hl (by omega) hL rfl dL_211 dL_212 dL_213 dL_214 dL_215 ?_
  refine lw_arg (k := 2) S hX hbl hw hl (by omega) hL rfl dL_216 dL_217 dL_218 dL_219 dL_220 ?_
  refine g_callViF S hw (c_X_clan l D cI cC cI2 a κ σ n (xs (i + 1)) (xs (i + 2)) h.xn h.n4 h.1) gL_law_X11_clan rfl 0 rfl rfl 2 rfl (by decide +kernel) ⟨by decide, by decide⟩ hcs hl.1 rfl (Nat.le_of_ble_eq_true rfl) dL_221 (fun H locs hw => ?_)
  refine lv_aload_n S.1 S.2.1 dL_224 rfl (lv_at hl 1 rfl) ?_
  refine lw_arg (k := 1) S hX hbl hw hl (by omega) hL rfl dL_225 dL_226 dL_227 dL_228 dL_229 ?_
  refine lw_arg (k := 2) S hX hbl hw hl (by omega) hL rfl dL_230 dL_231 dL_232 dL_233 dL_234 ?_
  refine g_callViF S hw.toM (c_M_clan l D cI a' τ hh n (xs (i + 1)) (xs (i + 2)) h.mn h.n4) gL_law_X12_clan rfl 0 rfl rfl 2 rfl (by decide +kernel) ⟨by decide, by decide⟩ hcs hl.1 rfl (Nat.le_of_ble_eq_true rfl) dL_235 (fun H locs hw => ?_)
  refine lv_icmp_eq (tgt := 674) S.1 S.2.1 dL_238 (by decide) (fun _ => ?_) (fun q => absurd (L_clan h (xs (i + 1)) (xs (i + 2))) q)
  exact kk _ _ _ _ _ _ (gw.toX hK hw) (h.E.mono (by omega))
theorem law_as (S : CallFix p m c code 4 s #[Value.ref b] wsL_law RL) (hX : va_X b L xs s s.heap) (hbl : b < s.heap.size) (hE : xE z (fun q : Nat => s.heap.size ≤ q) s s.heap) (hw : gw D (tysX cI cC cI2) (fun q : Nat => s.heap.size ≤ q) s H locs (wM cI a' τ hh ++ wX cI cC cI2 a κ σ)) (hR : RelE κ σ τ B) (hB0 : 400 ≤ B) (hB : B ≤ 100000) (hi : i + 3 < L) (hL : L ≤ 256) (hl : lv_has ls 4 [(3, .int (nI i)), (2, .ref (a' 0)), (1, .ref (a 0)), (0, .ref b)]) (hcs : cells ≤ 600000 ∧ slots ≤ 7302250)
    (kk : ∀ (κ : Nat → Nat) (σ τ : Nat → Nat → Int32) (hh : Int64) (H : Heap) (locs : List Loc), gw D (tysX cI cC cI2) (fun q : Nat => s.heap.size ≤ q) s H locs (wM cI a' τ hh ++ wX cI cC cI2 a κ σ) → RelE κ σ τ (B + 400) → W p l e room_1 s m #[Value.ref b] below meth c H locs cells slots Q (F0 m 674 ls [])) :
    W p l e room_1 s m #[Value.ref b] below meth c H locs cells slots Q (F0 m 243 ls []) := by
  obtain ⟨n, pm, wd, pl, tm, hr, h⟩ := hR
  have hK := hw.1
  refine lv_aload_n S.1 S.2.1 dL_243 rfl (lv_at hl 2 rfl) ?_
  refine lw_arg (k := 1) S hX hbl hw hl (by omega) hL rfl dL_244 dL_245 dL_246 dL_247 dL_248 ?_
  refine lw_arg (k := 2) S hX hbl hw hl (by omega) hL rfl dL_249 dL_250 dL_251 dL_252 dL_253 ?_
  refine g_callViEF S hw hE (c_X_as l D z cI cC cI2 a κ σ n (xs (i + 1)) (xs (i + 2)) h.xn h.n4 h.1) gL_law_X11_as rfl 0 rfl rfl 2 rfl (by decide +kernel) ⟨by decide, by decide⟩ hcs hl.1 rfl (Nat.le_of_ble_eq_true rfl) dL_254 (fun H locs hw => ?_)
  refine lv_aload_n S.1 S.2.1 dL_257 rfl (lv_at hl 1 rfl) ?_
  refine lw_arg (k := 1) S hX hbl hw hl (by omega) hL rfl dL_258 dL_259 dL_260 dL_261 dL_262 ?_
  refine lw_arg (k := 2) S hX hbl hw hl (by omega) hL rfl dL_263 dL_264 dL_265 dL_266 dL_267 ?_
  refine g_callViF S hw.toM (c_M_as l D cI a' τ hh n (xs (i + 1)) (xs (i + 2)) h.mn h.n4) gL_law_X12_as rfl 0 rfl rfl 2 rfl (by decide +kernel) ⟨by decide, by decide⟩ hcs hl.1 rfl (Nat.le_of_ble_eq_true rfl) dL_268 (fun H locs hw => ?_)
  refine lv_icmp_eq (tgt := 674) S.1 S.2.1 dL_271 (by decide) (fun _ => ?_) (fun q => absurd (L_as h (xs (i + 1)) (xs (i + 2))) q)
  exact kk _ _ _ _ _ _ (gw.toX hK hw) (h.E.mono (by omega))
theorem law_rate (S : CallFix p m c code 4 s #[Value.ref b] wsL_law RL) (hX : va_X b L xs s s.heap) (hbl : b < s.heap.size) (hE : xE z (fun q : Nat => s.heap.size ≤ q) s s.heap) (hw : gw D (tysX cI cC cI2) (fun q : Nat => s.heap.size ≤ q) s H locs (wM cI a' τ hh ++ wX cI cC cI2 a κ σ)) (hR : RelE κ σ τ B) (hB0 : 400 ≤ B) (hB : B ≤ 100000) (hi : i + 3 < L) (hL : L ≤ 256) (hl : lv_has ls 4 [(3, .int (nI i)), (2, .ref (a' 0)), (1, .ref (a 0)), (0, .ref b)]) (hcs : cells ≤ 600000 ∧ slots ≤ 7302250)
    (kk : ∀ (κ : Nat → Nat) (σ τ : Nat → Nat → Int32) (hh : Int64) (H : Heap) (locs : List Loc), gw D (tysX cI cC cI2) (fun q : Nat => s.heap.size ≤ q) s H locs (wM cI a' τ hh ++ wX cI cC cI2 a κ σ) → RelE κ σ τ (B + 400) → W p l e room_1 s m #[Value.ref b] below meth c H locs cells slots Q (F0 m 674 ls [])) :
    W p l e room_1 s m #[Value.ref b] below meth c H locs cells slots Q (F0 m 276 ls []) := by
  obtain ⟨n, pm, wd, pl, tm, hr, h⟩ := hR
  have hK := hw.1
  refine lv_aload_n S.1 S.2.1 dL_276 rfl (lv_at hl 2 rfl) ?_
  refine lw_arg (k := 1) S hX hbl hw hl (by omega) hL rfl dL_277 dL_278 dL_279 dL_280 dL_281 ?_
  refine g_callViF S hw (c_X_rate l D cI cC cI2 a κ σ (xs (i + 1))) gL_law_X11_rate rfl 0 rfl rfl 1 rfl (by decide +kernel) ⟨by decide, by decide⟩ hcs hl.1 rfl (Nat.le_of_ble_eq_true rfl) dL_282 (fun H locs hw => ?_)
  refine lv_aload_n S.1 S.2.1 dL_285 rfl (lv_at hl 1 rfl) ?_
  refine lw_arg (k := 1) S hX hbl hw hl (by omega) hL rfl dL_286 dL_287 dL_288 dL_289 dL_290 ?_
  refine g_callViF S hw.toM (c_M_rate l D cI a' τ hh (xs (i + 1))) gL_law_X12_rate rfl 0 rfl rfl 1 rfl (by decide +kernel) ⟨by decide, by decide⟩ hcs hl.1 rfl (Nat.le_of_ble_eq_true rfl) dL_291 (fun H locs hw => ?_)
  refine lv_icmp_eq (tgt := 674) S.1 S.2.1 dL_294 (by decide) (fun _ => ?_) (fun q => absurd (L_rate h (xs (i + 1))).1 q)
  exact kk _ _ _ _ _ _ (gw.toX hK hw) ((L_rate h (xs (i + 1))).2.mono (by omega))
theorem law_wed (S : CallFix p m c code 4 s #[Value.ref b] wsL_law RL) (hX : va_X b L xs s s.heap) (hbl : b < s.heap.size) (hE : xE z (fun q : Nat => s.heap.size ≤ q) s s.heap) (hw : gw D (tysX cI cC cI2) (fun q : Nat => s.heap.size ≤ q) s H locs (wM cI a' τ hh ++ wX cI cC cI2 a κ σ)) (hR : RelE κ σ τ B) (hB0 : 400 ≤ B) (hB : B ≤ 100000) (hi : i + 3 < L) (hL : L ≤ 256) (hl : lv_has ls 4 [(3, .int (nI i)), (2, .ref (a' 0)), (1, .ref (a 0)), (0, .ref b)]) (hcs : cells ≤ 600000 ∧ slots ≤ 7302250)
    (kk : ∀ (κ : Nat → Nat) (σ τ : Nat → Nat → Int32) (hh : Int64) (H : Heap) (locs : List Loc), gw D (tysX cI cC cI2) (fun q : Nat => s.heap.size ≤ q) s H locs (wM cI a' τ hh ++ wX cI cC cI2 a κ σ) → RelE κ σ τ (B + 400) → W p l e room_1 s m #[Value.ref b] below meth c H locs cells slots Q (F0 m 674 ls [])) :
    W p l e room_1 s m #[Value.ref b] below meth c H locs cells slots Q (F0 m 299 ls []) := by
  obtain ⟨n, pm, wd, pl, tm, hr, h⟩ := hR
  have hK := hw.1
  refine lv_aload_n S.1 S.2.1 dL_299 rfl (lv_at hl 2 rfl) ?_
  refine lw_arg (k := 1) S hX hbl hw hl (by omega) hL rfl dL_300 dL_301 dL_302 dL_303 dL_304 ?_
  refine lw_arg (k := 2) S hX hbl hw hl (by omega) hL rfl dL_305 dL_306 dL_307 dL_308 dL_309 ?_
  refine g_callViF S hw (c_X_wed l D cI cC cI2 a κ σ n wd (xs (i + 1)) (xs (i + 2)) h.xn h.n4 h.xw h.w12 h.1) gL_law_X11_wed rfl 0 rfl rfl 2 rfl (by decide +kernel) ⟨by decide, by decide⟩ hcs hl.1 rfl (Nat.le_of_ble_eq_true rfl) dL_310 (fun H locs hw => ?_)
  refine lv_aload_n S.1 S.2.1 dL_313 rfl (lv_at hl 1 rfl) ?_
  refine lw_arg (k := 1) S hX hbl hw hl (by omega) hL rfl dL_314 dL_315 dL_316 dL_317 dL_318 ?_
  refine lw_arg (k := 2) S hX hbl hw hl (by omega) hL rfl dL_319 dL_320 dL_321 dL_322 dL_323 ?_
  refine g_callViF S hw.toM (c_M_wed l D cI a' τ hh n wd (xs (i + 1)) (xs (i + 2)) h.mn h.n4 h.mw h.w12) gL_law_X12_wed rfl 0 rfl rfl 2 rfl (by decide +kernel) ⟨by decide, by decide⟩ hcs hl.1 rfl (Nat.le_of_ble_eq_true rfl) dL_324 (fun H locs hw => ?_)
  refine lv_icmp_eq (tgt := 674) S.1 S.2.1 dL_327 (by decide) (fun _ => ?_) (fun q => absurd (L_wed h (by omega) (xs (i + 1)) (xs (i + 2))).1 q)
  exact kk _ _ _ _ _ _ (gw.toX hK hw) (L_wed h (by omega) (xs (i + 1)) (xs (i + 2))).2
theorem law_wedding (S : CallFix p m c code 4 s #[Value.ref b] wsL_law RL) (hX : va_X b L xs s s.heap) (hbl : b < s.heap.size) (hE : xE z (fun q : Nat => s.heap.size ≤ q) s s.heap) (hw : gw D (tysX cI cC cI2) (fun q : Nat => s.heap.size ≤ q) s H locs (wM cI a' τ hh ++ wX cI cC cI2 a κ σ)) (hR : RelE κ σ τ B) (hB0 : 400 ≤ B) (hB : B ≤ 100000) (hi : i + 3 < L) (hL : L ≤ 256) (hl : lv_has ls 4 [(3, .int (nI i)), (2, .ref (a' 0)), (1, .ref (a 0)), (0, .ref b)]) (hcs : cells ≤ 600000 ∧ slots ≤ 7302250)
    (kk : ∀ (κ : Nat → Nat) (σ τ : Nat → Nat → Int32) (hh : Int64) (H : Heap) (locs : List Loc), gw D (tysX cI cC cI2) (fun q : Nat => s.heap.size ≤ q) s H locs (wM cI a' τ hh ++ wX cI cC cI2 a κ σ) → RelE κ σ τ (B + 400) → W p l e room_1 s m #[Value.ref b] below meth c H locs cells slots Q (F0 m 674 ls [])) :
    W p l e room_1 s m #[Value.ref b] below meth c H locs cells slots Q (F0 m 332 ls []) := by
  obtain ⟨n, pm, wd, pl, tm, hr, h⟩ := hR
  have hK := hw.1
  refine lv_aload_n S.1 S.2.1 dL_332 rfl (lv_at hl 2 rfl) ?_
  refine lw_arg (k := 1) S hX hbl hw hl (by omega) hL rfl dL_333 dL_334 dL_335 dL_336 dL_337 ?_
  refine lw_arg (k := 2) S hX hbl hw hl (by omega) hL rfl dL_338 dL_339 dL_340 dL_341 dL_342 ?_
  refine g_callViF S hw (c_X_wedding l D cI cC cI2 a κ σ wd (xs (i + 1)) (xs (i + 2)) h.xw h.w12) gL_law_X11_wedding rfl 0 rfl rfl 2 rfl (by decide +kernel) ⟨by decide, by decide⟩ hcs hl.1 rfl (Nat.le_of_ble_eq_true rfl) dL_343 (fun H locs hw => ?_)
  refine lv_aload_n S.1 S.2.1 dL_346 rfl (lv_at hl 1 rfl) ?_
  refine lw_arg (k := 1) S hX hbl hw hl (by omega) hL rfl dL_347 dL_348 dL_349 dL_350 dL_351 ?_
  refine lw_arg (k := 2) S hX hbl hw hl (by omega) hL rfl dL_352 dL_353 dL_354 dL_355 dL_356 ?_
  refine g_callViF S hw.toM (c_M_wedding l D cI a' τ hh wd (xs (i + 1)) (xs (i + 2)) h.mw h.w12) gL_law_X12_wedding rfl 0 rfl rfl 2 rfl (by decide +kernel) ⟨by decide, by decide⟩ hcs hl.1 rfl (Nat.le_of_ble_eq_true rfl) dL_357 (fun H locs hw => ?_)
  refine lv_icmp_eq (tgt := 674) S.1 S.2.1 dL_360 (by decide) (fun _ => ?_) (fun q => absurd (L_wedding h (xs (i + 1)) (xs (i + 2))) q)
  exact kk _ _ _ _ _ _ (gw.toX hK hw) (h.E.mono (by omega))
theorem law_divorce (S : CallFix p m c code 4 s #[Value.ref b] wsL_law RL) (hX : va_X b L xs s s.heap) (hbl : b < s.heap.size) (hE : xE z (fun q : Nat => s.heap.size ≤ q) s s.heap) (hw : gw D (tysX cI cC cI2) (fun q : Nat => s.heap.size ≤ q) s H locs (wM cI a' τ hh ++ wX cI cC cI2 a κ σ)) (hR : RelE κ σ τ B) (hB0 : 400 ≤ B) (hB : B ≤ 100000) (hi : i + 3 < L) (hL : L ≤ 256) (hl : lv_has ls 4 [(3, .int (nI i)), (2, .ref (a' 0)), (1, .ref (a 0)), (0, .ref b)]) (hcs : cells ≤ 600000 ∧ slots ≤ 7302250)
    (kk : ∀ (κ : Nat → Nat) (σ τ : Nat → Nat → Int32) (hh : Int64) (H : Heap) (locs : List Loc), gw D (tysX cI cC cI2) (fun q : Nat => s.heap.size ≤ q) s H locs (wM cI a' τ hh ++ wX cI cC cI2 a κ σ) → RelE κ σ τ (B + 400) → W p l e room_1 s m #[Value.ref b] below meth c H locs cells slots Q (F0 m 674 ls [])) :
    W p l e room_1 s m #[Value.ref b] below meth c H locs cells slots Q (F0 m 365 ls []) := by
  obtain ⟨n, pm, wd, pl, tm, hr, h⟩ := hR
  have hK := hw.1
  refine lv_aload_n S.1 S.2.1 dL_365 rfl (lv_at hl 2 rfl) ?_
  refine lw_arg (k := 1) S hX hbl hw hl (by omega) hL rfl dL_366 dL_367 dL_368 dL_369 dL_370 ?_
  refine g_callViF S hw (c_X_divorce l D cI cC cI2 a κ σ wd (xs (i + 1)) h.xw h.w12 h.wn.1 h.wn.2.1 h.1) gL_law_X11_divorce rfl 0 rfl rfl 1 rfl (by decide +kernel) ⟨by decide, by decide⟩ hcs hl.1 rfl (Nat.le_of_ble_eq_true rfl) dL_371 (fun H locs hw => ?_)
  refine lv_aload_n S.1 S.2.1 dL_374 rfl (lv_at hl 1 rfl) ?_
  refine lw_arg (k := 1) S hX hbl hw hl (by omega) hL rfl dL_375 dL_376 dL_377 dL_378 dL_379 ?_
  refine g_callViF S hw.toM (c_M_divorce l D cI a' τ hh wd (xs (i + 1)) h.mw h.w12 h.wn.2.2) gL_law_X12_divorce rfl 0 rfl rfl 1 rfl (by decide +kernel) ⟨by decide, by decide⟩ hcs hl.1 rfl (Nat.le_of_ble_eq_true rfl) dL_380 (fun H locs hw => ?_)
  refine lv_icmp_eq (tgt := 674) S.1 S.2.1 dL_383 (by decide) (fun _ => ?_) (fun q => absurd (L_divorce h (by omega) (xs (i + 1))).1 q)
  exact kk _ _ _ _ _ _ (gw.toX hK hw) (L_divorce h (by omega) (xs (i + 1))).2
theorem law_year (S : CallFix p m c code 4 s #[Value.ref b] wsL_law RL) (hX : va_X b L xs s s.heap) (hbl : b < s.heap.size) (hE : xE z (fun q : Nat => s.heap.size ≤ q) s s.heap) (hw : gw D (tysX cI cC cI2) (fun q : Nat => s.heap.size ≤ q) s H locs (wM cI a' τ hh ++ wX cI cC cI2 a κ σ)) (hR : RelE κ σ τ B) (hB0 : 400 ≤ B) (hB : B ≤ 100000) (hi : i + 3 < L) (hL : L ≤ 256) (hl : lv_has ls 4 [(3, .int (nI i)), (2, .ref (a' 0)), (1, .ref (a 0)), (0, .ref b)]) (hcs : cells ≤ 600000 ∧ slots ≤ 7302250)
    (kk : ∀ (κ : Nat → Nat) (σ τ : Nat → Nat → Int32) (hh : Int64) (H : Heap) (locs : List Loc), gw D (tysX cI cC cI2) (fun q : Nat => s.heap.size ≤ q) s H locs (wM cI a' τ hh ++ wX cI cC cI2 a κ σ) → RelE κ σ τ (B + 400) → W p l e room_1 s m #[Value.ref b] below meth c H locs cells slots Q (F0 m 674 ls [])) :
    W p l e room_1 s m #[Value.ref b] below meth c H locs cells slots Q (F0 m 388 ls []) := by
  obtain ⟨n, pm, wd, pl, tm, hr, h⟩ := hR
  have hK := hw.1
  refine lv_aload_n S.1 S.2.1 dL_388 rfl (lv_at hl 2 rfl) ?_
  refine g_callViF S hw (c_X_year l D cI cC cI2 a κ σ n h.xn h.n4 h.1) gL_law_X11_year rfl 0 rfl rfl 0 rfl (by decide +kernel) ⟨by decide, by decide⟩ hcs hl.1 rfl (Nat.le_of_ble_eq_true rfl) dL_389 (fun H locs hw => ?_)
  refine lv_aload_n S.1 S.2.1 dL_392 rfl (lv_at hl 1 rfl) ?_
  refine g_callViF S hw.toM (c_M_year l D cI a' τ hh n h.mn h.n4) gL_law_X12_year rfl 0 rfl rfl 0 rfl (by decide +kernel) ⟨by decide, by decide⟩ hcs hl.1 rfl (Nat.le_of_ble_eq_true rfl) dL_393 (fun H locs hw => ?_)
  refine lv_icmp_eq (tgt := 674) S.1 S.2.1 dL_396 (by decide) (fun _ => ?_) (fun q => absurd (L_year h (by omega)).1 q)
  exact kk _ _ _ _ _ _ (gw.toX hK hw) (L_year h (by omega)).2
theorem law_settled (S : CallFix p m c code 4 s #[Value.ref b] wsL_law RL) (hX : va_X b L xs s s.heap) (hbl : b < s.heap.size) (hE : xE z (fun q : Nat => s.heap.size ≤ q) s s.heap) (hw : gw D (tysX cI cC cI2) (fun q : Nat => s.heap.size ≤ q) s H locs (wM cI a' τ hh ++ wX cI cC cI2 a κ σ)) (hR : RelE κ σ τ B) (hB0 : 400 ≤ B) (hB : B ≤ 100000) (hi : i + 3 < L) (hL : L ≤ 256) (hl : lv_has ls 4 [(3, .int (nI i)), (2, .ref (a' 0)), (1, .ref (a 0)), (0, .ref b)]) (hcs : cells ≤ 600000 ∧ slots ≤ 7302250)
    (kk : ∀ (κ : Nat → Nat) (σ τ : Nat → Nat → Int32) (hh : Int64) (H : Heap) (locs : List Loc), gw D (tysX cI cC cI2) (fun q : Nat => s.heap.size ≤ q) s H locs (wM cI a' τ hh ++ wX cI cC cI2 a κ σ) → RelE κ σ τ (B + 400) → W p l e room_1 s m #[Value.ref b] below meth c H locs cells slots Q (F0 m 674 ls [])) :
    W p l e room_1 s m #[Value.ref b] below meth c H locs cells slots Q (F0 m 401 ls []) := by
  obtain ⟨n, pm, wd, pl, tm, hr, h⟩ := hR
  have hK := hw.1
  refine lv_aload_n S.1 S.2.1 dL_401 rfl (lv_at hl 2 rfl) ?_
  refine g_callViF S hw (c_X_settled l D cI cC cI2 a κ σ n h.xn h.n4) gL_law_X11_settled rfl 0 rfl rfl 0 rfl (by decide +kernel) ⟨by decide, by decide⟩ hcs hl.1 rfl (Nat.le_of_ble_eq_true rfl) dL_402 (fun H locs hw => ?_)
  refine lv_aload_n S.1 S.2.1 dL_405 rfl (lv_at hl 1 rfl) ?_
  refine g_callViF S hw.toM (c_M_settled l D cI a' τ hh n h.mn h.n4) gL_law_X12_settled rfl 0 rfl rfl 0 rfl (by decide +kernel) ⟨by decide, by decide⟩ hcs hl.1 rfl (Nat.le_of_ble_eq_true rfl) dL_406 (fun H locs hw => ?_)
  refine lv_icmp_eq (tgt := 674) S.1 S.2.1 dL_409 (by decide) (fun _ => ?_) (fun q => absurd (L_settled h) q)
  exact kk _ _ _ _ _ _ (gw.toX hK hw) (h.E.mono (by omega))
theorem law_plan (S : CallFix p m c code 4 s #[Value.ref b] wsL_law RL) (hX : va_X b L xs s s.heap) (hbl : b < s.heap.size) (hE : xE z (fun q : Nat => s.heap.size ≤ q) s s.heap) (hw : gw D (tysX cI cC cI2) (fun q : Nat => s.heap.size ≤ q) s H locs (wM cI a' τ hh ++ wX cI cC cI2 a κ σ)) (hR : RelE κ σ τ B) (hB0 : 400 ≤ B) (hB : B ≤ 100000) (hi : i + 3 < L) (hL : L ≤ 256) (hl : lv_has ls 4 [(3, .int (nI i)), (2, .ref (a' 0)), (1, .ref (a 0)), (0, .ref b)]) (hcs : cells ≤ 600000 ∧ slots ≤ 7302250)
    (kk : ∀ (κ : Nat → Nat) (σ τ : Nat → Nat → Int32) (hh : Int64) (H : Heap) (locs : List Loc), gw D (tysX cI cC cI2) (fun q : Nat => s.heap.size ≤ q) s H locs (wM cI a' τ hh ++ wX cI cC cI2 a κ σ) → RelE κ σ τ (B + 400) → W p l e room_1 s m #[Value.ref b] below meth c H locs cells slots Q (F0 m 674 ls [])) :
    W p l e room_1 s m #[Value.ref b] below meth c H locs cells slots Q (F0 m 414 ls []) := by
  obtain ⟨n, pm, wd, pl, tm, hr, h⟩ := hR
  have hK := hw.1
  refine lv_aload_n S.1 S.2.1 dL_414 rfl (lv_at hl 2 rfl) ?_
  refine lw_arg (k := 1) S hX hbl hw hl (by omega) hL rfl dL_415 dL_416 dL_417 dL_418 dL_419 ?_
  refine lw_arg (k := 2) S hX hbl hw hl (by omega) hL rfl dL_420 dL_421 dL_422 dL_423 dL_424 ?_
  refine g_callViF S hw (c_X_plan l D cI cC cI2 a κ σ n pl (xs (i + 1)) (xs (i + 2)) h.xn h.n4 h.xl h.l4) gL_law_X11_plan rfl 0 rfl rfl 2 rfl (by decide +kernel) ⟨by decide, by decide⟩ hcs hl.1 rfl (Nat.le_of_ble_eq_true rfl) dL_425 (fun H locs hw => ?_)
  refine lv_aload_n S.1 S.2.1 dL_428 rfl (lv_at hl 1 rfl) ?_
  refine lw_arg (k := 1) S hX hbl hw hl (by omega) hL rfl dL_429 dL_430 dL_431 dL_432 dL_433 ?_
  refine lw_arg (k := 2) S hX hbl hw hl (by omega) hL rfl dL_434 dL_435 dL_436 dL_437 dL_438 ?_
  refine g_callViF S hw.toM (c_M_plan l D cI a' τ hh n pl (xs (i + 1)) (xs (i + 2)) h.mn h.n4 h.ml h.l4) gL_law_X12_plan rfl 0 rfl rfl 2 rfl (by decide +kernel) ⟨by decide, by decide⟩ hcs hl.1 rfl (Nat.le_of_ble_eq_true rfl) dL_439 (fun H locs hw => ?_)
  refine lv_icmp_eq (tgt := 674) S.1 S.2.1 dL_442 (by decide) (fun _ => ?_) (fun q => absurd (L_plan h (xs (i + 1)) (xs (i + 2))).1 q)
  exact kk _ _ _ _ _ _ (gw.toX hK hw) ((L_plan h (xs (i + 1)) (xs (i + 2))).2.mono (by omega))
theorem law_dream (S : CallFix p m c code 4 s #[Value.ref b] wsL_law RL) (hX : va_X b L xs s s.heap) (hbl : b < s.heap.size) (hE : xE z (fun q : Nat => s.heap.size ≤ q) s s.heap) (hw : gw D (tysX cI cC cI2) (fun q : Nat => s.heap.size ≤ q) s H locs (wM cI a' τ hh ++ wX cI cC cI2 a κ σ)) (hR : RelE κ σ τ B) (hB0 : 400 ≤ B) (hB : B ≤ 100000) (hi : i + 3 < L) (hL : L ≤ 256) (hl : lv_has ls 4 [(3, .int (nI i)), (2, .ref (a' 0)), (1, .ref (a 0)), (0, .ref b)]) (hcs : cells ≤ 600000 ∧ slots ≤ 7302250)
    (kk : ∀ (κ : Nat → Nat) (σ τ : Nat → Nat → Int32) (hh : Int64) (H : Heap) (locs : List Loc), gw D (tysX cI cC cI2) (fun q : Nat => s.heap.size ≤ q) s H locs (wM cI a' τ hh ++ wX cI cC cI2 a κ σ) → RelE κ σ τ (B + 400) → W p l e room_1 s m #[Value.ref b] below meth c H locs cells slots Q (F0 m 674 ls [])) :
    W p l e room_1 s m #[Value.ref b] below meth c H locs cells slots Q (F0 m 447 ls []) := by
  obtain ⟨n, pm, wd, pl, tm, hr, h⟩ := hR
  have hK := hw.1
  refine lv_aload_n S.1 S.2.1 dL_447 rfl (lv_at hl 2 rfl) ?_
  refine g_callViF S hw (c_X_dream l D cI cC cI2 a κ σ) gL_law_X11_dream rfl 0 rfl rfl 0 rfl (by decide +kernel) ⟨by decide, by decide⟩ hcs hl.1 rfl (Nat.le_of_ble_eq_true rfl) dL_448 (fun H locs hw => ?_)
  refine lv_aload_n S.1 S.2.1 dL_451 rfl (lv_at hl 1 rfl) ?_
  refine g_callViF S hw.toM (c_M_dream l D cI a' τ hh ) gL_law_X12_dream rfl 0 rfl rfl 0 rfl (by decide +kernel) ⟨by decide, by decide⟩ hcs hl.1 rfl (Nat.le_of_ble_eq_true rfl) dL_452 (fun H locs hw => ?_)
  refine lv_icmp_eq (tgt := 674) S.1 S.2.1 dL_455 (by decide) (fun _ => ?_) (fun q => absurd (L_dream h).1 q)
  exact kk _ _ _ _ _ _ (gw.toX hK hw) ((L_dream h).2.mono (by omega))
theorem law_order (S : CallFix p m c code 4 s #[Value.ref b] wsL_law RL) (hX : va_X b L xs s s.heap) (hbl : b < s.heap.size) (hE : xE z (fun q : Nat => s.heap.size ≤ q) s s.heap) (hw : gw D (tysX cI cC cI2) (fun q : Nat => s.heap.size ≤ q) s H locs (wM cI a' τ hh ++ wX cI cC cI2 a κ σ)) (hR : RelE κ σ τ B) (hB0 : 400 ≤ B) (hB : B ≤ 100000) (hi : i + 3 < L) (hL : L ≤ 256) (hl : lv_has ls 4 [(3, .int (nI i)), (2, .ref (a' 0)), (1, .ref (a 0)), (0, .ref b)]) (hcs : cells ≤ 600000 ∧ slots ≤ 7302250)
    (kk : ∀ (κ : Nat → Nat) (σ τ : Nat → Nat → Int32) (hh : Int64) (H : Heap) (locs : List Loc), gw D (tysX cI cC cI2) (fun q : Nat => s.heap.size ≤ q) s H locs (wM cI a' τ hh ++ wX cI cC cI2 a κ σ) → RelE κ σ τ (B + 400) → W p l e room_1 s m #[Value.ref b] below meth c H locs cells slots Q (F0 m 674 ls [])) :
    W p l e room_1 s m #[Value.ref b] below meth c H locs cells slots Q (F0 m 460 ls []) := by
  obtain ⟨n, pm, wd, pl, tm, hr, h⟩ := hR
  have hK := hw.1
  refine lv_aload_n S.1 S.2.1 dL_460 rfl (lv_at hl 2 rfl) ?_
  refine lw_arg (k := 1) S hX hbl hw hl (by omega) hL rfl dL_461 dL_462 dL_463 dL_464 dL_465 ?_
  refine g_callViF S hw (c_X_order l D cI cC cI2 a κ σ pl n (xs (i + 1)) h.xl h.l4 h.xn h.n4 h.ln.1 h.ln.2.1 h.1) gL_law_X11_order rfl 0 rfl rfl 1 rfl (by decide +kernel) ⟨by decide, by decide⟩ hcs hl.1 rfl (Nat.le_of_ble_eq_true rfl) dL_466 (fun H locs hw => ?_)
  refine lv_aload_n S.1 S.2.1 dL_469 rfl (lv_at hl 1 rfl) ?_
  refine lw_arg (k := 1) S hX hbl hw hl (by omega) hL rfl dL_470 dL_471 dL_472 dL_473 dL_474 ?_
  refine g_callViF S hw.toM (c_M_order l D cI a' τ hh pl (xs (i + 1)) h.ml h.l4 h.ln.2.2) gL_law_X12_order rfl 0 rfl rfl 1 rfl (by decide +kernel) ⟨by decide, by decide⟩ hcs hl.1 rfl (Nat.le_of_ble_eq_true rfl) dL_475 (fun H locs hw => ?_)
  refine lv_icmp_eq (tgt := 674) S.1 S.2.1 dL_478 (by decide) (fun _ => ?_) (fun q => absurd (L_order h (by omega) (xs (i + 1))).1 q)
  exact kk _ _ _ _ _ _ (gw.toX hK hw) ((L_order h (by omega) (xs (i + 1))).2.mono (by omega))
theorem law_high (S : CallFix p m c code 4 s #[Value.ref b] wsL_law RL) (hX : va_X b L xs s s.heap) (hbl : b < s.heap.size) (hE : xE z (fun q : Nat => s.heap.size ≤ q) s s.heap) (hw : gw D (tysX cI cC cI2) (fun q : Nat => s.heap.size ≤ q) s H locs (wM cI a' τ hh ++ wX cI cC cI2 a κ σ)) (hR : RelE κ σ τ B) (hB0 : 400 ≤ B) (hB : B ≤ 100000) (hi : i + 3 < L) (hL : L ≤ 256) (hl : lv_has ls 4 [(3, .int (nI i)), (2, .ref (a' 0)), (1, .ref (a 0)), (0, .ref b)]) (hcs : cells ≤ 600000 ∧ slots ≤ 7302250)
    (kk : ∀ (κ : Nat → Nat) (σ τ : Nat → Nat → Int32) (hh : Int64) (H : Heap) (locs : List Loc), gw D (tysX cI cC cI2) (fun q : Nat => s.heap.size ≤ q) s H locs (wM cI a' τ hh ++ wX cI cC cI2 a κ σ) → RelE κ σ τ (B + 400) → W p l e room_1 s m #[Value.ref b] below meth c H locs cells slots Q (F0 m 674 ls [])) :
    W p l e room_1 s m #[Value.ref b] below meth c H locs cells slots Q (F0 m 483 ls []) := by
  obtain ⟨n, pm, wd, pl, tm, hr, h⟩ := hR
  have hK := hw.1
  refine lv_aload_n S.1 S.2.1 dL_483 rfl (lv_at hl 2 rfl) ?_
  refine g_callViF S hw (c_X_high l D cI cC cI2 a κ σ pl n h.xl h.l4 h.xn h.n4 h.ln.1 h.ln.2.1 h.1) gL_law_X11_high rfl 0 rfl rfl 0 rfl (by decide +kernel) ⟨by decide, by decide⟩ hcs hl.1 rfl (Nat.le_of_ble_eq_true rfl) dL_484 (fun H locs hw => ?_)
  refine lv_aload_n S.1 S.2.1 dL_487 rfl (lv_at hl 1 rfl) ?_
  refine g_callViF S hw.toM (c_M_high l D cI a' τ hh n pl h.mn h.n4 h.ml h.l4 h.ln.2.2) gL_law_X12_high rfl 0 rfl rfl 0 rfl (by decide +kernel) ⟨by decide, by decide⟩ hcs hl.1 rfl (Nat.le_of_ble_eq_true rfl) dL_488 (fun H locs hw => ?_)
  refine lv_icmp_eq (tgt := 674) S.1 S.2.1 dL_491 (by decide) (fun _ => ?_) (fun q => absurd (L_high h (by omega)).1 q)
  exact kk _ _ _ _ _ _ (gw.toX hK hw) ((L_high h (by omega)).2.mono (by omega))
theorem law_tell (S : CallFix p m c code 4 s #[Value.ref b] wsL_law RL) (hX : va_X b L xs s s.heap) (hbl : b < s.heap.size) (hE : xE z (fun q : Nat => s.heap.size ≤ q) s s.heap) (hw : gw D (tysX cI cC cI2) (fun q : Nat => s.heap.size ≤ q) s H locs (wM cI a' τ hh ++ wX cI cC cI2 a κ σ)) (hR : RelE κ σ τ B) (hB0 : 400 ≤ B) (hB : B ≤ 100000) (hi : i + 3 < L) (hL : L ≤ 256) (hl : lv_has ls 4 [(3, .int (nI i)), (2, .ref (a' 0)), (1, .ref (a 0)), (0, .ref b)]) (hcs : cells ≤ 600000 ∧ slots ≤ 7302250)
    (kk : ∀ (κ : Nat → Nat) (σ τ : Nat → Nat → Int32) (hh : Int64) (H : Heap) (locs : List Loc), gw D (tysX cI cC cI2) (fun q : Nat => s.heap.size ≤ q) s H locs (wM cI a' τ hh ++ wX cI cC cI2 a κ σ) → RelE κ σ τ (B + 400) → W p l e room_1 s m #[Value.ref b] below meth c H locs cells slots Q (F0 m 674 ls [])) :
    W p l e room_1 s m #[Value.ref b] below meth c H locs cells slots Q (F0 m 496 ls []) := by
  obtain ⟨n, pm, wd, pl, tm, hr, h⟩ := hR
  have hK := hw.1
  refine lv_aload_n S.1 S.2.1 dL_496 rfl (lv_at hl 2 rfl) ?_
  refine lw_arg (k := 1) S hX hbl hw hl (by omega) hL rfl dL_497 dL_498 dL_499 dL_500 dL_501 ?_
  refine lw_arg (k := 2) S hX hbl hw hl (by omega) hL rfl dL_502 dL_503 dL_504 dL_505 dL_506 ?_
  refine g_callViF S hw (c_X_tell l D cI cC cI2 a κ σ tm (xs (i + 1)) (xs (i + 2)) h.xt h.t6) gL_law_X11_tell rfl 0 rfl rfl 2 rfl (by decide +kernel) ⟨by decide, by decide⟩ hcs hl.1 rfl (Nat.le_of_ble_eq_true rfl) dL_507 (fun H locs hw => ?_)
  refine lv_aload_n S.1 S.2.1 dL_510 rfl (lv_at hl 1 rfl) ?_
  refine lw_arg (k := 1) S hX hbl hw hl (by omega) hL rfl dL_511 dL_512 dL_513 dL_514 dL_515 ?_
  refine lw_arg (k := 2) S hX hbl hw hl (by omega) hL rfl dL_516 dL_517 dL_518 dL_519 dL_520 ?_
  refine g_callViF S hw.toM (c_M_tell l D cI a' τ hh tm (xs (i + 1)) (xs (i + 2)) h.mt h.t6) gL_law_X12_tell rfl 0 rfl rfl 2 rfl (by decide +kernel) ⟨by decide, by decide⟩ hcs hl.1 rfl (Nat.le_of_ble_eq_true rfl) dL_521 (fun H locs hw => ?_)
  refine lv_icmp_eq (tgt := 674) S.1 S.2.1 dL_524 (by decide) (fun _ => ?_) (fun q => absurd (L_tell h (xs (i + 1)) (xs (i + 2))).1 q)
  exact kk _ _ _ _ _ _ (gw.toX hK hw) ((L_tell h (xs (i + 1)) (xs (i + 2))).2.mono (by omega))
theorem law_forget (S : CallFix p m c code 4 s #[Value.ref b] wsL_law RL) (hX : va_X b L xs s s.heap) (hbl : b < s.heap.size) (hE : xE z (fun q : Nat => s.heap.size ≤ q) s s.heap) (hw : gw D (tysX cI cC cI2) (fun q : Nat => s.heap.size ≤ q) s H locs (wM cI a' τ hh ++ wX cI cC cI2 a κ σ)) (hR : RelE κ σ τ B) (hB0 : 400 ≤ B) (hB : B ≤ 100000) (hi : i + 3 < L) (hL : L ≤ 256) (hl : lv_has ls 4 [(3, .int (nI i)), (2, .ref (a' 0)), (1, .ref (a 0)), (0, .ref b)]) (hcs : cells ≤ 600000 ∧ slots ≤ 7302250)
    (kk : ∀ (κ : Nat → Nat) (σ τ : Nat → Nat → Int32) (hh : Int64) (H : Heap) (locs : List Loc), gw D (tysX cI cC cI2) (fun q : Nat => s.heap.size ≤ q) s H locs (wM cI a' τ hh ++ wX cI cC cI2 a κ σ) → RelE κ σ τ (B + 400) → W p l e room_1 s m #[Value.ref b] below meth c H locs cells slots Q (F0 m 674 ls [])) :
    W p l e room_1 s m #[Value.ref b] below meth c H locs cells slots Q (F0 m 529 ls []) := by
  obtain ⟨n, pm, wd, pl, tm, hr, h⟩ := hR
  have hK := hw.1
  refine lv_aload_n S.1 S.2.1 dL_529 rfl (lv_at hl 2 rfl) ?_
  refine g_callViF S hw (c_X_forget l D cI cC cI2 a κ σ) gL_law_X11_forget rfl 0 rfl rfl 0 rfl (by decide +kernel) ⟨by decide, by decide⟩ hcs hl.1 rfl (Nat.le_of_ble_eq_true rfl) dL_530 (fun H locs hw => ?_)
  refine lv_aload_n S.1 S.2.1 dL_533 rfl (lv_at hl 1 rfl) ?_
  refine g_callViF S hw.toM (c_M_forget l D cI a' τ hh ) gL_law_X12_forget rfl 0 rfl rfl 0 rfl (by decide +kernel) ⟨by decide, by decide⟩ hcs hl.1 rfl (Nat.le_of_ble_eq_true rfl) dL_534 (fun H locs hw => ?_)
  refine lv_icmp_eq (tgt := 674) S.1 S.2.1 dL_537 (by decide) (fun _ => ?_) (fun q => absurd (L_forget h).1 q)
  exact kk _ _ _ _ _ _ (gw.toX hK hw) ((L_forget h).2.mono (by omega))
theorem law_which (S : CallFix p m c code 4 s #[Value.ref b] wsL_law RL) (hX : va_X b L xs s s.heap) (hbl : b < s.heap.size) (hE : xE z (fun q : Nat => s.heap.size ≤ q) s s.heap) (hw : gw D (tysX cI cC cI2) (fun q : Nat => s.heap.size ≤ q) s H locs (wM cI a' τ hh ++ wX cI cC cI2 a κ σ)) (hR : RelE κ σ τ B) (hB0 : 400 ≤ B) (hB : B ≤ 100000) (hi : i + 3 < L) (hL : L ≤ 256) (hl : lv_has ls 4 [(3, .int (nI i)), (2, .ref (a' 0)), (1, .ref (a 0)), (0, .ref b)]) (hcs : cells ≤ 600000 ∧ slots ≤ 7302250)
    (kk : ∀ (κ : Nat → Nat) (σ τ : Nat → Nat → Int32) (hh : Int64) (H : Heap) (locs : List Loc), gw D (tysX cI cC cI2) (fun q : Nat => s.heap.size ≤ q) s H locs (wM cI a' τ hh ++ wX cI cC cI2 a κ σ) → RelE κ σ τ (B + 400) → W p l e room_1 s m #[Value.ref b] below meth c H locs cells slots Q (F0 m 674 ls [])) :
    W p l e room_1 s m #[Value.ref b] below meth c H locs cells slots Q (F0 m 542 ls []) := by
  obtain ⟨n, pm, wd, pl, tm, hr, h⟩ := hR
  have hK := hw.1
  refine lv_aload_n S.1 S.2.1 dL_542 rfl (lv_at hl 2 rfl) ?_
  refine g_callViF S hw (c_X_which l D cI cC cI2 a κ σ tm h.xt h.t6) gL_law_X11_which rfl 0 rfl rfl 0 rfl (by decide +kernel) ⟨by decide, by decide⟩ hcs hl.1 rfl (Nat.le_of_ble_eq_true rfl) dL_543 (fun H locs hw => ?_)
  refine lv_aload_n S.1 S.2.1 dL_546 rfl (lv_at hl 1 rfl) ?_
  refine g_callViF S hw.toM (c_M_which l D cI a' τ hh tm h.mt h.t6) gL_law_X12_which rfl 0 rfl rfl 0 rfl (by decide +kernel) ⟨by decide, by decide⟩ hcs hl.1 rfl (Nat.le_of_ble_eq_true rfl) dL_547 (fun H locs hw => ?_)
  refine lv_icmp_eq (tgt := 674) S.1 S.2.1 dL_550 (by decide) (fun _ => ?_) (fun q => absurd (L_which h) q)
  exact kk _ _ _ _ _ _ (gw.toX hK hw) (h.E.mono (by omega))
theorem law_ask (S : CallFix p m c code 4 s #[Value.ref b] wsL_law RL) (hX : va_X b L xs s s.heap) (hbl : b < s.heap.size) (hE : xE z (fun q : Nat => s.heap.size ≤ q) s s.heap) (hw : gw D (tysX cI cC cI2) (fun q : Nat => s.heap.size ≤ q) s H locs (wM cI a' τ hh ++ wX cI cC cI2 a κ σ)) (hR : RelE κ σ τ B) (hB0 : 400 ≤ B) (hB : B ≤ 100000) (hi : i + 3 < L) (hL : L ≤ 256) (hl : lv_has ls 4 [(3, .int (nI i)), (2, .ref (a' 0)), (1, .ref (a 0)), (0, .ref b)]) (hcs : cells ≤ 600000 ∧ slots ≤ 7302250)
    (kk : ∀ (κ : Nat → Nat) (σ τ : Nat → Nat → Int32) (hh : Int64) (H : Heap) (locs : List Loc), gw D (tysX cI cC cI2) (fun q : Nat => s.heap.size ≤ q) s H locs (wM cI a' τ hh ++ wX cI cC cI2 a κ σ) → RelE κ σ τ (B + 400) → W p l e room_1 s m #[Value.ref b] below meth c H locs cells slots Q (F0 m 674 ls [])) :
    W p l e room_1 s m #[Value.ref b] below meth c H locs cells slots Q (F0 m 555 ls []) := by
  obtain ⟨n, pm, wd, pl, tm, hr, h⟩ := hR
  have hK := hw.1
  refine lv_aload_n S.1 S.2.1 dL_555 rfl (lv_at hl 2 rfl) ?_
  refine g_callViF S hw (c_X_ask l D cI cC cI2 a κ σ tm h.xt h.t6) gL_law_X11_ask rfl 0 rfl rfl 0 rfl (by decide +kernel) ⟨by decide, by decide⟩ hcs hl.1 rfl (Nat.le_of_ble_eq_true rfl) dL_556 (fun H locs hw => ?_)
  refine lv_aload_n S.1 S.2.1 dL_559 rfl (lv_at hl 1 rfl) ?_
  refine g_callViF S hw.toM (c_M_ask l D cI a' τ hh tm h.mt h.t6) gL_law_X12_ask rfl 0 rfl rfl 0 rfl (by decide +kernel) ⟨by decide, by decide⟩ hcs hl.1 rfl (Nat.le_of_ble_eq_true rfl) dL_560 (fun H locs hw => ?_)
  refine lv_icmp_eq (tgt := 674) S.1 S.2.1 dL_563 (by decide) (fun _ => ?_) (fun q => absurd (L_ask h).1 q)
  exact kk _ _ _ _ _ _ (gw.toX hK hw) ((L_ask h).2.mono (by omega))
theorem law_ages (S : CallFix p m c code 4 s #[Value.ref b] wsL_law RL) (hX : va_X b L xs s s.heap) (hbl : b < s.heap.size) (hE : xE z (fun q : Nat => s.heap.size ≤ q) s s.heap) (hw : gw D (tysX cI cC cI2) (fun q : Nat => s.heap.size ≤ q) s H locs (wM cI a' τ hh ++ wX cI cC cI2 a κ σ)) (hR : RelE κ σ τ B) (hB0 : 400 ≤ B) (hB : B ≤ 100000) (hi : i + 3 < L) (hL : L ≤ 256) (hl : lv_has ls 4 [(3, .int (nI i)), (2, .ref (a' 0)), (1, .ref (a 0)), (0, .ref b)]) (hcs : cells ≤ 600000 ∧ slots ≤ 7302250)
    (kk : ∀ (κ : Nat → Nat) (σ τ : Nat → Nat → Int32) (hh : Int64) (H : Heap) (locs : List Loc), gw D (tysX cI cC cI2) (fun q : Nat => s.heap.size ≤ q) s H locs (wM cI a' τ hh ++ wX cI cC cI2 a κ σ) → RelE κ σ τ (B + 400) → W p l e room_1 s m #[Value.ref b] below meth c H locs cells slots Q (F0 m 674 ls [])) :
    W p l e room_1 s m #[Value.ref b] below meth c H locs cells slots Q (F0 m 568 ls []) := by
  obtain ⟨n, pm, wd, pl, tm, hr, h⟩ := hR
  have hK := hw.1
  refine lv_aload_n S.1 S.2.1 dL_568 rfl (lv_at hl 2 rfl) ?_
  refine lw_arg (k := 1) S hX hbl hw hl (by omega) hL rfl dL_569 dL_570 dL_571 dL_572 dL_573 ?_
  refine lw_arg (k := 2) S hX hbl hw hl (by omega) hL rfl dL_574 dL_575 dL_576 dL_577 dL_578 ?_
  refine lw_arg (k := 3) S hX hbl hw hl (by omega) hL rfl dL_579 dL_580 dL_581 dL_582 dL_583 ?_
  refine g_callViF S hw (c_X_ages l D cI cC cI2 a κ σ n (xs (i + 1)) (xs (i + 2)) (xs (i + 3)) h.xn h.n4 h.1) gL_law_X11_ages rfl 0 rfl rfl 3 rfl (by decide +kernel) ⟨by decide, by decide⟩ hcs hl.1 rfl (Nat.le_of_ble_eq_true rfl) dL_584 (fun H locs hw => ?_)
  refine lv_aload_n S.1 S.2.1 dL_587 rfl (lv_at hl 1 rfl) ?_
  refine lw_arg (k := 1) S hX hbl hw hl (by omega) hL rfl dL_588 dL_589 dL_590 dL_591 dL_592 ?_
  refine lw_arg (k := 2) S hX hbl hw hl (by omega) hL rfl dL_593 dL_594 dL_595 dL_596 dL_597 ?_
  refine lw_arg (k := 3) S hX hbl hw hl (by omega) hL rfl dL_598 dL_599 dL_600 dL_601 dL_602 ?_
  refine g_callViF S hw.toM (c_M_ages l D cI a' τ hh n (xs (i + 1)) (xs (i + 2)) (xs (i + 3)) h.mn h.n4) gL_law_X12_ages rfl 0 rfl rfl 3 rfl (by decide +kernel) ⟨by decide, by decide⟩ hcs hl.1 rfl (Nat.le_of_ble_eq_true rfl) dL_603 (fun H locs hw => ?_)
  refine lv_icmp_eq (tgt := 674) S.1 S.2.1 dL_606 (by decide) (fun _ => ?_) (fun q => absurd (L_ages h (by omega) (xs (i + 1)) (xs (i + 2)) (xs (i + 3))).1 q)
  exact kk _ _ _ _ _ _ (gw.toX hK hw) ((L_ages h (by omega) (xs (i + 1)) (xs (i + 2)) (xs (i + 3))).2.mono (by omega))
theorem law_image (S : CallFix p m c code 4 s #[Value.ref b] wsL_law RL) (hX : va_X b L xs s s.heap) (hbl : b < s.heap.size) (hE : xE z (fun q : Nat => s.heap.size ≤ q) s s.heap) (hw : gw D (tysX cI cC cI2) (fun q : Nat => s.heap.size ≤ q) s H locs (wM cI a' τ hh ++ wX cI cC cI2 a κ σ)) (hR : RelE κ σ τ B) (hB0 : 400 ≤ B) (hB : B ≤ 100000) (hi : i + 3 < L) (hL : L ≤ 256) (hl : lv_has ls 4 [(3, .int (nI i)), (2, .ref (a' 0)), (1, .ref (a 0)), (0, .ref b)]) (hcs : cells ≤ 600000 ∧ slots ≤ 7302250)
    (kk : ∀ (κ : Nat → Nat) (σ τ : Nat → Nat → Int32) (hh : Int64) (H : Heap) (locs : List Loc), gw D (tysX cI cC cI2) (fun q : Nat => s.heap.size ≤ q) s H locs (wM cI a' τ hh ++ wX cI cC cI2 a κ σ) → RelE κ σ τ (B + 400) → W p l e room_1 s m #[Value.ref b] below meth c H locs cells slots Q (F0 m 674 ls [])) :
    W p l e room_1 s m #[Value.ref b] below meth c H locs cells slots Q (F0 m 611 ls []) := by
  obtain ⟨n, pm, wd, pl, tm, hr, h⟩ := hR
  have hK := hw.1
  refine lv_aload_n S.1 S.2.1 dL_611 rfl (lv_at hl 2 rfl) ?_
  refine g_callViF S hw (c_X_image l D cI cC cI2 a κ σ) gL_law_X11_image rfl 0 rfl rfl 0 rfl (by decide +kernel) ⟨by decide, by decide⟩ hcs hl.1 rfl (Nat.le_of_ble_eq_true rfl) dL_612 (fun H locs hw => ?_)
  refine lv_aload_n S.1 S.2.1 dL_615 rfl (lv_at hl 1 rfl) ?_
  refine g_callViF S hw.toM (c_M_image l D cI a' τ hh ) gL_law_X12_image rfl 0 rfl rfl 0 rfl (by decide +kernel) ⟨by decide, by decide⟩ hcs hl.1 rfl (Nat.le_of_ble_eq_true rfl) dL_616 (fun H locs hw => ?_)
  refine lv_icmp_eq (tgt := 674) S.1 S.2.1 dL_619 (by decide) (fun _ => ?_) (fun q => absurd (L_image h).1 q)
  exact kk _ _ _ _ _ _ (gw.toX hK hw) ((L_image h).2.mono (by omega))
theorem law_restore (S : CallFix p m c code 4 s #[Value.ref b] wsL_law RL) (hX : va_X b L xs s s.heap) (hbl : b < s.heap.size) (hE : xE z (fun q : Nat => s.heap.size ≤ q) s s.heap) (hw : gw D (tysX cI cC cI2) (fun q : Nat => s.heap.size ≤ q) s H locs (wM cI a' τ hh ++ wX cI cC cI2 a κ σ)) (hR : RelE κ σ τ B) (hB0 : 400 ≤ B) (hB : B ≤ 100000) (hi : i + 3 < L) (hL : L ≤ 256) (hl : lv_has ls 4 [(3, .int (nI i)), (2, .ref (a' 0)), (1, .ref (a 0)), (0, .ref b)]) (hcs : cells ≤ 600000 ∧ slots ≤ 7302250)
    (kk : ∀ (κ : Nat → Nat) (σ τ : Nat → Nat → Int32) (hh : Int64) (H : Heap) (locs : List Loc), gw D (tysX cI cC cI2) (fun q : Nat => s.heap.size ≤ q) s H locs (wM cI a' τ hh ++ wX cI cC cI2 a κ σ) → RelE κ σ τ (B + 400) → W p l e room_1 s m #[Value.ref b] below meth c H locs cells slots Q (F0 m 674 ls [])) :
    W p l e room_1 s m #[Value.ref b] below meth c H locs cells slots Q (F0 m 624 ls []) := by
  obtain ⟨n, pm, wd, pl, tm, hr, h⟩ := hR
  have hK := hw.1
  refine lv_aload_n S.1 S.2.1 dL_624 rfl (lv_at hl 2 rfl) ?_
  refine g_callViF S hw (c_X_restore l D cI cC cI2 a κ σ) gL_law_X11_restore rfl 0 rfl rfl 0 rfl (by decide +kernel) ⟨by decide, by decide⟩ hcs hl.1 rfl (Nat.le_of_ble_eq_true rfl) dL_625 (fun H locs hw => ?_)
  refine lv_aload_n S.1 S.2.1 dL_628 rfl (lv_at hl 1 rfl) ?_
  refine g_callViF S hw.toM (c_M_restore l D cI a' τ hh ) gL_law_X12_restore rfl 0 rfl rfl 0 rfl (by decide +kernel) ⟨by decide, by decide⟩ hcs hl.1 rfl (Nat.le_of_ble_eq_true rfl) dL_629 (fun H locs hw => ?_)
  refine lv_icmp_eq (tgt := 674) S.1 S.2.1 dL_632 (by decide) (fun _ => ?_) (fun q => absurd (L_restore h).1 q)
  exact kk _ _ _ _ _ _ (gw.toX hK hw) ((L_restore h).2.mono (by omega))
theorem law_count (S : CallFix p m c code 4 s #[Value.ref b] wsL_law RL) (hX : va_X b L xs s s.heap) (hbl : b < s.heap.size) (hE : xE z (fun q : Nat => s.heap.size ≤ q) s s.heap) (hw : gw D (tysX cI cC cI2) (fun q : Nat => s.heap.size ≤ q) s H locs (wM cI a' τ hh ++ wX cI cC cI2 a κ σ)) (hR : RelE κ σ τ B) (hB0 : 400 ≤ B) (hB : B ≤ 100000) (hi : i + 3 < L) (hL : L ≤ 256) (hl : lv_has ls 4 [(3, .int (nI i)), (2, .ref (a' 0)), (1, .ref (a 0)), (0, .ref b)]) (hcs : cells ≤ 600000 ∧ slots ≤ 7302250)
    (kk : ∀ (κ : Nat → Nat) (σ τ : Nat → Nat → Int32) (hh : Int64) (H : Heap) (locs : List Loc), gw D (tysX cI cC cI2) (fun q : Nat => s.heap.size ≤ q) s H locs (wM cI a' τ hh ++ wX cI cC cI2 a κ σ) → RelE κ σ τ (B + 400) → W p l e room_1 s m #[Value.ref b] below meth c H locs cells slots Q (F0 m 674 ls [])) :
    W p l e room_1 s m #[Value.ref b] below meth c H locs cells slots Q (F0 m 637 ls []) := by
  obtain ⟨n, pm, wd, pl, tm, hr, h⟩ := hR
  have hK := hw.1
  refine lv_aload_n S.1 S.2.1 dL_637 rfl (lv_at hl 2 rfl) ?_
  refine lw_arg (k := 1) S hX hbl hw hl (by omega) hL rfl dL_638 dL_639 dL_640 dL_641 dL_642 ?_
  refine g_callViF S hw (c_X_count l D cI cC cI2 a κ σ n (xs (i + 1)) h.xn h.n4) gL_law_X11_count rfl 0 rfl rfl 1 rfl (by decide +kernel) ⟨by decide, by decide⟩ hcs hl.1 rfl (Nat.le_of_ble_eq_true rfl) dL_643 (fun H locs hw => ?_)
  refine lv_aload_n S.1 S.2.1 dL_646 rfl (lv_at hl 1 rfl) ?_
  refine lw_arg (k := 1) S hX hbl hw hl (by omega) hL rfl dL_647 dL_648 dL_649 dL_650 dL_651 ?_
  refine g_callViF S hw.toM (c_M_count l D cI a' τ hh n (xs (i + 1)) h.mn h.n4) gL_law_X12_count rfl 0 rfl rfl 1 rfl (by decide +kernel) ⟨by decide, by decide⟩ hcs hl.1 rfl (Nat.le_of_ble_eq_true rfl) dL_652 (fun H locs hw => ?_)
  refine lv_icmp_eq (tgt := 674) S.1 S.2.1 dL_655 (by decide) (fun _ => ?_) (fun q => absurd (L_count h (xs (i + 1))) q)
  exact kk _ _ _ _ _ _ (gw.toX hK hw) (h.E.mono (by omega))
theorem law_digest (S : CallFix p m c code 4 s #[Value.ref b] wsL_law RL) (hX : va_X b L xs s s.heap) (hbl : b < s.heap.size) (hE : xE z (fun q : Nat => s.heap.size ≤ q) s s.heap) (hw : gw D (tysX cI cC cI2) (fun q : Nat => s.heap.size ≤ q) s H locs (wM cI a' τ hh ++ wX cI cC cI2 a κ σ)) (hR : RelE κ σ τ B) (hB0 : 400 ≤ B) (hB : B ≤ 100000) (hi : i + 3 < L) (hL : L ≤ 256) (hl : lv_has ls 4 [(3, .int (nI i)), (2, .ref (a' 0)), (1, .ref (a 0)), (0, .ref b)]) (hcs : cells ≤ 600000 ∧ slots ≤ 7302250)
    (kk : ∀ (κ : Nat → Nat) (σ τ : Nat → Nat → Int32) (hh : Int64) (H : Heap) (locs : List Loc), gw D (tysX cI cC cI2) (fun q : Nat => s.heap.size ≤ q) s H locs (wM cI a' τ hh ++ wX cI cC cI2 a κ σ) → RelE κ σ τ (B + 400) → W p l e room_1 s m #[Value.ref b] below meth c H locs cells slots Q (F0 m 674 ls [])) :
    W p l e room_1 s m #[Value.ref b] below meth c H locs cells slots Q (F0 m 660 ls []) := by
  obtain ⟨n, pm, wd, pl, tm, hr, h⟩ := hR
  have hK := hw.1
  refine lv_aload_n S.1 S.2.1 dL_660 rfl (lv_at hl 2 rfl) ?_
  refine g_callVlEF S hw hE (c_X_digest l D z cI cC cI2 a κ σ n wd pl tm pm h.xn h.n4 h.xw h.w12 h.xl h.l4 h.ln.1 h.ln.2.1 h.1 h.xt h.t6 h.xp h.p16) gL_law_X11_digest rfl 0 rfl rfl 0 rfl (by decide +kernel) ⟨by decide, by decide⟩ hcs hl.1 rfl (Nat.le_of_ble_eq_true rfl) dL_661 (fun H locs hw => ?_)
  refine lv_aload_n S.1 S.2.1 dL_664 rfl (lv_at hl 1 rfl) ?_
  refine g_callVlF S hw.toM (c_M_digest l D cI a' τ hh n wd pl tm pm h.mn h.n4 h.mw h.w12 h.ml h.l4 h.mt h.t6 h.mp h.p16 h.ln.2.2) gL_law_X12_digest rfl 0 rfl rfl 0 rfl (by decide +kernel) ⟨by decide, by decide⟩ hcs hl.1 rfl (Nat.le_of_ble_eq_true rfl) dL_665 (fun H locs hw => ?_)
  refine W.lcmp S.1 S.2.1 dL_668 ?_
  refine lv_if_eq (tgt := 674) S.1 S.2.1 dL_669 (by decide) (fun _ => ?_) (fun q => absurd ((lg_cmp_eq _ _).mpr (L_digest h (by omega) hh).1) q)
  exact kk _ _ _ _ _ _ (gw.toX hK hw) ((L_digest h (by omega) hh).2.mono (by omega))
end LA
