/-! ===== the law's loop ===== -/
section LP
variable {p : Program} {l : Launch} {e : Env} {s : State} {m : MethodId} {below : List Frame} {meth : Method} {c : Code} {b L : Nat} {xs : Nat → Int32} {D : va_G} {z : Nat → Nat} {cI cC cI2 : ClassId} {a a' : Nat → Nat} {κ : Nat → Nat} {σ τ : Nat → Nat → Int32} {hh : Int64} {B : Int} {H : Heap} {locs : List Loc} {ls : Array Slot} {i cells slots : Nat} {Q : State → Prop}
theorem law_head {w : va_W} (S : CallFix p m c code 4 s #[Value.ref b] wsL_law RL) (hX : va_X b L xs s s.heap) (hbl : b < s.heap.size) (hw : gw D (tysX cI cC cI2) (fun q : Nat => s.heap.size ≤ q) s H locs w) (hi : i ≤ 1000) (hL : L ≤ 256) (hl : lv_has ls 4 [(3, .int (nI i)), (2, .ref (a' 0)), (1, .ref (a 0)), (0, .ref b)])
    (kx : W p l e room_1 s m #[Value.ref b] below meth c H locs cells slots Q (F0 m 680 ls [])) (kc : i + 4 ≤ L → W p l e room_1 s m #[Value.ref b] below meth c H locs cells slots Q (F0 m 26 ls [])) :
    W p l e room_1 s m #[Value.ref b] below meth c H locs cells slots Q (F0 m 18 ls []) := by
  refine lv_iload_n S.1 S.2.1 dL_18 rfl (lv_at hl 0 rfl) ?_
  refine lv_aload_n S.1 S.2.1 dL_19 rfl (lv_at hl 3 rfl) ?_
  refine va_slen S.1 S.2.1 hX hbl (Nat.not_le.mpr hbl) hw.2.2.2.1 dL_20 ?_
  refine lv_iconst (v := 4) S.1 S.2.1 dL_21 (by decide) ?_
  refine lv_isub S.1 S.2.1 dL_22 ?_
  refine lv_icmp_gt (tgt := 680) S.1 S.2.1 dL_23 (by decide) (fun _ => kx) (fun q => kc ?_)
  have eL : (nI L).toInt = L := nI_toInt (by omega)
  have ei : (nI i).toInt = i := nI_toInt (by omega)
  have e4 : (4 : Int32).toInt = 4 := rfl
  have es : (nI L - 4).toInt = (L : Int) - 4 := by
    rw [fb_subI (by omega) (by omega)]; omega
  have q' : ¬ (nI L - 4).toInt < (nI i).toInt := fun k => q ((fa_lt _ _).mpr k)
  omega
theorem law_body (S : CallFix p m c code 4 s #[Value.ref b] wsL_law RL) (hX : va_X b L xs s s.heap) (hbl : b < s.heap.size) (hE : xE z (fun q : Nat => s.heap.size ≤ q) s s.heap) (hw : gw D (tysX cI cC cI2) (fun q : Nat => s.heap.size ≤ q) s H locs (wM cI a' τ hh ++ wX cI cC cI2 a κ σ)) (hR : RelE κ σ τ B) (hB0 : 400 ≤ B) (hB : B ≤ 100000) (hi : i + 3 < L) (hL : L ≤ 256) (hl : lv_has ls 4 [(3, .int (nI i)), (2, .ref (a' 0)), (1, .ref (a 0)), (0, .ref b)]) (hcs : cells ≤ 600000 ∧ slots ≤ 7302250)
    (kk : ∀ (κ : Nat → Nat) (σ τ : Nat → Nat → Int32) (hh : Int64) (H : Heap) (locs : List Loc), gw D (tysX cI cC cI2) (fun q : Nat => s.heap.size ≤ q) s H locs (wM cI a' τ hh ++ wX cI cC cI2 a κ σ) → RelE κ σ τ (B + 400) → W p l e room_1 s m #[Value.ref b] below meth c H locs cells slots Q (F0 m 674 ls [])) :
    W p l e room_1 s m #[Value.ref b] below meth c H locs cells slots Q (F0 m 26 ls []) := by
  refine lv_aload_n S.1 S.2.1 dL_26 rfl (lv_at hl 3 rfl) ?_
  refine lv_iload_n S.1 S.2.1 dL_27 rfl (lv_at hl 0 rfl) ?_
  refine va_sld S.1 S.2.1 hX hbl (Nat.not_le.mpr hbl) hw.2.2.2.1 (i := nI i) (vp_in_nI (by omega) (by omega)) dL_28 ?_
  refine lv_bipush (v := 31) S.1 S.2.1 dL_29 (by decide) ?_
  refine lv_iand S.1 S.2.1 dL_31 ?_
  obtain ⟨j, hj, ej⟩ := pk_andE (xs (nI i).toNatClampNeg) (m := 31) 5 (by decide)
  rw [ej]
  match j, hj with
  | 0, _ => exact lv_tableIn (off := 116) (tgt := 148) S.1 S.2.1 dL_32 (by decide) (by decide) (by decide) (by decide) (law_letter S hX hbl hE hw hR hB0 hB hi hL hl hcs kk)
  | 1, _ => exact lv_tableIn (off := 139) (tgt := 171) S.1 S.2.1 dL_32 (by decide) (by decide) (by decide) (by decide) (law_blank S hX hbl hE hw hR hB0 hB hi hL hl hcs kk)
  | 2, _ => exact lv_tableIn (off := 152) (tgt := 184) S.1 S.2.1 dL_32 (by decide) (by decide) (by decide) (by decide) (law_fault S hX hbl hE hw hR hB0 hB hi hL hl hcs kk)
  | 3, _ => exact lv_tableIn (off := 165) (tgt := 197) S.1 S.2.1 dL_32 (by decide) (by decide) (by decide) (by decide) (law_hills S hX hbl hE hw hR hB0 hB hi hL hl hcs kk)
  | 4, _ => exact lv_tableIn (off := 178) (tgt := 210) S.1 S.2.1 dL_32 (by decide) (by decide) (by decide) (by decide) (law_clan S hX hbl hE hw hR hB0 hB hi hL hl hcs kk)
  | 5, _ => exact lv_tableIn (off := 211) (tgt := 243) S.1 S.2.1 dL_32 (by decide) (by decide) (by decide) (by decide) (law_as S hX hbl hE hw hR hB0 hB hi hL hl hcs kk)
  | 6, _ => exact lv_tableIn (off := 244) (tgt := 276) S.1 S.2.1 dL_32 (by decide) (by decide) (by decide) (by decide) (law_rate S hX hbl hE hw hR hB0 hB hi hL hl hcs kk)
  | 7, _ => exact lv_tableIn (off := 267) (tgt := 299) S.1 S.2.1 dL_32 (by decide) (by decide) (by decide) (by decide) (law_wed S hX hbl hE hw hR hB0 hB hi hL hl hcs kk)
  | 8, _ => exact lv_tableIn (off := 300) (tgt := 332) S.1 S.2.1 dL_32 (by decide) (by decide) (by decide) (by decide) (law_wedding S hX hbl hE hw hR hB0 hB hi hL hl hcs kk)
  | 9, _ => exact lv_tableIn (off := 333) (tgt := 365) S.1 S.2.1 dL_32 (by decide) (by decide) (by decide) (by decide) (law_divorce S hX hbl hE hw hR hB0 hB hi hL hl hcs kk)
  | 10, _ => exact lv_tableIn (off := 356) (tgt := 388) S.1 S.2.1 dL_32 (by decide) (by decide) (by decide) (by decide) (law_year S hX hbl hE hw hR hB0 hB hi hL hl hcs kk)
  | 11, _ => exact lv_tableIn (off := 369) (tgt := 401) S.1 S.2.1 dL_32 (by decide) (by decide) (by decide) (by decide) (law_settled S hX hbl hE hw hR hB0 hB hi hL hl hcs kk)
  | 12, _ => exact lv_tableIn (off := 382) (tgt := 414) S.1 S.2.1 dL_32 (by decide) (by decide) (by decide) (by decide) (law_plan S hX hbl hE hw hR hB0 hB hi hL hl hcs kk)
  | 13, _ => exact lv_tableIn (off := 415) (tgt := 447) S.1 S.2.1 dL_32 (by decide) (by decide) (by decide) (by decide) (law_dream S hX hbl hE hw hR hB0 hB hi hL hl hcs kk)
  | 14, _ => exact lv_tableIn (off := 428) (tgt := 460) S.1 S.2.1 dL_32 (by decide) (by decide) (by decide) (by decide) (law_order S hX hbl hE hw hR hB0 hB hi hL hl hcs kk)
  | 15, _ => exact lv_tableIn (off := 451) (tgt := 483) S.1 S.2.1 dL_32 (by decide) (by decide) (by decide) (by decide) (law_high S hX hbl hE hw hR hB0 hB hi hL hl hcs kk)
  | 16, _ => exact lv_tableIn (off := 464) (tgt := 496) S.1 S.2.1 dL_32 (by decide) (by decide) (by decide) (by decide) (law_tell S hX hbl hE hw hR hB0 hB hi hL hl hcs kk)
  | 17, _ => exact lv_tableIn (off := 497) (tgt := 529) S.1 S.2.1 dL_32 (by decide) (by decide) (by decide) (by decide) (law_forget S hX hbl hE hw hR hB0 hB hi hL hl hcs kk)
  | 18, _ => exact lv_tableIn (off := 510) (tgt := 542) S.1 S.2.1 dL_32 (by decide) (by decide) (by decide) (by decide) (law_which S hX hbl hE hw hR hB0 hB hi hL hl hcs kk)
  | 19, _ => exact lv_tableIn (off := 523) (tgt := 555) S.1 S.2.1 dL_32 (by decide) (by decide) (by decide) (by decide) (law_ask S hX hbl hE hw hR hB0 hB hi hL hl hcs kk)
  | 20, _ => exact lv_tableIn (off := 536) (tgt := 568) S.1 S.2.1 dL_32 (by decide) (by decide) (by decide) (by decide) (law_ages S hX hbl hE hw hR hB0 hB hi hL hl hcs kk)
  | 21, _ => exact lv_tableIn (off := 579) (tgt := 611) S.1 S.2.1 dL_32 (by decide) (by decide) (by decide) (by decide) (law_image S hX hbl hE hw hR hB0 hB hi hL hl hcs kk)
  | 22, _ => exact lv_tableIn (off := 592) (tgt := 624) S.1 S.2.1 dL_32 (by decide) (by decide) (by decide) (by decide) (law_restore S hX hbl hE hw hR hB0 hB hi hL hl hcs kk)
  | 23, _ => exact lv_tableIn (off := 605) (tgt := 637) S.1 S.2.1 dL_32 (by decide) (by decide) (by decide) (by decide) (law_count S hX hbl hE hw hR hB0 hB hi hL hl hcs kk)
  | 24, _ => exact lv_tableIn (off := 628) (tgt := 660) S.1 S.2.1 dL_32 (by decide) (by decide) (by decide) (by decide) (law_digest S hX hbl hE hw hR hB0 hB hi hL hl hcs kk)
  | j + 25, hj =>
    refine lv_tableOut (tgt := 674) S.1 S.2.1 dL_32 (Or.inr ?_) (by decide) ?_
    · rw [nI_toInt (by omega)]; omega
    · exact kk κ σ τ hh H locs hw (hR.mono (by omega))
theorem law_loop (S : CallFix p m c code 4 s #[Value.ref b] wsL_law RL) (hX : va_X b L xs s s.heap) (hbl : b < s.heap.size) (hE : xE z (fun q : Nat => s.heap.size ≤ q) s s.heap) (hL : L ≤ 256) (hcs : cells ≤ 600000 ∧ slots ≤ 7302250)
    (ex : ∀ (H : Heap) (locs : List Loc) (ls : Array Slot), (∀ q ∈ locs, s.heap.size ≤ q.base) → W p l e room_1 s m #[Value.ref b] below meth c H locs cells slots Q (F0 m 680 ls [])) :
    ∀ (k i : Nat) (κ : Nat → Nat) (σ τ : Nat → Nat → Int32) (hh : Int64) (H : Heap) (locs : List Loc) (ls : Array Slot), L < i + 4 * k → i ≤ 600 → gw D (tysX cI cC cI2) (fun q : Nat => s.heap.size ≤ q) s H locs (wM cI a' τ hh ++ wX cI cC cI2 a κ σ) → RelE κ σ τ (100 * i + 400) → lv_has ls 4 [(3, .int (nI i)), (2, .ref (a' 0)), (1, .ref (a 0)), (0, .ref b)] →
      W p l e room_1 s m #[Value.ref b] below meth c H locs cells slots Q (F0 m 18 ls []) := by
  intro k
  induction k with
  | zero =>
    intro i κ σ τ hh H locs ls hk hi hw hR hl
    exact law_head S hX hbl hw (by omega) hL hl (ex H locs ls hw.2.2.2.1.2.2) (fun q => absurd q (by omega))
  | succ k ih =>
    intro i κ σ τ hh H locs ls hk hi hw hR hl
    refine law_head S hX hbl hw (by omega) hL hl (ex H locs ls hw.2.2.2.1.2.2) (fun q => ?_)
    refine law_body S hX hbl hE hw hR (by omega) (by omega) (by omega) hL hl hcs (fun κ σ τ hh H locs hw hR => ?_)
    refine lv_iinc (v := nI (i + 4)) (lv' := [(3, .int (nI (i + 4))), (2, .ref (a' 0)), (1, .ref (a 0)), (0, .ref b)]) S.1 S.2.1 dL_674 hl (k := 0) rfl (nI_add i 4) (by decide) rfl (fun ls hl => ?_)
    refine lv_goto (tgt := 18) S.1 S.2.1 dL_677 (by decide) ?_
    exact ih (i + 4) κ σ τ hh H locs ls (by omega) (by omega) hw (by rw [show 100 * ((i + 4 : Nat) : Int) + 400 = 100 * (i : Int) + 400 + 400 by omega]; exact hR) hl
end LP
