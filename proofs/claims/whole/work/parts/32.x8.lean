theorem g_bret {p : Program} {l : Launch} {e : Env} {R : Room} {s : State} {m : MethodId} {args : Array Value} {below : List Frame} {meth : Method} {c : Code} {H : Heap} {locs : List Loc} {cc : ByteArray} {pc nL : Nat} {ls : Array Slot} {D : va_G} {A : Nat → Prop} {tys : List (ClassId × FieldType)} {w w1 : va_W} {Ts : List Cond} {own : String} {v r : Int32} (S : CallFix p m c cc nL s args Ts own) (hr : meth.sig.returnType = some .byte) (hlk : meth.locks = false) (hw : gw D tys A s H locs w) (hn : narrow .byte (.int v) = .int v) (er : v = r) (ew : w = w1) (hdg : decode cc pc = .ok (.ireturn, 1)) :
    W p l e R s m args below meth c H locs 0 0 (MQ below (gQi D tys r w1 A) args s 0 0 A) (F0 m pc ls [.int v]) := by
  subst er; subst ew
  obtain ⟨hK, hP, hD, hS, hA⟩ := hw
  exact W.zret (v := v) S.1 S.2.1 hr hn (fun t ht hW => ⟨⟨v, (), rfl, rfl, by rw [ht]; exact hP, va_K.moved hW.alike hK, hD⟩, hS.F ht⟩) hS.2.2 hdg hlk
def J0_coder_7d493_r  : Int32 := 0
set_option maxHeartbeats 4000000 in
set_option maxRecDepth 100000 in
theorem c_J0_coder_7d493 (l : Launch) (D : va_G) (z : Nat → Nat) (tys : List (ClassId × FieldType)) (w0 : va_W) : gIE l D z tys yJ0_coder_7d493 wsJ0_coder_7d493 1 [.ref (z 0)] w0 J0_coder_7d493_r w0 := by
  refine g_startE (cc := cJ0_coder_7d493) (maxL := 1) (ret := some .byte) (Qc := gQi D tys J0_coder_7d493_r w0) (by decide) rfl (Nat.le_of_ble_eq_true rfl) ?_
  intro p e s m below meth C A ls S hr hlk hw hE hl
  obtain ⟨hx, hb, hml, hown, hts⟩ := id S
  have lk0 : Cond.fieldLink RJ0 38 "java/lang/String" "COMPACT_STRINGS" "Z" ∈ wsJ0_coder_7d493 := by decide +kernel
  have lk1 : Cond.fieldLink RJ0 15 "java/lang/String" "coder" "B" ∈ wsJ0_coder_7d493 := by decide +kernel
  have hl : lv_has ls 1 [(0, .ref (z 0))] := hl
  refine va_gets hx hb hE.2.1 hw.2.2.2.1 hown (hts _ lk0) (fun x h => h) dJ0_coder_7d493_0 ?_
  refine lv_if_eq hx hb (tgt := 13) dJ0_coder_7d493_3 (by decide) (fun c_x => absurd c_x (by decide)) (fun c_x => ?_)
  refine lv_aload_n hx hb dJ0_coder_7d493_6 rfl (lv_at hl 0 rfl) ?_
  refine vk_getf hx hb hE.2.2.2.2.2.1 hw.2.2.2.1 hown (hts _ lk1) (fun x h => h) dJ0_coder_7d493_7 ?_
  refine lv_goto (tgt := 14) hx hb dJ0_coder_7d493_10 (by decide) ?_
  exact g_bret S hr hlk hw rfl (by simp only [J0_coder_7d493_r]) rfl dJ0_coder_7d493_14

def J0_isLatin1_aae02_r  : Int32 := 1
theorem J0_isLatin1_aae02_z  : J0_isLatin1_aae02_r = 0 ∨ J0_isLatin1_aae02_r = 1 := by
  unfold J0_isLatin1_aae02_r
  exact Or.inr rfl
set_option maxHeartbeats 4000000 in
set_option maxRecDepth 100000 in
theorem c_J0_isLatin1_aae02 (l : Launch) (D : va_G) (z : Nat → Nat) (tys : List (ClassId × FieldType)) (w0 : va_W) : gIE l D z tys yJ0_isLatin1_aae02 wsJ0_isLatin1_aae02 1 [.ref (z 0)] w0 J0_isLatin1_aae02_r w0 := by
  refine g_startE (cc := cJ0_isLatin1_aae02) (maxL := 1) (ret := some .boolean) (Qc := gQi D tys J0_isLatin1_aae02_r w0) (by decide) rfl (Nat.le_of_ble_eq_true rfl) ?_
  intro p e s m below meth C A ls S hr hlk hw hE hl
  obtain ⟨hx, hb, hml, hown, hts⟩ := id S
  have lk0 : Cond.fieldLink RJ0 38 "java/lang/String" "COMPACT_STRINGS" "Z" ∈ wsJ0_isLatin1_aae02 := by decide +kernel
  have lk1 : Cond.fieldLink RJ0 15 "java/lang/String" "coder" "B" ∈ wsJ0_isLatin1_aae02 := by decide +kernel
  have hl : lv_has ls 1 [(0, .ref (z 0))] := hl
  refine va_gets hx hb hE.2.1 hw.2.2.2.1 hown (hts _ lk0) (fun x h => h) dJ0_isLatin1_aae02_0 ?_
  refine lv_if_eq hx hb (tgt := 17) dJ0_isLatin1_aae02_3 (by decide) (fun c_x => absurd c_x (by decide)) (fun c_x => ?_)
  refine lv_aload_n hx hb dJ0_isLatin1_aae02_6 rfl (lv_at hl 0 rfl) ?_
  refine vk_getf hx hb hE.2.2.2.2.2.1 hw.2.2.2.1 hown (hts _ lk1) (fun x h => h) dJ0_isLatin1_aae02_7 ?_
  refine lv_if_ne hx hb (tgt := 17) dJ0_isLatin1_aae02_10 (by decide) (fun c_x => absurd (by decide) c_x) (fun c_x => ?_)
  refine lv_iconst (v := 1) hx hb dJ0_isLatin1_aae02_13 (by decide) ?_
  refine lv_goto (tgt := 18) hx hb dJ0_isLatin1_aae02_14 (by decide) ?_
  exact g_zret S hr hlk hw (by decide) (by simp only [J0_isLatin1_aae02_r]) rfl dJ0_isLatin1_aae02_18

def J0_length_8abf5_r  : Int32 := 5 >>> (J0_coder_7d493_r &&& 31)
set_option maxHeartbeats 4000000 in
set_option maxRecDepth 100000 in
theorem c_J0_length_8abf5 (l : Launch) (D : va_G) (z : Nat → Nat) (tys : List (ClassId × FieldType)) (w0 : va_W) : gIE l D z tys yJ0_length_8abf5 wsJ0_length_8abf5 2 [.ref (z 0)] w0 J0_length_8abf5_r w0 := by
  refine g_startE (cc := cJ0_length_8abf5) (maxL := 1) (ret := some .int) (Qc := gQi D tys J0_length_8abf5_r w0) (by decide) rfl (Nat.le_of_ble_eq_true rfl) ?_
  intro p e s m below meth C A ls S hr hlk hw hE hl
  obtain ⟨hx, hb, hml, hown, hts⟩ := id S
  have lk0 : Cond.fieldLink RJ0 9 "java/lang/String" "value" "[B" ∈ wsJ0_length_8abf5 := by decide +kernel
  have hl : lv_has ls 1 [(0, .ref (z 0))] := hl
  refine lv_aload_n hx hb dJ0_length_8abf5_0 rfl (lv_at hl 0 rfl) ?_
  refine vk_getf hx hb hE.2.2.2.2.2.2.1 hw.2.2.2.1 hown (hts _ lk0) (fun x h => h) dJ0_length_8abf5_1 ?_
  refine va_tlen hx hb hE.2.2.2.2.2.2.2 hw.2.2.2.1 (v := 5) rfl dJ0_length_8abf5_4 ?_
  refine lv_aload_n hx hb dJ0_length_8abf5_5 rfl (lv_at hl 0 rfl) ?_
  refine g_callViE S hw hE (c_J0_coder_7d493 l D z tys w0) gJ0_length_8abf5_J0_coder_7d493 rfl (hE.recv hw) 0 rfl (by decide +kernel) (by decide) (by decide) hl.1 rfl (Nat.le_of_ble_eq_true rfl) dJ0_length_8abf5_6 (fun H locs hw => ?_)
  refine lv_ishr hx hb dJ0_length_8abf5_9 ?_
  exact g_iret S hr hlk hw (by simp only [J0_length_8abf5_r]) rfl dJ0_length_8abf5_10

def J1_canEncode_9a6ad_r (x : Int32) : Int32 := if x < 0 then 0 else (if 255 < x then 0 else 1)
theorem J1_canEncode_9a6ad_z (x : Int32) : J1_canEncode_9a6ad_r x = 0 ∨ J1_canEncode_9a6ad_r x = 1 := by
  unfold J1_canEncode_9a6ad_r
  by_cases z1 : x < 0
  · rw [if_pos z1]
    exact Or.inl rfl
  · rw [if_neg z1]
    by_cases z2 : 255 < x
    · rw [if_pos z2]
      exact Or.inl rfl
    · rw [if_neg z2]
      exact Or.inr rfl
set_option maxHeartbeats 4000000 in
set_option maxRecDepth 100000 in
theorem c_J1_canEncode_9a6ad (l : Launch) (D : va_G) (tys : List (ClassId × FieldType)) (w0 : va_W) (x : Int32) : gI l D tys yJ1_canEncode_9a6ad wsJ1_canEncode_9a6ad 1 [.int x] w0 (J1_canEncode_9a6ad_r x) w0 := by
  refine g_start (cc := cJ1_canEncode_9a6ad) (maxL := 1) (ret := some .boolean) (Qc := gQi D tys (J1_canEncode_9a6ad_r x) w0) (by decide) rfl (Nat.le_of_ble_eq_true rfl) ?_
  intro p e s m below meth C A ls S hr hlk hw hl
  obtain ⟨hx, hb, hml, hown, hts⟩ := id S
  have hl : lv_has ls 1 [(0, .int x)] := hl
  refine lv_iload_n hx hb dJ1_canEncode_9a6ad_0 rfl (lv_at hl 0 rfl) ?_
  refine lv_if_lt hx hb (tgt := 15) dJ1_canEncode_9a6ad_1 (by decide) (fun c_1 => ?_) (fun c_1 => ?_)
  · refine lv_iconst (v := 0) hx hb dJ1_canEncode_9a6ad_15 (by decide) ?_
    exact g_zret S hr hlk hw (by decide) (by simp only [J1_canEncode_9a6ad_r, if_pos c_1]) rfl dJ1_canEncode_9a6ad_16
  · refine lv_iload_n hx hb dJ1_canEncode_9a6ad_4 rfl (lv_at hl 0 rfl) ?_
    refine lv_sipush (v := 255) hx hb dJ1_canEncode_9a6ad_5 (by decide) ?_
    refine lv_icmp_gt hx hb (tgt := 15) dJ1_canEncode_9a6ad_8 (by decide) (fun c_2 => ?_) (fun c_2 => ?_)
    · refine lv_iconst (v := 0) hx hb dJ1_canEncode_9a6ad_15 (by decide) ?_
      exact g_zret S hr hlk hw (by decide) (by simp only [J1_canEncode_9a6ad_r, if_neg c_1, if_pos c_2]) rfl dJ1_canEncode_9a6ad_16
    · refine lv_iconst (v := 1) hx hb dJ1_canEncode_9a6ad_11 (by decide) ?_
      refine lv_goto (tgt := 16) hx hb dJ1_canEncode_9a6ad_12 (by decide) ?_
      exact g_zret S hr hlk hw (by decide) (by simp only [J1_canEncode_9a6ad_r, if_neg c_1, if_neg c_2]) rfl dJ1_canEncode_9a6ad_16

def J1_indexOfChar_4cfef_r (x : Int32) : Int32 := if 99 = x.toInt8.toInt32 then 0 else (if 112 = x.toInt8.toInt32 then 1 else (if 111 = x.toInt8.toInt32 then 2 else (if 119 = x.toInt8.toInt32 then 3 else (if 107 = x.toInt8.toInt32 then 4 else (-1)))))
set_option maxHeartbeats 4000000 in
set_option maxRecDepth 100000 in
theorem c_J1_indexOfChar_4cfef (l : Launch) (D : va_G) (z : Nat → Nat) (tys : List (ClassId × FieldType)) (w0 : va_W) (x : Int32) : gIE l D z tys yJ1_indexOfChar_4cfef wsJ1_indexOfChar_4cfef 1 [.ref (z 1), .int x, .int 0, .int 5] w0 (J1_indexOfChar_4cfef_r x) w0 := by
  refine g_startE (cc := cJ1_indexOfChar_4cfef) (maxL := 6) (ret := some .int) (Qc := gQi D tys (J1_indexOfChar_4cfef_r x) w0) (by decide) rfl (Nat.le_of_ble_eq_true rfl) ?_
  intro p e s m below meth C A ls S hr hlk hw hE hl
  obtain ⟨hx, hb, hml, hown, hts⟩ := id S
  have hl : lv_has ls 6 [(0, .ref (z 1)), (1, .int x), (2, .int 0), (3, .int 5)] := hl
  refine lv_iload_n hx hb dJ1_indexOfChar_4cfef_0 rfl (lv_at hl 1 rfl) ?_
  refine lv_i2b hx hb dJ1_indexOfChar_4cfef_1 rfl ?_
  refine lv_istore (lv' := [(4, .int x.toInt8.toInt32), (0, .ref (z 1)), (1, .int x), (2, .int 0), (3, .int 5)]) hx hb dJ1_indexOfChar_4cfef_2 hl (by decide) rfl (fun ls hl => ?_)
  refine lv_iload_n hx hb dJ1_indexOfChar_4cfef_4 rfl (lv_at hl 3 rfl) ?_
  refine lv_istore (lv' := [(5, .int 0), (4, .int x.toInt8.toInt32), (0, .ref (z 1)), (1, .int x), (2, .int 0), (3, .int 5)]) hx hb dJ1_indexOfChar_4cfef_5 hl (by decide) rfl (fun ls hl => ?_)
  refine lv_iload hx hb dJ1_indexOfChar_4cfef_7 (lv_at hl 0 rfl) ?_
  refine lv_iload_n hx hb dJ1_indexOfChar_4cfef_9 rfl (lv_at hl 5 rfl) ?_
  refine lv_icmp_ge hx hb (tgt := 31) dJ1_indexOfChar_4cfef_10 (by decide) (fun c_x => absurd c_x (by decide)) (fun c_x => ?_)
  refine lv_aload_n hx hb dJ1_indexOfChar_4cfef_13 rfl (lv_at hl 2 rfl) ?_
  refine lv_iload hx hb dJ1_indexOfChar_4cfef_14 (lv_at hl 0 rfl) ?_
  refine va_tb hx hb hE.2.2.2.2.2.2.2 hw.2.2.2.1 (i := 0) (show vp_in (nI 0) 5 from vp_in_nI (by decide) (by decide)) (v := .int 99) rfl dJ1_indexOfChar_4cfef_16 ?_
  refine lv_iload hx hb dJ1_indexOfChar_4cfef_17 (lv_at hl 1 rfl) ?_
  refine lv_icmp_ne hx hb (tgt := 25) dJ1_indexOfChar_4cfef_19 (by decide) (fun c_2 => ?_) (fun c_2 => ?_)
  · refine lv_iinc (v := 1) (lv' := [(5, .int 1), (4, .int x.toInt8.toInt32), (0, .ref (z 1)), (1, .int x), (2, .int 0), (3, .int 5)]) hx hb dJ1_indexOfChar_4cfef_25 hl (k := 0) rfl (by decide) (by decide) rfl (fun ls hl => ?_)
    refine lv_goto (tgt := 7) hx hb dJ1_indexOfChar_4cfef_28 (by decide) ?_
    refine lv_iload hx hb dJ1_indexOfChar_4cfef_7 (lv_at hl 0 rfl) ?_
    refine lv_iload_n hx hb dJ1_indexOfChar_4cfef_9 rfl (lv_at hl 5 rfl) ?_
    refine lv_icmp_ge hx hb (tgt := 31) dJ1_indexOfChar_4cfef_10 (by decide) (fun c_x => absurd c_x (by decide)) (fun c_x => ?_)
    refine lv_aload_n hx hb dJ1_indexOfChar_4cfef_13 rfl (lv_at hl 2 rfl) ?_
    refine lv_iload hx hb dJ1_indexOfChar_4cfef_14 (lv_at hl 0 rfl) ?_
    refine va_tb hx hb hE.2.2.2.2.2.2.2 hw.2.2.2.1 (i := 1) (show vp_in (nI 1) 5 from vp_in_nI (by decide) (by decide)) (v := .int 112) rfl dJ1_indexOfChar_4cfef_16 ?_
    refine lv_iload hx hb dJ1_indexOfChar_4cfef_17 (lv_at hl 1 rfl) ?_
    refine lv_icmp_ne hx hb (tgt := 25) dJ1_indexOfChar_4cfef_19 (by decide) (fun c_4 => ?_) (fun c_4 => ?_)
    · refine lv_iinc (v := 2) (lv' := [(5, .int 2), (4, .int x.toInt8.toInt32), (0, .ref (z 1)), (1, .int x), (2, .int 0), (3, .int 5)]) hx hb dJ1_indexOfChar_4cfef_25 hl (k := 0) rfl (by decide) (by decide) rfl (fun ls hl => ?_)
      refine lv_goto (tgt := 7) hx hb dJ1_indexOfChar_4cfef_28 (by decide) ?_
      refine lv_iload hx hb dJ1_indexOfChar_4cfef_7 (lv_at hl 0 rfl) ?_
      refine lv_iload_n hx hb dJ1_indexOfChar_4cfef_9 rfl (lv_at hl 5 rfl) ?_
      refine lv_icmp_ge hx hb (tgt := 31) dJ1_indexOfChar_4cfef_10 (by decide) (fun c_x => absurd c_x (by decide)) (fun c_x => ?_)
      refine lv_aload_n hx hb dJ1_indexOfChar_4cfef_13 rfl (lv_at hl 2 rfl) ?_
      refine lv_iload hx hb dJ1_indexOfChar_4cfef_14 (lv_at hl 0 rfl) ?_
      refine va_tb hx hb hE.2.2.2.2.2.2.2 hw.2.2.2.1 (i := 2) (show vp_in (nI 2) 5 from vp_in_nI (by decide) (by decide)) (v := .int 111) rfl dJ1_indexOfChar_4cfef_16 ?_
      refine lv_iload hx hb dJ1_indexOfChar_4cfef_17 (lv_at hl 1 rfl) ?_
      refine lv_icmp_ne hx hb (tgt := 25) dJ1_indexOfChar_4cfef_19 (by decide) (fun c_6 => ?_) (fun c_6 => ?_)
      · refine lv_iinc (v := 3) (lv' := [(5, .int 3), (4, .int x.toInt8.toInt32), (0, .ref (z 1)), (1, .int x), (2, .int 0), (3, .int 5)]) hx hb dJ1_indexOfChar_4cfef_25 hl (k := 0) rfl (by decide) (by decide) rfl (fun ls hl => ?_)
        refine lv_goto (tgt := 7) hx hb dJ1_indexOfChar_4cfef_28 (by decide) ?_
        refine lv_iload hx hb dJ1_indexOfChar_4cfef_7 (lv_at hl 0 rfl) ?_
        refine lv_iload_n hx hb dJ1_indexOfChar_4cfef_9 rfl (lv_at hl 5 rfl) ?_
        refine lv_icmp_ge hx hb (tgt := 31) dJ1_indexOfChar_4cfef_10 (by decide) (fun c_x => absurd c_x (by decide)) (fun c_x => ?_)
        refine lv_aload_n hx hb dJ1_indexOfChar_4cfef_13 rfl (lv_at hl 2 rfl) ?_
        refine lv_iload hx hb dJ1_indexOfChar_4cfef_14 (lv_at hl 0 rfl) ?_
        refine va_tb hx hb hE.2.2.2.2.2.2.2 hw.2.2.2.1 (i := 3) (show vp_in (nI 3) 5 from vp_in_nI (by decide) (by decide)) (v := .int 119) rfl dJ1_indexOfChar_4cfef_16 ?_
        refine lv_iload hx hb dJ1_indexOfChar_4cfef_17 (lv_at hl 1 rfl) ?_
        refine lv_icmp_ne hx hb (tgt := 25) dJ1_indexOfChar_4cfef_19 (by decide) (fun c_8 => ?_) (fun c_8 => ?_)
        · refine lv_iinc (v := 4) (lv' := [(5, .int 4), (4, .int x.toInt8.toInt32), (0, .ref (z 1)), (1, .int x), (2, .int 0), (3, .int 5)]) hx hb dJ1_indexOfChar_4cfef_25 hl (k := 0) rfl (by decide) (by decide) rfl (fun ls hl => ?_)
          refine lv_goto (tgt := 7) hx hb dJ1_indexOfChar_4cfef_28 (by decide) ?_
          refine lv_iload hx hb dJ1_indexOfChar_4cfef_7 (lv_at hl 0 rfl) ?_
          refine lv_iload_n hx hb dJ1_indexOfChar_4cfef_9 rfl (lv_at hl 5 rfl) ?_
          refine lv_icmp_ge hx hb (tgt := 31) dJ1_indexOfChar_4cfef_10 (by decide) (fun c_x => absurd c_x (by decide)) (fun c_x => ?_)
          refine lv_aload_n hx hb dJ1_indexOfChar_4cfef_13 rfl (lv_at hl 2 rfl) ?_
          refine lv_iload hx hb dJ1_indexOfChar_4cfef_14 (lv_at hl 0 rfl) ?_
          refine va_tb hx hb hE.2.2.2.2.2.2.2 hw.2.2.2.1 (i := 4) (show vp_in (nI 4) 5 from vp_in_nI (by decide) (by decide)) (v := .int 107) rfl dJ1_indexOfChar_4cfef_16 ?_
          refine lv_iload hx hb dJ1_indexOfChar_4cfef_17 (lv_at hl 1 rfl) ?_
          refine lv_icmp_ne hx hb (tgt := 25) dJ1_indexOfChar_4cfef_19 (by decide) (fun c_10 => ?_) (fun c_10 => ?_)
          · refine lv_iinc (v := 5) (lv' := [(5, .int 5), (4, .int x.toInt8.toInt32), (0, .ref (z 1)), (1, .int x), (2, .int 0), (3, .int 5)]) hx hb dJ1_indexOfChar_4cfef_25 hl (k := 0) rfl (by decide) (by decide) rfl (fun ls hl => ?_)
            refine lv_goto (tgt := 7) hx hb dJ1_indexOfChar_4cfef_28 (by decide) ?_
            refine lv_iload hx hb dJ1_indexOfChar_4cfef_7 (lv_at hl 0 rfl) ?_
            refine lv_iload_n hx hb dJ1_indexOfChar_4cfef_9 rfl (lv_at hl 5 rfl) ?_
            refine lv_icmp_ge hx hb (tgt := 31) dJ1_indexOfChar_4cfef_10 (by decide) (fun c_x => ?_) (fun c_x => absurd (by decide) c_x)
            refine lv_iconst (v := (-1)) hx hb dJ1_indexOfChar_4cfef_31 (by decide) ?_
            exact g_iret S hr hlk hw (by simp only [J1_indexOfChar_4cfef_r, if_neg c_2, if_neg c_4, if_neg c_6, if_neg c_8, if_neg c_10]) rfl dJ1_indexOfChar_4cfef_32
          · refine lv_iload hx hb dJ1_indexOfChar_4cfef_22 (lv_at hl 0 rfl) ?_
            exact g_iret S hr hlk hw (by simp only [J1_indexOfChar_4cfef_r, if_neg c_2, if_neg c_4, if_neg c_6, if_neg c_8, if_pos c_10]) rfl dJ1_indexOfChar_4cfef_24
        · refine lv_iload hx hb dJ1_indexOfChar_4cfef_22 (lv_at hl 0 rfl) ?_
          exact g_iret S hr hlk hw (by simp only [J1_indexOfChar_4cfef_r, if_neg c_2, if_neg c_4, if_neg c_6, if_pos c_8]) rfl dJ1_indexOfChar_4cfef_24
      · refine lv_iload hx hb dJ1_indexOfChar_4cfef_22 (lv_at hl 0 rfl) ?_
        exact g_iret S hr hlk hw (by simp only [J1_indexOfChar_4cfef_r, if_neg c_2, if_neg c_4, if_pos c_6]) rfl dJ1_indexOfChar_4cfef_24
    · refine lv_iload hx hb dJ1_indexOfChar_4cfef_22 (lv_at hl 0 rfl) ?_
      exact g_iret S hr hlk hw (by simp only [J1_indexOfChar_4cfef_r, if_neg c_2, if_pos c_4]) rfl dJ1_indexOfChar_4cfef_24
  · refine lv_iload hx hb dJ1_indexOfChar_4cfef_22 (lv_at hl 0 rfl) ?_
    exact g_iret S hr hlk hw (by simp only [J1_indexOfChar_4cfef_r, if_pos c_2]) rfl dJ1_indexOfChar_4cfef_24

def J1_indexOf_4cfef_r (x : Int32) : Int32 := if (J1_canEncode_9a6ad_r x) = 0 then (-1) else (J1_indexOfChar_4cfef_r x)
set_option maxHeartbeats 4000000 in
set_option maxRecDepth 100000 in
theorem c_J1_indexOf_4cfef (l : Launch) (D : va_G) (z : Nat → Nat) (tys : List (ClassId × FieldType)) (w0 : va_W) (x : Int32) : gIE l D z tys yJ1_indexOf_4cfef wsJ1_indexOf_4cfef 3 [.ref (z 1), .int x, .int 0, .int 5] w0 (J1_indexOf_4cfef_r x) w0 := by
  refine g_startE (cc := cJ1_indexOf_4cfef) (maxL := 4) (ret := some .int) (Qc := gQi D tys (J1_indexOf_4cfef_r x) w0) (by decide) rfl (Nat.le_of_ble_eq_true rfl) ?_
  intro p e s m below meth C A ls S hr hlk hw hE hl
  obtain ⟨hx, hb, hml, hown, hts⟩ := id S
  have lk0 : Cond.methodLink RJ1 92 Lib.Math.max.name ∈ wsJ1_indexOf_4cfef := by decide +kernel
  have lk1 : Cond.static Lib.Math.max.name ∈ wsJ1_indexOf_4cfef := by decide +kernel
  have lk2 : Cond.initialized "java/lang/Math" ∈ wsJ1_indexOf_4cfef := by decide +kernel
  have lk3 : Cond.code Lib.Math.max.name Lib.Math.max.code 2 (some .int) ∈ wsJ1_indexOf_4cfef := by decide +kernel
  have lk4 : Cond.methodLink RJ1 38 Lib.Math.min.name ∈ wsJ1_indexOf_4cfef := by decide +kernel
  have lk5 : Cond.static Lib.Math.min.name ∈ wsJ1_indexOf_4cfef := by decide +kernel
  have lk6 : Cond.code Lib.Math.min.name Lib.Math.min.code 2 (some .int) ∈ wsJ1_indexOf_4cfef := by decide +kernel
  have hl : lv_has ls 4 [(0, .ref (z 1)), (1, .int x), (2, .int 0), (3, .int 5)] := hl
  refine lv_iload_n hx hb dJ1_indexOf_4cfef_0 rfl (lv_at hl 1 rfl) ?_
  refine g_callSi S hw (c_J1_canEncode_9a6ad l D tys w0 x) gJ1_indexOf_4cfef_J1_canEncode_9a6ad rfl 1 rfl (by decide +kernel) (by decide) (by decide) hl.1 rfl (Nat.le_of_ble_eq_true rfl) dJ1_indexOf_4cfef_1 (fun H locs hw => ?_)
  refine lv_if_ne hx hb (tgt := 9) dJ1_indexOf_4cfef_4 (by decide) (fun c_1 => ?_) (fun c_1 => ?_)
  · refine lv_iload_n hx hb dJ1_indexOf_4cfef_9 rfl (lv_at hl 2 rfl) ?_
    refine lv_iconst (v := 0) hx hb dJ1_indexOf_4cfef_10 (by decide) ?_
    refine va_mmax hx hb (hml.trans hl.1.symm) hown (hts _ lk0) (hts _ lk1) (hts _ lk2) (hts _ lk3) (by decide) (Nat.le_of_ble_eq_true rfl) (Nat.zero_le _) (Nat.zero_le _) dJ1_indexOf_4cfef_11 ?_
    refine lv_topi (fun zz ez => ?_)
    have ez : zz = 0 := ez.trans (by decide)
    subst ez
    refine lv_istore_n (lv' := [(2, .int 0), (0, .ref (z 1)), (1, .int x), (3, .int 5)]) hx hb dJ1_indexOf_4cfef_14 rfl hl (by decide) rfl (fun ls hl => ?_)
    refine lv_iload_n hx hb dJ1_indexOf_4cfef_15 rfl (lv_at hl 3 rfl) ?_
    refine lv_aload_n hx hb dJ1_indexOf_4cfef_16 rfl (lv_at hl 1 rfl) ?_
    refine va_tlen hx hb hE.2.2.2.2.2.2.2 hw.2.2.2.1 (v := 5) rfl dJ1_indexOf_4cfef_17 ?_
    refine va_mmin hx hb (hml.trans hl.1.symm) hown (hts _ lk4) (hts _ lk5) (hts _ lk2) (hts _ lk6) (by decide) (Nat.le_of_ble_eq_true rfl) (Nat.zero_le _) (Nat.zero_le _) dJ1_indexOf_4cfef_18 ?_
    refine lv_topi (fun zz ez => ?_)
    have ez : zz = 5 := ez.trans (by decide)
    subst ez
    refine lv_istore_n (lv' := [(3, .int 5), (2, .int 0), (0, .ref (z 1)), (1, .int x)]) hx hb dJ1_indexOf_4cfef_21 rfl hl (by decide) rfl (fun ls hl => ?_)
    refine lv_iload_n hx hb dJ1_indexOf_4cfef_22 rfl (lv_at hl 1 rfl) ?_
    refine lv_iload_n hx hb dJ1_indexOf_4cfef_23 rfl (lv_at hl 0 rfl) ?_
    refine lv_icmp_lt hx hb (tgt := 29) dJ1_indexOf_4cfef_24 (by decide) (fun c_x => ?_) (fun c_x => absurd (by decide) c_x)
    refine lv_aload_n hx hb dJ1_indexOf_4cfef_29 rfl (lv_at hl 2 rfl) ?_
    refine lv_iload_n hx hb dJ1_indexOf_4cfef_30 rfl (lv_at hl 3 rfl) ?_
    refine lv_iload_n hx hb dJ1_indexOf_4cfef_31 rfl (lv_at hl 1 rfl) ?_
    refine lv_iload_n hx hb dJ1_indexOf_4cfef_32 rfl (lv_at hl 0 rfl) ?_
    refine g_callSiE S hw hE (c_J1_indexOfChar_4cfef l D z tys w0 x) gJ1_indexOf_4cfef_J1_indexOfChar_4cfef rfl 4 rfl (by decide +kernel) (by decide) (by decide) hl.1 rfl (Nat.le_of_ble_eq_true rfl) dJ1_indexOf_4cfef_33 (fun H locs hw => ?_)
    exact g_iret S hr hlk hw (by simp only [J1_indexOf_4cfef_r, if_neg c_1]) rfl dJ1_indexOf_4cfef_36
  · refine lv_iconst (v := (-1)) hx hb dJ1_indexOf_4cfef_7 (by decide) ?_
    exact g_iret S hr hlk hw (by simp only [J1_indexOf_4cfef_r, if_pos c_1]) rfl dJ1_indexOf_4cfef_8

def J0_indexOf_7cf53_r (x : Int32) : Int32 := J1_indexOf_4cfef_r x
set_option maxHeartbeats 4000000 in
set_option maxRecDepth 100000 in
theorem c_J0_indexOf_7cf53 (l : Launch) (D : va_G) (z : Nat → Nat) (tys : List (ClassId × FieldType)) (w0 : va_W) (x : Int32) : gIE l D z tys yJ0_indexOf_7cf53 wsJ0_indexOf_7cf53 4 [.ref (z 0), .int x, .int 0] w0 (J0_indexOf_7cf53_r x) w0 := by
  refine g_startE (cc := cJ0_indexOf_7cf53) (maxL := 3) (ret := some .int) (Qc := gQi D tys (J0_indexOf_7cf53_r x) w0) (by decide) rfl (Nat.le_of_ble_eq_true rfl) ?_
  intro p e s m below meth C A ls S hr hlk hw hE hl
  obtain ⟨hx, hb, hml, hown, hts⟩ := id S
  have lk0 : Cond.fieldLink RJ0 9 "java/lang/String" "value" "[B" ∈ wsJ0_indexOf_7cf53 := by decide +kernel
  have hl : lv_has ls 3 [(0, .ref (z 0)), (1, .int x), (2, .int 0)] := hl
  refine lv_aload_n hx hb dJ0_indexOf_7cf53_0 rfl (lv_at hl 0 rfl) ?_
  refine g_callViE S hw hE (c_J0_isLatin1_aae02 l D z tys w0) gJ0_indexOf_7cf53_J0_isLatin1_aae02 rfl (hE.recv hw) 0 rfl (by decide +kernel) (by decide) (by decide) hl.1 rfl (Nat.le_of_ble_eq_true rfl) dJ0_indexOf_7cf53_1 (fun H locs hw => ?_)
  refine lv_if_eq hx hb (tgt := 23) dJ0_indexOf_7cf53_4 (by decide) (fun c_x => absurd c_x (by decide)) (fun c_x => ?_)
  refine lv_aload_n hx hb dJ0_indexOf_7cf53_7 rfl (lv_at hl 0 rfl) ?_
  refine vk_getf hx hb hE.2.2.2.2.2.2.1 hw.2.2.2.1 hown (hts _ lk0) (fun x h => h) dJ0_indexOf_7cf53_8 ?_
  refine lv_iload_n hx hb dJ0_indexOf_7cf53_11 rfl (lv_at hl 1 rfl) ?_
  refine lv_iload_n hx hb dJ0_indexOf_7cf53_12 rfl (lv_at hl 2 rfl) ?_
  refine lv_aload_n hx hb dJ0_indexOf_7cf53_13 rfl (lv_at hl 0 rfl) ?_
  refine g_callViE S hw hE (c_J0_length_8abf5 l D z tys w0) gJ0_indexOf_7cf53_J0_length_8abf5 rfl (hE.recv hw) 0 rfl (by decide +kernel) (by decide) (by decide) hl.1 rfl (Nat.le_of_ble_eq_true rfl) dJ0_indexOf_7cf53_14 (fun H locs hw => ?_)
  refine lv_topi (fun zz ez => ?_)
  have ez : zz = 5 := ez.trans (by decide)
  subst ez
  refine g_callSiE S hw hE (c_J1_indexOf_4cfef l D z tys w0 x) gJ0_indexOf_7cf53_J1_indexOf_4cfef rfl 4 rfl (by decide +kernel) (by decide) (by decide) hl.1 rfl (Nat.le_of_ble_eq_true rfl) dJ0_indexOf_7cf53_17 (fun H locs hw => ?_)
  refine lv_goto (tgt := 36) hx hb dJ0_indexOf_7cf53_20 (by decide) ?_
  exact g_iret S hr hlk hw (by simp only [J0_indexOf_7cf53_r]) rfl dJ0_indexOf_7cf53_36

def J0_indexOf_0f7a4_r (x : Int32) : Int32 := J0_indexOf_7cf53_r x
set_option maxHeartbeats 4000000 in
set_option maxRecDepth 100000 in
theorem c_J0_indexOf_0f7a4 (l : Launch) (D : va_G) (z : Nat → Nat) (tys : List (ClassId × FieldType)) (w0 : va_W) (x : Int32) : gIE l D z tys yJ0_indexOf_0f7a4 wsJ0_indexOf_0f7a4 5 [.ref (z 0), .int x] w0 (J0_indexOf_0f7a4_r x) w0 := by
  refine g_startE (cc := cJ0_indexOf_0f7a4) (maxL := 2) (ret := some .int) (Qc := gQi D tys (J0_indexOf_0f7a4_r x) w0) (by decide) rfl (Nat.le_of_ble_eq_true rfl) ?_
  intro p e s m below meth C A ls S hr hlk hw hE hl
  obtain ⟨hx, hb, hml, hown, hts⟩ := id S
  have hl : lv_has ls 2 [(0, .ref (z 0)), (1, .int x)] := hl
  refine lv_aload_n hx hb dJ0_indexOf_0f7a4_0 rfl (lv_at hl 0 rfl) ?_
  refine lv_iload_n hx hb dJ0_indexOf_0f7a4_1 rfl (lv_at hl 1 rfl) ?_
  refine lv_iconst (v := 0) hx hb dJ0_indexOf_0f7a4_2 (by decide) ?_
  refine g_callViE S hw hE (c_J0_indexOf_7cf53 l D z tys w0 x) gJ0_indexOf_0f7a4_J0_indexOf_7cf53 rfl (hE.recv hw) 2 rfl (by decide +kernel) (by decide) (by decide) hl.1 rfl (Nat.le_of_ble_eq_true rfl) dJ0_indexOf_0f7a4_3 (fun H locs hw => ?_)
  exact g_iret S hr hlk hw (by simp only [J0_indexOf_0f7a4_r]) rfl dJ0_indexOf_0f7a4_6

def XG_kindOfLetter_r (x : Int32) : Int32 := J0_indexOf_0f7a4_r ((x.toUInt32 % 65536).toInt32)
set_option maxHeartbeats 4000000 in
set_option maxRecDepth 100000 in
theorem c_XG_kindOfLetter (l : Launch) (D : va_G) (z : Nat → Nat) (tys : List (ClassId × FieldType)) (w0 : va_W) (x : Int32) : gIE l D z tys yX4_kindOfLetter wsX4_kindOfLetter 6 [.int x] w0 (XG_kindOfLetter_r x) w0 := by
  refine g_startE (cc := cX4_kindOfLetter) (maxL := 1) (ret := some .int) (Qc := gQi D tys (XG_kindOfLetter_r x) w0) (by decide) rfl (Nat.le_of_ble_eq_true rfl) ?_
  intro p e s m below meth C A ls S hr hlk hw hE hl
  obtain ⟨hx, hb, hml, hown, hts⟩ := id S
  have hl : lv_has ls 1 [(0, .int x)] := hl
  refine va_ldcS hx hb hown hE.2.2.2.1 dX4_kindOfLetter_0 ?_
  refine lv_iload_n hx hb dX4_kindOfLetter_2 rfl (lv_at hl 0 rfl) ?_
  refine lv_i2c hx hb dX4_kindOfLetter_3 rfl ?_
  refine g_callViE S hw hE (c_J0_indexOf_0f7a4 l D z tys w0 ((x.toUInt32 % 65536).toInt32)) gX4_kindOfLetter_J0_indexOf_0f7a4 rfl (hE.recv hw) 1 rfl (by decide +kernel) (by decide) (by decide) hl.1 rfl (Nat.le_of_ble_eq_true rfl) dX4_kindOfLetter_4 (fun H locs hw => ?_)
  exact g_iret S hr hlk hw (by simp only [XG_kindOfLetter_r]) rfl dX4_kindOfLetter_7

def XG_behind_r (x : Int32) (y : Int32) (w : Int32) : Int32 := if x = 0 then (if (XG_kindOfLetter_r y) = (-1) then 5 else 1) else (if x = 1 then (if y < 48 then 5 else (if 57 < y then 5 else 2)) else (if x = 2 then (XG_behindMark_r y w) else (if x = 3 then (if y < 49 then 5 else (if 53 < y then 5 else 4)) else 5)))
set_option maxHeartbeats 4000000 in
set_option maxRecDepth 100000 in
theorem c_XG_behind (l : Launch) (D : va_G) (z : Nat → Nat) (tys : List (ClassId × FieldType)) (w0 : va_W) (x : Int32) (y : Int32) (w : Int32) : gIE l D z tys yX4_behind wsX4_behind 7 [.int x, .int y, .int w] w0 (XG_behind_r x y w) w0 := by
  refine g_startE (cc := cX4_behind) (maxL := 3) (ret := some .int) (Qc := gQi D tys (XG_behind_r x y w) w0) (by decide) rfl (Nat.le_of_ble_eq_true rfl) ?_
  intro p e s m below meth C A ls S hr hlk hw hE hl
  obtain ⟨hx, hb, hml, hown, hts⟩ := id S
  have hl : lv_has ls 3 [(0, .int x), (1, .int y), (2, .int w)] := hl
  refine lv_iload_n hx hb dX4_behind_0 rfl (lv_at hl 0 rfl) ?_
  by_cases s_1 : x = 0
  · refine lv_tableIn (off := 31) (tgt := 32) hx hb dX4_behind_1 (by rw [s_1]; decide) (by rw [s_1]; decide) (by rw [s_1]; rfl) (by decide) ?_
    refine lv_iload_n hx hb dX4_behind_32 rfl (lv_at hl 1 rfl) ?_
    refine g_callSiE S hw hE (c_XG_kindOfLetter l D z tys w0 y) gX4_behind_X4_kindOfLetter rfl 1 rfl (by decide +kernel) (by decide) (by decide) hl.1 rfl (Nat.le_of_ble_eq_true rfl) dX4_behind_33 (fun H locs hw => ?_)
    refine lv_iconst (v := (-1)) hx hb dX4_behind_36 (by decide) ?_
    refine lv_icmp_ne hx hb (tgt := 44) dX4_behind_37 (by decide) (fun c_2 => ?_) (fun c_2 => ?_)
    · refine lv_iconst (v := 1) hx hb dX4_behind_44 (by decide) ?_
      exact g_iret S hr hlk hw (by simp only [XG_behind_r, if_pos s_1, if_neg c_2]) rfl dX4_behind_45
    · refine lv_iconst (v := 5) hx hb dX4_behind_40 (by decide) ?_
      refine lv_goto (tgt := 45) hx hb dX4_behind_41 (by decide) ?_
      exact g_iret S hr hlk hw (by simp only [XG_behind_r, if_pos s_1, if_pos c_2]) rfl dX4_behind_45
  · by_cases s_3 : x = 1
    · refine lv_tableIn (off := 45) (tgt := 46) hx hb dX4_behind_1 (by rw [s_3]; decide) (by rw [s_3]; decide) (by rw [s_3]; rfl) (by decide) ?_
      refine lv_iload_n hx hb dX4_behind_46 rfl (lv_at hl 1 rfl) ?_
      refine lv_bipush (v := 48) hx hb dX4_behind_47 (by decide) ?_
      refine lv_icmp_lt hx hb (tgt := 62) dX4_behind_49 (by decide) (fun c_4 => ?_) (fun c_4 => ?_)
      · refine lv_iconst (v := 5) hx hb dX4_behind_62 (by decide) ?_
        exact g_iret S hr hlk hw (by simp only [XG_behind_r, if_neg s_1, if_pos s_3, if_pos c_4]) rfl dX4_behind_63
      · refine lv_iload_n hx hb dX4_behind_52 rfl (lv_at hl 1 rfl) ?_
        refine lv_bipush (v := 57) hx hb dX4_behind_53 (by decide) ?_
        refine lv_icmp_gt hx hb (tgt := 62) dX4_behind_55 (by decide) (fun c_5 => ?_) (fun c_5 => ?_)
        · refine lv_iconst (v := 5) hx hb dX4_behind_62 (by decide) ?_
          exact g_iret S hr hlk hw (by simp only [XG_behind_r, if_neg s_1, if_pos s_3, if_neg c_4, if_pos c_5]) rfl dX4_behind_63
        · refine lv_iconst (v := 2) hx hb dX4_behind_58 (by decide) ?_
          refine lv_goto (tgt := 63) hx hb dX4_behind_59 (by decide) ?_
          exact g_iret S hr hlk hw (by simp only [XG_behind_r, if_neg s_1, if_pos s_3, if_neg c_4, if_neg c_5]) rfl dX4_behind_63
    · by_cases s_6 : x = 2
      · refine lv_tableIn (off := 63) (tgt := 64) hx hb dX4_behind_1 (by rw [s_6]; decide) (by rw [s_6]; decide) (by rw [s_6]; rfl) (by decide) ?_
        refine lv_iload_n hx hb dX4_behind_64 rfl (lv_at hl 1 rfl) ?_
        refine lv_iload_n hx hb dX4_behind_65 rfl (lv_at hl 2 rfl) ?_
        refine g_callSi S hw (c_XG_behindMark l D tys w0 y w) gX4_behind_X4_behindMark rfl 2 rfl (by decide +kernel) (by decide) (by decide) hl.1 rfl (Nat.le_of_ble_eq_true rfl) dX4_behind_66 (fun H locs hw => ?_)
        exact g_iret S hr hlk hw (by simp only [XG_behind_r, if_neg s_1, if_neg s_3, if_pos s_6]) rfl dX4_behind_69
      · by_cases s_7 : x = 3
        · refine lv_tableIn (off := 69) (tgt := 70) hx hb dX4_behind_1 (by rw [s_7]; decide) (by rw [s_7]; decide) (by rw [s_7]; rfl) (by decide) ?_
          refine lv_iload_n hx hb dX4_behind_70 rfl (lv_at hl 1 rfl) ?_
          refine lv_bipush (v := 49) hx hb dX4_behind_71 (by decide) ?_
          refine lv_icmp_lt hx hb (tgt := 86) dX4_behind_73 (by decide) (fun c_8 => ?_) (fun c_8 => ?_)
          · refine lv_iconst (v := 5) hx hb dX4_behind_86 (by decide) ?_
            exact g_iret S hr hlk hw (by simp only [XG_behind_r, if_neg s_1, if_neg s_3, if_neg s_6, if_pos s_7, if_pos c_8]) rfl dX4_behind_87
          · refine lv_iload_n hx hb dX4_behind_76 rfl (lv_at hl 1 rfl) ?_
            refine lv_bipush (v := 53) hx hb dX4_behind_77 (by decide) ?_
            refine lv_icmp_gt hx hb (tgt := 86) dX4_behind_79 (by decide) (fun c_9 => ?_) (fun c_9 => ?_)
            · refine lv_iconst (v := 5) hx hb dX4_behind_86 (by decide) ?_
              exact g_iret S hr hlk hw (by simp only [XG_behind_r, if_neg s_1, if_neg s_3, if_neg s_6, if_pos s_7, if_neg c_8, if_pos c_9]) rfl dX4_behind_87
            · refine lv_iconst (v := 4) hx hb dX4_behind_82 (by decide) ?_
              refine lv_goto (tgt := 87) hx hb dX4_behind_83 (by decide) ?_
              exact g_iret S hr hlk hw (by simp only [XG_behind_r, if_neg s_1, if_neg s_3, if_neg s_6, if_pos s_7, if_neg c_8, if_neg c_9]) rfl dX4_behind_87
        · refine lv_tableOut (tgt := 88) hx hb dX4_behind_1 (by have q0 := lv_neT (a := 0) s_1 (by decide); have q1 := lv_neT (a := 1) s_3 (by decide); have q2 := lv_neT (a := 2) s_6 (by decide); have q3 := lv_neT (a := 3) s_7 (by decide); omega) (by decide) ?_
          refine lv_iconst (v := 5) hx hb dX4_behind_88 (by decide) ?_
          exact g_iret S hr hlk hw (by simp only [XG_behind_r, if_neg s_1, if_neg s_3, if_neg s_6, if_neg s_7]) rfl dX4_behind_89

def XG_firstFault_L4 (κ : Nat → Nat) (σ : Nat → Nat → Int32) (pm : Nat) : Nat → Nat → (Int32) → Int32
  | 0, i4, x4_1 => nI pm
  | n4 + 1, i4, x4_1 => if (XG_behind_r x4_1 (σ 9 i4) (nI ((i4 + 1) / 3))) = 5 then (nI i4) else (XG_firstFault_L4 κ σ pm n4 (i4 + 1) (XG_behind_r x4_1 (σ 9 i4) (nI ((i4 + 1) / 3))))
def XG_firstFault_r (κ : Nat → Nat) (σ : Nat → Nat → Int32) (pm : Nat) : Int32 := XG_firstFault_L4 κ σ pm pm 0 0
set_option maxHeartbeats 4000000 in
set_option maxRecDepth 100000 in
theorem c_XG_firstFault (l : Launch) (D : va_G) (z : Nat → Nat) (cI cC cI2 : ClassId) (a : Nat → Nat) (κ : Nat → Nat) (σ : Nat → Nat → Int32) (pm : Nat) (hpm : σ 8 1 = nI pm) (hpmb : pm ≤ 16) : gIE l D z (tysX cI cC cI2) yX4_firstFault wsX4_firstFault 8 [.ref (a 8)] (wX cI cC cI2 a κ σ) (XG_firstFault_r κ σ pm) (wX cI cC cI2 a κ σ) := by
  refine g_startE (cc := cX4_firstFault) (maxL := 3) (ret := some .int) (Qc := gQi D (tysX cI cC cI2) (XG_firstFault_r κ σ pm) (wX cI cC cI2 a κ σ)) (by decide) rfl (Nat.le_of_ble_eq_true rfl) ?_
  intro p e s m below meth C A ls S hr hlk hw hE hl
  obtain ⟨hx, hb, hml, hown, hts⟩ := id S
  have hinX4 : ∀ x ∈ u_ws RX4 TX4 2, x ∈ wsX4_firstFault := fun x h => List.mem_cons_of_mem _ (List.mem_append_right _ h)
  have lk0 : Cond.fieldLink RX4 15 "CowsOwed$Page" "size" "I" ∈ wsX4_firstFault := by decide +kernel
  have lk1 : Cond.fieldLink RX4 9 "CowsOwed$Page" "codes" "[I" ∈ wsX4_firstFault := by decide +kernel
  have hl : lv_has ls 3 [(0, .ref (a 8))] := hl
  refine lv_iconst (v := 0) hx hb dX4_firstFault_0 (by decide) ?_
  refine lv_istore_n (lv' := [(1, .int 0), (0, .ref (a 8))]) hx hb dX4_firstFault_1 rfl hl (by decide) rfl (fun ls hl => ?_)
  refine lv_iconst (v := 0) hx hb dX4_firstFault_2 (by decide) ?_
  refine lv_istore_n (lv' := [(2, .int 0), (1, .int 0), (0, .ref (a 8))]) hx hb dX4_firstFault_3 rfl hl (by decide) rfl (fun ls hl => ?_)
  have L4 : ∀ (n4 i4 : Nat) (x4_1 : Int32) (H : Heap) (locs : List Loc) (ls : Array Slot), i4 + n4 = pm → XG_firstFault_L4 κ σ pm n4 i4 x4_1 = XG_firstFault_L4 κ σ pm pm 0 0 → gw D (tysX cI cC cI2) A s H locs (wX cI cC cI2 a κ σ) → lv_has ls 3 [(2, .int (nI i4)), (1, .int x4_1), (0, .ref (a 8))] → W p l e (gR 8) s m ([.ref (a 8)] : List Value).toArray below meth C H locs 0 0 (MQ below (gQi D (tysX cI cC cI2) (XG_firstFault_r κ σ pm) (wX cI cC cI2 a κ σ) A) ([.ref (a 8)] : List Value).toArray s 0 0 A) (F0 m 4 ls []) := by
    intro n4
    induction n4 with
    | zero =>
      intro i4 x4_1 H locs ls hi4 hF4 hw hl
      refine lv_iload_n hx hb dX4_firstFault_4 rfl (lv_at hl 0 rfl) ?_
      refine lv_aload_n hx hb dX4_firstFault_5 rfl (lv_at hl 2 rfl) ?_
      refine g_get S hw hinX4 (fs := fX8 a σ) 8 rfl rfl 1 (by decide) lk0 (v := .int (nI pm)) (congrArg (fun z => some (Value.int z)) (hpm)) dX4_firstFault_6 ?_
      refine ln_ge (x := i4) (y := pm) hx hb (by omega) (by omega) (tgt := 41) dX4_firstFault_9 (by decide) (fun c_x => ?_) (fun c_x => absurd (by omega) c_x)
      have hz4 : pm = i4 := by omega
      subst hz4
      refine lv_aload_n hx hb dX4_firstFault_41 rfl (lv_at hl 2 rfl) ?_
      refine g_get S hw hinX4 (fs := fX8 a σ) 8 rfl rfl 1 (by decide) lk0 (v := .int (nI pm)) (congrArg (fun z => some (Value.int z)) (hpm)) dX4_firstFault_42 ?_
      exact g_iret S hr hlk hw (by simp only [XG_firstFault_r]; have q := hF4; simp only [XG_firstFault_L4] at q; exact q) rfl dX4_firstFault_45
    | succ n4 ih4 =>
      intro i4 x4_1 H locs ls hi4 hF4 hw hl
      refine lv_iload_n hx hb dX4_firstFault_4 rfl (lv_at hl 0 rfl) ?_
      refine lv_aload_n hx hb dX4_firstFault_5 rfl (lv_at hl 2 rfl) ?_
      refine g_get S hw hinX4 (fs := fX8 a σ) 8 rfl rfl 1 (by decide) lk0 (v := .int (nI pm)) (congrArg (fun z => some (Value.int z)) (hpm)) dX4_firstFault_6 ?_
      refine ln_ge (x := i4) (y := pm) hx hb (by omega) (by omega) (tgt := 41) dX4_firstFault_9 (by decide) (fun c_x => absurd c_x (by omega)) (fun c_x => ?_)
      refine lv_iload_n hx hb dX4_firstFault_12 rfl (lv_at hl 1 rfl) ?_
      refine lv_aload_n hx hb dX4_firstFault_13 rfl (lv_at hl 2 rfl) ?_
      refine g_get S hw hinX4 (fs := fX8 a σ) 8 rfl rfl 0 (by decide) lk1 (v := .ref (a 9)) rfl dX4_firstFault_14 ?_
      refine lv_iload_n hx hb dX4_firstFault_17 rfl (lv_at hl 0 rfl) ?_
      refine g_iald S hw (f := σ 9) (i := i4) (x := σ 9 i4) 9 0 rfl rfl (by omega) (by decide) rfl dX4_firstFault_18 ?_
      refine lv_iload_n hx hb dX4_firstFault_19 rfl (lv_at hl 0 rfl) ?_
      refine lv_iconst (v := 1) hx hb dX4_firstFault_20 (by decide) ?_
      refine ln_iadd (x := i4) (y := 1) hx hb dX4_firstFault_21 ?_
      refine lv_iconst (v := 3) hx hb dX4_firstFault_22 (by decide) ?_
      refine ln_idiv (x := i4 + 1) (y := 3) hx hb (by omega) (by omega) (by omega) dX4_firstFault_23 ?_
      refine g_callSiE S hw hE (c_XG_behind l D z (tysX cI cC cI2) (wX cI cC cI2 a κ σ) x4_1 (σ 9 i4) (nI ((i4 + 1) / 3))) gX4_firstFault_X4_behind rfl 3 rfl (by decide +kernel) (by decide) (by decide) hl.1 rfl (Nat.le_of_ble_eq_true rfl) dX4_firstFault_24 (fun H locs hw => ?_)
      refine lv_istore_n (lv' := [(1, .int (XG_behind_r x4_1 (σ 9 i4) (nI ((i4 + 1) / 3)))), (2, .int (nI i4)), (0, .ref (a 8))]) hx hb dX4_firstFault_27 rfl hl (by decide) rfl (fun ls hl => ?_)
      refine lv_iload_n hx hb dX4_firstFault_28 rfl (lv_at hl 0 rfl) ?_
      refine lv_iconst (v := 5) hx hb dX4_firstFault_29 (by decide) ?_
      refine lv_icmp_ne hx hb (tgt := 35) dX4_firstFault_30 (by decide) (fun c_2 => ?_) (fun c_2 => ?_)
      · refine lv_iinc (v := nI (i4 + 1)) (lv' := [(2, .int (nI (i4 + 1))), (1, .int (XG_behind_r x4_1 (σ 9 i4) (nI ((i4 + 1) / 3)))), (0, .ref (a 8))]) hx hb dX4_firstFault_35 hl (k := 1) rfl (nI_1 _) (by decide) rfl (fun ls hl => ?_)
        refine lv_goto (tgt := 4) hx hb dX4_firstFault_38 (by decide) ?_
        exact ih4 (i4 + 1) (XG_behind_r x4_1 (σ 9 i4) (nI ((i4 + 1) / 3))) _ _ _ (by omega) (by have q := hF4; simp only [XG_firstFault_L4, if_neg c_2] at q; exact q) hw (lv_sub hl [0, 1, 2] rfl)
      · refine lv_iload_n hx hb dX4_firstFault_33 rfl (lv_at hl 1 rfl) ?_
        exact g_iret S hr hlk hw (by simp only [XG_firstFault_r]; have q := hF4; simp only [XG_firstFault_L4, if_pos c_2] at q; exact q) rfl dX4_firstFault_34
  exact L4 pm 0 0 _ _ _ (by omega) rfl hw (lv_sub hl [0, 1, 2] rfl)

def XG_isHills_r (κ : Nat → Nat) (σ : Nat → Nat → Int32) (pm : Nat) : Int32 := if pm < 2 then 0 else (if (XG_firstFault_r κ σ pm) = (nI pm) then (if (σ 9 (pm - 2)) = 59 then 1 else 0) else 0)
theorem XG_isHills_z (κ : Nat → Nat) (σ : Nat → Nat → Int32) (pm : Nat) : XG_isHills_r κ σ pm = 0 ∨ XG_isHills_r κ σ pm = 1 := by
  unfold XG_isHills_r
  by_cases z1 : pm < 2
  · rw [if_pos z1]
    exact Or.inl rfl
  · rw [if_neg z1]
    by_cases z2 : (XG_firstFault_r κ σ pm) = (nI pm)
    · rw [if_pos z2]
      by_cases z3 : (σ 9 (pm - 2)) = 59
      · rw [if_pos z3]
        exact Or.inr rfl
      · rw [if_neg z3]
        exact Or.inl rfl
    · rw [if_neg z2]
      exact Or.inl rfl
set_option maxHeartbeats 4000000 in
set_option maxRecDepth 100000 in
theorem c_XG_isHills (l : Launch) (D : va_G) (z : Nat → Nat) (cI cC cI2 : ClassId) (a : Nat → Nat) (κ : Nat → Nat) (σ : Nat → Nat → Int32) (pm : Nat) (hpm : σ 8 1 = nI pm) (hpmb : pm ≤ 16) : gIE l D z (tysX cI cC cI2) yX4_isHills wsX4_isHills 9 [.ref (a 8)] (wX cI cC cI2 a κ σ) (XG_isHills_r κ σ pm) (wX cI cC cI2 a κ σ) := by
  refine g_startE (cc := cX4_isHills) (maxL := 1) (ret := some .boolean) (Qc := gQi D (tysX cI cC cI2) (XG_isHills_r κ σ pm) (wX cI cC cI2 a κ σ)) (by decide) rfl (Nat.le_of_ble_eq_true rfl) ?_
  intro p e s m below meth C A ls S hr hlk hw hE hl
  obtain ⟨hx, hb, hml, hown, hts⟩ := id S
  have hinX4 : ∀ x ∈ u_ws RX4 TX4 2, x ∈ wsX4_isHills := fun x h => List.mem_cons_of_mem _ (List.mem_append_right _ h)
  have lk0 : Cond.fieldLink RX4 15 "CowsOwed$Page" "size" "I" ∈ wsX4_isHills := by decide +kernel
  have lk1 : Cond.fieldLink RX4 9 "CowsOwed$Page" "codes" "[I" ∈ wsX4_isHills := by decide +kernel
  have hl : lv_has ls 1 [(0, .ref (a 8))] := hl
  refine lv_aload_n hx hb dX4_isHills_0 rfl (lv_at hl 0 rfl) ?_
  refine g_get S hw hinX4 (fs := fX8 a σ) 8 rfl rfl 1 (by decide) lk0 (v := .int (nI pm)) (congrArg (fun z => some (Value.int z)) (hpm)) dX4_isHills_1 ?_
  refine lv_iconst (v := 2) hx hb dX4_isHills_4 (by decide) ?_
  refine ln_lt (x := pm) (y := 2) hx hb (by omega) (by omega) (tgt := 39) dX4_isHills_5 (by decide) (fun c_1 => ?_) (fun c_1 => ?_)
  · refine lv_iconst (v := 0) hx hb dX4_isHills_39 (by decide) ?_
    exact g_zret S hr hlk hw (by decide) (by simp only [XG_isHills_r, if_pos c_1]) rfl dX4_isHills_40
  · refine lv_aload_n hx hb dX4_isHills_8 rfl (lv_at hl 0 rfl) ?_
    refine g_callViE S hw hE (c_XG_firstFault l D z cI cC cI2 a κ σ pm (hpm) (by omega)) gX4_isHills_X4_firstFault rfl (va_recv hw.1 hw.2.1 (q0 := 8) rfl rfl) 0 rfl (by decide +kernel) (by decide) (by decide) hl.1 rfl (Nat.le_of_ble_eq_true rfl) dX4_isHills_9 (fun H locs hw => ?_)
    refine lv_aload_n hx hb dX4_isHills_12 rfl (lv_at hl 0 rfl) ?_
    refine g_get S hw hinX4 (fs := fX8 a σ) 8 rfl rfl 1 (by decide) lk0 (v := .int (nI pm)) (congrArg (fun z => some (Value.int z)) (hpm)) dX4_isHills_13 ?_
    refine lv_icmp_ne hx hb (tgt := 39) dX4_isHills_16 (by decide) (fun c_2 => ?_) (fun c_2 => ?_)
    · refine lv_iconst (v := 0) hx hb dX4_isHills_39 (by decide) ?_
      exact g_zret S hr hlk hw (by decide) (by simp only [XG_isHills_r, if_neg c_1, if_neg c_2]) rfl dX4_isHills_40
    · refine lv_aload_n hx hb dX4_isHills_19 rfl (lv_at hl 0 rfl) ?_
      refine g_get S hw hinX4 (fs := fX8 a σ) 8 rfl rfl 0 (by decide) lk1 (v := .ref (a 9)) rfl dX4_isHills_20 ?_
      refine lv_aload_n hx hb dX4_isHills_23 rfl (lv_at hl 0 rfl) ?_
      refine g_get S hw hinX4 (fs := fX8 a σ) 8 rfl rfl 1 (by decide) lk0 (v := .int (nI pm)) (congrArg (fun z => some (Value.int z)) (hpm)) dX4_isHills_24 ?_
      refine lv_iconst (v := 2) hx hb dX4_isHills_27 (by decide) ?_
      refine ln_isub (x := pm) (y := 2) hx hb (by omega) dX4_isHills_28 ?_
      refine g_iald S hw (f := σ 9) (i := pm - 2) (x := σ 9 (pm - 2)) 9 0 rfl rfl (by omega) (by decide) rfl dX4_isHills_29 ?_
      refine lv_bipush (v := 59) hx hb dX4_isHills_30 (by decide) ?_
      refine lv_icmp_ne hx hb (tgt := 39) dX4_isHills_32 (by decide) (fun c_3 => ?_) (fun c_3 => ?_)
      · refine lv_iconst (v := 0) hx hb dX4_isHills_39 (by decide) ?_
        exact g_zret S hr hlk hw (by decide) (by simp only [XG_isHills_r, if_neg c_1, if_pos c_2, if_neg c_3]) rfl dX4_isHills_40
      · refine lv_iconst (v := 1) hx hb dX4_isHills_35 (by decide) ?_
        refine lv_goto (tgt := 40) hx hb dX4_isHills_36 (by decide) ?_
        exact g_zret S hr hlk hw (by decide) (by simp only [XG_isHills_r, if_neg c_1, if_pos c_2, if_pos c_3]) rfl dX4_isHills_40

def XG_kindOf_r (κ : Nat → Nat) (σ : Nat → Nat → Int32) (c : Nat) : Int32 := XG_kindOfLetter_r (σ 9 (c * 3))
set_option maxHeartbeats 4000000 in
set_option maxRecDepth 100000 in
theorem c_XG_kindOf (l : Launch) (D : va_G) (z : Nat → Nat) (cI cC cI2 : ClassId) (a : Nat → Nat) (κ : Nat → Nat) (σ : Nat → Nat → Int32) (c : Nat) (hc : c < 5) : gIE l D z (tysX cI cC cI2) yX4_kindOf wsX4_kindOf 7 [.ref (a 8), .int (nI c)] (wX cI cC cI2 a κ σ) (XG_kindOf_r κ σ c) (wX cI cC cI2 a κ σ) := by
  refine g_startE (cc := cX4_kindOf) (maxL := 2) (ret := some .int) (Qc := gQi D (tysX cI cC cI2) (XG_kindOf_r κ σ c) (wX cI cC cI2 a κ σ)) (by decide) rfl (Nat.le_of_ble_eq_true rfl) ?_
  intro p e s m below meth C A ls S hr hlk hw hE hl
  obtain ⟨hx, hb, hml, hown, hts⟩ := id S
  have hinX4 : ∀ x ∈ u_ws RX4 TX4 2, x ∈ wsX4_kindOf := fun x h => List.mem_cons_of_mem _ (List.mem_append_right _ h)
  have lk0 : Cond.fieldLink RX4 9 "CowsOwed$Page" "codes" "[I" ∈ wsX4_kindOf := by decide +kernel
  have hl : lv_has ls 2 [(0, .ref (a 8)), (1, .int (nI c))] := hl
  refine lv_aload_n hx hb dX4_kindOf_0 rfl (lv_at hl 0 rfl) ?_
  refine g_get S hw hinX4 (fs := fX8 a σ) 8 rfl rfl 0 (by decide) lk0 (v := .ref (a 9)) rfl dX4_kindOf_1 ?_
  refine lv_iload_n hx hb dX4_kindOf_4 rfl (lv_at hl 1 rfl) ?_
  refine lv_iconst (v := 3) hx hb dX4_kindOf_5 (by decide) ?_
  refine ln_imul (x := c) (y := 3) hx hb dX4_kindOf_6 ?_
  refine g_iald S hw (f := σ 9) (i := c * 3) (x := σ 9 (c * 3)) 9 0 rfl rfl (by omega) (by decide) rfl dX4_kindOf_7 ?_
  refine g_callSiE S hw hE (c_XG_kindOfLetter l D z (tysX cI cC cI2) (wX cI cC cI2 a κ σ) (σ 9 (c * 3))) gX4_kindOf_X4_kindOfLetter rfl 1 rfl (by decide +kernel) (by decide) (by decide) hl.1 rfl (Nat.le_of_ble_eq_true rfl) dX4_kindOf_8 (fun H locs hw => ?_)
  exact g_iret S hr hlk hw (by simp only [XG_kindOf_r]) rfl dX4_kindOf_11

def X_fault_r (κ : Nat → Nat) (σ : Nat → Nat → Int32) (pm : Nat) : Int32 := XG_firstFault_r κ σ pm
set_option maxHeartbeats 4000000 in
set_option maxRecDepth 100000 in
theorem c_X_fault (l : Launch) (D : va_G) (z : Nat → Nat) (cI cC cI2 : ClassId) (a : Nat → Nat) (κ : Nat → Nat) (σ : Nat → Nat → Int32) (pm : Nat) (hpm : σ 8 1 = nI pm) (hpmb : pm ≤ 16) : gIE l D z (tysX cI cC cI2) yX11_fault wsX11_fault 9 [.ref (a 0)] (wX cI cC cI2 a κ σ) (X_fault_r κ σ pm) (wX cI cC cI2 a κ σ) := by
  refine g_startE (cc := cX11_fault) (maxL := 1) (ret := some .int) (Qc := gQi D (tysX cI cC cI2) (X_fault_r κ σ pm) (wX cI cC cI2 a κ σ)) (by decide) rfl (Nat.le_of_ble_eq_true rfl) ?_
  intro p e s m below meth C A ls S hr hlk hw hE hl
  obtain ⟨hx, hb, hml, hown, hts⟩ := id S
  have hinX11 : ∀ x ∈ u_ws RX11 TX11 8, x ∈ wsX11_fault := fun x h => List.mem_cons_of_mem _ (List.mem_append_left _ (List.mem_append_right _ h))
  have lk0 : Cond.fieldLink RX11 34 "CowsOwed" "page" "LCowsOwed$Page;" ∈ wsX11_fault := by decide +kernel
  have hl : lv_has ls 1 [(0, .ref (a 0))] := hl
  refine lv_aload_n hx hb dX11_fault_0 rfl (lv_at hl 0 rfl) ?_
  refine g_get S hw hinX11 (fs := fX0 a σ) 0 rfl rfl 2 (by decide) lk0 (v := .ref (a 8)) rfl dX11_fault_1 ?_
  refine g_callViE S hw hE (c_XG_firstFault l D z cI cC cI2 a κ σ pm (hpm) (by omega)) gX11_fault_X4_firstFault rfl (va_recv hw.1 hw.2.1 (q0 := 8) rfl rfl) 0 rfl (by decide +kernel) (by decide) (by decide) hl.1 rfl (Nat.le_of_ble_eq_true rfl) dX11_fault_4 (fun H locs hw => ?_)
  exact g_iret S hr hlk hw (by simp only [X_fault_r]) rfl dX11_fault_7
