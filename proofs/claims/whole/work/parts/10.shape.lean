def F_unitBits (c : cw_C) : Int32 :=
  (((1 : Int32) <<< ((c.1 - (1 : Int32)) &&& 31)) - (2 : Int32)) + c.2.1
def rm_unitBits : Room := { frames := 0, cells := 0, slots := 0, locals := 0 }
set_option maxHeartbeats 4000000 in
set_option maxRecDepth 100000 in
theorem C_unitBits (l : Launch) (D : va_G) (ty : List (ClassId × FieldType)) (sz : Nat) (G : cw_G) (Z : va_W) (hG : cw_ok ty sz G Z) (c : cw_C)  : kp_R l yX0_unitBits cX0_unitBits 1 (some .int) rm_unitBits D ty sz [.ref (aS G)] (cw_W G c Z) (some (.int (F_unitBits c))) := by
  refine kp_bodyR (by decide) (Nat.le_of_ble_eq_true rfl) rfl ?_
  intro p e s m args below meth cd ls B hl hP hS
  obtain ⟨hx, hb, hml, hown, hlk, hr, hw, hE, hK, hsz⟩ := id B
  have hl : lv_has ls 1 [(0, .ref (aS G))] := hl
  refine lv_iconst (v := (1 : Int32)) hx hb dX0_unitBits_0 (by decide) ?_
  refine lv_aload_n hx hb dX0_unitBits_1 rfl (lv_at hl 0 rfl) ?_
  refine kc_getS (j := 0) (v := .int c.1) B hP rfl (by decide) kw_10 dX0_unitBits_2 ?_
  refine lv_iconst (v := (1 : Int32)) hx hb dX0_unitBits_5 (by decide) ?_
  refine lv_isub hx hb dX0_unitBits_6 ?_
  refine lv_ishl hx hb dX0_unitBits_7 ?_
  refine lv_iconst (v := (2 : Int32)) hx hb dX0_unitBits_8 (by decide) ?_
  refine lv_isub hx hb dX0_unitBits_9 ?_
  refine lv_aload_n hx hb dX0_unitBits_10 rfl (lv_at hl 0 rfl) ?_
  refine kc_getS (j := 1) (v := .int c.2.1) B hP rfl (by decide) kw_11 dX0_unitBits_11 ?_
  refine lv_iadd hx hb dX0_unitBits_14 ?_
  exact kp_retiR B rfl dX0_unitBits_15
def F_signBit (c : cw_C) : Int32 :=
  (1 : Int32) <<< ((c.1 + c.2.1) &&& 31)
def rm_signBit : Room := { frames := 0, cells := 0, slots := 0, locals := 0 }
set_option maxHeartbeats 4000000 in
set_option maxRecDepth 100000 in
theorem C_signBit (l : Launch) (D : va_G) (ty : List (ClassId × FieldType)) (sz : Nat) (G : cw_G) (Z : va_W) (hG : cw_ok ty sz G Z) (c : cw_C)  : kp_R l yX0_signBit cX0_signBit 1 (some .int) rm_signBit D ty sz [.ref (aS G)] (cw_W G c Z) (some (.int (F_signBit c))) := by
  refine kp_bodyR (by decide) (Nat.le_of_ble_eq_true rfl) rfl ?_
  intro p e s m args below meth cd ls B hl hP hS
  obtain ⟨hx, hb, hml, hown, hlk, hr, hw, hE, hK, hsz⟩ := id B
  have hl : lv_has ls 1 [(0, .ref (aS G))] := hl
  refine lv_iconst (v := (1 : Int32)) hx hb dX0_signBit_0 (by decide) ?_
  refine lv_aload_n hx hb dX0_signBit_1 rfl (lv_at hl 0 rfl) ?_
  refine kc_getS (j := 0) (v := .int c.1) B hP rfl (by decide) kw_10 dX0_signBit_2 ?_
  refine lv_aload_n hx hb dX0_signBit_5 rfl (lv_at hl 0 rfl) ?_
  refine kc_getS (j := 1) (v := .int c.2.1) B hP rfl (by decide) kw_11 dX0_signBit_6 ?_
  refine lv_iadd hx hb dX0_signBit_9 ?_
  refine lv_ishl hx hb dX0_signBit_10 ?_
  exact kp_retiR B rfl dX0_signBit_11
def F_endlessPattern (c : cw_C) : Int32 :=
  (((1 : Int32) <<< (c.1 &&& 31)) - (1 : Int32)) <<< (c.2.1 &&& 31)
def rm_endlessPattern : Room := { frames := 0, cells := 0, slots := 0, locals := 0 }
set_option maxHeartbeats 4000000 in
set_option maxRecDepth 100000 in
theorem C_endlessPattern (l : Launch) (D : va_G) (ty : List (ClassId × FieldType)) (sz : Nat) (G : cw_G) (Z : va_W) (hG : cw_ok ty sz G Z) (c : cw_C)  : kp_R l yX0_endlessPattern cX0_endlessPattern 1 (some .int) rm_endlessPattern D ty sz [.ref (aS G)] (cw_W G c Z) (some (.int (F_endlessPattern c))) := by
  refine kp_bodyR (by decide) (Nat.le_of_ble_eq_true rfl) rfl ?_
  intro p e s m args below meth cd ls B hl hP hS
  obtain ⟨hx, hb, hml, hown, hlk, hr, hw, hE, hK, hsz⟩ := id B
  have hl : lv_has ls 1 [(0, .ref (aS G))] := hl
  refine lv_iconst (v := (1 : Int32)) hx hb dX0_endlessPattern_0 (by decide) ?_
  refine lv_aload_n hx hb dX0_endlessPattern_1 rfl (lv_at hl 0 rfl) ?_
  refine kc_getS (j := 0) (v := .int c.1) B hP rfl (by decide) kw_10 dX0_endlessPattern_2 ?_
  refine lv_ishl hx hb dX0_endlessPattern_5 ?_
  refine lv_iconst (v := (1 : Int32)) hx hb dX0_endlessPattern_6 (by decide) ?_
  refine lv_isub hx hb dX0_endlessPattern_7 ?_
  refine lv_aload_n hx hb dX0_endlessPattern_8 rfl (lv_at hl 0 rfl) ?_
  refine kc_getS (j := 1) (v := .int c.2.1) B hP rfl (by decide) kw_11 dX0_endlessPattern_9 ?_
  refine lv_ishl hx hb dX0_endlessPattern_12 ?_
  exact kp_retiR B rfl dX0_endlessPattern_13
def F_isPattern (c : cw_C) (x : Int32) : Int32 :=
  if x < (0 : Int32) then (0 : Int32) else (if ((2 : Int32) * (F_signBit c)) ≤ x then (0 : Int32) else (if (F_endlessPattern c) < (x &&& ((F_signBit c) - (1 : Int32))) then (0 : Int32) else (1 : Int32)))
def rm_isPattern : Room := { frames := 1, cells := 0, slots := 0, locals := 20 }
set_option maxHeartbeats 4000000 in
set_option maxRecDepth 100000 in
theorem C_isPattern (l : Launch) (D : va_G) (ty : List (ClassId × FieldType)) (sz : Nat) (G : cw_G) (Z : va_W) (hG : cw_ok ty sz G Z) (c : cw_C) (x : Int32) : kp_R l yX0_isPattern cX0_isPattern 2 (some .boolean) rm_isPattern D ty sz [.ref (aS G), .int x] (cw_W G c Z) (some (.int (F_isPattern c x))) := by
  refine kp_bodyR (by decide) (Nat.le_of_ble_eq_true rfl) rfl ?_
  intro p e s m args below meth cd ls B hl hP hS
  obtain ⟨hx, hb, hml, hown, hlk, hr, hw, hE, hK, hsz⟩ := id B
  have hl : lv_has ls 2 [(0, .ref (aS G)), (1, .int x)] := hl
  refine lv_iload_n hx hb dX0_isPattern_0 rfl (lv_at hl 1 rfl) ?_
  refine lv_if_lt (tgt := 33) hx hb dX0_isPattern_1 (by decide) (fun q_1 => ?_) (fun q_1 => ?_)
  · refine lv_iconst (v := (0 : Int32)) hx hb dX0_isPattern_33 (by decide) ?_
    exact kp_retzR B (by simp only [F_isPattern, if_pos q_1]) (Or.inl rfl) dX0_isPattern_34
  · refine lv_iload_n hx hb dX0_isPattern_4 rfl (lv_at hl 1 rfl) ?_
    refine lv_iconst (v := (2 : Int32)) hx hb dX0_isPattern_5 (by decide) ?_
    refine lv_aload_n hx hb dX0_isPattern_6 rfl (lv_at hl 0 rfl) ?_
    refine kp_callVR (rm := rm_signBit) (As := []) (rest := [.int (2 : Int32), .int x]) (r := some (.int (F_signBit c))) (st1 := [.int (F_signBit c), .int (2 : Int32), .int x]) B (C_signBit l D ty sz G Z hG c) kt_signBit kw_14 kw_15 kw_16 (kc_rcS B hP) (by decide) ⟨rfl, rfl⟩ (by decide) rfl (Nat.le_of_ble_eq_true rfl) hl.1 hP hS dX0_isPattern_7 rfl ?_
    refine lv_imul hx hb dX0_isPattern_10 ?_
    refine lv_icmp_ge (tgt := 33) hx hb dX0_isPattern_11 (by decide) (fun q_2 => ?_) (fun q_2 => ?_)
    · refine lv_iconst (v := (0 : Int32)) hx hb dX0_isPattern_33 (by decide) ?_
      exact kp_retzR B (by simp only [F_isPattern, if_neg q_1, if_pos q_2]) (Or.inl rfl) dX0_isPattern_34
    · refine lv_iload_n hx hb dX0_isPattern_14 rfl (lv_at hl 1 rfl) ?_
      refine lv_aload_n hx hb dX0_isPattern_15 rfl (lv_at hl 0 rfl) ?_
      refine kp_callVR (rm := rm_signBit) (As := []) (rest := [.int x]) (r := some (.int (F_signBit c))) (st1 := [.int (F_signBit c), .int x]) B (C_signBit l D ty sz G Z hG c) kt_signBit kw_14 kw_15 kw_16 (kc_rcS B hP) (by decide) ⟨rfl, rfl⟩ (by decide) rfl (Nat.le_of_ble_eq_true rfl) hl.1 hP hS dX0_isPattern_16 rfl ?_
      refine lv_iconst (v := (1 : Int32)) hx hb dX0_isPattern_19 (by decide) ?_
      refine lv_isub hx hb dX0_isPattern_20 ?_
      refine lv_iand hx hb dX0_isPattern_21 ?_
      refine lv_aload_n hx hb dX0_isPattern_22 rfl (lv_at hl 0 rfl) ?_
      refine kp_callVR (rm := rm_endlessPattern) (As := []) (rest := [.int (x &&& ((F_signBit c) - (1 : Int32)))]) (r := some (.int (F_endlessPattern c))) (st1 := [.int (F_endlessPattern c), .int (x &&& ((F_signBit c) - (1 : Int32)))]) B (C_endlessPattern l D ty sz G Z hG c) kt_endlessPattern kw_19 kw_20 kw_21 (kc_rcS B hP) (by decide) ⟨rfl, rfl⟩ (by decide) rfl (Nat.le_of_ble_eq_true rfl) hl.1 hP hS dX0_isPattern_23 rfl ?_
      refine lv_icmp_gt (tgt := 33) hx hb dX0_isPattern_26 (by decide) (fun q_3 => ?_) (fun q_3 => ?_)
      · refine lv_iconst (v := (0 : Int32)) hx hb dX0_isPattern_33 (by decide) ?_
        exact kp_retzR B (by simp only [F_isPattern, if_neg q_1, if_neg q_2, if_pos q_3]) (Or.inl rfl) dX0_isPattern_34
      · refine lv_iconst (v := (1 : Int32)) hx hb dX0_isPattern_29 (by decide) ?_
        refine lv_goto (tgt := 34) hx hb dX0_isPattern_30 (by decide) ?_
        exact kp_retzR B (by simp only [F_isPattern, if_neg q_1, if_neg q_2, if_neg q_3]) (Or.inr rfl) dX0_isPattern_34
def F_sizeOf (c : cw_C) (x : Int32) : Int64 :=
  if x = (F_endlessPattern c) then cw_inf else (if (x >>> (c.2.1 &&& 31)) = (0 : Int32) then (x &&& (((1 : Int32) <<< (c.2.1 &&& 31)) - (1 : Int32))).toInt64 else (((1 : Int64) <<< (c.2.1.toInt64 &&& 63)) + ((x &&& (((1 : Int32) <<< (c.2.1 &&& 31)) - (1 : Int32))).toInt64)) <<< (((x >>> (c.2.1 &&& 31)) - (1 : Int32)).toInt64 &&& 63))
def rm_sizeOf : Room := { frames := 1, cells := 0, slots := 0, locals := 20 }
set_option maxHeartbeats 4000000 in
set_option maxRecDepth 100000 in
theorem C_sizeOf (l : Launch) (D : va_G) (ty : List (ClassId × FieldType)) (sz : Nat) (G : cw_G) (Z : va_W) (hG : cw_ok ty sz G Z) (c : cw_C) (x : Int32) : kp_R l yX0_sizeOf cX0_sizeOf 5 (some .long) rm_sizeOf D ty sz [.ref (aS G), .int x] (cw_W G c Z) (some (.long (F_sizeOf c x))) := by
  refine kp_bodyR (by decide) (Nat.le_of_ble_eq_true rfl) rfl ?_
  intro p e s m args below meth cd ls B hl hP hS
  obtain ⟨hx, hb, hml, hown, hlk, hr, hw, hE, hK, hsz⟩ := id B
  have hl : lv_has ls 5 [(0, .ref (aS G)), (1, .int x)] := hl
  refine lv_iload_n hx hb dX0_sizeOf_0 rfl (lv_at hl 1 rfl) ?_
  refine lv_aload_n hx hb dX0_sizeOf_1 rfl (lv_at hl 0 rfl) ?_
  refine kp_callVR (rm := rm_endlessPattern) (As := []) (rest := [.int x]) (r := some (.int (F_endlessPattern c))) (st1 := [.int (F_endlessPattern c), .int x]) B (C_endlessPattern l D ty sz G Z hG c) kt_endlessPattern kw_19 kw_20 kw_21 (kc_rcS B hP) (by decide) ⟨rfl, rfl⟩ (by decide) rfl (Nat.le_of_ble_eq_true rfl) hl.1 hP hS dX0_sizeOf_2 rfl ?_
  refine lv_icmp_ne (tgt := 12) hx hb dX0_sizeOf_5 (by decide) (fun q_1 => ?_) (fun q_1 => ?_)
  · refine lv_iload_n hx hb dX0_sizeOf_12 rfl (lv_at hl 1 rfl) ?_
    refine lv_aload_n hx hb dX0_sizeOf_13 rfl (lv_at hl 0 rfl) ?_
    refine kc_getS (j := 1) (v := .int c.2.1) B hP rfl (by decide) kw_11 dX0_sizeOf_14 ?_
    refine lv_ishr hx hb dX0_sizeOf_17 ?_
    refine lv_istore_n (lv' := [(2, .int (x >>> (c.2.1 &&& 31))), (0, .ref (aS G)), (1, .int x)]) hx hb dX0_sizeOf_18 rfl hl (by decide) rfl (fun ls hl => ?_)
    refine lv_iload_n hx hb dX0_sizeOf_19 rfl (lv_at hl 2 rfl) ?_
    refine lv_iconst (v := (1 : Int32)) hx hb dX0_sizeOf_20 (by decide) ?_
    refine lv_aload_n hx hb dX0_sizeOf_21 rfl (lv_at hl 1 rfl) ?_
    refine kc_getS (j := 1) (v := .int c.2.1) B hP rfl (by decide) kw_11 dX0_sizeOf_22 ?_
    refine lv_ishl hx hb dX0_sizeOf_25 ?_
    refine lv_iconst (v := (1 : Int32)) hx hb dX0_sizeOf_26 (by decide) ?_
    refine lv_isub hx hb dX0_sizeOf_27 ?_
    refine lv_iand hx hb dX0_sizeOf_28 ?_
    refine lv_i2l (v := (x &&& (((1 : Int32) <<< (c.2.1 &&& 31)) - (1 : Int32))).toInt64) hx hb dX0_sizeOf_29 rfl ?_
    refine lv_lstore_n (lv' := [(3, .long ((x &&& (((1 : Int32) <<< (c.2.1 &&& 31)) - (1 : Int32))).toInt64)), (2, .int (x >>> (c.2.1 &&& 31))), (0, .ref (aS G)), (1, .int x)]) hx hb dX0_sizeOf_30 rfl hl (by decide) rfl (fun ls hl => ?_)
    refine lv_iload_n hx hb dX0_sizeOf_31 rfl (lv_at hl 1 rfl) ?_
    refine lv_if_ne (tgt := 39) hx hb dX0_sizeOf_32 (by decide) (fun q_2 => ?_) (fun q_2 => ?_)
    · refine lv_lconst (v := (1 : Int64)) hx hb dX0_sizeOf_39 (by decide) ?_
      refine lv_aload_n hx hb dX0_sizeOf_40 rfl (lv_at hl 2 rfl) ?_
      refine kc_getS (j := 1) (v := .int c.2.1) B hP rfl (by decide) kw_11 dX0_sizeOf_41 ?_
      refine lv_lshl (v := (1 : Int64) <<< (c.2.1.toInt64 &&& 63)) hx hb dX0_sizeOf_44 rfl ?_
      refine lv_lload_n hx hb dX0_sizeOf_45 rfl (lv_at hl 0 rfl) ?_
      refine lv_ladd hx hb dX0_sizeOf_46 ?_
      refine lv_iload_n hx hb dX0_sizeOf_47 rfl (lv_at hl 1 rfl) ?_
      refine lv_iconst (v := (1 : Int32)) hx hb dX0_sizeOf_48 (by decide) ?_
      refine lv_isub hx hb dX0_sizeOf_49 ?_
      refine lv_lshl (v := (((1 : Int64) <<< (c.2.1.toInt64 &&& 63)) + ((x &&& (((1 : Int32) <<< (c.2.1 &&& 31)) - (1 : Int32))).toInt64)) <<< (((x >>> (c.2.1 &&& 31)) - (1 : Int32)).toInt64 &&& 63)) hx hb dX0_sizeOf_50 rfl ?_
      exact kp_retlR B (by simp only [F_sizeOf, if_neg q_1, if_neg q_2]) dX0_sizeOf_51
    · refine lv_lload_n hx hb dX0_sizeOf_35 rfl (lv_at hl 0 rfl) ?_
      refine lv_goto (tgt := 51) hx hb dX0_sizeOf_36 (by decide) ?_
      exact kp_retlR B (by simp only [F_sizeOf, if_neg q_1, if_pos q_2]) dX0_sizeOf_51
  · refine lv_ldc2 (v := cw_inf) hx hb hown (hw _ kw_22 rfl) dX0_sizeOf_8 ?_
    exact kp_retlR B (by simp only [F_sizeOf, if_pos q_1]) dX0_sizeOf_11
def F_numberOf (c : cw_C) (x : Int32) : Int64 :=
  if (x &&& (F_signBit c)) = (0 : Int32) then F_sizeOf c (x &&& ((F_signBit c) - (1 : Int32))) else -(F_sizeOf c (x &&& ((F_signBit c) - (1 : Int32))))
def rm_numberOf : Room := { frames := 2, cells := 0, slots := 0, locals := 44 }
set_option maxHeartbeats 4000000 in
set_option maxRecDepth 100000 in
theorem C_numberOf (l : Launch) (D : va_G) (ty : List (ClassId × FieldType)) (sz : Nat) (G : cw_G) (Z : va_W) (hG : cw_ok ty sz G Z) (c : cw_C) (x : Int32) : kp_R l yX0_numberOf cX0_numberOf 4 (some .long) rm_numberOf D ty sz [.ref (aS G), .int x] (cw_W G c Z) (some (.long (F_numberOf c x))) := by
  refine kp_bodyR (by decide) (Nat.le_of_ble_eq_true rfl) rfl ?_
  intro p e s m args below meth cd ls B hl hP hS
  obtain ⟨hx, hb, hml, hown, hlk, hr, hw, hE, hK, hsz⟩ := id B
  have hl : lv_has ls 4 [(0, .ref (aS G)), (1, .int x)] := hl
  refine lv_aload_n hx hb dX0_numberOf_0 rfl (lv_at hl 0 rfl) ?_
  refine lv_iload_n hx hb dX0_numberOf_1 rfl (lv_at hl 1 rfl) ?_
  refine lv_aload_n hx hb dX0_numberOf_2 rfl (lv_at hl 0 rfl) ?_
  refine kp_callVR (rm := rm_signBit) (As := []) (rest := [.int x, .ref (aS G)]) (r := some (.int (F_signBit c))) (st1 := [.int (F_signBit c), .int x, .ref (aS G)]) B (C_signBit l D ty sz G Z hG c) kt_signBit kw_14 kw_15 kw_16 (kc_rcS B hP) (by decide) ⟨rfl, rfl⟩ (by decide) rfl (Nat.le_of_ble_eq_true rfl) hl.1 hP hS dX0_numberOf_3 rfl ?_
  refine lv_iconst (v := (1 : Int32)) hx hb dX0_numberOf_6 (by decide) ?_
  refine lv_isub hx hb dX0_numberOf_7 ?_
  refine lv_iand hx hb dX0_numberOf_8 ?_
  refine kp_callVR (rm := rm_sizeOf) (As := [.int (x &&& ((F_signBit c) - (1 : Int32)))]) (rest := []) (r := some (.long (F_sizeOf c (x &&& ((F_signBit c) - (1 : Int32)))))) (st1 := [.long (F_sizeOf c (x &&& ((F_signBit c) - (1 : Int32))))]) B (C_sizeOf l D ty sz G Z hG c (x &&& ((F_signBit c) - (1 : Int32)))) kt_sizeOf kw_25 kw_26 kw_27 (kc_rcS B hP) (by decide) ⟨rfl, rfl⟩ (by decide) rfl (Nat.le_of_ble_eq_true rfl) hl.1 hP hS dX0_numberOf_9 rfl ?_
  refine lv_lstore_n (lv' := [(2, .long (F_sizeOf c (x &&& ((F_signBit c) - (1 : Int32))))), (0, .ref (aS G)), (1, .int x)]) hx hb dX0_numberOf_12 rfl hl (by decide) rfl (fun ls hl => ?_)
  refine lv_iload_n hx hb dX0_numberOf_13 rfl (lv_at hl 2 rfl) ?_
  refine lv_aload_n hx hb dX0_numberOf_14 rfl (lv_at hl 1 rfl) ?_
  refine kp_callVR (rm := rm_signBit) (As := []) (rest := [.int x]) (r := some (.int (F_signBit c))) (st1 := [.int (F_signBit c), .int x]) B (C_signBit l D ty sz G Z hG c) kt_signBit kw_14 kw_15 kw_16 (kc_rcS B hP) (by decide) ⟨rfl, rfl⟩ (by decide) rfl (Nat.le_of_ble_eq_true rfl) hl.1 hP hS dX0_numberOf_15 rfl ?_
  refine lv_iand hx hb dX0_numberOf_18 ?_
  refine lv_if_eq (tgt := 27) hx hb dX0_numberOf_19 (by decide) (fun q_1 => ?_) (fun q_1 => ?_)
  · refine lv_lload_n hx hb dX0_numberOf_27 rfl (lv_at hl 0 rfl) ?_
    exact kp_retlR B (by simp only [F_numberOf, if_pos q_1]) dX0_numberOf_28
  · refine lv_lload_n hx hb dX0_numberOf_22 rfl (lv_at hl 0 rfl) ?_
    refine lv_lneg hx hb dX0_numberOf_23 ?_
    refine lv_goto (tgt := 28) hx hb dX0_numberOf_24 (by decide) ?_
    exact kp_retlR B (by simp only [F_numberOf, if_neg q_1]) dX0_numberOf_28
theorem ki_up {i : Int32} {n : Nat} (h1 : 0 ≤ i.toInt) (h3 : i.toInt ≤ 62) (q : ¬ (62 : Int32) ≤ i) (h2 : 63 ≤ i.toInt + ((n + 1 : Nat) : Int)) : 0 ≤ (i + 1).toInt ∧ 63 ≤ (i + 1).toInt + (n : Int) ∧ (i + 1).toInt ≤ 62 := by
  have hq : i.toInt < 62 := by
    have h := Int32.not_le.mp q
    rw [Int32.lt_iff_toInt_lt] at h
    exact h
  have e : (i + 1).toInt = i.toInt + 1 := by
    rw [Int32.toInt_add, show (1 : Int32).toInt = 1 from rfl, Int.bmod_eq_of_le (by omega) (by omega)]
  rw [e]
  omega
theorem ki_dn {i : Int32} {n : Nat} (h1 : -1 ≤ i.toInt) (q : ¬ i < (0 : Int32)) (h2 : i.toInt + 2 ≤ ((n + 1 : Nat) : Int)) : -1 ≤ (i + (-1)).toInt ∧ (i + (-1)).toInt + 2 ≤ (n : Int) := by
  have hq : 0 ≤ i.toInt := by
    have h := Int32.not_lt.mp q
    rw [Int32.le_iff_toInt_le] at h
    exact h
  have hu := i.toInt_lt
  have e : (i + (-1)).toInt = i.toInt - 1 := by
    rw [Int32.toInt_add, show (-1 : Int32).toInt = -1 from rfl, Int.bmod_eq_of_le (by omega) (by omega)]
    omega
  rw [e]
  omega
def LF_extraBits (c : cw_C) (x : Int64) : Nat → Int32 → Int32
  | 0, i => 0
  | n + 1, i => if (62 : Int32) ≤ i then (62 : Int32) else (if ((2 : Int64) <<< (c.2.1.toInt64 &&& 63)) ≤ (x >>> (i.toInt64 &&& 63)) then LF_extraBits c x n (i + (1 : Int32)) else i)
def F_extraBits (c : cw_C) (x : Int64) : Int32 :=
  LF_extraBits c x 63 (0 : Int32)
def rm_extraBits : Room := { frames := 0, cells := 0, slots := 0, locals := 0 }
set_option maxHeartbeats 4000000 in
set_option maxRecDepth 100000 in
theorem LP_extraBits (l : Launch) (D : va_G) (ty : List (ClassId × FieldType)) (sz : Nat) (G : cw_G) (Z : va_W) (hG : cw_ok ty sz G Z) (c : cw_C) (x : Int64) {p : Program} {e : Env} {s : State} {m : MethodId} {args : Array Value} {below : List Frame} {meth : Method} {cd : Code} (B : kp_B p l s m args meth cd yX0_extraBits.cls cX0_extraBits 4 (some .int) D ty sz) (hP : va_P D vwCl (cw_W G c Z) s.heap) :
    ∀ (n : Nat) (i : Int32) (h1 : 0 ≤ i.toInt) (h2 : 63 ≤ i.toInt + n) (h3 : i.toInt ≤ 62), ∀ (ls : Array Slot), lv_has ls 4 [(0, .ref (aS G)), (1, .long x), (3, .int i)] → W p l e rm_extraBits s m args below meth cd s.heap [] 0 0 (MQ below (kp_QR (some (.int (LF_extraBits c x n i)))) args s 0 0 (fun _ => False)) (F0 m 2 ls []) := by
  obtain ⟨hx, hb, hml, hown, hlk, hr, hw, hE, hK, hsz⟩ := id B
  intro n
  induction n with
  | zero =>
    intro i h1 h2 h3
    exact absurd h2 (by omega)
  | succ n ih =>
    intro i h1 h2 h3 ls hl
    have hS : va_S (kp_A sz) s.heap s.heap [] := va_S.rf
    refine lv_iload_n hx hb dX0_extraBits_2 rfl (lv_at hl 2 rfl) ?_
    refine lv_bipush (v := (62 : Int32)) hx hb dX0_extraBits_3 (by decide) ?_
    refine lv_icmp_ge (tgt := 31) hx hb dX0_extraBits_5 (by decide) (fun q_1 => ?_) (fun q_1 => ?_)
    · refine lv_bipush (v := (62 : Int32)) hx hb dX0_extraBits_31 (by decide) ?_
      exact kp_retiR B (by simp only [LF_extraBits, if_pos q_1]) dX0_extraBits_33
    · refine lv_lload_n hx hb dX0_extraBits_8 rfl (lv_at hl 1 rfl) ?_
      refine lv_iload_n hx hb dX0_extraBits_9 rfl (lv_at hl 2 rfl) ?_
      refine lv_lshr (v := x >>> (i.toInt64 &&& 63)) hx hb dX0_extraBits_10 rfl ?_
      refine lv_ldc2 (v := (2 : Int64)) hx hb hown (hw _ kw_28 rfl) dX0_extraBits_11 ?_
      refine lv_aload_n hx hb dX0_extraBits_14 rfl (lv_at hl 0 rfl) ?_
      refine kc_getS (j := 1) (v := .int c.2.1) B hP rfl (by decide) kw_11 dX0_extraBits_15 ?_
      refine lv_lshl (v := (2 : Int64) <<< (c.2.1.toInt64 &&& 63)) hx hb dX0_extraBits_18 rfl ?_
      refine kp_lge (tgt := 25) hx hb dX0_extraBits_19 dX0_extraBits_20 (by decide) (fun q_2 => ?_) (fun q_2 => ?_)
      · refine lv_iinc (v := i + (1 : Int32)) (lv' := [(3, .int (i + (1 : Int32))), (0, .ref (aS G)), (1, .long x)]) hx hb dX0_extraBits_25 hl (k := 2) rfl rfl (by decide) rfl (fun ls hl => ?_)
        refine lv_goto (tgt := 2) hx hb dX0_extraBits_28 (by decide) ?_
        rw [show LF_extraBits c x (n + 1) i = LF_extraBits c x n (i + (1 : Int32)) from by simp only [LF_extraBits, if_neg q_1, if_pos q_2]]
        exact ih (i + (1 : Int32)) (ki_up h1 h3 q_1 h2).1 (ki_up h1 h3 q_1 h2).2.1 (ki_up h1 h3 q_1 h2).2.2 ls (lv_sub hl [1, 2, 0] rfl)
      · refine lv_iload_n hx hb dX0_extraBits_23 rfl (lv_at hl 2 rfl) ?_
        exact kp_retiR B (by simp only [LF_extraBits, if_neg q_1, if_neg q_2]) dX0_extraBits_24
set_option maxHeartbeats 4000000 in
set_option maxRecDepth 100000 in
theorem C_extraBits (l : Launch) (D : va_G) (ty : List (ClassId × FieldType)) (sz : Nat) (G : cw_G) (Z : va_W) (hG : cw_ok ty sz G Z) (c : cw_C) (x : Int64) : kp_R l yX0_extraBits cX0_extraBits 4 (some .int) rm_extraBits D ty sz [.ref (aS G), .long x] (cw_W G c Z) (some (.int (F_extraBits c x))) := by
  refine kp_bodyR (by decide) (Nat.le_of_ble_eq_true rfl) rfl ?_
  intro p e s m args below meth cd ls B hl hP hS
  obtain ⟨hx, hb, hml, hown, hlk, hr, hw, hE, hK, hsz⟩ := id B
  have hl : lv_has ls 4 [(0, .ref (aS G)), (1, .long x)] := hl
  refine lv_iconst (v := (0 : Int32)) hx hb dX0_extraBits_0 (by decide) ?_
  refine lv_istore_n (lv' := [(3, .int (0 : Int32)), (0, .ref (aS G)), (1, .long x)]) hx hb dX0_extraBits_1 rfl hl (by decide) rfl (fun ls hl => ?_)
  exact LP_extraBits l D ty sz G Z hG c x B hP 63 (0 : Int32) (by decide) (by decide) (by decide) ls (lv_sub hl [1, 2, 0] rfl)
def F_unsignedOf (c : cw_C) (x : Int64) : Int32 :=
  if x = cw_inf then F_endlessPattern c else ((F_extraBits c x) <<< (c.2.1 &&& 31)) + ((x >>> ((F_extraBits c x).toInt64 &&& 63)).toInt32)
def rm_unsignedOf : Room := { frames := 1, cells := 0, slots := 0, locals := 23 }
set_option maxHeartbeats 4000000 in
set_option maxRecDepth 100000 in
theorem C_unsignedOf (l : Launch) (D : va_G) (ty : List (ClassId × FieldType)) (sz : Nat) (G : cw_G) (Z : va_W) (hG : cw_ok ty sz G Z) (c : cw_C) (x : Int64) : kp_R l yX0_unsignedOf cX0_unsignedOf 4 (some .int) rm_unsignedOf D ty sz [.ref (aS G), .long x] (cw_W G c Z) (some (.int (F_unsignedOf c x))) := by
  refine kp_bodyR (by decide) (Nat.le_of_ble_eq_true rfl) rfl ?_
  intro p e s m args below meth cd ls B hl hP hS
  obtain ⟨hx, hb, hml, hown, hlk, hr, hw, hE, hK, hsz⟩ := id B
  have hl : lv_has ls 4 [(0, .ref (aS G)), (1, .long x)] := hl
  refine lv_lload_n hx hb dX0_unsignedOf_0 rfl (lv_at hl 1 rfl) ?_
  refine lv_ldc2 (v := cw_inf) hx hb hown (hw _ kw_22 rfl) dX0_unsignedOf_1 ?_
  refine kp_lne (tgt := 13) hx hb dX0_unsignedOf_4 dX0_unsignedOf_5 (by decide) (fun q_1 => ?_) (fun q_1 => ?_)
  · refine lv_aload_n hx hb dX0_unsignedOf_13 rfl (lv_at hl 0 rfl) ?_
    refine lv_lload_n hx hb dX0_unsignedOf_14 rfl (lv_at hl 1 rfl) ?_
    refine kp_callVR (rm := rm_extraBits) (As := [.long x]) (rest := []) (r := some (.int (F_extraBits c x))) (st1 := [.int (F_extraBits c x)]) B (C_extraBits l D ty sz G Z hG c x) kt_extraBits kw_31 kw_32 kw_33 (kc_rcS B hP) (by decide) ⟨rfl, rfl⟩ (by decide) rfl (Nat.le_of_ble_eq_true rfl) hl.1 hP hS dX0_unsignedOf_15 rfl ?_
    refine lv_istore_n (lv' := [(3, .int (F_extraBits c x)), (0, .ref (aS G)), (1, .long x)]) hx hb dX0_unsignedOf_18 rfl hl (by decide) rfl (fun ls hl => ?_)
    refine lv_iload_n hx hb dX0_unsignedOf_19 rfl (lv_at hl 0 rfl) ?_
    refine lv_aload_n hx hb dX0_unsignedOf_20 rfl (lv_at hl 1 rfl) ?_
    refine kc_getS (j := 1) (v := .int c.2.1) B hP rfl (by decide) kw_11 dX0_unsignedOf_21 ?_
    refine lv_ishl hx hb dX0_unsignedOf_24 ?_
    refine lv_lload_n hx hb dX0_unsignedOf_25 rfl (lv_at hl 2 rfl) ?_
    refine lv_iload_n hx hb dX0_unsignedOf_26 rfl (lv_at hl 0 rfl) ?_
    refine lv_lshr (v := x >>> ((F_extraBits c x).toInt64 &&& 63)) hx hb dX0_unsignedOf_27 rfl ?_
    refine lv_l2i (v := (x >>> ((F_extraBits c x).toInt64 &&& 63)).toInt32) hx hb dX0_unsignedOf_28 rfl ?_
    refine lv_iadd hx hb dX0_unsignedOf_29 ?_
    exact kp_retiR B (by simp only [F_unsignedOf, if_neg q_1]) dX0_unsignedOf_30
  · refine lv_aload_n hx hb dX0_unsignedOf_8 rfl (lv_at hl 0 rfl) ?_
    refine kp_callVR (rm := rm_endlessPattern) (As := []) (rest := []) (r := some (.int (F_endlessPattern c))) (st1 := [.int (F_endlessPattern c)]) B (C_endlessPattern l D ty sz G Z hG c) kt_endlessPattern kw_19 kw_20 kw_21 (kc_rcS B hP) (by decide) ⟨rfl, rfl⟩ (by decide) rfl (Nat.le_of_ble_eq_true rfl) hl.1 hP hS dX0_unsignedOf_9 rfl ?_
    exact kp_retiR B (by simp only [F_unsignedOf, if_pos q_1]) dX0_unsignedOf_12
def F_patternOf (c : cw_C) (x : Int64) : Int32 :=
  if (0 : Int64) ≤ x then F_unsignedOf c x else (F_signBit c) ||| (F_unsignedOf c (-x))
def rm_patternOf : Room := { frames := 2, cells := 0, slots := 0, locals := 46 }
set_option maxHeartbeats 4000000 in
set_option maxRecDepth 100000 in
theorem C_patternOf (l : Launch) (D : va_G) (ty : List (ClassId × FieldType)) (sz : Nat) (G : cw_G) (Z : va_W) (hG : cw_ok ty sz G Z) (c : cw_C) (x : Int64) : kp_R l yX0_patternOf cX0_patternOf 3 (some .int) rm_patternOf D ty sz [.ref (aS G), .long x] (cw_W G c Z) (some (.int (F_patternOf c x))) := by
  refine kp_bodyR (by decide) (Nat.le_of_ble_eq_true rfl) rfl ?_
  intro p e s m args below meth cd ls B hl hP hS
  obtain ⟨hx, hb, hml, hown, hlk, hr, hw, hE, hK, hsz⟩ := id B
  have hl : lv_has ls 3 [(0, .ref (aS G)), (1, .long x)] := hl
  refine lv_lload_n hx hb dX0_patternOf_0 rfl (lv_at hl 1 rfl) ?_
  refine lv_lconst (v := (0 : Int64)) hx hb dX0_patternOf_1 (by decide) ?_
  refine kp_lge (tgt := 20) hx hb dX0_patternOf_2 dX0_patternOf_3 (by decide) (fun q_1 => ?_) (fun q_1 => ?_)
  · refine lv_aload_n hx hb dX0_patternOf_20 rfl (lv_at hl 0 rfl) ?_
    refine lv_lload_n hx hb dX0_patternOf_21 rfl (lv_at hl 1 rfl) ?_
    refine kp_callVR (rm := rm_unsignedOf) (As := [.long x]) (rest := []) (r := some (.int (F_unsignedOf c x))) (st1 := [.int (F_unsignedOf c x)]) B (C_unsignedOf l D ty sz G Z hG c x) kt_unsignedOf kw_36 kw_37 kw_38 (kc_rcS B hP) (by decide) ⟨rfl, rfl⟩ (by decide) rfl (Nat.le_of_ble_eq_true rfl) hl.1 hP hS dX0_patternOf_22 rfl ?_
    exact kp_retiR B (by simp only [F_patternOf, if_pos q_1]) dX0_patternOf_25
  · refine lv_aload_n hx hb dX0_patternOf_6 rfl (lv_at hl 0 rfl) ?_
    refine kp_callVR (rm := rm_signBit) (As := []) (rest := []) (r := some (.int (F_signBit c))) (st1 := [.int (F_signBit c)]) B (C_signBit l D ty sz G Z hG c) kt_signBit kw_14 kw_15 kw_16 (kc_rcS B hP) (by decide) ⟨rfl, rfl⟩ (by decide) rfl (Nat.le_of_ble_eq_true rfl) hl.1 hP hS dX0_patternOf_7 rfl ?_
    refine lv_aload_n hx hb dX0_patternOf_10 rfl (lv_at hl 0 rfl) ?_
    refine lv_lload_n hx hb dX0_patternOf_11 rfl (lv_at hl 1 rfl) ?_
    refine lv_lneg hx hb dX0_patternOf_12 ?_
    refine kp_callVR (rm := rm_unsignedOf) (As := [.long (-x)]) (rest := [.int (F_signBit c)]) (r := some (.int (F_unsignedOf c (-x)))) (st1 := [.int (F_unsignedOf c (-x)), .int (F_signBit c)]) B (C_unsignedOf l D ty sz G Z hG c (-x)) kt_unsignedOf kw_36 kw_37 kw_38 (kc_rcS B hP) (by decide) ⟨rfl, rfl⟩ (by decide) rfl (Nat.le_of_ble_eq_true rfl) hl.1 hP hS dX0_patternOf_13 rfl ?_
    refine lv_ior hx hb dX0_patternOf_16 ?_
    refine lv_goto (tgt := 25) hx hb dX0_patternOf_17 (by decide) ?_
    exact kp_retiR B (by simp only [F_patternOf, if_neg q_1]) dX0_patternOf_25
def F_sizeNotAbove (c : cw_C) (x : Int64) : Int64 :=
  if x ≤ (F_sizeOf c ((F_endlessPattern c) - (1 : Int32))) then (x >>> ((F_extraBits c x).toInt64 &&& 63)) <<< ((F_extraBits c x).toInt64 &&& 63) else F_sizeOf c ((F_endlessPattern c) - (1 : Int32))
def rm_sizeNotAbove : Room := { frames := 2, cells := 0, slots := 0, locals := 44 }
set_option maxHeartbeats 4000000 in
set_option maxRecDepth 100000 in
theorem C_sizeNotAbove (l : Launch) (D : va_G) (ty : List (ClassId × FieldType)) (sz : Nat) (G : cw_G) (Z : va_W) (hG : cw_ok ty sz G Z) (c : cw_C) (x : Int64) : kp_R l yX0_sizeNotAbove cX0_sizeNotAbove 6 (some .long) rm_sizeNotAbove D ty sz [.ref (aS G), .long x] (cw_W G c Z) (some (.long (F_sizeNotAbove c x))) := by
  refine kp_bodyR (by decide) (Nat.le_of_ble_eq_true rfl) rfl ?_
  intro p e s m args below meth cd ls B hl hP hS
  obtain ⟨hx, hb, hml, hown, hlk, hr, hw, hE, hK, hsz⟩ := id B
  have hl : lv_has ls 6 [(0, .ref (aS G)), (1, .long x)] := hl
  refine lv_aload_n hx hb dX0_sizeNotAbove_0 rfl (lv_at hl 0 rfl) ?_
  refine lv_aload_n hx hb dX0_sizeNotAbove_1 rfl (lv_at hl 0 rfl) ?_
  refine kp_callVR (rm := rm_endlessPattern) (As := []) (rest := [.ref (aS G)]) (r := some (.int (F_endlessPattern c))) (st1 := [.int (F_endlessPattern c), .ref (aS G)]) B (C_endlessPattern l D ty sz G Z hG c) kt_endlessPattern kw_19 kw_20 kw_21 (kc_rcS B hP) (by decide) ⟨rfl, rfl⟩ (by decide) rfl (Nat.le_of_ble_eq_true rfl) hl.1 hP hS dX0_sizeNotAbove_2 rfl ?_
  refine lv_iconst (v := (1 : Int32)) hx hb dX0_sizeNotAbove_5 (by decide) ?_
  refine lv_isub hx hb dX0_sizeNotAbove_6 ?_
  refine kp_callVR (rm := rm_sizeOf) (As := [.int ((F_endlessPattern c) - (1 : Int32))]) (rest := []) (r := some (.long (F_sizeOf c ((F_endlessPattern c) - (1 : Int32))))) (st1 := [.long (F_sizeOf c ((F_endlessPattern c) - (1 : Int32)))]) B (C_sizeOf l D ty sz G Z hG c ((F_endlessPattern c) - (1 : Int32))) kt_sizeOf kw_25 kw_26 kw_27 (kc_rcS B hP) (by decide) ⟨rfl, rfl⟩ (by decide) rfl (Nat.le_of_ble_eq_true rfl) hl.1 hP hS dX0_sizeNotAbove_7 rfl ?_
  refine lv_lstore_n (lv' := [(3, .long (F_sizeOf c ((F_endlessPattern c) - (1 : Int32)))), (0, .ref (aS G)), (1, .long x)]) hx hb dX0_sizeNotAbove_10 rfl hl (by decide) rfl (fun ls hl => ?_)
  refine lv_lload_n hx hb dX0_sizeNotAbove_11 rfl (lv_at hl 2 rfl) ?_
  refine lv_lload_n hx hb dX0_sizeNotAbove_12 rfl (lv_at hl 0 rfl) ?_
  refine kp_lle (tgt := 19) hx hb dX0_sizeNotAbove_13 dX0_sizeNotAbove_14 (by decide) (fun q_1 => ?_) (fun q_1 => ?_)
  · refine lv_aload_n hx hb dX0_sizeNotAbove_19 rfl (lv_at hl 1 rfl) ?_
    refine lv_lload_n hx hb dX0_sizeNotAbove_20 rfl (lv_at hl 2 rfl) ?_
    refine kp_callVR (rm := rm_extraBits) (As := [.long x]) (rest := []) (r := some (.int (F_extraBits c x))) (st1 := [.int (F_extraBits c x)]) B (C_extraBits l D ty sz G Z hG c x) kt_extraBits kw_31 kw_32 kw_33 (kc_rcS B hP) (by decide) ⟨rfl, rfl⟩ (by decide) rfl (Nat.le_of_ble_eq_true rfl) hl.1 hP hS dX0_sizeNotAbove_21 rfl ?_
    refine lv_istore (lv' := [(5, .int (F_extraBits c x)), (3, .long (F_sizeOf c ((F_endlessPattern c) - (1 : Int32)))), (0, .ref (aS G)), (1, .long x)]) hx hb dX0_sizeNotAbove_24 hl (by decide) rfl (fun ls hl => ?_)
    refine lv_lload_n hx hb dX0_sizeNotAbove_26 rfl (lv_at hl 3 rfl) ?_
    refine lv_iload hx hb dX0_sizeNotAbove_27 (lv_at hl 0 rfl) ?_
    refine lv_lshr (v := x >>> ((F_extraBits c x).toInt64 &&& 63)) hx hb dX0_sizeNotAbove_29 rfl ?_
    refine lv_iload hx hb dX0_sizeNotAbove_30 (lv_at hl 0 rfl) ?_
    refine lv_lshl (v := (x >>> ((F_extraBits c x).toInt64 &&& 63)) <<< ((F_extraBits c x).toInt64 &&& 63)) hx hb dX0_sizeNotAbove_32 rfl ?_
    exact kp_retlR B (by simp only [F_sizeNotAbove, if_pos q_1]) dX0_sizeNotAbove_33
  · refine lv_lload_n hx hb dX0_sizeNotAbove_17 rfl (lv_at hl 0 rfl) ?_
    exact kp_retlR B (by simp only [F_sizeNotAbove, if_neg q_1]) dX0_sizeNotAbove_18
def F_sizeNotBelow (c : cw_C) (x : Int64) : Int64 :=
  if x ≤ (F_sizeOf c ((F_endlessPattern c) - (1 : Int32))) then (((x + ((1 : Int64) <<< ((F_extraBits c x).toInt64 &&& 63))) - (1 : Int64)) >>> ((F_extraBits c x).toInt64 &&& 63)) <<< ((F_extraBits c x).toInt64 &&& 63) else cw_inf
def rm_sizeNotBelow : Room := { frames := 2, cells := 0, slots := 0, locals := 44 }
set_option maxHeartbeats 4000000 in
set_option maxRecDepth 100000 in
theorem C_sizeNotBelow (l : Launch) (D : va_G) (ty : List (ClassId × FieldType)) (sz : Nat) (G : cw_G) (Z : va_W) (hG : cw_ok ty sz G Z) (c : cw_C) (x : Int64) : kp_R l yX0_sizeNotBelow cX0_sizeNotBelow 4 (some .long) rm_sizeNotBelow D ty sz [.ref (aS G), .long x] (cw_W G c Z) (some (.long (F_sizeNotBelow c x))) := by
  refine kp_bodyR (by decide) (Nat.le_of_ble_eq_true rfl) rfl ?_
  intro p e s m args below meth cd ls B hl hP hS
  obtain ⟨hx, hb, hml, hown, hlk, hr, hw, hE, hK, hsz⟩ := id B
  have hl : lv_has ls 4 [(0, .ref (aS G)), (1, .long x)] := hl
  refine lv_lload_n hx hb dX0_sizeNotBelow_0 rfl (lv_at hl 1 rfl) ?_
  refine lv_aload_n hx hb dX0_sizeNotBelow_1 rfl (lv_at hl 0 rfl) ?_
  refine lv_aload_n hx hb dX0_sizeNotBelow_2 rfl (lv_at hl 0 rfl) ?_
  refine kp_callVR (rm := rm_endlessPattern) (As := []) (rest := [.ref (aS G), .long x]) (r := some (.int (F_endlessPattern c))) (st1 := [.int (F_endlessPattern c), .ref (aS G), .long x]) B (C_endlessPattern l D ty sz G Z hG c) kt_endlessPattern kw_19 kw_20 kw_21 (kc_rcS B hP) (by decide) ⟨rfl, rfl⟩ (by decide) rfl (Nat.le_of_ble_eq_true rfl) hl.1 hP hS dX0_sizeNotBelow_3 rfl ?_
  refine lv_iconst (v := (1 : Int32)) hx hb dX0_sizeNotBelow_6 (by decide) ?_
  refine lv_isub hx hb dX0_sizeNotBelow_7 ?_
  refine kp_callVR (rm := rm_sizeOf) (As := [.int ((F_endlessPattern c) - (1 : Int32))]) (rest := [.long x]) (r := some (.long (F_sizeOf c ((F_endlessPattern c) - (1 : Int32))))) (st1 := [.long (F_sizeOf c ((F_endlessPattern c) - (1 : Int32))), .long x]) B (C_sizeOf l D ty sz G Z hG c ((F_endlessPattern c) - (1 : Int32))) kt_sizeOf kw_25 kw_26 kw_27 (kc_rcS B hP) (by decide) ⟨rfl, rfl⟩ (by decide) rfl (Nat.le_of_ble_eq_true rfl) hl.1 hP hS dX0_sizeNotBelow_8 rfl ?_
  refine kp_lle (tgt := 19) hx hb dX0_sizeNotBelow_11 dX0_sizeNotBelow_12 (by decide) (fun q_1 => ?_) (fun q_1 => ?_)
  · refine lv_aload_n hx hb dX0_sizeNotBelow_19 rfl (lv_at hl 0 rfl) ?_
    refine lv_lload_n hx hb dX0_sizeNotBelow_20 rfl (lv_at hl 1 rfl) ?_
    refine kp_callVR (rm := rm_extraBits) (As := [.long x]) (rest := []) (r := some (.int (F_extraBits c x))) (st1 := [.int (F_extraBits c x)]) B (C_extraBits l D ty sz G Z hG c x) kt_extraBits kw_31 kw_32 kw_33 (kc_rcS B hP) (by decide) ⟨rfl, rfl⟩ (by decide) rfl (Nat.le_of_ble_eq_true rfl) hl.1 hP hS dX0_sizeNotBelow_21 rfl ?_
    refine lv_istore_n (lv' := [(3, .int (F_extraBits c x)), (0, .ref (aS G)), (1, .long x)]) hx hb dX0_sizeNotBelow_24 rfl hl (by decide) rfl (fun ls hl => ?_)
    refine lv_lload_n hx hb dX0_sizeNotBelow_25 rfl (lv_at hl 2 rfl) ?_
    refine lv_lconst (v := (1 : Int64)) hx hb dX0_sizeNotBelow_26 (by decide) ?_
    refine lv_iload_n hx hb dX0_sizeNotBelow_27 rfl (lv_at hl 0 rfl) ?_
    refine lv_lshl (v := (1 : Int64) <<< ((F_extraBits c x).toInt64 &&& 63)) hx hb dX0_sizeNotBelow_28 rfl ?_
    refine lv_ladd hx hb dX0_sizeNotBelow_29 ?_
    refine lv_lconst (v := (1 : Int64)) hx hb dX0_sizeNotBelow_30 (by decide) ?_
    refine lv_lsub hx hb dX0_sizeNotBelow_31 ?_
    refine lv_iload_n hx hb dX0_sizeNotBelow_32 rfl (lv_at hl 0 rfl) ?_
    refine lv_lshr (v := ((x + ((1 : Int64) <<< ((F_extraBits c x).toInt64 &&& 63))) - (1 : Int64)) >>> ((F_extraBits c x).toInt64 &&& 63)) hx hb dX0_sizeNotBelow_33 rfl ?_
    refine lv_iload_n hx hb dX0_sizeNotBelow_34 rfl (lv_at hl 0 rfl) ?_
    refine lv_lshl (v := (((x + ((1 : Int64) <<< ((F_extraBits c x).toInt64 &&& 63))) - (1 : Int64)) >>> ((F_extraBits c x).toInt64 &&& 63)) <<< ((F_extraBits c x).toInt64 &&& 63)) hx hb dX0_sizeNotBelow_35 rfl ?_
    exact kp_retlR B (by simp only [F_sizeNotBelow, if_pos q_1]) dX0_sizeNotBelow_36
  · refine lv_ldc2 (v := cw_inf) hx hb hown (hw _ kw_22 rfl) dX0_sizeNotBelow_15 ?_
    exact kp_retlR B (by simp only [F_sizeNotBelow, if_neg q_1]) dX0_sizeNotBelow_18
def F_notAbove (c : cw_C) (x : Int64) : Int64 :=
  if (0 : Int64) ≤ x then F_sizeNotAbove c x else -(F_sizeNotBelow c (-x))
def rm_notAbove : Room := { frames := 3, cells := 0, slots := 0, locals := 69 }
set_option maxHeartbeats 4000000 in
set_option maxRecDepth 100000 in
theorem C_notAbove (l : Launch) (D : va_G) (ty : List (ClassId × FieldType)) (sz : Nat) (G : cw_G) (Z : va_W) (hG : cw_ok ty sz G Z) (c : cw_C) (x : Int64) : kp_R l yX0_notAbove cX0_notAbove 3 (some .long) rm_notAbove D ty sz [.ref (aS G), .long x] (cw_W G c Z) (some (.long (F_notAbove c x))) := by
  refine kp_bodyR (by decide) (Nat.le_of_ble_eq_true rfl) rfl ?_
  intro p e s m args below meth cd ls B hl hP hS
  obtain ⟨hx, hb, hml, hown, hlk, hr, hw, hE, hK, hsz⟩ := id B
  have hl : lv_has ls 3 [(0, .ref (aS G)), (1, .long x)] := hl
  refine lv_lload_n hx hb dX0_notAbove_0 rfl (lv_at hl 1 rfl) ?_
  refine lv_lconst (v := (0 : Int64)) hx hb dX0_notAbove_1 (by decide) ?_
  refine kp_lge (tgt := 16) hx hb dX0_notAbove_2 dX0_notAbove_3 (by decide) (fun q_1 => ?_) (fun q_1 => ?_)
  · refine lv_aload_n hx hb dX0_notAbove_16 rfl (lv_at hl 0 rfl) ?_
    refine lv_lload_n hx hb dX0_notAbove_17 rfl (lv_at hl 1 rfl) ?_
    refine kp_callVR (rm := rm_sizeNotAbove) (As := [.long x]) (rest := []) (r := some (.long (F_sizeNotAbove c x))) (st1 := [.long (F_sizeNotAbove c x)]) B (C_sizeNotAbove l D ty sz G Z hG c x) kt_sizeNotAbove kw_41 kw_42 kw_43 (kc_rcS B hP) (by decide) ⟨rfl, rfl⟩ (by decide) rfl (Nat.le_of_ble_eq_true rfl) hl.1 hP hS dX0_notAbove_18 rfl ?_
    exact kp_retlR B (by simp only [F_notAbove, if_pos q_1]) dX0_notAbove_21
  · refine lv_aload_n hx hb dX0_notAbove_6 rfl (lv_at hl 0 rfl) ?_
    refine lv_lload_n hx hb dX0_notAbove_7 rfl (lv_at hl 1 rfl) ?_
    refine lv_lneg hx hb dX0_notAbove_8 ?_
    refine kp_callVR (rm := rm_sizeNotBelow) (As := [.long (-x)]) (rest := []) (r := some (.long (F_sizeNotBelow c (-x)))) (st1 := [.long (F_sizeNotBelow c (-x))]) B (C_sizeNotBelow l D ty sz G Z hG c (-x)) kt_sizeNotBelow kw_46 kw_47 kw_48 (kc_rcS B hP) (by decide) ⟨rfl, rfl⟩ (by decide) rfl (Nat.le_of_ble_eq_true rfl) hl.1 hP hS dX0_notAbove_9 rfl ?_
    refine lv_lneg hx hb dX0_notAbove_12 ?_
    refine lv_goto (tgt := 21) hx hb dX0_notAbove_13 (by decide) ?_
    exact kp_retlR B (by simp only [F_notAbove, if_neg q_1]) dX0_notAbove_21
def F_notBelow (c : cw_C) (x : Int64) : Int64 :=
  -(F_notAbove c (-x))
def rm_notBelow : Room := { frames := 4, cells := 0, slots := 0, locals := 91 }
set_option maxHeartbeats 4000000 in
set_option maxRecDepth 100000 in
theorem C_notBelow (l : Launch) (D : va_G) (ty : List (ClassId × FieldType)) (sz : Nat) (G : cw_G) (Z : va_W) (hG : cw_ok ty sz G Z) (c : cw_C) (x : Int64) : kp_R l yX0_notBelow cX0_notBelow 3 (some .long) rm_notBelow D ty sz [.ref (aS G), .long x] (cw_W G c Z) (some (.long (F_notBelow c x))) := by
  refine kp_bodyR (by decide) (Nat.le_of_ble_eq_true rfl) rfl ?_
  intro p e s m args below meth cd ls B hl hP hS
  obtain ⟨hx, hb, hml, hown, hlk, hr, hw, hE, hK, hsz⟩ := id B
  have hl : lv_has ls 3 [(0, .ref (aS G)), (1, .long x)] := hl
  refine lv_aload_n hx hb dX0_notBelow_0 rfl (lv_at hl 0 rfl) ?_
  refine lv_lload_n hx hb dX0_notBelow_1 rfl (lv_at hl 1 rfl) ?_
  refine lv_lneg hx hb dX0_notBelow_2 ?_
  refine kp_callVR (rm := rm_notAbove) (As := [.long (-x)]) (rest := []) (r := some (.long (F_notAbove c (-x)))) (st1 := [.long (F_notAbove c (-x))]) B (C_notAbove l D ty sz G Z hG c (-x)) kt_notAbove kw_51 kw_52 kw_53 (kc_rcS B hP) (by decide) ⟨rfl, rfl⟩ (by decide) rfl (Nat.le_of_ble_eq_true rfl) hl.1 hP hS dX0_notBelow_3 rfl ?_
  refine lv_lneg hx hb dX0_notBelow_6 ?_
  exact kp_retlR B rfl dX0_notBelow_7
def F_patternOfHalf (c : cw_C) (x : Int64) : Int32 :=
  if (if (x - ((2 : Int64) * (F_notAbove c (x >>> ((1 : Int32).toInt64 &&& 63))))) < (((2 : Int64) * (F_notBelow c (x - (x >>> ((1 : Int32).toInt64 &&& 63))))) - x) then (1 : Int32) else (if (x - ((2 : Int64) * (F_notAbove c (x >>> ((1 : Int32).toInt64 &&& 63))))) = (((2 : Int64) * (F_notBelow c (x - (x >>> ((1 : Int32).toInt64 &&& 63))))) - x) then (if ((F_patternOf c (F_notAbove c (x >>> ((1 : Int32).toInt64 &&& 63)))) &&& (1 : Int32)) = (0 : Int32) then (1 : Int32) else (0 : Int32)) else (0 : Int32))) = (0 : Int32) then F_patternOf c (F_notBelow c (x - (x >>> ((1 : Int32).toInt64 &&& 63)))) else F_patternOf c (F_notAbove c (x >>> ((1 : Int32).toInt64 &&& 63)))
def rm_patternOfHalf : Room := { frames := 5, cells := 0, slots := 0, locals := 113 }
set_option maxHeartbeats 4000000 in
set_option maxRecDepth 100000 in
theorem C_patternOfHalf (l : Launch) (D : va_G) (ty : List (ClassId × FieldType)) (sz : Nat) (G : cw_G) (Z : va_W) (hG : cw_ok ty sz G Z) (c : cw_C) (x : Int64) : kp_R l yX0_patternOfHalf cX0_patternOfHalf 13 (some .int) rm_patternOfHalf D ty sz [.ref (aS G), .long x] (cw_W G c Z) (some (.int (F_patternOfHalf c x))) := by
  refine kp_bodyR (by decide) (Nat.le_of_ble_eq_true rfl) rfl ?_
  intro p e s m args below meth cd ls B hl hP hS
  obtain ⟨hx, hb, hml, hown, hlk, hr, hw, hE, hK, hsz⟩ := id B
  have hl : lv_has ls 13 [(0, .ref (aS G)), (1, .long x)] := hl
  refine lv_aload_n hx hb dX0_patternOfHalf_0 rfl (lv_at hl 0 rfl) ?_
  refine lv_lload_n hx hb dX0_patternOfHalf_1 rfl (lv_at hl 1 rfl) ?_
  refine lv_iconst (v := (1 : Int32)) hx hb dX0_patternOfHalf_2 (by decide) ?_
  refine lv_lshr (v := x >>> ((1 : Int32).toInt64 &&& 63)) hx hb dX0_patternOfHalf_3 rfl ?_
  refine kp_callVR (rm := rm_notAbove) (As := [.long (x >>> ((1 : Int32).toInt64 &&& 63))]) (rest := []) (r := some (.long (F_notAbove c (x >>> ((1 : Int32).toInt64 &&& 63))))) (st1 := [.long (F_notAbove c (x >>> ((1 : Int32).toInt64 &&& 63)))]) B (C_notAbove l D ty sz G Z hG c (x >>> ((1 : Int32).toInt64 &&& 63))) kt_notAbove kw_51 kw_52 kw_53 (kc_rcS B hP) (by decide) ⟨rfl, rfl⟩ (by decide) rfl (Nat.le_of_ble_eq_true rfl) hl.1 hP hS dX0_patternOfHalf_4 rfl ?_
  refine lv_lstore_n (lv' := [(3, .long (F_notAbove c (x >>> ((1 : Int32).toInt64 &&& 63)))), (0, .ref (aS G)), (1, .long x)]) hx hb dX0_patternOfHalf_7 rfl hl (by decide) rfl (fun ls hl => ?_)
  refine lv_aload_n hx hb dX0_patternOfHalf_8 rfl (lv_at hl 1 rfl) ?_
  refine lv_lload_n hx hb dX0_patternOfHalf_9 rfl (lv_at hl 2 rfl) ?_
  refine lv_lload_n hx hb dX0_patternOfHalf_10 rfl (lv_at hl 2 rfl) ?_
  refine lv_iconst (v := (1 : Int32)) hx hb dX0_patternOfHalf_11 (by decide) ?_
  refine lv_lshr (v := x >>> ((1 : Int32).toInt64 &&& 63)) hx hb dX0_patternOfHalf_12 rfl ?_
  refine lv_lsub hx hb dX0_patternOfHalf_13 ?_
  refine kp_callVR (rm := rm_notBelow) (As := [.long (x - (x >>> ((1 : Int32).toInt64 &&& 63)))]) (rest := []) (r := some (.long (F_notBelow c (x - (x >>> ((1 : Int32).toInt64 &&& 63)))))) (st1 := [.long (F_notBelow c (x - (x >>> ((1 : Int32).toInt64 &&& 63))))]) B (C_notBelow l D ty sz G Z hG c (x - (x >>> ((1 : Int32).toInt64 &&& 63)))) kt_notBelow kw_56 kw_57 kw_58 (kc_rcS B hP) (by decide) ⟨rfl, rfl⟩ (by decide) rfl (Nat.le_of_ble_eq_true rfl) hl.1 hP hS dX0_patternOfHalf_14 rfl ?_
  refine lv_lstore (lv' := [(5, .long (F_notBelow c (x - (x >>> ((1 : Int32).toInt64 &&& 63))))), (3, .long (F_notAbove c (x >>> ((1 : Int32).toInt64 &&& 63)))), (0, .ref (aS G)), (1, .long x)]) hx hb dX0_patternOfHalf_17 hl (by decide) rfl (fun ls hl => ?_)
  refine lv_lload_n hx hb dX0_patternOfHalf_19 rfl (lv_at hl 3 rfl) ?_
  refine lv_ldc2 (v := (2 : Int64)) hx hb hown (hw _ kw_28 rfl) dX0_patternOfHalf_20 ?_
  refine lv_lload_n hx hb dX0_patternOfHalf_23 rfl (lv_at hl 1 rfl) ?_
  refine lv_lmul hx hb dX0_patternOfHalf_24 ?_
  refine lv_lsub hx hb dX0_patternOfHalf_25 ?_
  refine lv_lstore (lv' := [(7, .long (x - ((2 : Int64) * (F_notAbove c (x >>> ((1 : Int32).toInt64 &&& 63)))))), (5, .long (F_notBelow c (x - (x >>> ((1 : Int32).toInt64 &&& 63))))), (3, .long (F_notAbove c (x >>> ((1 : Int32).toInt64 &&& 63)))), (0, .ref (aS G)), (1, .long x)]) hx hb dX0_patternOfHalf_26 hl (by decide) rfl (fun ls hl => ?_)
  refine lv_ldc2 (v := (2 : Int64)) hx hb hown (hw _ kw_28 rfl) dX0_patternOfHalf_28 ?_
  refine lv_lload hx hb dX0_patternOfHalf_31 (lv_at hl 1 rfl) ?_
  refine lv_lmul hx hb dX0_patternOfHalf_33 ?_
  refine lv_lload_n hx hb dX0_patternOfHalf_34 rfl (lv_at hl 4 rfl) ?_
  refine lv_lsub hx hb dX0_patternOfHalf_35 ?_
  refine lv_lstore (lv' := [(9, .long (((2 : Int64) * (F_notBelow c (x - (x >>> ((1 : Int32).toInt64 &&& 63))))) - x)), (7, .long (x - ((2 : Int64) * (F_notAbove c (x >>> ((1 : Int32).toInt64 &&& 63)))))), (5, .long (F_notBelow c (x - (x >>> ((1 : Int32).toInt64 &&& 63))))), (3, .long (F_notAbove c (x >>> ((1 : Int32).toInt64 &&& 63)))), (0, .ref (aS G)), (1, .long x)]) hx hb dX0_patternOfHalf_36 hl (by decide) rfl (fun ls hl => ?_)
  refine lv_aload_n hx hb dX0_patternOfHalf_38 rfl (lv_at hl 4 rfl) ?_
  refine lv_lload_n hx hb dX0_patternOfHalf_39 rfl (lv_at hl 3 rfl) ?_
  refine kp_callVR (rm := rm_patternOf) (As := [.long (F_notAbove c (x >>> ((1 : Int32).toInt64 &&& 63)))]) (rest := []) (r := some (.int (F_patternOf c (F_notAbove c (x >>> ((1 : Int32).toInt64 &&& 63)))))) (st1 := [.int (F_patternOf c (F_notAbove c (x >>> ((1 : Int32).toInt64 &&& 63))))]) B (C_patternOf l D ty sz G Z hG c (F_notAbove c (x >>> ((1 : Int32).toInt64 &&& 63)))) kt_patternOf kw_61 kw_62 kw_63 (kc_rcS B hP) (by decide) ⟨rfl, rfl⟩ (by decide) rfl (Nat.le_of_ble_eq_true rfl) hl.1 hP hS dX0_patternOfHalf_40 rfl ?_
  refine lv_istore (lv' := [(11, .int (F_patternOf c (F_notAbove c (x >>> ((1 : Int32).toInt64 &&& 63))))), (9, .long (((2 : Int64) * (F_notBelow c (x - (x >>> ((1 : Int32).toInt64 &&& 63))))) - x)), (7, .long (x - ((2 : Int64) * (F_notAbove c (x >>> ((1 : Int32).toInt64 &&& 63)))))), (5, .long (F_notBelow c (x - (x >>> ((1 : Int32).toInt64 &&& 63))))), (3, .long (F_notAbove c (x >>> ((1 : Int32).toInt64 &&& 63)))), (0, .ref (aS G)), (1, .long x)]) hx hb dX0_patternOfHalf_43 hl (by decide) rfl (fun ls hl => ?_)
  refine lv_lload hx hb dX0_patternOfHalf_45 (lv_at hl 2 rfl) ?_
  refine lv_lload hx hb dX0_patternOfHalf_47 (lv_at hl 1 rfl) ?_
  have hJ73 : W p l e rm_patternOfHalf s m args below meth cd s.heap [] 0 0 (MQ below (kp_QR (some (.int (F_patternOfHalf c x)))) args s 0 0 (fun _ => False)) (F0 m 73 ls [.int (if (x - ((2 : Int64) * (F_notAbove c (x >>> ((1 : Int32).toInt64 &&& 63))))) < (((2 : Int64) * (F_notBelow c (x - (x >>> ((1 : Int32).toInt64 &&& 63))))) - x) then (1 : Int32) else (if (x - ((2 : Int64) * (F_notAbove c (x >>> ((1 : Int32).toInt64 &&& 63))))) = (((2 : Int64) * (F_notBelow c (x - (x >>> ((1 : Int32).toInt64 &&& 63))))) - x) then (if ((F_patternOf c (F_notAbove c (x >>> ((1 : Int32).toInt64 &&& 63)))) &&& (1 : Int32)) = (0 : Int32) then (1 : Int32) else (0 : Int32)) else (0 : Int32)))]) := by
    refine lv_istore (lv' := [(12, .int (if (x - ((2 : Int64) * (F_notAbove c (x >>> ((1 : Int32).toInt64 &&& 63))))) < (((2 : Int64) * (F_notBelow c (x - (x >>> ((1 : Int32).toInt64 &&& 63))))) - x) then (1 : Int32) else (if (x - ((2 : Int64) * (F_notAbove c (x >>> ((1 : Int32).toInt64 &&& 63))))) = (((2 : Int64) * (F_notBelow c (x - (x >>> ((1 : Int32).toInt64 &&& 63))))) - x) then (if ((F_patternOf c (F_notAbove c (x >>> ((1 : Int32).toInt64 &&& 63)))) &&& (1 : Int32)) = (0 : Int32) then (1 : Int32) else (0 : Int32)) else (0 : Int32)))), (11, .int (F_patternOf c (F_notAbove c (x >>> ((1 : Int32).toInt64 &&& 63))))), (9, .long (((2 : Int64) * (F_notBelow c (x - (x >>> ((1 : Int32).toInt64 &&& 63))))) - x)), (7, .long (x - ((2 : Int64) * (F_notAbove c (x >>> ((1 : Int32).toInt64 &&& 63)))))), (5, .long (F_notBelow c (x - (x >>> ((1 : Int32).toInt64 &&& 63))))), (3, .long (F_notAbove c (x >>> ((1 : Int32).toInt64 &&& 63)))), (0, .ref (aS G)), (1, .long x)]) hx hb dX0_patternOfHalf_73 hl (by decide) rfl (fun ls hl => ?_)
    refine lv_iload hx hb dX0_patternOfHalf_75 (lv_at hl 0 rfl) ?_
    refine lv_if_eq (tgt := 85) hx hb dX0_patternOfHalf_77 (by decide) (fun q_1 => ?_) (fun q_1 => ?_)
    · refine lv_aload_n hx hb dX0_patternOfHalf_85 rfl (lv_at hl 6 rfl) ?_
      refine lv_lload hx hb dX0_patternOfHalf_86 (lv_at hl 4 rfl) ?_
      refine kp_callVR (rm := rm_patternOf) (As := [.long (F_notBelow c (x - (x >>> ((1 : Int32).toInt64 &&& 63))))]) (rest := []) (r := some (.int (F_patternOf c (F_notBelow c (x - (x >>> ((1 : Int32).toInt64 &&& 63))))))) (st1 := [.int (F_patternOf c (F_notBelow c (x - (x >>> ((1 : Int32).toInt64 &&& 63)))))]) B (C_patternOf l D ty sz G Z hG c (F_notBelow c (x - (x >>> ((1 : Int32).toInt64 &&& 63))))) kt_patternOf kw_61 kw_62 kw_63 (kc_rcS B hP) (by decide) ⟨rfl, rfl⟩ (by decide) rfl (Nat.le_of_ble_eq_true rfl) hl.1 hP hS dX0_patternOfHalf_88 rfl ?_
      exact kp_retiR B (by simp only [F_patternOfHalf, if_pos q_1]) dX0_patternOfHalf_91
    · refine lv_iload hx hb dX0_patternOfHalf_80 (lv_at hl 1 rfl) ?_
      refine lv_goto (tgt := 91) hx hb dX0_patternOfHalf_82 (by decide) ?_
      exact kp_retiR B (by simp only [F_patternOfHalf, if_neg q_1]) dX0_patternOfHalf_91
  refine kp_llt (tgt := 68) hx hb dX0_patternOfHalf_49 dX0_patternOfHalf_50 (by decide) (fun q_2 => ?_) (fun q_2 => ?_)
  · refine lv_iconst (v := (1 : Int32)) hx hb dX0_patternOfHalf_68 (by decide) ?_
    refine lv_goto (tgt := 73) hx hb dX0_patternOfHalf_69 (by decide) ?_
    exact kp_jI (by simp only [if_pos q_2]) hJ73
  · refine lv_lload hx hb dX0_patternOfHalf_53 (lv_at hl 2 rfl) ?_
    refine lv_lload hx hb dX0_patternOfHalf_55 (lv_at hl 1 rfl) ?_
    refine kp_lne (tgt := 72) hx hb dX0_patternOfHalf_57 dX0_patternOfHalf_58 (by decide) (fun q_3 => ?_) (fun q_3 => ?_)
    · refine lv_iconst (v := (0 : Int32)) hx hb dX0_patternOfHalf_72 (by decide) ?_
      exact kp_jI (by simp only [if_neg q_2, if_neg q_3]) hJ73
    · refine lv_iload hx hb dX0_patternOfHalf_61 (lv_at hl 0 rfl) ?_
      refine lv_iconst (v := (1 : Int32)) hx hb dX0_patternOfHalf_63 (by decide) ?_
      refine lv_iand hx hb dX0_patternOfHalf_64 ?_
      refine lv_if_ne (tgt := 72) hx hb dX0_patternOfHalf_65 (by decide) (fun q_4 => ?_) (fun q_4 => ?_)
      · refine lv_iconst (v := (0 : Int32)) hx hb dX0_patternOfHalf_72 (by decide) ?_
        exact kp_jI (by simp only [if_neg q_2, if_pos q_3, if_neg q_4]) hJ73
      · refine lv_iconst (v := (1 : Int32)) hx hb dX0_patternOfHalf_68 (by decide) ?_
        refine lv_goto (tgt := 73) hx hb dX0_patternOfHalf_69 (by decide) ?_
        exact kp_jI (by simp only [if_neg q_2, if_pos q_3, if_pos q_4]) hJ73
