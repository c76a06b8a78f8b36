def S_become (c : cw_C) (k : Nat) (x : Int64) (y : Int64) : cw_C :=
  cw_s1 (cw_s0 c k x) k y
def rm_become : Room := { frames := 0, cells := 0, slots := 0, locals := 0 }
set_option maxHeartbeats 4000000 in
set_option maxRecDepth 100000 in
theorem C_become (l : Launch) (D : va_G) (ty : List (ClassId × FieldType)) (sz : Nat) (G : cw_G) (Z : va_W) (hG : cw_ok ty sz G Z) (c : cw_C) (k : Nat) (hk : k < 10) (x : Int64) (y : Int64) : kp_M l yX1_become cX1_become 5 none rm_become D ty sz [.ref (aN G k), .long x, .long y] (cw_W G c Z) (none) (cw_W G (S_become c k x y) Z) := by
  refine kp_body (by decide) (Nat.le_of_ble_eq_true rfl) rfl ?_
  intro p e s m args below meth cd ls B hin hl hP hS
  obtain ⟨hx, hb, hml, hown, hlk, hr, hw, hE, hK, hsz⟩ := id B
  have hl : lv_has ls 5 [(0, .ref (aN G k)), (1, .long x), (3, .long y)] := hl
  refine lv_aload_n hx hb dX1_become_0 rfl (lv_at hl 0 rfl) ?_
  refine lv_lload_n hx hb dX1_become_1 rfl (lv_at hl 1 rfl) ?_
  refine kc_putN0 (k := k) (v := x) B hG hP hS hk kw_1 dX1_become_2 (fun H locs hP hS => ?_)
  refine lv_aload_n hx hb dX1_become_5 rfl (lv_at hl 0 rfl) ?_
  refine lv_lload_n hx hb dX1_become_6 rfl (lv_at hl 2 rfl) ?_
  refine kc_putN1 (k := k) (v := y) B hG hP hS hk kw_2 dX1_become_7 (fun H locs hP hS => ?_)
  exact kp_retv B hP hS rfl dX1_become_10
def S_becomeEmpty (c : cw_C) (k : Nat) : cw_C :=
  cw_s1 (cw_s0 c k (1 : Int64)) k (0 : Int64)
def rm_becomeEmpty : Room := { frames := 0, cells := 0, slots := 0, locals := 0 }
set_option maxHeartbeats 4000000 in
set_option maxRecDepth 100000 in
theorem C_becomeEmpty (l : Launch) (D : va_G) (ty : List (ClassId × FieldType)) (sz : Nat) (G : cw_G) (Z : va_W) (hG : cw_ok ty sz G Z) (c : cw_C) (k : Nat) (hk : k < 10) : kp_M l yX1_becomeEmpty cX1_becomeEmpty 1 none rm_becomeEmpty D ty sz [.ref (aN G k)] (cw_W G c Z) (none) (cw_W G (S_becomeEmpty c k) Z) := by
  refine kp_body (by decide) (Nat.le_of_ble_eq_true rfl) rfl ?_
  intro p e s m args below meth cd ls B hin hl hP hS
  obtain ⟨hx, hb, hml, hown, hlk, hr, hw, hE, hK, hsz⟩ := id B
  have hl : lv_has ls 1 [(0, .ref (aN G k))] := hl
  refine lv_aload_n hx hb dX1_becomeEmpty_0 rfl (lv_at hl 0 rfl) ?_
  refine lv_lconst (v := (1 : Int64)) hx hb dX1_becomeEmpty_1 (by decide) ?_
  refine kc_putN0 (k := k) (v := (1 : Int64)) B hG hP hS hk kw_1 dX1_becomeEmpty_2 (fun H locs hP hS => ?_)
  refine lv_aload_n hx hb dX1_becomeEmpty_5 rfl (lv_at hl 0 rfl) ?_
  refine lv_lconst (v := (0 : Int64)) hx hb dX1_becomeEmpty_6 (by decide) ?_
  refine kc_putN1 (k := k) (v := (0 : Int64)) B hG hP hS hk kw_2 dX1_becomeEmpty_7 (fun H locs hP hS => ?_)
  exact kp_retv B hP hS rfl dX1_becomeEmpty_10
def F_isEmpty (c : cw_C) (k : Nat) : Int32 :=
  if ((c.2.2 k).1) ≤ ((c.2.2 k).2) then (0 : Int32) else (1 : Int32)
def rm_isEmpty : Room := { frames := 0, cells := 0, slots := 0, locals := 0 }
set_option maxHeartbeats 4000000 in
set_option maxRecDepth 100000 in
theorem C_isEmpty (l : Launch) (D : va_G) (ty : List (ClassId × FieldType)) (sz : Nat) (G : cw_G) (Z : va_W) (hG : cw_ok ty sz G Z) (c : cw_C) (k : Nat) (hk : k < 10) : kp_R l yX1_isEmpty cX1_isEmpty 1 (some .boolean) rm_isEmpty D ty sz [.ref (aN G k)] (cw_W G c Z) (some (.int (F_isEmpty c k))) := by
  refine kp_bodyR (by decide) (Nat.le_of_ble_eq_true rfl) rfl ?_
  intro p e s m args below meth cd ls B hl hP hS
  obtain ⟨hx, hb, hml, hown, hlk, hr, hw, hE, hK, hsz⟩ := id B
  have hl : lv_has ls 1 [(0, .ref (aN G k))] := hl
  refine lv_aload_n hx hb dX1_isEmpty_0 rfl (lv_at hl 0 rfl) ?_
  refine kc_getN (j := 0) (k := k) (v := .long ((c.2.2 k).1)) B hP hk rfl (by decide) kw_1 dX1_isEmpty_1 ?_
  refine lv_aload_n hx hb dX1_isEmpty_4 rfl (lv_at hl 0 rfl) ?_
  refine kc_getN (j := 1) (k := k) (v := .long ((c.2.2 k).2)) B hP hk rfl (by decide) kw_2 dX1_isEmpty_5 ?_
  refine kp_lle (tgt := 16) hx hb dX1_isEmpty_8 dX1_isEmpty_9 (by decide) (fun q_1 => ?_) (fun q_1 => ?_)
  · refine lv_iconst (v := (0 : Int32)) hx hb dX1_isEmpty_16 (by decide) ?_
    exact kp_retzR B (by simp only [F_isEmpty, if_pos q_1]) (Or.inl rfl) dX1_isEmpty_17
  · refine lv_iconst (v := (1 : Int32)) hx hb dX1_isEmpty_12 (by decide) ?_
    refine lv_goto (tgt := 17) hx hb dX1_isEmpty_13 (by decide) ?_
    exact kp_retzR B (by simp only [F_isEmpty, if_neg q_1]) (Or.inr rfl) dX1_isEmpty_17
def F_lacksAnEnd (c : cw_C) (k : Nat) : Int32 :=
  if ((c.2.2 k).1) = (-cw_inf) then (1 : Int32) else (if ((c.2.2 k).2) = cw_inf then (1 : Int32) else (0 : Int32))
def rm_lacksAnEnd : Room := { frames := 0, cells := 0, slots := 0, locals := 0 }
set_option maxHeartbeats 4000000 in
set_option maxRecDepth 100000 in
theorem C_lacksAnEnd (l : Launch) (D : va_G) (ty : List (ClassId × FieldType)) (sz : Nat) (G : cw_G) (Z : va_W) (hG : cw_ok ty sz G Z) (c : cw_C) (k : Nat) (hk : k < 10) : kp_R l yX1_lacksAnEnd cX1_lacksAnEnd 1 (some .boolean) rm_lacksAnEnd D ty sz [.ref (aN G k)] (cw_W G c Z) (some (.int (F_lacksAnEnd c k))) := by
  refine kp_bodyR (by decide) (Nat.le_of_ble_eq_true rfl) rfl ?_
  intro p e s m args below meth cd ls B hl hP hS
  obtain ⟨hx, hb, hml, hown, hlk, hr, hw, hE, hK, hsz⟩ := id B
  have hl : lv_has ls 1 [(0, .ref (aN G k))] := hl
  refine lv_aload_n hx hb dX1_lacksAnEnd_0 rfl (lv_at hl 0 rfl) ?_
  refine kc_getN (j := 0) (k := k) (v := .long ((c.2.2 k).1)) B hP hk rfl (by decide) kw_1 dX1_lacksAnEnd_1 ?_
  refine lv_ldc2 (v := (-cw_inf)) hx hb hown (hw _ kw_3 rfl) dX1_lacksAnEnd_4 ?_
  refine kp_leq (tgt := 22) hx hb dX1_lacksAnEnd_7 dX1_lacksAnEnd_8 (by decide) (fun q_1 => ?_) (fun q_1 => ?_)
  · refine lv_iconst (v := (1 : Int32)) hx hb dX1_lacksAnEnd_22 (by decide) ?_
    refine lv_goto (tgt := 27) hx hb dX1_lacksAnEnd_23 (by decide) ?_
    exact kp_retzR B (by simp only [F_lacksAnEnd, if_pos q_1]) (Or.inr rfl) dX1_lacksAnEnd_27
  · refine lv_aload_n hx hb dX1_lacksAnEnd_11 rfl (lv_at hl 0 rfl) ?_
    refine kc_getN (j := 1) (k := k) (v := .long ((c.2.2 k).2)) B hP hk rfl (by decide) kw_2 dX1_lacksAnEnd_12 ?_
    refine lv_ldc2 (v := cw_inf) hx hb hown (hw _ kw_4 rfl) dX1_lacksAnEnd_15 ?_
    refine kp_lne (tgt := 26) hx hb dX1_lacksAnEnd_18 dX1_lacksAnEnd_19 (by decide) (fun q_2 => ?_) (fun q_2 => ?_)
    · refine lv_iconst (v := (0 : Int32)) hx hb dX1_lacksAnEnd_26 (by decide) ?_
      exact kp_retzR B (by simp only [F_lacksAnEnd, if_neg q_1, if_neg q_2]) (Or.inl rfl) dX1_lacksAnEnd_27
    · refine lv_iconst (v := (1 : Int32)) hx hb dX1_lacksAnEnd_22 (by decide) ?_
      refine lv_goto (tgt := 27) hx hb dX1_lacksAnEnd_23 (by decide) ?_
      exact kp_retzR B (by simp only [F_lacksAnEnd, if_neg q_1, if_pos q_2]) (Or.inr rfl) dX1_lacksAnEnd_27
def F_holdsAllOf (c : cw_C) (k : Nat) (u : Nat) : Int32 :=
  if ((c.2.2 u).1) < ((c.2.2 k).1) then (0 : Int32) else (if ((c.2.2 k).2) < ((c.2.2 u).2) then (0 : Int32) else (1 : Int32))
def rm_holdsAllOf : Room := { frames := 0, cells := 0, slots := 0, locals := 0 }
set_option maxHeartbeats 4000000 in
set_option maxRecDepth 100000 in
theorem C_holdsAllOf (l : Launch) (D : va_G) (ty : List (ClassId × FieldType)) (sz : Nat) (G : cw_G) (Z : va_W) (hG : cw_ok ty sz G Z) (c : cw_C) (k : Nat) (hk : k < 10) (u : Nat) (hu : u < 10) : kp_R l yX1_holdsAllOf cX1_holdsAllOf 2 (some .boolean) rm_holdsAllOf D ty sz [.ref (aN G k), .ref (aN G u)] (cw_W G c Z) (some (.int (F_holdsAllOf c k u))) := by
  refine kp_bodyR (by decide) (Nat.le_of_ble_eq_true rfl) rfl ?_
  intro p e s m args below meth cd ls B hl hP hS
  obtain ⟨hx, hb, hml, hown, hlk, hr, hw, hE, hK, hsz⟩ := id B
  have hl : lv_has ls 2 [(0, .ref (aN G k)), (1, .ref (aN G u))] := hl
  refine lv_aload_n hx hb dX1_holdsAllOf_0 rfl (lv_at hl 0 rfl) ?_
  refine kc_getN (j := 0) (k := k) (v := .long ((c.2.2 k).1)) B hP hk rfl (by decide) kw_1 dX1_holdsAllOf_1 ?_
  refine lv_aload_n hx hb dX1_holdsAllOf_4 rfl (lv_at hl 1 rfl) ?_
  refine kc_getN (j := 0) (k := u) (v := .long ((c.2.2 u).1)) B hP hu rfl (by decide) kw_1 dX1_holdsAllOf_5 ?_
  refine kp_lgt (tgt := 28) hx hb dX1_holdsAllOf_8 dX1_holdsAllOf_9 (by decide) (fun q_1 => ?_) (fun q_1 => ?_)
  · refine lv_iconst (v := (0 : Int32)) hx hb dX1_holdsAllOf_28 (by decide) ?_
    exact kp_retzR B (by simp only [F_holdsAllOf, if_pos q_1]) (Or.inl rfl) dX1_holdsAllOf_29
  · refine lv_aload_n hx hb dX1_holdsAllOf_12 rfl (lv_at hl 1 rfl) ?_
    refine kc_getN (j := 1) (k := u) (v := .long ((c.2.2 u).2)) B hP hu rfl (by decide) kw_2 dX1_holdsAllOf_13 ?_
    refine lv_aload_n hx hb dX1_holdsAllOf_16 rfl (lv_at hl 0 rfl) ?_
    refine kc_getN (j := 1) (k := k) (v := .long ((c.2.2 k).2)) B hP hk rfl (by decide) kw_2 dX1_holdsAllOf_17 ?_
    refine kp_lgt (tgt := 28) hx hb dX1_holdsAllOf_20 dX1_holdsAllOf_21 (by decide) (fun q_2 => ?_) (fun q_2 => ?_)
    · refine lv_iconst (v := (0 : Int32)) hx hb dX1_holdsAllOf_28 (by decide) ?_
      exact kp_retzR B (by simp only [F_holdsAllOf, if_neg q_1, if_pos q_2]) (Or.inl rfl) dX1_holdsAllOf_29
    · refine lv_iconst (v := (1 : Int32)) hx hb dX1_holdsAllOf_24 (by decide) ?_
      refine lv_goto (tgt := 29) hx hb dX1_holdsAllOf_25 (by decide) ?_
      exact kp_retzR B (by simp only [F_holdsAllOf, if_neg q_1, if_neg q_2]) (Or.inr rfl) dX1_holdsAllOf_29
def F_kindNumber (c : cw_C) (k : Nat) : Int32 :=
  if (F_isEmpty c k) = (0 : Int32) then (if ((c.2.2 k).1) = (-cw_inf) then (if ((c.2.2 k).2) = cw_inf then (5 : Int32) else (4 : Int32)) else (if ((c.2.2 k).2) = cw_inf then (3 : Int32) else (if ((c.2.2 k).1) = ((c.2.2 k).2) then (1 : Int32) else (2 : Int32)))) else (0 : Int32)
def rm_kindNumber : Room := { frames := 1, cells := 0, slots := 0, locals := 20 }
set_option maxHeartbeats 4000000 in
set_option maxRecDepth 100000 in
theorem C_kindNumber (l : Launch) (D : va_G) (ty : List (ClassId × FieldType)) (sz : Nat) (G : cw_G) (Z : va_W) (hG : cw_ok ty sz G Z) (c : cw_C) (k : Nat) (hk : k < 10) : kp_R l yX1_kindNumber cX1_kindNumber 1 (some .int) rm_kindNumber D ty sz [.ref (aN G k)] (cw_W G c Z) (some (.int (F_kindNumber c k))) := by
  refine kp_bodyR (by decide) (Nat.le_of_ble_eq_true rfl) rfl ?_
  intro p e s m args below meth cd ls B hl hP hS
  obtain ⟨hx, hb, hml, hown, hlk, hr, hw, hE, hK, hsz⟩ := id B
  have hl : lv_has ls 1 [(0, .ref (aN G k))] := hl
  refine lv_aload_n hx hb dX1_kindNumber_0 rfl (lv_at hl 0 rfl) ?_
  refine kp_callVR (rm := rm_isEmpty) (As := []) (rest := []) (r := some (.int (F_isEmpty c k))) (st1 := [.int (F_isEmpty c k)]) B (C_isEmpty l D ty sz G Z hG c k hk) kt_isEmpty kw_7 kw_8 kw_9 (kc_rcN B hP hk) (by decide) ⟨rfl, rfl⟩ (by decide) rfl (Nat.le_of_ble_eq_true rfl) hl.1 hP hS dX1_kindNumber_1 rfl ?_
  refine lv_if_eq (tgt := 9) hx hb dX1_kindNumber_4 (by decide) (fun q_1 => ?_) (fun q_1 => ?_)
  · refine lv_aload_n hx hb dX1_kindNumber_9 rfl (lv_at hl 0 rfl) ?_
    refine kc_getN (j := 0) (k := k) (v := .long ((c.2.2 k).1)) B hP hk rfl (by decide) kw_1 dX1_kindNumber_10 ?_
    refine lv_ldc2 (v := (-cw_inf)) hx hb hown (hw _ kw_3 rfl) dX1_kindNumber_13 ?_
    refine kp_lne (tgt := 37) hx hb dX1_kindNumber_16 dX1_kindNumber_17 (by decide) (fun q_2 => ?_) (fun q_2 => ?_)
    · refine lv_aload_n hx hb dX1_kindNumber_37 rfl (lv_at hl 0 rfl) ?_
      refine kc_getN (j := 1) (k := k) (v := .long ((c.2.2 k).2)) B hP hk rfl (by decide) kw_2 dX1_kindNumber_38 ?_
      refine lv_ldc2 (v := cw_inf) hx hb hown (hw _ kw_4 rfl) dX1_kindNumber_41 ?_
      refine kp_lne (tgt := 50) hx hb dX1_kindNumber_44 dX1_kindNumber_45 (by decide) (fun q_3 => ?_) (fun q_3 => ?_)
      · refine lv_aload_n hx hb dX1_kindNumber_50 rfl (lv_at hl 0 rfl) ?_
        refine kc_getN (j := 0) (k := k) (v := .long ((c.2.2 k).1)) B hP hk rfl (by decide) kw_1 dX1_kindNumber_51 ?_
        refine lv_aload_n hx hb dX1_kindNumber_54 rfl (lv_at hl 0 rfl) ?_
        refine kc_getN (j := 1) (k := k) (v := .long ((c.2.2 k).2)) B hP hk rfl (by decide) kw_2 dX1_kindNumber_55 ?_
        refine kp_lne (tgt := 66) hx hb dX1_kindNumber_58 dX1_kindNumber_59 (by decide) (fun q_4 => ?_) (fun q_4 => ?_)
        · refine lv_iconst (v := (2 : Int32)) hx hb dX1_kindNumber_66 (by decide) ?_
          exact kp_retiR B (by simp only [F_kindNumber, if_pos q_1, if_neg q_2, if_neg q_3, if_neg q_4]) dX1_kindNumber_67
        · refine lv_iconst (v := (1 : Int32)) hx hb dX1_kindNumber_62 (by decide) ?_
          refine lv_goto (tgt := 67) hx hb dX1_kindNumber_63 (by decide) ?_
          exact kp_retiR B (by simp only [F_kindNumber, if_pos q_1, if_neg q_2, if_neg q_3, if_pos q_4]) dX1_kindNumber_67
      · refine lv_iconst (v := (3 : Int32)) hx hb dX1_kindNumber_48 (by decide) ?_
        exact kp_retiR B (by simp only [F_kindNumber, if_pos q_1, if_neg q_2, if_pos q_3]) dX1_kindNumber_49
    · refine lv_aload_n hx hb dX1_kindNumber_20 rfl (lv_at hl 0 rfl) ?_
      refine kc_getN (j := 1) (k := k) (v := .long ((c.2.2 k).2)) B hP hk rfl (by decide) kw_2 dX1_kindNumber_21 ?_
      refine lv_ldc2 (v := cw_inf) hx hb hown (hw _ kw_4 rfl) dX1_kindNumber_24 ?_
      refine kp_lne (tgt := 35) hx hb dX1_kindNumber_27 dX1_kindNumber_28 (by decide) (fun q_5 => ?_) (fun q_5 => ?_)
      · refine lv_iconst (v := (4 : Int32)) hx hb dX1_kindNumber_35 (by decide) ?_
        exact kp_retiR B (by simp only [F_kindNumber, if_pos q_1, if_pos q_2, if_neg q_5]) dX1_kindNumber_36
      · refine lv_iconst (v := (5 : Int32)) hx hb dX1_kindNumber_31 (by decide) ?_
        refine lv_goto (tgt := 36) hx hb dX1_kindNumber_32 (by decide) ?_
        exact kp_retiR B (by simp only [F_kindNumber, if_pos q_1, if_pos q_2, if_pos q_5]) dX1_kindNumber_36
  · refine lv_iconst (v := (0 : Int32)) hx hb dX1_kindNumber_7 (by decide) ?_
    exact kp_retiR B (by simp only [F_kindNumber, if_neg q_1]) dX1_kindNumber_8
