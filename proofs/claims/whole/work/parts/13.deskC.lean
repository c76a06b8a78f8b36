def F_keep (c : cw_C) (u : Nat) (t : Nat) : Int32 :=
  if (F_isEmpty c u) = (0 : Int32) then F_kindNumber (S_become c t (F_notAbove c ((c.2.2 u).1)) (F_notBelow c ((c.2.2 u).2))) t else F_kindNumber (S_becomeEmpty c t) t
def S_keep (c : cw_C) (u : Nat) (t : Nat) : cw_C :=
  if (F_isEmpty c u) = (0 : Int32) then S_become c t (F_notAbove c ((c.2.2 u).1)) (F_notBelow c ((c.2.2 u).2)) else S_becomeEmpty c t
def rm_keep : Room := { frames := 5, cells := 0, slots := 0, locals := 113 }
set_option maxHeartbeats 4000000 in
set_option maxRecDepth 100000 in
theorem C_keep (l : Launch) (D : va_G) (ty : List (ClassId × FieldType)) (sz : Nat) (G : cw_G) (Z : va_W) (hG : cw_ok ty sz G Z) (c : cw_C) (u : Nat) (hu : u < 10) (t : Nat) (ht : t < 10) : kp_M l yX2_keep cX2_keep 3 (some .int) rm_keep D ty sz [.ref (aD G), .ref (aN G u), .ref (aN G t)] (cw_W G c Z) (some (.int (F_keep c u t))) (cw_W G (S_keep c u t) Z) := by
  refine kp_body (by decide) (Nat.le_of_ble_eq_true rfl) rfl ?_
  intro p e s m args below meth cd ls B hin hl hP hS
  obtain ⟨hx, hb, hml, hown, hlk, hr, hw, hE, hK, hsz⟩ := id B
  have hl : lv_has ls 3 [(0, .ref (aD G)), (1, .ref (aN G u)), (2, .ref (aN G t))] := hl
  refine lv_aload_n hx hb dX2_keep_0 rfl (lv_at hl 1 rfl) ?_
  refine kp_callNR (rm := rm_isEmpty) (As := []) (rest := []) (r := some (.int (F_isEmpty c u))) (st1 := [.int (F_isEmpty c u)]) B (C_isEmpty l D ty sz G Z hG c u hu) kt_isEmpty kw_75 kw_8 kw_9 (kc_rcN B hP hu) (by decide) ⟨rfl, rfl⟩ (by decide) rfl (Nat.le_of_ble_eq_true rfl) hl.1 hP hS dX2_keep_1 rfl ?_
  refine lv_if_eq (tgt := 14) hx hb dX2_keep_4 (by decide) (fun q_1 => ?_) (fun q_1 => ?_)
  · refine lv_aload_n hx hb dX2_keep_14 rfl (lv_at hl 2 rfl) ?_
    refine lv_aload_n hx hb dX2_keep_15 rfl (lv_at hl 0 rfl) ?_
    refine kc_getD (j := 0) (v := .ref (aS G)) B hP rfl (by decide) kw_76 dX2_keep_16 ?_
    refine lv_aload_n hx hb dX2_keep_19 rfl (lv_at hl 1 rfl) ?_
    refine kc_getNX (j := 0) (k := u) (v := .long ((c.2.2 u).1)) B hP hu rfl (by decide) kw_87 dX2_keep_20 ?_
    refine kp_callNR (rm := rm_notAbove) (As := [.long ((c.2.2 u).1)]) (rest := [.ref (aN G t)]) (r := some (.long (F_notAbove c ((c.2.2 u).1)))) (st1 := [.long (F_notAbove c ((c.2.2 u).1)), .ref (aN G t)]) B (C_notAbove l D ty sz G Z hG c ((c.2.2 u).1)) kt_notAbove kw_175 kw_52 kw_53 (kc_rcS B hP) (by decide) ⟨rfl, rfl⟩ (by decide) rfl (Nat.le_of_ble_eq_true rfl) hl.1 hP hS dX2_keep_23 rfl ?_
    refine lv_aload_n hx hb dX2_keep_26 rfl (lv_at hl 0 rfl) ?_
    refine kc_getD (j := 0) (v := .ref (aS G)) B hP rfl (by decide) kw_76 dX2_keep_27 ?_
    refine lv_aload_n hx hb dX2_keep_30 rfl (lv_at hl 1 rfl) ?_
    refine kc_getNX (j := 1) (k := u) (v := .long ((c.2.2 u).2)) B hP hu rfl (by decide) kw_88 dX2_keep_31 ?_
    refine kp_callNR (rm := rm_notBelow) (As := [.long ((c.2.2 u).2)]) (rest := [.long (F_notAbove c ((c.2.2 u).1)), .ref (aN G t)]) (r := some (.long (F_notBelow c ((c.2.2 u).2)))) (st1 := [.long (F_notBelow c ((c.2.2 u).2)), .long (F_notAbove c ((c.2.2 u).1)), .ref (aN G t)]) B (C_notBelow l D ty sz G Z hG c ((c.2.2 u).2)) kt_notBelow kw_176 kw_57 kw_58 (kc_rcS B hP) (by decide) ⟨rfl, rfl⟩ (by decide) rfl (Nat.le_of_ble_eq_true rfl) hl.1 hP hS dX2_keep_34 rfl ?_
    refine kp_callN (rm := rm_become) (As := [.long (F_notAbove c ((c.2.2 u).1)), .long (F_notBelow c ((c.2.2 u).2))]) (rest := []) (r := none) (st1 := []) (ws' := cw_W G (S_become c t (F_notAbove c ((c.2.2 u).1)) (F_notBelow c ((c.2.2 u).2))) Z) B (C_become l D ty sz G Z hG c t ht (F_notAbove c ((c.2.2 u).1)) (F_notBelow c ((c.2.2 u).2))) kt_become kw_104 kw_105 kw_106 (kc_rcN B hP ht) (by decide) rfl rfl (by decide) rfl (Nat.le_of_ble_eq_true rfl) hl.1 hP hS dX2_keep_37 rfl (fun H locs hP hS => ?_)
    refine lv_aload_n hx hb dX2_keep_40 rfl (lv_at hl 2 rfl) ?_
    refine kp_callNR (rm := rm_kindNumber) (As := []) (rest := []) (r := some (.int (F_kindNumber (S_become c t (F_notAbove c ((c.2.2 u).1)) (F_notBelow c ((c.2.2 u).2))) t))) (st1 := [.int (F_kindNumber (S_become c t (F_notAbove c ((c.2.2 u).1)) (F_notBelow c ((c.2.2 u).2))) t)]) B (C_kindNumber l D ty sz G Z hG (S_become c t (F_notAbove c ((c.2.2 u).1)) (F_notBelow c ((c.2.2 u).2))) t ht) kt_kindNumber kw_179 kw_180 kw_181 (kc_rcN B hP ht) (by decide) ⟨rfl, rfl⟩ (by decide) rfl (Nat.le_of_ble_eq_true rfl) hl.1 hP hS dX2_keep_41 rfl ?_
    exact kp_reti B (by simp only [S_keep, if_pos q_1]; exact hP) hS (by simp only [F_keep, if_pos q_1]) dX2_keep_44
  · refine lv_aload_n hx hb dX2_keep_7 rfl (lv_at hl 2 rfl) ?_
    refine kp_callN (rm := rm_becomeEmpty) (As := []) (rest := []) (r := none) (st1 := []) (ws' := cw_W G (S_becomeEmpty c t) Z) B (C_becomeEmpty l D ty sz G Z hG c t ht) kt_becomeEmpty kw_109 kw_110 kw_111 (kc_rcN B hP ht) (by decide) rfl rfl (by decide) rfl (Nat.le_of_ble_eq_true rfl) hl.1 hP hS dX2_keep_8 rfl (fun H locs hP hS => ?_)
    refine lv_goto (tgt := 40) hx hb dX2_keep_11 (by decide) ?_
    refine lv_aload_n hx hb dX2_keep_40 rfl (lv_at hl 2 rfl) ?_
    refine kp_callNR (rm := rm_kindNumber) (As := []) (rest := []) (r := some (.int (F_kindNumber (S_becomeEmpty c t) t))) (st1 := [.int (F_kindNumber (S_becomeEmpty c t) t)]) B (C_kindNumber l D ty sz G Z hG (S_becomeEmpty c t) t ht) kt_kindNumber kw_179 kw_180 kw_181 (kc_rcN B hP ht) (by decide) ⟨rfl, rfl⟩ (by decide) rfl (Nat.le_of_ble_eq_true rfl) hl.1 hP hS dX2_keep_41 rfl ?_
    exact kp_reti B (by simp only [S_keep, if_neg q_1]; exact hP) hS (by simp only [F_keep, if_neg q_1]) dX2_keep_44
def F_kind (c : cw_C) (x : Int32) : Int32 :=
  if (F_isPlace x) = (0 : Int32) then (-1 : Int32) else F_kindNumber c x.toNatClampNeg
def rm_kind : Room := { frames := 2, cells := 0, slots := 0, locals := 40 }
set_option maxHeartbeats 4000000 in
set_option maxRecDepth 100000 in
theorem C_kind (l : Launch) (D : va_G) (ty : List (ClassId × FieldType)) (sz : Nat) (G : cw_G) (Z : va_W) (hG : cw_ok ty sz G Z) (c : cw_C) (x : Int32) : kp_R l yX2_kind cX2_kind 2 (some .int) rm_kind D ty sz [.ref (aD G), .int x] (cw_W G c Z) (some (.int (F_kind c x))) := by
  refine kp_bodyR (by decide) (Nat.le_of_ble_eq_true rfl) rfl ?_
  intro p e s m args below meth cd ls B hl hP hS
  obtain ⟨hx, hb, hml, hown, hlk, hr, hw, hE, hK, hsz⟩ := id B
  have hl : lv_has ls 2 [(0, .ref (aD G)), (1, .int x)] := hl
  refine lv_iload_n hx hb dX2_kind_0 rfl (lv_at hl 1 rfl) ?_
  refine kp_callSR (rm := rm_isPlace) (As := [.int x]) (rest := []) (r := some (.int (F_isPlace x))) (st1 := [.int (F_isPlace x)]) B (C_isPlace l D ty sz G Z hG c x) kt_isPlace kw_72 kw_73 (by decide) ⟨rfl, rfl⟩ (by decide) rfl (Nat.le_of_ble_eq_true rfl) hl.1 hP hS dX2_kind_1 rfl ?_
  refine lv_if_eq (tgt := 19) hx hb dX2_kind_4 (by decide) (fun q_1 => ?_) (fun q_1 => ?_)
  · refine lv_iconst (v := (-1 : Int32)) hx hb dX2_kind_19 (by decide) ?_
    exact kp_retiR B (by simp only [F_kind, if_pos q_1]) dX2_kind_20
  · refine lv_aload_n hx hb dX2_kind_7 rfl (lv_at hl 0 rfl) ?_
    refine kc_getD (j := 1) (v := .ref (aP G)) B hP rfl (by decide) kw_74 dX2_kind_8 ?_
    refine lv_iload_n hx hb dX2_kind_11 rfl (lv_at hl 1 rfl) ?_
    refine kc_aald (i := x) B hG hP (kc_inP q_1) dX2_kind_12 ?_
    refine kp_callNR (rm := rm_kindNumber) (As := []) (rest := []) (r := some (.int (F_kindNumber c x.toNatClampNeg))) (st1 := [.int (F_kindNumber c x.toNatClampNeg)]) B (C_kindNumber l D ty sz G Z hG c x.toNatClampNeg (kc_in10 (kc_inP q_1))) kt_kindNumber kw_179 kw_180 kw_181 (kc_rcN B hP (kc_in10 (kc_inP q_1))) (by decide) ⟨rfl, rfl⟩ (by decide) rfl (Nat.le_of_ble_eq_true rfl) hl.1 hP hS dX2_kind_13 rfl ?_
    refine lv_goto (tgt := 20) hx hb dX2_kind_16 (by decide) ?_
    exact kp_retiR B (by simp only [F_kind, if_neg q_1]) dX2_kind_20
def F_compare (c : cw_C) (x : Int32) (y : Int32) : Int32 :=
  if (F_isPlace x) = (0 : Int32) then (-1 : Int32) else (if (F_isPlace y) = (0 : Int32) then (-1 : Int32) else (if (F_isFilled c x) = (0 : Int32) then (0 : Int32) else (if (F_isFilled c y) = (0 : Int32) then (0 : Int32) else (((((if ((c.2.2 y.toNatClampNeg).2) ≤ ((c.2.2 x.toNatClampNeg).1) then (0 : Int32) else (1 : Int32)) ||| (if ((c.2.2 y.toNatClampNeg).2) < ((c.2.2 x.toNatClampNeg).1) then (0 : Int32) else (if ((c.2.2 x.toNatClampNeg).2) < ((c.2.2 y.toNatClampNeg).1) then (0 : Int32) else (2 : Int32)))) ||| (if ((c.2.2 x.toNatClampNeg).2) ≤ ((c.2.2 y.toNatClampNeg).1) then (0 : Int32) else (4 : Int32))) ||| (if (F_holdsAllOf c y.toNatClampNeg x.toNatClampNeg) = (0 : Int32) then (0 : Int32) else (8 : Int32))) ||| (if (F_holdsAllOf c x.toNatClampNeg y.toNatClampNeg) = (0 : Int32) then (0 : Int32) else (16 : Int32))) ||| (if (F_holdsAllOf c y.toNatClampNeg x.toNatClampNeg) = (0 : Int32) then (0 : Int32) else (if (F_holdsAllOf c x.toNatClampNeg y.toNatClampNeg) = (0 : Int32) then (0 : Int32) else (32 : Int32))))))
def rm_compare : Room := { frames := 2, cells := 0, slots := 0, locals := 41 }
set_option maxHeartbeats 4000000 in
set_option maxRecDepth 100000 in
theorem C_compare (l : Launch) (D : va_G) (ty : List (ClassId × FieldType)) (sz : Nat) (G : cw_G) (Z : va_W) (hG : cw_ok ty sz G Z) (c : cw_C) (x : Int32) (y : Int32) : kp_R l yX2_compare cX2_compare 7 (some .int) rm_compare D ty sz [.ref (aD G), .int x, .int y] (cw_W G c Z) (some (.int (F_compare c x y))) := by
  refine kp_bodyR (by decide) (Nat.le_of_ble_eq_true rfl) rfl ?_
  intro p e s m args below meth cd ls B hl hP hS
  obtain ⟨hx, hb, hml, hown, hlk, hr, hw, hE, hK, hsz⟩ := id B
  have hl : lv_has ls 7 [(0, .ref (aD G)), (1, .int x), (2, .int y)] := hl
  refine lv_iload_n hx hb dX2_compare_0 rfl (lv_at hl 1 rfl) ?_
  refine kp_callSR (rm := rm_isPlace) (As := [.int x]) (rest := []) (r := some (.int (F_isPlace x))) (st1 := [.int (F_isPlace x)]) B (C_isPlace l D ty sz G Z hG c x) kt_isPlace kw_72 kw_73 (by decide) ⟨rfl, rfl⟩ (by decide) rfl (Nat.le_of_ble_eq_true rfl) hl.1 hP hS dX2_compare_1 rfl ?_
  refine lv_if_eq (tgt := 14) hx hb dX2_compare_4 (by decide) (fun q_1 => ?_) (fun q_1 => ?_)
  · refine lv_iconst (v := (-1 : Int32)) hx hb dX2_compare_14 (by decide) ?_
    exact kp_retiR B (by simp only [F_compare, if_pos q_1]) dX2_compare_15
  · refine lv_iload_n hx hb dX2_compare_7 rfl (lv_at hl 2 rfl) ?_
    refine kp_callSR (rm := rm_isPlace) (As := [.int y]) (rest := []) (r := some (.int (F_isPlace y))) (st1 := [.int (F_isPlace y)]) B (C_isPlace l D ty sz G Z hG c y) kt_isPlace kw_72 kw_73 (by decide) ⟨rfl, rfl⟩ (by decide) rfl (Nat.le_of_ble_eq_true rfl) hl.1 hP hS dX2_compare_8 rfl ?_
    refine lv_if_ne (tgt := 16) hx hb dX2_compare_11 (by decide) (fun q_2 => ?_) (fun q_2 => ?_)
    · refine lv_aload_n hx hb dX2_compare_16 rfl (lv_at hl 0 rfl) ?_
      refine lv_iload_n hx hb dX2_compare_17 rfl (lv_at hl 1 rfl) ?_
      refine kp_callVR (rm := rm_isFilled) (As := [.int x]) (rest := []) (r := some (.int (F_isFilled c x))) (st1 := [.int (F_isFilled c x)]) B (C_isFilled l D ty sz G Z hG c x) kt_isFilled kw_184 kw_185 kw_186 (kc_rcD B hP) (by decide) ⟨rfl, rfl⟩ (by decide) rfl (Nat.le_of_ble_eq_true rfl) hl.1 hP hS dX2_compare_18 rfl ?_
      refine lv_if_eq (tgt := 32) hx hb dX2_compare_21 (by decide) (fun q_3 => ?_) (fun q_3 => ?_)
      · refine lv_iconst (v := (0 : Int32)) hx hb dX2_compare_32 (by decide) ?_
        exact kp_retiR B (by simp only [F_compare, if_neg q_1, if_neg q_2, if_pos q_3]) dX2_compare_33
      · refine lv_aload_n hx hb dX2_compare_24 rfl (lv_at hl 0 rfl) ?_
        refine lv_iload_n hx hb dX2_compare_25 rfl (lv_at hl 2 rfl) ?_
        refine kp_callVR (rm := rm_isFilled) (As := [.int y]) (rest := []) (r := some (.int (F_isFilled c y))) (st1 := [.int (F_isFilled c y)]) B (C_isFilled l D ty sz G Z hG c y) kt_isFilled kw_184 kw_185 kw_186 (kc_rcD B hP) (by decide) ⟨rfl, rfl⟩ (by decide) rfl (Nat.le_of_ble_eq_true rfl) hl.1 hP hS dX2_compare_26 rfl ?_
        refine lv_if_ne (tgt := 34) hx hb dX2_compare_29 (by decide) (fun q_4 => ?_) (fun q_4 => ?_)
        · refine lv_aload_n hx hb dX2_compare_34 rfl (lv_at hl 0 rfl) ?_
          refine kc_getD (j := 1) (v := .ref (aP G)) B hP rfl (by decide) kw_74 dX2_compare_35 ?_
          refine lv_iload_n hx hb dX2_compare_38 rfl (lv_at hl 1 rfl) ?_
          refine kc_aald (i := x) B hG hP (kc_inF q_3) dX2_compare_39 ?_
          refine lv_astore_n (lv' := [(3, .ref (aN G x.toNatClampNeg)), (0, .ref (aD G)), (1, .int x), (2, .int y)]) hx hb dX2_compare_40 rfl hl (by decide) rfl (fun ls hl => ?_)
          refine lv_aload_n hx hb dX2_compare_41 rfl (lv_at hl 1 rfl) ?_
          refine kc_getD (j := 1) (v := .ref (aP G)) B hP rfl (by decide) kw_74 dX2_compare_42 ?_
          refine lv_iload_n hx hb dX2_compare_45 rfl (lv_at hl 3 rfl) ?_
          refine kc_aald (i := y) B hG hP (kc_inF q_4) dX2_compare_46 ?_
          refine lv_astore (lv' := [(4, .ref (aN G y.toNatClampNeg)), (3, .ref (aN G x.toNatClampNeg)), (0, .ref (aD G)), (1, .int x), (2, .int y)]) hx hb dX2_compare_47 hl (by decide) rfl (fun ls hl => ?_)
          refine lv_aload hx hb dX2_compare_49 (lv_at hl 0 rfl) ?_
          refine lv_aload_n hx hb dX2_compare_51 rfl (lv_at hl 1 rfl) ?_
          refine kp_callNR (rm := rm_holdsAllOf) (As := [.ref (aN G x.toNatClampNeg)]) (rest := []) (r := some (.int (F_holdsAllOf c y.toNatClampNeg x.toNatClampNeg))) (st1 := [.int (F_holdsAllOf c y.toNatClampNeg x.toNatClampNeg)]) B (C_holdsAllOf l D ty sz G Z hG c y.toNatClampNeg (kc_in10 (kc_inF q_4)) x.toNatClampNeg (kc_in10 (kc_inF q_3))) kt_holdsAllOf kw_189 kw_190 kw_191 (kc_rcN B hP (kc_in10 (kc_inF q_4))) (by decide) ⟨rfl, rfl⟩ (by decide) rfl (Nat.le_of_ble_eq_true rfl) hl.1 hP hS dX2_compare_52 rfl ?_
          refine lv_istore (lv' := [(5, .int (F_holdsAllOf c y.toNatClampNeg x.toNatClampNeg)), (4, .ref (aN G y.toNatClampNeg)), (3, .ref (aN G x.toNatClampNeg)), (0, .ref (aD G)), (1, .int x), (2, .int y)]) hx hb dX2_compare_55 hl (by decide) rfl (fun ls hl => ?_)
          refine lv_aload_n hx hb dX2_compare_57 rfl (lv_at hl 2 rfl) ?_
          refine lv_aload hx hb dX2_compare_58 (lv_at hl 1 rfl) ?_
          refine kp_callNR (rm := rm_holdsAllOf) (As := [.ref (aN G y.toNatClampNeg)]) (rest := []) (r := some (.int (F_holdsAllOf c x.toNatClampNeg y.toNatClampNeg))) (st1 := [.int (F_holdsAllOf c x.toNatClampNeg y.toNatClampNeg)]) B (C_holdsAllOf l D ty sz G Z hG c x.toNatClampNeg (kc_in10 (kc_inF q_3)) y.toNatClampNeg (kc_in10 (kc_inF q_4))) kt_holdsAllOf kw_189 kw_190 kw_191 (kc_rcN B hP (kc_in10 (kc_inF q_3))) (by decide) ⟨rfl, rfl⟩ (by decide) rfl (Nat.le_of_ble_eq_true rfl) hl.1 hP hS dX2_compare_60 rfl ?_
          refine lv_istore (lv' := [(6, .int (F_holdsAllOf c x.toNatClampNeg y.toNatClampNeg)), (5, .int (F_holdsAllOf c y.toNatClampNeg x.toNatClampNeg)), (4, .ref (aN G y.toNatClampNeg)), (3, .ref (aN G x.toNatClampNeg)), (0, .ref (aD G)), (1, .int x), (2, .int y)]) hx hb dX2_compare_63 hl (by decide) rfl (fun ls hl => ?_)
          refine lv_aload_n hx hb dX2_compare_65 rfl (lv_at hl 3 rfl) ?_
          refine kc_getNX (j := 0) (k := x.toNatClampNeg) (v := .long ((c.2.2 x.toNatClampNeg).1)) B hP (kc_in10 (kc_inF q_3)) rfl (by decide) kw_87 dX2_compare_66 ?_
          refine lv_aload hx hb dX2_compare_69 (lv_at hl 2 rfl) ?_
          refine kc_getNX (j := 1) (k := y.toNatClampNeg) (v := .long ((c.2.2 y.toNatClampNeg).2)) B hP (kc_in10 (kc_inF q_4)) rfl (by decide) kw_88 dX2_compare_71 ?_
          have hJ83 : W p l e rm_compare s m args below meth cd s.heap [] 0 0 (MQ below (kp_QR (some (.int (F_compare c x y)))) args s 0 0 (fun _ => False)) (F0 m 83 ls [.int (if ((c.2.2 y.toNatClampNeg).2) ≤ ((c.2.2 x.toNatClampNeg).1) then (0 : Int32) else (1 : Int32))]) := by
            refine lv_aload_n hx hb dX2_compare_83 rfl (lv_at hl 3 rfl) ?_
            refine kc_getNX (j := 0) (k := x.toNatClampNeg) (v := .long ((c.2.2 x.toNatClampNeg).1)) B hP (kc_in10 (kc_inF q_3)) rfl (by decide) kw_87 dX2_compare_84 ?_
            refine lv_aload hx hb dX2_compare_87 (lv_at hl 2 rfl) ?_
            refine kc_getNX (j := 1) (k := y.toNatClampNeg) (v := .long ((c.2.2 y.toNatClampNeg).2)) B hP (kc_in10 (kc_inF q_4)) rfl (by decide) kw_88 dX2_compare_89 ?_
            have hJ114 : W p l e rm_compare s m args below meth cd s.heap [] 0 0 (MQ below (kp_QR (some (.int (F_compare c x y)))) args s 0 0 (fun _ => False)) (F0 m 114 ls [.int (if ((c.2.2 y.toNatClampNeg).2) < ((c.2.2 x.toNatClampNeg).1) then (0 : Int32) else (if ((c.2.2 x.toNatClampNeg).2) < ((c.2.2 y.toNatClampNeg).1) then (0 : Int32) else (2 : Int32))), .int (if ((c.2.2 y.toNatClampNeg).2) ≤ ((c.2.2 x.toNatClampNeg).1) then (0 : Int32) else (1 : Int32))]) := by
              refine lv_ior hx hb dX2_compare_114 ?_
              refine lv_aload_n hx hb dX2_compare_115 rfl (lv_at hl 3 rfl) ?_
              refine kc_getNX (j := 1) (k := x.toNatClampNeg) (v := .long ((c.2.2 x.toNatClampNeg).2)) B hP (kc_in10 (kc_inF q_3)) rfl (by decide) kw_88 dX2_compare_116 ?_
              refine lv_aload hx hb dX2_compare_119 (lv_at hl 2 rfl) ?_
              refine kc_getNX (j := 0) (k := y.toNatClampNeg) (v := .long ((c.2.2 y.toNatClampNeg).1)) B hP (kc_in10 (kc_inF q_4)) rfl (by decide) kw_87 dX2_compare_121 ?_
              have hJ133 : W p l e rm_compare s m args below meth cd s.heap [] 0 0 (MQ below (kp_QR (some (.int (F_compare c x y)))) args s 0 0 (fun _ => False)) (F0 m 133 ls [.int (if ((c.2.2 x.toNatClampNeg).2) ≤ ((c.2.2 y.toNatClampNeg).1) then (0 : Int32) else (4 : Int32)), .int ((if ((c.2.2 y.toNatClampNeg).2) ≤ ((c.2.2 x.toNatClampNeg).1) then (0 : Int32) else (1 : Int32)) ||| (if ((c.2.2 y.toNatClampNeg).2) < ((c.2.2 x.toNatClampNeg).1) then (0 : Int32) else (if ((c.2.2 x.toNatClampNeg).2) < ((c.2.2 y.toNatClampNeg).1) then (0 : Int32) else (2 : Int32))))]) := by
                refine lv_ior hx hb dX2_compare_133 ?_
                refine lv_iload hx hb dX2_compare_134 (lv_at hl 1 rfl) ?_
                have hJ145 : W p l e rm_compare s m args below meth cd s.heap [] 0 0 (MQ below (kp_QR (some (.int (F_compare c x y)))) args s 0 0 (fun _ => False)) (F0 m 145 ls [.int (if (F_holdsAllOf c y.toNatClampNeg x.toNatClampNeg) = (0 : Int32) then (0 : Int32) else (8 : Int32)), .int (((if ((c.2.2 y.toNatClampNeg).2) ≤ ((c.2.2 x.toNatClampNeg).1) then (0 : Int32) else (1 : Int32)) ||| (if ((c.2.2 y.toNatClampNeg).2) < ((c.2.2 x.toNatClampNeg).1) then (0 : Int32) else (if ((c.2.2 x.toNatClampNeg).2) < ((c.2.2 y.toNatClampNeg).1) then (0 : Int32) else (2 : Int32)))) ||| (if ((c.2.2 x.toNatClampNeg).2) ≤ ((c.2.2 y.toNatClampNeg).1) then (0 : Int32) else (4 : Int32)))]) := by
                  refine lv_ior hx hb dX2_compare_145 ?_
                  refine lv_iload hx hb dX2_compare_146 (lv_at hl 0 rfl) ?_
                  have hJ157 : W p l e rm_compare s m args below meth cd s.heap [] 0 0 (MQ below (kp_QR (some (.int (F_compare c x y)))) args s 0 0 (fun _ => False)) (F0 m 157 ls [.int (if (F_holdsAllOf c x.toNatClampNeg y.toNatClampNeg) = (0 : Int32) then (0 : Int32) else (16 : Int32)), .int ((((if ((c.2.2 y.toNatClampNeg).2) ≤ ((c.2.2 x.toNatClampNeg).1) then (0 : Int32) else (1 : Int32)) ||| (if ((c.2.2 y.toNatClampNeg).2) < ((c.2.2 x.toNatClampNeg).1) then (0 : Int32) else (if ((c.2.2 x.toNatClampNeg).2) < ((c.2.2 y.toNatClampNeg).1) then (0 : Int32) else (2 : Int32)))) ||| (if ((c.2.2 x.toNatClampNeg).2) ≤ ((c.2.2 y.toNatClampNeg).1) then (0 : Int32) else (4 : Int32))) ||| (if (F_holdsAllOf c y.toNatClampNeg x.toNatClampNeg) = (0 : Int32) then (0 : Int32) else (8 : Int32)))]) := by
                    refine lv_ior hx hb dX2_compare_157 ?_
                    refine lv_iload hx hb dX2_compare_158 (lv_at hl 1 rfl) ?_
                    have hJ174 : W p l e rm_compare s m args below meth cd s.heap [] 0 0 (MQ below (kp_QR (some (.int (F_compare c x y)))) args s 0 0 (fun _ => False)) (F0 m 174 ls [.int (if (F_holdsAllOf c y.toNatClampNeg x.toNatClampNeg) = (0 : Int32) then (0 : Int32) else (if (F_holdsAllOf c x.toNatClampNeg y.toNatClampNeg) = (0 : Int32) then (0 : Int32) else (32 : Int32))), .int (((((if ((c.2.2 y.toNatClampNeg).2) ≤ ((c.2.2 x.toNatClampNeg).1) then (0 : Int32) else (1 : Int32)) ||| (if ((c.2.2 y.toNatClampNeg).2) < ((c.2.2 x.toNatClampNeg).1) then (0 : Int32) else (if ((c.2.2 x.toNatClampNeg).2) < ((c.2.2 y.toNatClampNeg).1) then (0 : Int32) else (2 : Int32)))) ||| (if ((c.2.2 x.toNatClampNeg).2) ≤ ((c.2.2 y.toNatClampNeg).1) then (0 : Int32) else (4 : Int32))) ||| (if (F_holdsAllOf c y.toNatClampNeg x.toNatClampNeg) = (0 : Int32) then (0 : Int32) else (8 : Int32))) ||| (if (F_holdsAllOf c x.toNatClampNeg y.toNatClampNeg) = (0 : Int32) then (0 : Int32) else (16 : Int32)))]) := by
                      refine lv_ior hx hb dX2_compare_174 ?_
                      exact kp_retiR B (by simp only [F_compare, if_neg q_1, if_neg q_2, if_neg q_3, if_neg q_4]) dX2_compare_175
                    refine lv_if_eq (tgt := 173) hx hb dX2_compare_160 (by decide) (fun q_5 => ?_) (fun q_5 => ?_)
                    · refine lv_iconst (v := (0 : Int32)) hx hb dX2_compare_173 (by decide) ?_
                      exact kp_jI (by simp only [if_pos q_5]) hJ174
                    · refine lv_iload hx hb dX2_compare_163 (lv_at hl 0 rfl) ?_
                      refine lv_if_eq (tgt := 173) hx hb dX2_compare_165 (by decide) (fun q_6 => ?_) (fun q_6 => ?_)
                      · refine lv_iconst (v := (0 : Int32)) hx hb dX2_compare_173 (by decide) ?_
                        exact kp_jI (by simp only [if_neg q_5, if_pos q_6]) hJ174
                      · refine lv_bipush (v := (32 : Int32)) hx hb dX2_compare_168 (by decide) ?_
                        refine lv_goto (tgt := 174) hx hb dX2_compare_170 (by decide) ?_
                        exact kp_jI (by simp only [if_neg q_5, if_neg q_6]) hJ174
                  refine lv_if_eq (tgt := 156) hx hb dX2_compare_148 (by decide) (fun q_7 => ?_) (fun q_7 => ?_)
                  · refine lv_iconst (v := (0 : Int32)) hx hb dX2_compare_156 (by decide) ?_
                    exact kp_jI (by simp only [if_pos q_7]) hJ157
                  · refine lv_bipush (v := (16 : Int32)) hx hb dX2_compare_151 (by decide) ?_
                    refine lv_goto (tgt := 157) hx hb dX2_compare_153 (by decide) ?_
                    exact kp_jI (by simp only [if_neg q_7]) hJ157
                refine lv_if_eq (tgt := 144) hx hb dX2_compare_136 (by decide) (fun q_8 => ?_) (fun q_8 => ?_)
                · refine lv_iconst (v := (0 : Int32)) hx hb dX2_compare_144 (by decide) ?_
                  exact kp_jI (by simp only [if_pos q_8]) hJ145
                · refine lv_bipush (v := (8 : Int32)) hx hb dX2_compare_139 (by decide) ?_
                  refine lv_goto (tgt := 145) hx hb dX2_compare_141 (by decide) ?_
                  exact kp_jI (by simp only [if_neg q_8]) hJ145
              refine kp_lle (tgt := 132) hx hb dX2_compare_124 dX2_compare_125 (by decide) (fun q_9 => ?_) (fun q_9 => ?_)
              · refine lv_iconst (v := (0 : Int32)) hx hb dX2_compare_132 (by decide) ?_
                exact kp_jI (by simp only [if_pos q_9]) hJ133
              · refine lv_iconst (v := (4 : Int32)) hx hb dX2_compare_128 (by decide) ?_
                refine lv_goto (tgt := 133) hx hb dX2_compare_129 (by decide) ?_
                exact kp_jI (by simp only [if_neg q_9]) hJ133
            refine kp_lgt (tgt := 113) hx hb dX2_compare_92 dX2_compare_93 (by decide) (fun q_10 => ?_) (fun q_10 => ?_)
            · refine lv_iconst (v := (0 : Int32)) hx hb dX2_compare_113 (by decide) ?_
              exact kp_jI (by simp only [if_pos q_10]) hJ114
            · refine lv_aload hx hb dX2_compare_96 (lv_at hl 2 rfl) ?_
              refine kc_getNX (j := 0) (k := y.toNatClampNeg) (v := .long ((c.2.2 y.toNatClampNeg).1)) B hP (kc_in10 (kc_inF q_4)) rfl (by decide) kw_87 dX2_compare_98 ?_
              refine lv_aload_n hx hb dX2_compare_101 rfl (lv_at hl 3 rfl) ?_
              refine kc_getNX (j := 1) (k := x.toNatClampNeg) (v := .long ((c.2.2 x.toNatClampNeg).2)) B hP (kc_in10 (kc_inF q_3)) rfl (by decide) kw_88 dX2_compare_102 ?_
              refine kp_lgt (tgt := 113) hx hb dX2_compare_105 dX2_compare_106 (by decide) (fun q_11 => ?_) (fun q_11 => ?_)
              · refine lv_iconst (v := (0 : Int32)) hx hb dX2_compare_113 (by decide) ?_
                exact kp_jI (by simp only [if_neg q_10, if_pos q_11]) hJ114
              · refine lv_iconst (v := (2 : Int32)) hx hb dX2_compare_109 (by decide) ?_
                refine lv_goto (tgt := 114) hx hb dX2_compare_110 (by decide) ?_
                exact kp_jI (by simp only [if_neg q_10, if_neg q_11]) hJ114
          refine kp_lge (tgt := 82) hx hb dX2_compare_74 dX2_compare_75 (by decide) (fun q_12 => ?_) (fun q_12 => ?_)
          · refine lv_iconst (v := (0 : Int32)) hx hb dX2_compare_82 (by decide) ?_
            exact kp_jI (by simp only [if_pos q_12]) hJ83
          · refine lv_iconst (v := (1 : Int32)) hx hb dX2_compare_78 (by decide) ?_
            refine lv_goto (tgt := 83) hx hb dX2_compare_79 (by decide) ?_
            exact kp_jI (by simp only [if_neg q_12]) hJ83
        · refine lv_iconst (v := (0 : Int32)) hx hb dX2_compare_32 (by decide) ?_
          exact kp_retiR B (by simp only [F_compare, if_neg q_1, if_neg q_2, if_neg q_3, if_pos q_4]) dX2_compare_33
    · refine lv_iconst (v := (-1 : Int32)) hx hb dX2_compare_14 (by decide) ?_
      exact kp_retiR B (by simp only [F_compare, if_neg q_1, if_pos q_2]) dX2_compare_15
def F_has (c : cw_C) (x : Int32) (y : Int32) : Int32 :=
  if (F_isFilled c x) = (0 : Int32) then (0 : Int32) else (if (F_isPattern c y) = (0 : Int32) then (0 : Int32) else (if (F_isEndless (F_numberOf c y)) = (0 : Int32) then (if (F_numberOf c y) < ((c.2.2 x.toNatClampNeg).1) then (0 : Int32) else (if ((c.2.2 x.toNatClampNeg).2) < (F_numberOf c y) then (0 : Int32) else (1 : Int32))) else (0 : Int32)))
def rm_has : Room := { frames := 3, cells := 0, slots := 0, locals := 67 }
set_option maxHeartbeats 4000000 in
set_option maxRecDepth 100000 in
theorem C_has (l : Launch) (D : va_G) (ty : List (ClassId × FieldType)) (sz : Nat) (G : cw_G) (Z : va_W) (hG : cw_ok ty sz G Z) (c : cw_C) (x : Int32) (y : Int32) : kp_R l yX2_has cX2_has 5 (some .boolean) rm_has D ty sz [.ref (aD G), .int x, .int y] (cw_W G c Z) (some (.int (F_has c x y))) := by
  refine kp_bodyR (by decide) (Nat.le_of_ble_eq_true rfl) rfl ?_
  intro p e s m args below meth cd ls B hl hP hS
  obtain ⟨hx, hb, hml, hown, hlk, hr, hw, hE, hK, hsz⟩ := id B
  have hl : lv_has ls 5 [(0, .ref (aD G)), (1, .int x), (2, .int y)] := hl
  refine lv_aload_n hx hb dX2_has_0 rfl (lv_at hl 0 rfl) ?_
  refine lv_iload_n hx hb dX2_has_1 rfl (lv_at hl 1 rfl) ?_
  refine kp_callVR (rm := rm_isFilled) (As := [.int x]) (rest := []) (r := some (.int (F_isFilled c x))) (st1 := [.int (F_isFilled c x)]) B (C_isFilled l D ty sz G Z hG c x) kt_isFilled kw_184 kw_185 kw_186 (kc_rcD B hP) (by decide) ⟨rfl, rfl⟩ (by decide) rfl (Nat.le_of_ble_eq_true rfl) hl.1 hP hS dX2_has_2 rfl ?_
  refine lv_if_eq (tgt := 19) hx hb dX2_has_5 (by decide) (fun q_1 => ?_) (fun q_1 => ?_)
  · refine lv_iconst (v := (0 : Int32)) hx hb dX2_has_19 (by decide) ?_
    exact kp_retzR B (by simp only [F_has, if_pos q_1]) (Or.inl rfl) dX2_has_20
  · refine lv_aload_n hx hb dX2_has_8 rfl (lv_at hl 0 rfl) ?_
    refine kc_getD (j := 0) (v := .ref (aS G)) B hP rfl (by decide) kw_76 dX2_has_9 ?_
    refine lv_iload_n hx hb dX2_has_12 rfl (lv_at hl 2 rfl) ?_
    refine kp_callNR (rm := rm_isPattern) (As := [.int y]) (rest := []) (r := some (.int (F_isPattern c y))) (st1 := [.int (F_isPattern c y)]) B (C_isPattern l D ty sz G Z hG c y) kt_isPattern kw_194 kw_195 kw_196 (kc_rcS B hP) (by decide) ⟨rfl, rfl⟩ (by decide) rfl (Nat.le_of_ble_eq_true rfl) hl.1 hP hS dX2_has_13 rfl ?_
    refine lv_if_ne (tgt := 21) hx hb dX2_has_16 (by decide) (fun q_2 => ?_) (fun q_2 => ?_)
    · refine lv_aload_n hx hb dX2_has_21 rfl (lv_at hl 0 rfl) ?_
      refine kc_getD (j := 0) (v := .ref (aS G)) B hP rfl (by decide) kw_76 dX2_has_22 ?_
      refine lv_iload_n hx hb dX2_has_25 rfl (lv_at hl 2 rfl) ?_
      refine kp_callNR (rm := rm_numberOf) (As := [.int y]) (rest := []) (r := some (.long (F_numberOf c y))) (st1 := [.long (F_numberOf c y)]) B (C_numberOf l D ty sz G Z hG c y) kt_numberOf kw_199 kw_200 kw_201 (kc_rcS B hP) (by decide) ⟨rfl, rfl⟩ (by decide) rfl (Nat.le_of_ble_eq_true rfl) hl.1 hP hS dX2_has_26 rfl ?_
      refine lv_lstore_n (lv' := [(3, .long (F_numberOf c y)), (0, .ref (aD G)), (1, .int x), (2, .int y)]) hx hb dX2_has_29 rfl hl (by decide) rfl (fun ls hl => ?_)
      refine lv_lload_n hx hb dX2_has_30 rfl (lv_at hl 0 rfl) ?_
      refine kp_callSR (rm := rm_isEndless) (As := [.long (F_numberOf c y)]) (rest := []) (r := some (.int (F_isEndless (F_numberOf c y)))) (st1 := [.int (F_isEndless (F_numberOf c y))]) B (C_isEndless l D ty sz G Z hG c (F_numberOf c y)) kt_isEndless kw_68 kw_69 (by decide) ⟨rfl, rfl⟩ (by decide) rfl (Nat.le_of_ble_eq_true rfl) hl.1 hP hS dX2_has_31 rfl ?_
      refine lv_if_ne (tgt := 69) hx hb dX2_has_34 (by decide) (fun q_3 => ?_) (fun q_3 => ?_)
      · refine lv_iconst (v := (0 : Int32)) hx hb dX2_has_69 (by decide) ?_
        exact kp_retzR B (by simp only [F_has, if_neg q_1, if_neg q_2, if_neg q_3]) (Or.inl rfl) dX2_has_70
      · refine lv_aload_n hx hb dX2_has_37 rfl (lv_at hl 1 rfl) ?_
        refine kc_getD (j := 1) (v := .ref (aP G)) B hP rfl (by decide) kw_74 dX2_has_38 ?_
        refine lv_iload_n hx hb dX2_has_41 rfl (lv_at hl 2 rfl) ?_
        refine kc_aald (i := x) B hG hP (kc_inF q_1) dX2_has_42 ?_
        refine kc_getNX (j := 0) (k := x.toNatClampNeg) (v := .long ((c.2.2 x.toNatClampNeg).1)) B hP (kc_in10 (kc_inF q_1)) rfl (by decide) kw_87 dX2_has_43 ?_
        refine lv_lload_n hx hb dX2_has_46 rfl (lv_at hl 0 rfl) ?_
        refine kp_lgt (tgt := 69) hx hb dX2_has_47 dX2_has_48 (by decide) (fun q_4 => ?_) (fun q_4 => ?_)
        · refine lv_iconst (v := (0 : Int32)) hx hb dX2_has_69 (by decide) ?_
          exact kp_retzR B (by simp only [F_has, if_neg q_1, if_neg q_2, if_pos q_3, if_pos q_4]) (Or.inl rfl) dX2_has_70
        · refine lv_lload_n hx hb dX2_has_51 rfl (lv_at hl 0 rfl) ?_
          refine lv_aload_n hx hb dX2_has_52 rfl (lv_at hl 1 rfl) ?_
          refine kc_getD (j := 1) (v := .ref (aP G)) B hP rfl (by decide) kw_74 dX2_has_53 ?_
          refine lv_iload_n hx hb dX2_has_56 rfl (lv_at hl 2 rfl) ?_
          refine kc_aald (i := x) B hG hP (kc_inF q_1) dX2_has_57 ?_
          refine kc_getNX (j := 1) (k := x.toNatClampNeg) (v := .long ((c.2.2 x.toNatClampNeg).2)) B hP (kc_in10 (kc_inF q_1)) rfl (by decide) kw_88 dX2_has_58 ?_
          refine kp_lgt (tgt := 69) hx hb dX2_has_61 dX2_has_62 (by decide) (fun q_5 => ?_) (fun q_5 => ?_)
          · refine lv_iconst (v := (0 : Int32)) hx hb dX2_has_69 (by decide) ?_
            exact kp_retzR B (by simp only [F_has, if_neg q_1, if_neg q_2, if_pos q_3, if_neg q_4, if_pos q_5]) (Or.inl rfl) dX2_has_70
          · refine lv_iconst (v := (1 : Int32)) hx hb dX2_has_65 (by decide) ?_
            refine lv_goto (tgt := 70) hx hb dX2_has_66 (by decide) ?_
            exact kp_retzR B (by simp only [F_has, if_neg q_1, if_neg q_2, if_pos q_3, if_neg q_4, if_neg q_5]) (Or.inr rfl) dX2_has_70
    · refine lv_iconst (v := (0 : Int32)) hx hb dX2_has_19 (by decide) ?_
      exact kp_retzR B (by simp only [F_has, if_neg q_1, if_pos q_2]) (Or.inl rfl) dX2_has_20
def F_clear (c : cw_C) (x : Int32) : Int32 :=
  if (F_isPlace x) = (0 : Int32) then (0 : Int32) else (1 : Int32)
def S_clear (c : cw_C) (x : Int32) : cw_C :=
  if (F_isPlace x) = (0 : Int32) then c else S_becomeEmpty c x.toNatClampNeg
def rm_clear : Room := { frames := 1, cells := 0, slots := 0, locals := 20 }
set_option maxHeartbeats 4000000 in
set_option maxRecDepth 100000 in
theorem C_clear (l : Launch) (D : va_G) (ty : List (ClassId × FieldType)) (sz : Nat) (G : cw_G) (Z : va_W) (hG : cw_ok ty sz G Z) (c : cw_C) (x : Int32) : kp_M l yX2_clear cX2_clear 2 (some .boolean) rm_clear D ty sz [.ref (aD G), .int x] (cw_W G c Z) (some (.int (F_clear c x))) (cw_W G (S_clear c x) Z) := by
  refine kp_body (by decide) (Nat.le_of_ble_eq_true rfl) rfl ?_
  intro p e s m args below meth cd ls B hin hl hP hS
  obtain ⟨hx, hb, hml, hown, hlk, hr, hw, hE, hK, hsz⟩ := id B
  have hl : lv_has ls 2 [(0, .ref (aD G)), (1, .int x)] := hl
  refine lv_iload_n hx hb dX2_clear_0 rfl (lv_at hl 1 rfl) ?_
  refine kp_callSR (rm := rm_isPlace) (As := [.int x]) (rest := []) (r := some (.int (F_isPlace x))) (st1 := [.int (F_isPlace x)]) B (C_isPlace l D ty sz G Z hG c x) kt_isPlace kw_72 kw_73 (by decide) ⟨rfl, rfl⟩ (by decide) rfl (Nat.le_of_ble_eq_true rfl) hl.1 hP hS dX2_clear_1 rfl ?_
  refine lv_if_ne (tgt := 9) hx hb dX2_clear_4 (by decide) (fun q_1 => ?_) (fun q_1 => ?_)
  · refine lv_aload_n hx hb dX2_clear_9 rfl (lv_at hl 0 rfl) ?_
    refine kc_getD (j := 1) (v := .ref (aP G)) B hP rfl (by decide) kw_74 dX2_clear_10 ?_
    refine lv_iload_n hx hb dX2_clear_13 rfl (lv_at hl 1 rfl) ?_
    refine kc_aald (i := x) B hG hP (kc_inP q_1) dX2_clear_14 ?_
    refine kp_callN (rm := rm_becomeEmpty) (As := []) (rest := []) (r := none) (st1 := []) (ws' := cw_W G (S_becomeEmpty c x.toNatClampNeg) Z) B (C_becomeEmpty l D ty sz G Z hG c x.toNatClampNeg (kc_in10 (kc_inP q_1))) kt_becomeEmpty kw_109 kw_110 kw_111 (kc_rcN B hP (kc_in10 (kc_inP q_1))) (by decide) rfl rfl (by decide) rfl (Nat.le_of_ble_eq_true rfl) hl.1 hP hS dX2_clear_15 rfl (fun H locs hP hS => ?_)
    refine lv_iconst (v := (1 : Int32)) hx hb dX2_clear_18 (by decide) ?_
    exact kp_retz B (by simp only [S_clear, if_neg q_1]; exact hP) hS (by simp only [F_clear, if_neg q_1]) (Or.inr rfl) dX2_clear_19
  · refine lv_iconst (v := (0 : Int32)) hx hb dX2_clear_7 (by decide) ?_
    exact kp_retz B (by simp only [S_clear, if_pos q_1]; exact hP) hS (by simp only [F_clear, if_pos q_1]) (Or.inl rfl) dX2_clear_8
def F_set (c : cw_C) (x : Int32) (y : Int32) (z : Int32) : Int32 :=
  if (F_isPlace x) = (0 : Int32) then (0 : Int32) else (if (F_isPattern c y) = (0 : Int32) then (0 : Int32) else (if (F_isPattern c z) = (0 : Int32) then (0 : Int32) else (if (F_numberOf c y) = cw_inf then (0 : Int32) else (if (F_numberOf c z) = (-cw_inf) then (0 : Int32) else (if (F_numberOf c y) ≤ (F_numberOf c z) then (1 : Int32) else (0 : Int32))))))
def S_set (c : cw_C) (x : Int32) (y : Int32) (z : Int32) : cw_C :=
  if (F_isPlace x) = (0 : Int32) then c else (if (F_isPattern c y) = (0 : Int32) then c else (if (F_isPattern c z) = (0 : Int32) then c else (if (F_numberOf c y) = cw_inf then c else (if (F_numberOf c z) = (-cw_inf) then c else (if (F_numberOf c y) ≤ (F_numberOf c z) then S_become c x.toNatClampNeg (F_numberOf c y) (F_numberOf c z) else c)))))
def rm_set : Room := { frames := 3, cells := 0, slots := 0, locals := 67 }
set_option maxHeartbeats 4000000 in
set_option maxRecDepth 100000 in
theorem C_set (l : Launch) (D : va_G) (ty : List (ClassId × FieldType)) (sz : Nat) (G : cw_G) (Z : va_W) (hG : cw_ok ty sz G Z) (c : cw_C) (x : Int32) (y : Int32) (z : Int32) : kp_M l yX2_set cX2_set 8 (some .boolean) rm_set D ty sz [.ref (aD G), .int x, .int y, .int z] (cw_W G c Z) (some (.int (F_set c x y z))) (cw_W G (S_set c x y z) Z) := by
  refine kp_body (by decide) (Nat.le_of_ble_eq_true rfl) rfl ?_
  intro p e s m args below meth cd ls B hin hl hP hS
  obtain ⟨hx, hb, hml, hown, hlk, hr, hw, hE, hK, hsz⟩ := id B
  have hl : lv_has ls 8 [(0, .ref (aD G)), (1, .int x), (2, .int y), (3, .int z)] := hl
  refine lv_iload_n hx hb dX2_set_0 rfl (lv_at hl 1 rfl) ?_
  refine kp_callSR (rm := rm_isPlace) (As := [.int x]) (rest := []) (r := some (.int (F_isPlace x))) (st1 := [.int (F_isPlace x)]) B (C_isPlace l D ty sz G Z hG c x) kt_isPlace kw_72 kw_73 (by decide) ⟨rfl, rfl⟩ (by decide) rfl (Nat.le_of_ble_eq_true rfl) hl.1 hP hS dX2_set_1 rfl ?_
  refine lv_if_eq (tgt := 29) hx hb dX2_set_4 (by decide) (fun q_1 => ?_) (fun q_1 => ?_)
  · refine lv_iconst (v := (0 : Int32)) hx hb dX2_set_29 (by decide) ?_
    exact kp_retz B (by simp only [S_set, if_pos q_1]; exact hP) hS (by simp only [F_set, if_pos q_1]) (Or.inl rfl) dX2_set_30
  · refine lv_aload_n hx hb dX2_set_7 rfl (lv_at hl 0 rfl) ?_
    refine kc_getD (j := 0) (v := .ref (aS G)) B hP rfl (by decide) kw_76 dX2_set_8 ?_
    refine lv_iload_n hx hb dX2_set_11 rfl (lv_at hl 2 rfl) ?_
    refine kp_callNR (rm := rm_isPattern) (As := [.int y]) (rest := []) (r := some (.int (F_isPattern c y))) (st1 := [.int (F_isPattern c y)]) B (C_isPattern l D ty sz G Z hG c y) kt_isPattern kw_194 kw_195 kw_196 (kc_rcS B hP) (by decide) ⟨rfl, rfl⟩ (by decide) rfl (Nat.le_of_ble_eq_true rfl) hl.1 hP hS dX2_set_12 rfl ?_
    refine lv_if_eq (tgt := 29) hx hb dX2_set_15 (by decide) (fun q_2 => ?_) (fun q_2 => ?_)
    · refine lv_iconst (v := (0 : Int32)) hx hb dX2_set_29 (by decide) ?_
      exact kp_retz B (by simp only [S_set, if_neg q_1, if_pos q_2]; exact hP) hS (by simp only [F_set, if_neg q_1, if_pos q_2]) (Or.inl rfl) dX2_set_30
    · refine lv_aload_n hx hb dX2_set_18 rfl (lv_at hl 0 rfl) ?_
      refine kc_getD (j := 0) (v := .ref (aS G)) B hP rfl (by decide) kw_76 dX2_set_19 ?_
      refine lv_iload_n hx hb dX2_set_22 rfl (lv_at hl 3 rfl) ?_
      refine kp_callNR (rm := rm_isPattern) (As := [.int z]) (rest := []) (r := some (.int (F_isPattern c z))) (st1 := [.int (F_isPattern c z)]) B (C_isPattern l D ty sz G Z hG c z) kt_isPattern kw_194 kw_195 kw_196 (kc_rcS B hP) (by decide) ⟨rfl, rfl⟩ (by decide) rfl (Nat.le_of_ble_eq_true rfl) hl.1 hP hS dX2_set_23 rfl ?_
      refine lv_if_ne (tgt := 31) hx hb dX2_set_26 (by decide) (fun q_3 => ?_) (fun q_3 => ?_)
      · refine lv_aload_n hx hb dX2_set_31 rfl (lv_at hl 0 rfl) ?_
        refine kc_getD (j := 0) (v := .ref (aS G)) B hP rfl (by decide) kw_76 dX2_set_32 ?_
        refine lv_iload_n hx hb dX2_set_35 rfl (lv_at hl 2 rfl) ?_
        refine kp_callNR (rm := rm_numberOf) (As := [.int y]) (rest := []) (r := some (.long (F_numberOf c y))) (st1 := [.long (F_numberOf c y)]) B (C_numberOf l D ty sz G Z hG c y) kt_numberOf kw_199 kw_200 kw_201 (kc_rcS B hP) (by decide) ⟨rfl, rfl⟩ (by decide) rfl (Nat.le_of_ble_eq_true rfl) hl.1 hP hS dX2_set_36 rfl ?_
        refine lv_lstore (lv' := [(4, .long (F_numberOf c y)), (0, .ref (aD G)), (1, .int x), (2, .int y), (3, .int z)]) hx hb dX2_set_39 hl (by decide) rfl (fun ls hl => ?_)
        refine lv_aload_n hx hb dX2_set_41 rfl (lv_at hl 1 rfl) ?_
        refine kc_getD (j := 0) (v := .ref (aS G)) B hP rfl (by decide) kw_76 dX2_set_42 ?_
        refine lv_iload_n hx hb dX2_set_45 rfl (lv_at hl 4 rfl) ?_
        refine kp_callNR (rm := rm_numberOf) (As := [.int z]) (rest := []) (r := some (.long (F_numberOf c z))) (st1 := [.long (F_numberOf c z)]) B (C_numberOf l D ty sz G Z hG c z) kt_numberOf kw_199 kw_200 kw_201 (kc_rcS B hP) (by decide) ⟨rfl, rfl⟩ (by decide) rfl (Nat.le_of_ble_eq_true rfl) hl.1 hP hS dX2_set_46 rfl ?_
        refine lv_lstore (lv' := [(6, .long (F_numberOf c z)), (4, .long (F_numberOf c y)), (0, .ref (aD G)), (1, .int x), (2, .int y), (3, .int z)]) hx hb dX2_set_49 hl (by decide) rfl (fun ls hl => ?_)
        refine lv_lload hx hb dX2_set_51 (lv_at hl 1 rfl) ?_
        refine lv_ldc2 (v := cw_inf) hx hb hown (hw _ kw_64 rfl) dX2_set_53 ?_
        refine kp_leq (tgt := 77) hx hb dX2_set_56 dX2_set_57 (by decide) (fun q_4 => ?_) (fun q_4 => ?_)
        · refine lv_iconst (v := (0 : Int32)) hx hb dX2_set_77 (by decide) ?_
          exact kp_retz B (by simp only [S_set, if_neg q_1, if_neg q_2, if_neg q_3, if_pos q_4]; exact hP) hS (by simp only [F_set, if_neg q_1, if_neg q_2, if_neg q_3, if_pos q_4]) (Or.inl rfl) dX2_set_78
        · refine lv_lload hx hb dX2_set_60 (lv_at hl 0 rfl) ?_
          refine lv_ldc2 (v := (-cw_inf)) hx hb hown (hw _ kw_65 rfl) dX2_set_62 ?_
          refine kp_leq (tgt := 77) hx hb dX2_set_65 dX2_set_66 (by decide) (fun q_5 => ?_) (fun q_5 => ?_)
          · refine lv_iconst (v := (0 : Int32)) hx hb dX2_set_77 (by decide) ?_
            exact kp_retz B (by simp only [S_set, if_neg q_1, if_neg q_2, if_neg q_3, if_neg q_4, if_pos q_5]; exact hP) hS (by simp only [F_set, if_neg q_1, if_neg q_2, if_neg q_3, if_neg q_4, if_pos q_5]) (Or.inl rfl) dX2_set_78
          · refine lv_lload hx hb dX2_set_69 (lv_at hl 1 rfl) ?_
            refine lv_lload hx hb dX2_set_71 (lv_at hl 0 rfl) ?_
            refine kp_lle (tgt := 79) hx hb dX2_set_73 dX2_set_74 (by decide) (fun q_6 => ?_) (fun q_6 => ?_)
            · refine lv_aload_n hx hb dX2_set_79 rfl (lv_at hl 2 rfl) ?_
              refine kc_getD (j := 1) (v := .ref (aP G)) B hP rfl (by decide) kw_74 dX2_set_80 ?_
              refine lv_iload_n hx hb dX2_set_83 rfl (lv_at hl 3 rfl) ?_
              refine kc_aald (i := x) B hG hP (kc_inP q_1) dX2_set_84 ?_
              refine lv_lload hx hb dX2_set_85 (lv_at hl 1 rfl) ?_
              refine lv_lload hx hb dX2_set_87 (lv_at hl 0 rfl) ?_
              refine kp_callN (rm := rm_become) (As := [.long (F_numberOf c y), .long (F_numberOf c z)]) (rest := []) (r := none) (st1 := []) (ws' := cw_W G (S_become c x.toNatClampNeg (F_numberOf c y) (F_numberOf c z)) Z) B (C_become l D ty sz G Z hG c x.toNatClampNeg (kc_in10 (kc_inP q_1)) (F_numberOf c y) (F_numberOf c z)) kt_become kw_104 kw_105 kw_106 (kc_rcN B hP (kc_in10 (kc_inP q_1))) (by decide) rfl rfl (by decide) rfl (Nat.le_of_ble_eq_true rfl) hl.1 hP hS dX2_set_89 rfl (fun H locs hP hS => ?_)
              refine lv_iconst (v := (1 : Int32)) hx hb dX2_set_92 (by decide) ?_
              exact kp_retz B (by simp only [S_set, if_neg q_1, if_neg q_2, if_neg q_3, if_neg q_4, if_neg q_5, if_pos q_6]; exact hP) hS (by simp only [F_set, if_neg q_1, if_neg q_2, if_neg q_3, if_neg q_4, if_neg q_5, if_pos q_6]) (Or.inr rfl) dX2_set_93
            · refine lv_iconst (v := (0 : Int32)) hx hb dX2_set_77 (by decide) ?_
              exact kp_retz B (by simp only [S_set, if_neg q_1, if_neg q_2, if_neg q_3, if_neg q_4, if_neg q_5, if_neg q_6]; exact hP) hS (by simp only [F_set, if_neg q_1, if_neg q_2, if_neg q_3, if_neg q_4, if_neg q_5, if_neg q_6]) (Or.inl rfl) dX2_set_78
      · refine lv_iconst (v := (0 : Int32)) hx hb dX2_set_29 (by decide) ?_
        exact kp_retz B (by simp only [S_set, if_neg q_1, if_neg q_2, if_pos q_3]; exact hP) hS (by simp only [F_set, if_neg q_1, if_neg q_2, if_pos q_3]) (Or.inl rfl) dX2_set_30
def LF_format (x : Int32) (y : Int32) : Nat → cw_C → Int32 → Int32
  | 0, c, i => 0
  | n + 1, c, i => if (8 : Int32) ≤ i then (1 : Int32) else LF_format x y n (S_becomeEmpty c i.toNatClampNeg) (i + (1 : Int32))
def LS_format (x : Int32) (y : Int32) : Nat → cw_C → Int32 → cw_C
  | 0, c, i => c
  | n + 1, c, i => if (8 : Int32) ≤ i then c else LS_format x y n (S_becomeEmpty c i.toNatClampNeg) (i + (1 : Int32))
def F_format (c : cw_C) (x : Int32) (y : Int32) : Int32 :=
  if x < (2 : Int32) then (0 : Int32) else (if (4 : Int32) < x then (0 : Int32) else (if y < (1 : Int32) then (0 : Int32) else (if y ≤ (10 : Int32) then LF_format x y 9 (cw_e1 (cw_e0 c x) y) (0 : Int32) else (0 : Int32))))
def S_format (c : cw_C) (x : Int32) (y : Int32) : cw_C :=
  if x < (2 : Int32) then c else (if (4 : Int32) < x then c else (if y < (1 : Int32) then c else (if y ≤ (10 : Int32) then LS_format x y 9 (cw_e1 (cw_e0 c x) y) (0 : Int32) else c)))
def rm_format : Room := { frames := 1, cells := 0, slots := 0, locals := 20 }
set_option maxHeartbeats 4000000 in
set_option maxRecDepth 100000 in
theorem LP_format (l : Launch) (D : va_G) (ty : List (ClassId × FieldType)) (sz : Nat) (G : cw_G) (Z : va_W) (hG : cw_ok ty sz G Z) (x : Int32) (y : Int32) {p : Program} {e : Env} {s : State} {m : MethodId} {args : Array Value} {below : List Frame} {meth : Method} {cd : Code} (B : kp_B p l s m args meth cd yX2_format.cls cX2_format 4 (some .boolean) D ty sz) :
    ∀ (n : Nat) (c : cw_C) (i : Int32) (h1 : 0 ≤ i.toInt) (h2 : 9 ≤ i.toInt + n) (h3 : i.toInt ≤ 8), ∀ (H : Heap) (locs : List Loc) (ls : Array Slot), lv_has ls 4 [(0, .ref (aD G)), (1, .int x), (2, .int y), (3, .int i)] → va_P D vwCl (cw_W G c Z) H → va_S (kp_A sz) s.heap H locs → W p l e rm_format s m args below meth cd H locs 0 0 (MQ below (kp_Q D sz (some (.int (LF_format x y n c i))) (cw_W G (LS_format x y n c i) Z)) args s rm_format.cells rm_format.slots (kp_A sz)) (F0 m 41 ls []) := by
  obtain ⟨hx, hb, hml, hown, hlk, hr, hw, hE, hK, hsz⟩ := id B
  intro n
  induction n with
  | zero =>
    intro c i h1 h2 h3
    exact absurd h2 (by omega)
  | succ n ih =>
    intro c i h1 h2 h3 H locs ls hl hP hS
    refine lv_iload_n hx hb dX2_format_41 rfl (lv_at hl 3 rfl) ?_
    refine lv_bipush (v := (8 : Int32)) hx hb dX2_format_42 (by decide) ?_
    refine lv_icmp_ge (tgt := 62) hx hb dX2_format_44 (by decide) (fun q_1 => ?_) (fun q_1 => ?_)
    · refine lv_iconst (v := (1 : Int32)) hx hb dX2_format_62 (by decide) ?_
      exact kp_retz B (by simp only [LS_format, if_pos q_1]; exact hP) hS (by simp only [LF_format, if_pos q_1]) (Or.inr rfl) dX2_format_63
    · refine lv_aload_n hx hb dX2_format_47 rfl (lv_at hl 0 rfl) ?_
      refine kc_getD (j := 1) (v := .ref (aP G)) B hP rfl (by decide) kw_74 dX2_format_48 ?_
      refine lv_iload_n hx hb dX2_format_51 rfl (lv_at hl 3 rfl) ?_
      refine kc_aald (i := i) B hG hP (ki_in8 h1 q_1) dX2_format_52 ?_
      refine kp_callN (rm := rm_becomeEmpty) (As := []) (rest := []) (r := none) (st1 := []) (ws' := cw_W G (S_becomeEmpty c i.toNatClampNeg) Z) B (C_becomeEmpty l D ty sz G Z hG c i.toNatClampNeg (kc_in10 (ki_in8 h1 q_1))) kt_becomeEmpty kw_109 kw_110 kw_111 (kc_rcN B hP (kc_in10 (ki_in8 h1 q_1))) (by decide) rfl rfl (by decide) rfl (Nat.le_of_ble_eq_true rfl) hl.1 hP hS dX2_format_53 rfl (fun H locs hP hS => ?_)
      refine lv_iinc (v := i + (1 : Int32)) (lv' := [(3, .int (i + (1 : Int32))), (0, .ref (aD G)), (1, .int x), (2, .int y)]) hx hb dX2_format_56 hl (k := 3) rfl rfl (by decide) rfl (fun ls hl => ?_)
      refine lv_goto (tgt := 41) hx hb dX2_format_59 (by decide) ?_
      rw [show LF_format x y (n + 1) c i = LF_format x y n (S_becomeEmpty c i.toNatClampNeg) (i + (1 : Int32)) from by simp only [LF_format, if_neg q_1]]
      rw [show LS_format x y (n + 1) c i = LS_format x y n (S_becomeEmpty c i.toNatClampNeg) (i + (1 : Int32)) from by simp only [LS_format, if_neg q_1]]
      exact ih (S_becomeEmpty c i.toNatClampNeg) (i + (1 : Int32)) (ki_up8 h1 h3 q_1 h2).1 (ki_up8 h1 h3 q_1 h2).2.1 (ki_up8 h1 h3 q_1 h2).2.2 _ _ ls (lv_sub hl [1, 2, 3, 0] rfl) hP hS
set_option maxHeartbeats 4000000 in
set_option maxRecDepth 100000 in
theorem C_format (l : Launch) (D : va_G) (ty : List (ClassId × FieldType)) (sz : Nat) (G : cw_G) (Z : va_W) (hG : cw_ok ty sz G Z) (c : cw_C) (x : Int32) (y : Int32) : kp_M l yX2_format cX2_format 4 (some .boolean) rm_format D ty sz [.ref (aD G), .int x, .int y] (cw_W G c Z) (some (.int (F_format c x y))) (cw_W G (S_format c x y) Z) := by
  refine kp_body (by decide) (Nat.le_of_ble_eq_true rfl) rfl ?_
  intro p e s m args below meth cd ls B hin hl hP hS
  obtain ⟨hx, hb, hml, hown, hlk, hr, hw, hE, hK, hsz⟩ := id B
  have hl : lv_has ls 4 [(0, .ref (aD G)), (1, .int x), (2, .int y)] := hl
  refine lv_iload_n hx hb dX2_format_0 rfl (lv_at hl 1 rfl) ?_
  refine lv_iconst (v := (2 : Int32)) hx hb dX2_format_1 (by decide) ?_
  refine lv_icmp_lt (tgt := 21) hx hb dX2_format_2 (by decide) (fun q_1 => ?_) (fun q_1 => ?_)
  · refine lv_iconst (v := (0 : Int32)) hx hb dX2_format_21 (by decide) ?_
    exact kp_retz B (by simp only [S_format, if_pos q_1]; exact hP) hS (by simp only [F_format, if_pos q_1]) (Or.inl rfl) dX2_format_22
  · refine lv_iload_n hx hb dX2_format_5 rfl (lv_at hl 1 rfl) ?_
    refine lv_iconst (v := (4 : Int32)) hx hb dX2_format_6 (by decide) ?_
    refine lv_icmp_gt (tgt := 21) hx hb dX2_format_7 (by decide) (fun q_2 => ?_) (fun q_2 => ?_)
    · refine lv_iconst (v := (0 : Int32)) hx hb dX2_format_21 (by decide) ?_
      exact kp_retz B (by simp only [S_format, if_neg q_1, if_pos q_2]; exact hP) hS (by simp only [F_format, if_neg q_1, if_pos q_2]) (Or.inl rfl) dX2_format_22
    · refine lv_iload_n hx hb dX2_format_10 rfl (lv_at hl 2 rfl) ?_
      refine lv_iconst (v := (1 : Int32)) hx hb dX2_format_11 (by decide) ?_
      refine lv_icmp_lt (tgt := 21) hx hb dX2_format_12 (by decide) (fun q_3 => ?_) (fun q_3 => ?_)
      · refine lv_iconst (v := (0 : Int32)) hx hb dX2_format_21 (by decide) ?_
        exact kp_retz B (by simp only [S_format, if_neg q_1, if_neg q_2, if_pos q_3]; exact hP) hS (by simp only [F_format, if_neg q_1, if_neg q_2, if_pos q_3]) (Or.inl rfl) dX2_format_22
      · refine lv_iload_n hx hb dX2_format_15 rfl (lv_at hl 2 rfl) ?_
        refine lv_bipush (v := (10 : Int32)) hx hb dX2_format_16 (by decide) ?_
        refine lv_icmp_le (tgt := 23) hx hb dX2_format_18 (by decide) (fun q_4 => ?_) (fun q_4 => ?_)
        · refine lv_aload_n hx hb dX2_format_23 rfl (lv_at hl 0 rfl) ?_
          refine kc_getD (j := 0) (v := .ref (aS G)) B hP rfl (by decide) kw_76 dX2_format_24 ?_
          refine lv_iload_n hx hb dX2_format_27 rfl (lv_at hl 1 rfl) ?_
          refine kc_putSX0 (v := x) B hG hP hS kw_202 dX2_format_28 (fun H locs hP hS => ?_)
          refine lv_aload_n hx hb dX2_format_31 rfl (lv_at hl 0 rfl) ?_
          refine kc_getD (j := 0) (v := .ref (aS G)) B hP rfl (by decide) kw_76 dX2_format_32 ?_
          refine lv_iload_n hx hb dX2_format_35 rfl (lv_at hl 2 rfl) ?_
          refine kc_putSX1 (v := y) B hG hP hS kw_203 dX2_format_36 (fun H locs hP hS => ?_)
          refine lv_iconst (v := (0 : Int32)) hx hb dX2_format_39 (by decide) ?_
          refine lv_istore_n (lv' := [(3, .int (0 : Int32)), (0, .ref (aD G)), (1, .int x), (2, .int y)]) hx hb dX2_format_40 rfl hl (by decide) rfl (fun ls hl => ?_)
          rw [show F_format c x y = LF_format x y 9 (cw_e1 (cw_e0 c x) y) (0 : Int32) from by simp only [F_format, if_neg q_1, if_neg q_2, if_neg q_3, if_pos q_4]]
          rw [show S_format c x y = LS_format x y 9 (cw_e1 (cw_e0 c x) y) (0 : Int32) from by simp only [S_format, if_neg q_1, if_neg q_2, if_neg q_3, if_pos q_4]]
          exact LP_format l D ty sz G Z hG x y B 9 (cw_e1 (cw_e0 c x) y) (0 : Int32) (by decide) (by decide) (by decide) _ _ ls (lv_sub hl [1, 2, 3, 0] rfl) hP hS
        · refine lv_iconst (v := (0 : Int32)) hx hb dX2_format_21 (by decide) ?_
          exact kp_retz B (by simp only [S_format, if_neg q_1, if_neg q_2, if_neg q_3, if_neg q_4]; exact hP) hS (by simp only [F_format, if_neg q_1, if_neg q_2, if_neg q_3, if_neg q_4]) (Or.inl rfl) dX2_format_22
def F_does (c : cw_C) (x : Int32) (y : Int32) (z : Int32) (v : Int32) : Option Int32 :=
  if x < (0 : Int32) then none else (if x ≤ (11 : Int32) then (if (F_isPlace y) = (0 : Int32) then none else (if (F_isPlace z) = (0 : Int32) then none else (if (if x < (8 : Int32) then (0 : Int32) else (1 : Int32)) = (0 : Int32) then (if (F_isPlace v) = (0 : Int32) then none else some (F_keep (S_reckonTwo c x z.toNatClampNeg v.toNatClampNeg) 8 y.toNatClampNeg)) else some (F_keep (S_reckonOne c x z.toNatClampNeg) 8 y.toNatClampNeg)))) else none)
def S_does (c : cw_C) (x : Int32) (y : Int32) (z : Int32) (v : Int32) : cw_C :=
  if x < (0 : Int32) then c else (if x ≤ (11 : Int32) then (if (F_isPlace y) = (0 : Int32) then c else (if (F_isPlace z) = (0 : Int32) then c else (if (if x < (8 : Int32) then (0 : Int32) else (1 : Int32)) = (0 : Int32) then (if (F_isPlace v) = (0 : Int32) then c else S_keep (S_reckonTwo c x z.toNatClampNeg v.toNatClampNeg) 8 y.toNatClampNeg) else S_keep (S_reckonOne c x z.toNatClampNeg) 8 y.toNatClampNeg))) else c)
def rm_does : Room := { frames := 6, cells := 1, slots := 6, locals := 139 }
set_option maxHeartbeats 4000000 in
set_option maxRecDepth 100000 in
theorem C_does (l : Launch) (D : va_G) (ty : List (ClassId × FieldType)) (sz : Nat) (G : cw_G) (Z : va_W) (hG : cw_ok ty sz G Z) (c : cw_C) (x : Int32) (y : Int32) (z : Int32) (v : Int32) (htr : l.stackTraces = false) : kx_M l yX2_does cX2_does 6 (some .int) rm_does D ty sz [.ref (aD G), .int x, .int y, .int z, .int v] (cw_W G c Z) (Option.map Value.int (F_does c x y z v)) (cw_W G (S_does c x y z v) Z) "java/lang/IllegalArgumentException" := by
  refine kx_body (by decide) (Nat.le_of_ble_eq_true rfl) rfl ?_
  intro p e s m args below meth cd ls B hexc hH hl hP hS
  obtain ⟨hx, hb, hml, hown, hlk, hr, hw, hE, hK, hsz⟩ := id B
  have hl : lv_has ls 6 [(0, .ref (aD G)), (1, .int x), (2, .int y), (3, .int z), (4, .int v)] := hl
  refine lv_iload_n hx hb dX2_does_0 rfl (lv_at hl 1 rfl) ?_
  refine lv_if_lt (tgt := 10) hx hb dX2_does_1 (by decide) (fun q_1 => ?_) (fun q_1 => ?_)
  · exact kx_throw (names := kx_names) B htr hexc hH (by decide +kernel) (by decide +kernel) kx_at65 kw_219 kw_220 kw_221 hl.1 dX2_does_10 dX2_does_13 dX2_does_14 dX2_does_16 dX2_does_19 (by decide) (by decide) (by decide) (by decide) (by simp only [F_does, if_pos q_1, Option.map_none])
  · refine lv_iload_n hx hb dX2_does_4 rfl (lv_at hl 1 rfl) ?_
    refine lv_bipush (v := (11 : Int32)) hx hb dX2_does_5 (by decide) ?_
    refine lv_icmp_le (tgt := 20) hx hb dX2_does_7 (by decide) (fun q_2 => ?_) (fun q_2 => ?_)
    · refine lv_iload_n hx hb dX2_does_20 rfl (lv_at hl 1 rfl) ?_
      refine lv_bipush (v := (8 : Int32)) hx hb dX2_does_21 (by decide) ?_
      have hJ31 : W p l e rm_does s m args below meth cd s.heap [] 0 0 (kx_MQ below (kx_Q D sz (Option.map Value.int (F_does c x y z v)) (cw_W G (S_does c x y z v) Z) "java/lang/IllegalArgumentException") args s) (F0 m 31 ls [.int (if x < (8 : Int32) then (0 : Int32) else (1 : Int32))]) := by
        refine lv_istore (lv' := [(5, .int (if x < (8 : Int32) then (0 : Int32) else (1 : Int32))), (0, .ref (aD G)), (1, .int x), (2, .int y), (3, .int z), (4, .int v)]) hx hb dX2_does_31 hl (by decide) rfl (fun ls hl => ?_)
        refine lv_iload_n hx hb dX2_does_33 rfl (lv_at hl 3 rfl) ?_
        refine kp_callSR (rm := rm_isPlace) (As := [.int y]) (rest := []) (r := some (.int (F_isPlace y))) (st1 := [.int (F_isPlace y)]) B (C_isPlace l D ty sz G Z hG c y) kt_isPlace kw_72 kw_73 (by decide) ⟨rfl, rfl⟩ (by decide) rfl (Nat.le_of_ble_eq_true rfl) hl.1 hP hS dX2_does_34 rfl ?_
        refine lv_if_eq (tgt := 60) hx hb dX2_does_37 (by decide) (fun q_3 => ?_) (fun q_3 => ?_)
        · exact kx_throw (names := kx_names) B htr hexc hH (by decide +kernel) (by decide +kernel) kx_at65 kw_219 kw_220 kw_222 hl.1 dX2_does_60 dX2_does_63 dX2_does_64 dX2_does_66 dX2_does_69 (by decide) (by decide) (by decide) (by decide) (by simp only [F_does, if_neg q_1, if_pos q_2, if_pos q_3, Option.map_none])
        · refine lv_iload_n hx hb dX2_does_40 rfl (lv_at hl 4 rfl) ?_
          refine kp_callSR (rm := rm_isPlace) (As := [.int z]) (rest := []) (r := some (.int (F_isPlace z))) (st1 := [.int (F_isPlace z)]) B (C_isPlace l D ty sz G Z hG c z) kt_isPlace kw_72 kw_73 (by decide) ⟨rfl, rfl⟩ (by decide) rfl (Nat.le_of_ble_eq_true rfl) hl.1 hP hS dX2_does_41 rfl ?_
          refine lv_if_eq (tgt := 60) hx hb dX2_does_44 (by decide) (fun q_4 => ?_) (fun q_4 => ?_)
          · exact kx_throw (names := kx_names) B htr hexc hH (by decide +kernel) (by decide +kernel) kx_at65 kw_219 kw_220 kw_222 hl.1 dX2_does_60 dX2_does_63 dX2_does_64 dX2_does_66 dX2_does_69 (by decide) (by decide) (by decide) (by decide) (by simp only [F_does, if_neg q_1, if_pos q_2, if_neg q_3, if_pos q_4, Option.map_none])
          · refine lv_iload hx hb dX2_does_47 (lv_at hl 0 rfl) ?_
            refine lv_if_ne (tgt := 70) hx hb dX2_does_49 (by decide) (fun q_5 => ?_) (fun q_5 => ?_)
            · refine lv_iload hx hb dX2_does_70 (lv_at hl 0 rfl) ?_
              refine lv_if_eq (tgt := 89) hx hb dX2_does_72 (by decide) (fun q_6 => ?_) (fun q_6 => ?_)
              · exact absurd q_6 q_5
              · refine lv_aload_n hx hb dX2_does_75 rfl (lv_at hl 1 rfl) ?_
                refine lv_iload_n hx hb dX2_does_76 rfl (lv_at hl 2 rfl) ?_
                refine lv_aload_n hx hb dX2_does_77 rfl (lv_at hl 1 rfl) ?_
                refine kc_getD (j := 1) (v := .ref (aP G)) B hP rfl (by decide) kw_74 dX2_does_78 ?_
                refine lv_iload_n hx hb dX2_does_81 rfl (lv_at hl 4 rfl) ?_
                refine kc_aald (i := z) B hG hP (kc_inP q_4) dX2_does_82 ?_
                refine kp_callV (rm := rm_reckonOne) (As := [.int x, .ref (aN G z.toNatClampNeg)]) (rest := []) (r := none) (st1 := []) (ws' := cw_W G (S_reckonOne c x z.toNatClampNeg) Z) B (C_reckonOne l D ty sz G Z hG c x z.toNatClampNeg (kc_in10 (kc_inP q_4))) kt_reckonOne kw_206 kw_207 kw_208 (kc_rcD B hP) (by decide) rfl rfl (by decide) rfl (Nat.le_of_ble_eq_true rfl) hl.1 hP hS dX2_does_83 rfl (fun H locs hP hS => ?_)
                refine lv_goto (tgt := 107) hx hb dX2_does_86 (by decide) ?_
                refine lv_aload_n hx hb dX2_does_107 rfl (lv_at hl 1 rfl) ?_
                refine lv_aload_n hx hb dX2_does_108 rfl (lv_at hl 1 rfl) ?_
                refine kc_getD (j := 2) (v := .ref (aN G 8)) B hP rfl (by decide) kw_101 dX2_does_109 ?_
                refine lv_aload_n hx hb dX2_does_112 rfl (lv_at hl 1 rfl) ?_
                refine kc_getD (j := 1) (v := .ref (aP G)) B hP rfl (by decide) kw_74 dX2_does_113 ?_
                refine lv_iload_n hx hb dX2_does_116 rfl (lv_at hl 3 rfl) ?_
                refine kc_aald (i := y) B hG hP (kc_inP q_3) dX2_does_117 ?_
                refine kp_callV (rm := rm_keep) (As := [.ref (aN G 8), .ref (aN G y.toNatClampNeg)]) (rest := []) (r := some (.int (F_keep (S_reckonOne c x z.toNatClampNeg) 8 y.toNatClampNeg))) (st1 := [.int (F_keep (S_reckonOne c x z.toNatClampNeg) 8 y.toNatClampNeg)]) (ws' := cw_W G (S_keep (S_reckonOne c x z.toNatClampNeg) 8 y.toNatClampNeg) Z) B (C_keep l D ty sz G Z hG (S_reckonOne c x z.toNatClampNeg) 8 (by decide) y.toNatClampNeg (kc_in10 (kc_inP q_3))) kt_keep kw_211 kw_212 kw_213 (kc_rcD B hP) (by decide) rfl rfl (by decide) rfl (Nat.le_of_ble_eq_true rfl) hl.1 hP hS dX2_does_118 rfl (fun H locs hP hS => ?_)
                exact kx_reti B (by simp only [S_does, if_neg q_1, if_pos q_2, if_neg q_3, if_neg q_4, if_neg q_5]; exact hP) hS (by simp only [F_does, if_neg q_1, if_pos q_2, if_neg q_3, if_neg q_4, if_neg q_5, Option.map_some]) dX2_does_121
            · refine lv_iload hx hb dX2_does_52 (lv_at hl 5 rfl) ?_
              refine kp_callSR (rm := rm_isPlace) (As := [.int v]) (rest := []) (r := some (.int (F_isPlace v))) (st1 := [.int (F_isPlace v)]) B (C_isPlace l D ty sz G Z hG c v) kt_isPlace kw_72 kw_73 (by decide) ⟨rfl, rfl⟩ (by decide) rfl (Nat.le_of_ble_eq_true rfl) hl.1 hP hS dX2_does_54 rfl ?_
              refine lv_if_ne (tgt := 70) hx hb dX2_does_57 (by decide) (fun q_7 => ?_) (fun q_7 => ?_)
              · refine lv_iload hx hb dX2_does_70 (lv_at hl 0 rfl) ?_
                refine lv_if_eq (tgt := 89) hx hb dX2_does_72 (by decide) (fun q_8 => ?_) (fun q_8 => ?_)
                · refine lv_aload_n hx hb dX2_does_89 rfl (lv_at hl 1 rfl) ?_
                  refine lv_iload_n hx hb dX2_does_90 rfl (lv_at hl 2 rfl) ?_
                  refine lv_aload_n hx hb dX2_does_91 rfl (lv_at hl 1 rfl) ?_
                  refine kc_getD (j := 1) (v := .ref (aP G)) B hP rfl (by decide) kw_74 dX2_does_92 ?_
                  refine lv_iload_n hx hb dX2_does_95 rfl (lv_at hl 4 rfl) ?_
                  refine kc_aald (i := z) B hG hP (kc_inP q_4) dX2_does_96 ?_
                  refine lv_aload_n hx hb dX2_does_97 rfl (lv_at hl 1 rfl) ?_
                  refine kc_getD (j := 1) (v := .ref (aP G)) B hP rfl (by decide) kw_74 dX2_does_98 ?_
                  refine lv_iload hx hb dX2_does_101 (lv_at hl 5 rfl) ?_
                  refine kc_aald (i := v) B hG hP (kc_inP q_7) dX2_does_103 ?_
                  refine kp_callV (rm := rm_reckonTwo) (As := [.int x, .ref (aN G z.toNatClampNeg), .ref (aN G v.toNatClampNeg)]) (rest := []) (r := none) (st1 := []) (ws' := cw_W G (S_reckonTwo c x z.toNatClampNeg v.toNatClampNeg) Z) B (C_reckonTwo l D ty sz G Z hG c x z.toNatClampNeg (kc_in10 (kc_inP q_4)) v.toNatClampNeg (kc_in10 (kc_inP q_7))) kt_reckonTwo kw_216 kw_217 kw_218 (kc_rcD B hP) (by decide) rfl rfl (by decide) rfl (Nat.le_of_ble_eq_true rfl) hl.1 hP hS dX2_does_104 rfl (fun H locs hP hS => ?_)
                  refine lv_aload_n hx hb dX2_does_107 rfl (lv_at hl 1 rfl) ?_
                  refine lv_aload_n hx hb dX2_does_108 rfl (lv_at hl 1 rfl) ?_
                  refine kc_getD (j := 2) (v := .ref (aN G 8)) B hP rfl (by decide) kw_101 dX2_does_109 ?_
                  refine lv_aload_n hx hb dX2_does_112 rfl (lv_at hl 1 rfl) ?_
                  refine kc_getD (j := 1) (v := .ref (aP G)) B hP rfl (by decide) kw_74 dX2_does_113 ?_
                  refine lv_iload_n hx hb dX2_does_116 rfl (lv_at hl 3 rfl) ?_
                  refine kc_aald (i := y) B hG hP (kc_inP q_3) dX2_does_117 ?_
                  refine kp_callV (rm := rm_keep) (As := [.ref (aN G 8), .ref (aN G y.toNatClampNeg)]) (rest := []) (r := some (.int (F_keep (S_reckonTwo c x z.toNatClampNeg v.toNatClampNeg) 8 y.toNatClampNeg))) (st1 := [.int (F_keep (S_reckonTwo c x z.toNatClampNeg v.toNatClampNeg) 8 y.toNatClampNeg)]) (ws' := cw_W G (S_keep (S_reckonTwo c x z.toNatClampNeg v.toNatClampNeg) 8 y.toNatClampNeg) Z) B (C_keep l D ty sz G Z hG (S_reckonTwo c x z.toNatClampNeg v.toNatClampNeg) 8 (by decide) y.toNatClampNeg (kc_in10 (kc_inP q_3))) kt_keep kw_211 kw_212 kw_213 (kc_rcD B hP) (by decide) rfl rfl (by decide) rfl (Nat.le_of_ble_eq_true rfl) hl.1 hP hS dX2_does_118 rfl (fun H locs hP hS => ?_)
                  exact kx_reti B (by simp only [S_does, if_neg q_1, if_pos q_2, if_neg q_3, if_neg q_4, if_pos q_5, if_neg q_7]; exact hP) hS (by simp only [F_does, if_neg q_1, if_pos q_2, if_neg q_3, if_neg q_4, if_pos q_5, if_neg q_7, Option.map_some]) dX2_does_121
                · exact absurd q_5 q_8
              · exact kx_throw (names := kx_names) B htr hexc hH (by decide +kernel) (by decide +kernel) kx_at65 kw_219 kw_220 kw_222 hl.1 dX2_does_60 dX2_does_63 dX2_does_64 dX2_does_66 dX2_does_69 (by decide) (by decide) (by decide) (by decide) (by simp only [F_does, if_neg q_1, if_pos q_2, if_neg q_3, if_neg q_4, if_pos q_5, if_pos q_7, Option.map_none])
      refine lv_icmp_lt (tgt := 30) hx hb dX2_does_23 (by decide) (fun q_9 => ?_) (fun q_9 => ?_)
      · refine lv_iconst (v := (0 : Int32)) hx hb dX2_does_30 (by decide) ?_
        exact kp_jI (by simp only [if_pos q_9]) hJ31
      · refine lv_iconst (v := (1 : Int32)) hx hb dX2_does_26 (by decide) ?_
        refine lv_goto (tgt := 31) hx hb dX2_does_27 (by decide) ?_
        exact kp_jI (by simp only [if_neg q_9]) hJ31
    · exact kx_throw (names := kx_names) B htr hexc hH (by decide +kernel) (by decide +kernel) kx_at65 kw_219 kw_220 kw_221 hl.1 dX2_does_10 dX2_does_13 dX2_does_14 dX2_does_16 dX2_does_19 (by decide) (by decide) (by decide) (by decide) (by simp only [F_does, if_neg q_1, if_neg q_2, Option.map_none])
def F_part (c : cw_C) (x : Int32) (y : Int32) (z : Int32) : Option Int32 :=
  if (F_isPlace x) = (0 : Int32) then none else (if (F_isPlace (x + (1 : Int32))) = (0 : Int32) then none else (if (F_isPlace y) = (0 : Int32) then none else (if (F_isPlace z) = (0 : Int32) then none else some ((F_keep (S_divide c y.toNatClampNeg z.toNatClampNeg) 8 x.toNatClampNeg) + ((8 : Int32) * (F_keep (S_keep (S_divide c y.toNatClampNeg z.toNatClampNeg) 8 x.toNatClampNeg) 9 ((x + (1 : Int32)).toNatClampNeg)))))))
def S_part (c : cw_C) (x : Int32) (y : Int32) (z : Int32) : cw_C :=
  if (F_isPlace x) = (0 : Int32) then c else (if (F_isPlace (x + (1 : Int32))) = (0 : Int32) then c else (if (F_isPlace y) = (0 : Int32) then c else (if (F_isPlace z) = (0 : Int32) then c else S_keep (S_keep (S_divide c y.toNatClampNeg z.toNatClampNeg) 8 x.toNatClampNeg) 9 ((x + (1 : Int32)).toNatClampNeg))))
def rm_part : Room := { frames := 6, cells := 1, slots := 6, locals := 135 }
set_option maxHeartbeats 4000000 in
set_option maxRecDepth 100000 in
theorem C_part (l : Launch) (D : va_G) (ty : List (ClassId × FieldType)) (sz : Nat) (G : cw_G) (Z : va_W) (hG : cw_ok ty sz G Z) (c : cw_C) (x : Int32) (y : Int32) (z : Int32) (htr : l.stackTraces = false) : kx_M l yX2_part cX2_part 6 (some .int) rm_part D ty sz [.ref (aD G), .int x, .int y, .int z] (cw_W G c Z) (Option.map Value.int (F_part c x y z)) (cw_W G (S_part c x y z) Z) "java/lang/IllegalArgumentException" := by
  refine kx_body (by decide) (Nat.le_of_ble_eq_true rfl) rfl ?_
  intro p e s m args below meth cd ls B hexc hH hl hP hS
  obtain ⟨hx, hb, hml, hown, hlk, hr, hw, hE, hK, hsz⟩ := id B
  have hl : lv_has ls 6 [(0, .ref (aD G)), (1, .int x), (2, .int y), (3, .int z)] := hl
  refine lv_iload_n hx hb dX2_part_0 rfl (lv_at hl 1 rfl) ?_
  refine kp_callSR (rm := rm_isPlace) (As := [.int x]) (rest := []) (r := some (.int (F_isPlace x))) (st1 := [.int (F_isPlace x)]) B (C_isPlace l D ty sz G Z hG c x) kt_isPlace kw_72 kw_73 (by decide) ⟨rfl, rfl⟩ (by decide) rfl (Nat.le_of_ble_eq_true rfl) hl.1 hP hS dX2_part_1 rfl ?_
  refine lv_if_eq (tgt := 30) hx hb dX2_part_4 (by decide) (fun q_1 => ?_) (fun q_1 => ?_)
  · exact kx_throw (names := kx_names) B htr hexc hH (by decide +kernel) (by decide +kernel) kx_at65 kw_219 kw_220 kw_222 hl.1 dX2_part_30 dX2_part_33 dX2_part_34 dX2_part_36 dX2_part_39 (by decide) (by decide) (by decide) (by decide) (by simp only [F_part, if_pos q_1, Option.map_none])
  · refine lv_iload_n hx hb dX2_part_7 rfl (lv_at hl 1 rfl) ?_
    refine lv_iconst (v := (1 : Int32)) hx hb dX2_part_8 (by decide) ?_
    refine lv_iadd hx hb dX2_part_9 ?_
    refine kp_callSR (rm := rm_isPlace) (As := [.int (x + (1 : Int32))]) (rest := []) (r := some (.int (F_isPlace (x + (1 : Int32))))) (st1 := [.int (F_isPlace (x + (1 : Int32)))]) B (C_isPlace l D ty sz G Z hG c (x + (1 : Int32))) kt_isPlace kw_72 kw_73 (by decide) ⟨rfl, rfl⟩ (by decide) rfl (Nat.le_of_ble_eq_true rfl) hl.1 hP hS dX2_part_10 rfl ?_
    refine lv_if_eq (tgt := 30) hx hb dX2_part_13 (by decide) (fun q_2 => ?_) (fun q_2 => ?_)
    · exact kx_throw (names := kx_names) B htr hexc hH (by decide +kernel) (by decide +kernel) kx_at65 kw_219 kw_220 kw_222 hl.1 dX2_part_30 dX2_part_33 dX2_part_34 dX2_part_36 dX2_part_39 (by decide) (by decide) (by decide) (by decide) (by simp only [F_part, if_neg q_1, if_pos q_2, Option.map_none])
    · refine lv_iload_n hx hb dX2_part_16 rfl (lv_at hl 2 rfl) ?_
      refine kp_callSR (rm := rm_isPlace) (As := [.int y]) (rest := []) (r := some (.int (F_isPlace y))) (st1 := [.int (F_isPlace y)]) B (C_isPlace l D ty sz G Z hG c y) kt_isPlace kw_72 kw_73 (by decide) ⟨rfl, rfl⟩ (by decide) rfl (Nat.le_of_ble_eq_true rfl) hl.1 hP hS dX2_part_17 rfl ?_
      refine lv_if_eq (tgt := 30) hx hb dX2_part_20 (by decide) (fun q_3 => ?_) (fun q_3 => ?_)
      · exact kx_throw (names := kx_names) B htr hexc hH (by decide +kernel) (by decide +kernel) kx_at65 kw_219 kw_220 kw_222 hl.1 dX2_part_30 dX2_part_33 dX2_part_34 dX2_part_36 dX2_part_39 (by decide) (by decide) (by decide) (by decide) (by simp only [F_part, if_neg q_1, if_neg q_2, if_pos q_3, Option.map_none])
      · refine lv_iload_n hx hb dX2_part_23 rfl (lv_at hl 3 rfl) ?_
        refine kp_callSR (rm := rm_isPlace) (As := [.int z]) (rest := []) (r := some (.int (F_isPlace z))) (st1 := [.int (F_isPlace z)]) B (C_isPlace l D ty sz G Z hG c z) kt_isPlace kw_72 kw_73 (by decide) ⟨rfl, rfl⟩ (by decide) rfl (Nat.le_of_ble_eq_true rfl) hl.1 hP hS dX2_part_24 rfl ?_
        refine lv_if_ne (tgt := 40) hx hb dX2_part_27 (by decide) (fun q_4 => ?_) (fun q_4 => ?_)
        · refine lv_aload_n hx hb dX2_part_40 rfl (lv_at hl 0 rfl) ?_
          refine lv_aload_n hx hb dX2_part_41 rfl (lv_at hl 0 rfl) ?_
          refine kc_getD (j := 1) (v := .ref (aP G)) B hP rfl (by decide) kw_74 dX2_part_42 ?_
          refine lv_iload_n hx hb dX2_part_45 rfl (lv_at hl 2 rfl) ?_
          refine kc_aald (i := y) B hG hP (kc_inP q_3) dX2_part_46 ?_
          refine lv_aload_n hx hb dX2_part_47 rfl (lv_at hl 0 rfl) ?_
          refine kc_getD (j := 1) (v := .ref (aP G)) B hP rfl (by decide) kw_74 dX2_part_48 ?_
          refine lv_iload_n hx hb dX2_part_51 rfl (lv_at hl 3 rfl) ?_
          refine kc_aald (i := z) B hG hP (kc_inP q_4) dX2_part_52 ?_
          refine kp_callV (rm := rm_divide) (As := [.ref (aN G y.toNatClampNeg), .ref (aN G z.toNatClampNeg)]) (rest := []) (r := none) (st1 := []) (ws' := cw_W G (S_divide c y.toNatClampNeg z.toNatClampNeg) Z) B (C_divide l D ty sz G Z hG c y.toNatClampNeg (kc_in10 (kc_inP q_3)) z.toNatClampNeg (kc_in10 (kc_inP q_4))) kt_divide kw_162 kw_163 kw_164 (kc_rcD B hP) (by decide) rfl rfl (by decide) rfl (Nat.le_of_ble_eq_true rfl) hl.1 hP hS dX2_part_53 rfl (fun H locs hP hS => ?_)
          refine lv_aload_n hx hb dX2_part_56 rfl (lv_at hl 0 rfl) ?_
          refine lv_aload_n hx hb dX2_part_57 rfl (lv_at hl 0 rfl) ?_
          refine kc_getD (j := 2) (v := .ref (aN G 8)) B hP rfl (by decide) kw_101 dX2_part_58 ?_
          refine lv_aload_n hx hb dX2_part_61 rfl (lv_at hl 0 rfl) ?_
          refine kc_getD (j := 1) (v := .ref (aP G)) B hP rfl (by decide) kw_74 dX2_part_62 ?_
          refine lv_iload_n hx hb dX2_part_65 rfl (lv_at hl 1 rfl) ?_
          refine kc_aald (i := x) B hG hP (kc_inP q_1) dX2_part_66 ?_
          refine kp_callV (rm := rm_keep) (As := [.ref (aN G 8), .ref (aN G x.toNatClampNeg)]) (rest := []) (r := some (.int (F_keep (S_divide c y.toNatClampNeg z.toNatClampNeg) 8 x.toNatClampNeg))) (st1 := [.int (F_keep (S_divide c y.toNatClampNeg z.toNatClampNeg) 8 x.toNatClampNeg)]) (ws' := cw_W G (S_keep (S_divide c y.toNatClampNeg z.toNatClampNeg) 8 x.toNatClampNeg) Z) B (C_keep l D ty sz G Z hG (S_divide c y.toNatClampNeg z.toNatClampNeg) 8 (by decide) x.toNatClampNeg (kc_in10 (kc_inP q_1))) kt_keep kw_211 kw_212 kw_213 (kc_rcD B hP) (by decide) rfl rfl (by decide) rfl (Nat.le_of_ble_eq_true rfl) hl.1 hP hS dX2_part_67 rfl (fun H locs hP hS => ?_)
          refine lv_istore (lv' := [(4, .int (F_keep (S_divide c y.toNatClampNeg z.toNatClampNeg) 8 x.toNatClampNeg)), (0, .ref (aD G)), (1, .int x), (2, .int y), (3, .int z)]) hx hb dX2_part_70 hl (by decide) rfl (fun ls hl => ?_)
          refine lv_aload_n hx hb dX2_part_72 rfl (lv_at hl 1 rfl) ?_
          refine lv_aload_n hx hb dX2_part_73 rfl (lv_at hl 1 rfl) ?_
          refine kc_getD (j := 3) (v := .ref (aN G 9)) B hP rfl (by decide) kw_139 dX2_part_74 ?_
          refine lv_aload_n hx hb dX2_part_77 rfl (lv_at hl 1 rfl) ?_
          refine kc_getD (j := 1) (v := .ref (aP G)) B hP rfl (by decide) kw_74 dX2_part_78 ?_
          refine lv_iload_n hx hb dX2_part_81 rfl (lv_at hl 2 rfl) ?_
          refine lv_iconst (v := (1 : Int32)) hx hb dX2_part_82 (by decide) ?_
          refine lv_iadd hx hb dX2_part_83 ?_
          refine kc_aald (i := x + (1 : Int32)) B hG hP (kc_inP q_2) dX2_part_84 ?_
          refine kp_callV (rm := rm_keep) (As := [.ref (aN G 9), .ref (aN G (x + (1 : Int32)).toNatClampNeg)]) (rest := []) (r := some (.int (F_keep (S_keep (S_divide c y.toNatClampNeg z.toNatClampNeg) 8 x.toNatClampNeg) 9 ((x + (1 : Int32)).toNatClampNeg)))) (st1 := [.int (F_keep (S_keep (S_divide c y.toNatClampNeg z.toNatClampNeg) 8 x.toNatClampNeg) 9 ((x + (1 : Int32)).toNatClampNeg))]) (ws' := cw_W G (S_keep (S_keep (S_divide c y.toNatClampNeg z.toNatClampNeg) 8 x.toNatClampNeg) 9 ((x + (1 : Int32)).toNatClampNeg)) Z) B (C_keep l D ty sz G Z hG (S_keep (S_divide c y.toNatClampNeg z.toNatClampNeg) 8 x.toNatClampNeg) 9 (by decide) ((x + (1 : Int32)).toNatClampNeg) (kc_in10 (kc_inP q_2))) kt_keep kw_211 kw_212 kw_213 (kc_rcD B hP) (by decide) rfl rfl (by decide) rfl (Nat.le_of_ble_eq_true rfl) hl.1 hP hS dX2_part_85 rfl (fun H locs hP hS => ?_)
          refine lv_istore (lv' := [(5, .int (F_keep (S_keep (S_divide c y.toNatClampNeg z.toNatClampNeg) 8 x.toNatClampNeg) 9 ((x + (1 : Int32)).toNatClampNeg))), (4, .int (F_keep (S_divide c y.toNatClampNeg z.toNatClampNeg) 8 x.toNatClampNeg)), (0, .ref (aD G)), (1, .int x), (2, .int y), (3, .int z)]) hx hb dX2_part_88 hl (by decide) rfl (fun ls hl => ?_)
          refine lv_iload hx hb dX2_part_90 (lv_at hl 1 rfl) ?_
          refine lv_bipush (v := (8 : Int32)) hx hb dX2_part_92 (by decide) ?_
          refine lv_iload hx hb dX2_part_94 (lv_at hl 0 rfl) ?_
          refine lv_imul hx hb dX2_part_96 ?_
          refine lv_iadd hx hb dX2_part_97 ?_
          exact kx_reti B (by simp only [S_part, if_neg q_1, if_neg q_2, if_neg q_3, if_neg q_4]; exact hP) hS (by simp only [F_part, if_neg q_1, if_neg q_2, if_neg q_3, if_neg q_4, Option.map_some]) dX2_part_98
        · exact kx_throw (names := kx_names) B htr hexc hH (by decide +kernel) (by decide +kernel) kx_at65 kw_219 kw_220 kw_222 hl.1 dX2_part_30 dX2_part_33 dX2_part_34 dX2_part_36 dX2_part_39 (by decide) (by decide) (by decide) (by decide) (by simp only [F_part, if_neg q_1, if_neg q_2, if_neg q_3, if_pos q_4, Option.map_none])
def LF_sum (x : Int32) (y : Int32) (z : Int32) : Nat → cw_C → Int32 → Option Int32
  | 0, c, i => none
  | n + 1, c, i => if (y + z) ≤ i then some (F_keep c 8 x.toNatClampNeg) else LF_sum x y z n (S_add c 8 i.toNatClampNeg) (i + (1 : Int32))
def LS_sum (x : Int32) (y : Int32) (z : Int32) : Nat → cw_C → Int32 → cw_C
  | 0, c, i => c
  | n + 1, c, i => if (y + z) ≤ i then S_keep c 8 x.toNatClampNeg else LS_sum x y z n (S_add c 8 i.toNatClampNeg) (i + (1 : Int32))
def F_sum (c : cw_C) (x : Int32) (y : Int32) (z : Int32) : Option Int32 :=
  if (F_isPlace x) = (0 : Int32) then none else (if (F_isPlace y) = (0 : Int32) then none else (if z < (1 : Int32) then none else (if z ≤ ((8 : Int32) - y) then LF_sum x y z 9 (S_become c 8 (0 : Int64) (0 : Int64)) y else none)))
def S_sum (c : cw_C) (x : Int32) (y : Int32) (z : Int32) : cw_C :=
  if (F_isPlace x) = (0 : Int32) then c else (if (F_isPlace y) = (0 : Int32) then c else (if z < (1 : Int32) then c else (if z ≤ ((8 : Int32) - y) then LS_sum x y z 9 (S_become c 8 (0 : Int64) (0 : Int64)) y else c)))
def rm_sum : Room := { frames := 6, cells := 1, slots := 6, locals := 135 }
set_option maxHeartbeats 4000000 in
set_option maxRecDepth 100000 in
theorem LP_sum (l : Launch) (D : va_G) (ty : List (ClassId × FieldType)) (sz : Nat) (G : cw_G) (Z : va_W) (hG : cw_ok ty sz G Z) (x : Int32) (y : Int32) (z : Int32) {p : Program} {e : Env} {s : State} {m : MethodId} {args : Array Value} {below : List Frame} {meth : Method} {cd : Code} (B : kp_B p l s m args meth cd yX2_sum.cls cX2_sum 5 (some .int) D ty sz) :
    ∀ (n : Nat) (c : cw_C) (i : Int32) (hx8 : vp_in x 8) (hv : 0 ≤ y.toInt ∧ 1 ≤ z.toInt ∧ y.toInt + z.toInt ≤ 8 ∧ y.toInt ≤ i.toInt ∧ i.toInt ≤ y.toInt + z.toInt) (h2 : y.toInt + z.toInt + 1 ≤ i.toInt + n), ∀ (H : Heap) (locs : List Loc) (ls : Array Slot), lv_has ls 5 [(0, .ref (aD G)), (1, .int x), (2, .int y), (3, .int z), (4, .int i)] → va_P D vwCl (cw_W G c Z) H → va_S (kp_A sz) s.heap H locs → W p l e rm_sum s m args below meth cd H locs 0 0 (kx_MQ below (kx_Q D sz (Option.map Value.int (LF_sum x y z n c i)) (cw_W G (LS_sum x y z n c i) Z) "java/lang/IllegalArgumentException") args s) (F0 m 59 ls []) := by
  obtain ⟨hx, hb, hml, hown, hlk, hr, hw, hE, hK, hsz⟩ := id B
  intro n
  induction n with
  | zero =>
    intro c i hx8 hv h2
    exact absurd h2 (by omega)
  | succ n ih =>
    intro c i hx8 hv h2 H locs ls hl hP hS
    refine lv_iload hx hb dX2_sum_59 (lv_at hl 4 rfl) ?_
    refine lv_iload_n hx hb dX2_sum_61 rfl (lv_at hl 2 rfl) ?_
    refine lv_iload_n hx hb dX2_sum_62 rfl (lv_at hl 3 rfl) ?_
    refine lv_iadd hx hb dX2_sum_63 ?_
    refine lv_icmp_ge (tgt := 87) hx hb dX2_sum_64 (by decide) (fun q_1 => ?_) (fun q_1 => ?_)
    · refine lv_aload_n hx hb dX2_sum_87 rfl (lv_at hl 0 rfl) ?_
      refine lv_aload_n hx hb dX2_sum_88 rfl (lv_at hl 0 rfl) ?_
      refine kc_getD (j := 2) (v := .ref (aN G 8)) B hP rfl (by decide) kw_101 dX2_sum_89 ?_
      refine lv_aload_n hx hb dX2_sum_92 rfl (lv_at hl 0 rfl) ?_
      refine kc_getD (j := 1) (v := .ref (aP G)) B hP rfl (by decide) kw_74 dX2_sum_93 ?_
      refine lv_iload_n hx hb dX2_sum_96 rfl (lv_at hl 1 rfl) ?_
      refine kc_aald (i := x) B hG hP hx8 dX2_sum_97 ?_
      refine kp_callV (rm := rm_keep) (As := [.ref (aN G 8), .ref (aN G x.toNatClampNeg)]) (rest := []) (r := some (.int (F_keep c 8 x.toNatClampNeg))) (st1 := [.int (F_keep c 8 x.toNatClampNeg)]) (ws' := cw_W G (S_keep c 8 x.toNatClampNeg) Z) B (C_keep l D ty sz G Z hG c 8 (by decide) x.toNatClampNeg (kc_in10 hx8)) kt_keep kw_211 kw_212 kw_213 (kc_rcD B hP) (by decide) rfl rfl (by decide) rfl (Nat.le_of_ble_eq_true rfl) hl.1 hP hS dX2_sum_98 rfl (fun H locs hP hS => ?_)
      exact kx_reti B (by simp only [LS_sum, if_pos q_1]; exact hP) hS (by simp only [LF_sum, if_pos q_1, Option.map_some]) dX2_sum_101
    · refine lv_aload_n hx hb dX2_sum_67 rfl (lv_at hl 0 rfl) ?_
      refine kc_getD (j := 2) (v := .ref (aN G 8)) B hP rfl (by decide) kw_101 dX2_sum_68 ?_
      refine lv_aload_n hx hb dX2_sum_71 rfl (lv_at hl 0 rfl) ?_
      refine kc_getD (j := 1) (v := .ref (aP G)) B hP rfl (by decide) kw_74 dX2_sum_72 ?_
      refine lv_iload hx hb dX2_sum_75 (lv_at hl 4 rfl) ?_
      refine kc_aald (i := i) B hG hP (ki_insum hv q_1) dX2_sum_77 ?_
      refine kp_callS (rm := rm_add) (As := [.ref (aN G 8), .ref (aN G i.toNatClampNeg)]) (rest := []) (r := none) (st1 := []) (ws' := cw_W G (S_add c 8 i.toNatClampNeg) Z) B (C_add l D ty sz G Z hG c 8 (by decide) i.toNatClampNeg (kc_in10 (ki_insum hv q_1))) kt_add kw_225 kw_226 (by decide) rfl rfl (by decide) rfl (Nat.le_of_ble_eq_true rfl) hl.1 hP hS dX2_sum_78 rfl (fun H locs hP hS => ?_)
      refine lv_iinc (v := i + (1 : Int32)) (lv' := [(4, .int (i + (1 : Int32))), (0, .ref (aD G)), (1, .int x), (2, .int y), (3, .int z)]) hx hb dX2_sum_81 hl (k := 4) rfl rfl (by decide) rfl (fun ls hl => ?_)
      refine lv_goto (tgt := 59) hx hb dX2_sum_84 (by decide) ?_
      rw [show LF_sum x y z (n + 1) c i = LF_sum x y z n (S_add c 8 i.toNatClampNeg) (i + (1 : Int32)) from by simp only [LF_sum, if_neg q_1]]
      rw [show LS_sum x y z (n + 1) c i = LS_sum x y z n (S_add c 8 i.toNatClampNeg) (i + (1 : Int32)) from by simp only [LS_sum, if_neg q_1]]
      exact ih (S_add c 8 i.toNatClampNeg) (i + (1 : Int32)) hx8 (ki_sum1 hv q_1 h2).1 (ki_sum1 hv q_1 h2).2 _ _ ls (lv_sub hl [1, 2, 3, 4, 0] rfl) hP hS
set_option maxHeartbeats 4000000 in
set_option maxRecDepth 100000 in
theorem C_sum (l : Launch) (D : va_G) (ty : List (ClassId × FieldType)) (sz : Nat) (G : cw_G) (Z : va_W) (hG : cw_ok ty sz G Z) (c : cw_C) (x : Int32) (y : Int32) (z : Int32) (htr : l.stackTraces = false) : kx_M l yX2_sum cX2_sum 5 (some .int) rm_sum D ty sz [.ref (aD G), .int x, .int y, .int z] (cw_W G c Z) (Option.map Value.int (F_sum c x y z)) (cw_W G (S_sum c x y z) Z) "java/lang/IllegalArgumentException" := by
  refine kx_body (by decide) (Nat.le_of_ble_eq_true rfl) rfl ?_
  intro p e s m args below meth cd ls B hexc hH hl hP hS
  obtain ⟨hx, hb, hml, hown, hlk, hr, hw, hE, hK, hsz⟩ := id B
  have hl : lv_has ls 5 [(0, .ref (aD G)), (1, .int x), (2, .int y), (3, .int z)] := hl
  refine lv_iload_n hx hb dX2_sum_0 rfl (lv_at hl 1 rfl) ?_
  refine kp_callSR (rm := rm_isPlace) (As := [.int x]) (rest := []) (r := some (.int (F_isPlace x))) (st1 := [.int (F_isPlace x)]) B (C_isPlace l D ty sz G Z hG c x) kt_isPlace kw_72 kw_73 (by decide) ⟨rfl, rfl⟩ (by decide) rfl (Nat.le_of_ble_eq_true rfl) hl.1 hP hS dX2_sum_1 rfl ?_
  refine lv_if_eq (tgt := 14) hx hb dX2_sum_4 (by decide) (fun q_1 => ?_) (fun q_1 => ?_)
  · exact kx_throw (names := kx_names) B htr hexc hH (by decide +kernel) (by decide +kernel) kx_at65 kw_219 kw_220 kw_222 hl.1 dX2_sum_14 dX2_sum_17 dX2_sum_18 dX2_sum_20 dX2_sum_23 (by decide) (by decide) (by decide) (by decide) (by simp only [F_sum, if_pos q_1, Option.map_none])
  · refine lv_iload_n hx hb dX2_sum_7 rfl (lv_at hl 2 rfl) ?_
    refine kp_callSR (rm := rm_isPlace) (As := [.int y]) (rest := []) (r := some (.int (F_isPlace y))) (st1 := [.int (F_isPlace y)]) B (C_isPlace l D ty sz G Z hG c y) kt_isPlace kw_72 kw_73 (by decide) ⟨rfl, rfl⟩ (by decide) rfl (Nat.le_of_ble_eq_true rfl) hl.1 hP hS dX2_sum_8 rfl ?_
    refine lv_if_ne (tgt := 24) hx hb dX2_sum_11 (by decide) (fun q_2 => ?_) (fun q_2 => ?_)
    · refine lv_iload_n hx hb dX2_sum_24 rfl (lv_at hl 3 rfl) ?_
      refine lv_iconst (v := (1 : Int32)) hx hb dX2_sum_25 (by decide) ?_
      refine lv_icmp_lt (tgt := 37) hx hb dX2_sum_26 (by decide) (fun q_3 => ?_) (fun q_3 => ?_)
      · exact kx_throw (names := kx_names) B htr hexc hH (by decide +kernel) (by decide +kernel) kx_at65 kw_219 kw_220 kw_227 hl.1 dX2_sum_37 dX2_sum_40 dX2_sum_41 dX2_sum_43 dX2_sum_46 (by decide) (by decide) (by decide) (by decide) (by simp only [F_sum, if_neg q_1, if_neg q_2, if_pos q_3, Option.map_none])
      · refine lv_iload_n hx hb dX2_sum_29 rfl (lv_at hl 3 rfl) ?_
        refine lv_bipush (v := (8 : Int32)) hx hb dX2_sum_30 (by decide) ?_
        refine lv_iload_n hx hb dX2_sum_32 rfl (lv_at hl 2 rfl) ?_
        refine lv_isub hx hb dX2_sum_33 ?_
        refine lv_icmp_le (tgt := 47) hx hb dX2_sum_34 (by decide) (fun q_4 => ?_) (fun q_4 => ?_)
        · refine lv_aload_n hx hb dX2_sum_47 rfl (lv_at hl 0 rfl) ?_
          refine kc_getD (j := 2) (v := .ref (aN G 8)) B hP rfl (by decide) kw_101 dX2_sum_48 ?_
          refine lv_lconst (v := (0 : Int64)) hx hb dX2_sum_51 (by decide) ?_
          refine lv_lconst (v := (0 : Int64)) hx hb dX2_sum_52 (by decide) ?_
          refine kp_callN (rm := rm_become) (As := [.long (0 : Int64), .long (0 : Int64)]) (rest := []) (r := none) (st1 := []) (ws' := cw_W G (S_become c 8 (0 : Int64) (0 : Int64)) Z) B (C_become l D ty sz G Z hG c 8 (by decide) (0 : Int64) (0 : Int64)) kt_become kw_104 kw_105 kw_106 (kc_rcN B hP (by decide)) (by decide) rfl rfl (by decide) rfl (Nat.le_of_ble_eq_true rfl) hl.1 hP hS dX2_sum_53 rfl (fun H locs hP hS => ?_)
          refine lv_iload_n hx hb dX2_sum_56 rfl (lv_at hl 2 rfl) ?_
          refine lv_istore (lv' := [(4, .int y), (0, .ref (aD G)), (1, .int x), (2, .int y), (3, .int z)]) hx hb dX2_sum_57 hl (by decide) rfl (fun ls hl => ?_)
          rw [show F_sum c x y z = LF_sum x y z 9 (S_become c 8 (0 : Int64) (0 : Int64)) y from by simp only [F_sum, if_neg q_1, if_neg q_2, if_neg q_3, if_pos q_4]]
          rw [show S_sum c x y z = LS_sum x y z 9 (S_become c 8 (0 : Int64) (0 : Int64)) y from by simp only [S_sum, if_neg q_1, if_neg q_2, if_neg q_3, if_pos q_4]]
          exact LP_sum l D ty sz G Z hG x y z B 9 (S_become c 8 (0 : Int64) (0 : Int64)) y (kc_inP q_1) (ki_sum0 q_2 q_3 q_4).1 (ki_sum0 q_2 q_3 q_4).2 _ _ ls (lv_sub hl [1, 2, 3, 4, 0] rfl) hP hS
        · exact kx_throw (names := kx_names) B htr hexc hH (by decide +kernel) (by decide +kernel) kx_at65 kw_219 kw_220 kw_227 hl.1 dX2_sum_37 dX2_sum_40 dX2_sum_41 dX2_sum_43 dX2_sum_46 (by decide) (by decide) (by decide) (by decide) (by simp only [F_sum, if_neg q_1, if_neg q_2, if_neg q_3, if_neg q_4, Option.map_none])
    · exact kx_throw (names := kx_names) B htr hexc hH (by decide +kernel) (by decide +kernel) kx_at65 kw_219 kw_220 kw_222 hl.1 dX2_sum_14 dX2_sum_17 dX2_sum_18 dX2_sum_20 dX2_sum_23 (by decide) (by decide) (by decide) (by decide) (by simp only [F_sum, if_neg q_1, if_pos q_2, Option.map_none])
def F_low (c : cw_C) (x : Int32) : Option Int32 :=
  if (F_isFilled c x) = (0 : Int32) then none else some (F_patternOf c ((c.2.2 x.toNatClampNeg).1))
def rm_low : Room := { frames := 6, cells := 1, slots := 6, locals := 82 }
set_option maxHeartbeats 4000000 in
set_option maxRecDepth 100000 in
theorem C_low (l : Launch) (D : va_G) (ty : List (ClassId × FieldType)) (sz : Nat) (G : cw_G) (Z : va_W) (hG : cw_ok ty sz G Z) (c : cw_C) (x : Int32) (htr : l.stackTraces = false) : kx_M l yX2_low cX2_low 2 (some .int) rm_low D ty sz [.ref (aD G), .int x] (cw_W G c Z) (Option.map Value.int (F_low c x)) (cw_W G c Z) "java/util/NoSuchElementException" := by
  refine kx_body (by decide) (Nat.le_of_ble_eq_true rfl) rfl ?_
  intro p e s m args below meth cd ls B hexc hH hl hP hS
  obtain ⟨hx, hb, hml, hown, hlk, hr, hw, hE, hK, hsz⟩ := id B
  have hl : lv_has ls 2 [(0, .ref (aD G)), (1, .int x)] := hl
  refine lv_aload_n hx hb dX2_low_0 rfl (lv_at hl 0 rfl) ?_
  refine lv_iload_n hx hb dX2_low_1 rfl (lv_at hl 1 rfl) ?_
  refine kp_callVR (rm := rm_isFilled) (As := [.int x]) (rest := []) (r := some (.int (F_isFilled c x))) (st1 := [.int (F_isFilled c x)]) B (C_isFilled l D ty sz G Z hG c x) kt_isFilled kw_184 kw_185 kw_186 (kc_rcD B hP) (by decide) ⟨rfl, rfl⟩ (by decide) rfl (Nat.le_of_ble_eq_true rfl) hl.1 hP hS dX2_low_2 rfl ?_
  refine lv_if_ne (tgt := 18) hx hb dX2_low_5 (by decide) (fun q_1 => ?_) (fun q_1 => ?_)
  · refine lv_aload_n hx hb dX2_low_18 rfl (lv_at hl 0 rfl) ?_
    refine kc_getD (j := 0) (v := .ref (aS G)) B hP rfl (by decide) kw_76 dX2_low_19 ?_
    refine lv_aload_n hx hb dX2_low_22 rfl (lv_at hl 0 rfl) ?_
    refine kc_getD (j := 1) (v := .ref (aP G)) B hP rfl (by decide) kw_74 dX2_low_23 ?_
    refine lv_iload_n hx hb dX2_low_26 rfl (lv_at hl 1 rfl) ?_
    refine kc_aald (i := x) B hG hP (kc_inF q_1) dX2_low_27 ?_
    refine kc_getNX (j := 0) (k := x.toNatClampNeg) (v := .long ((c.2.2 x.toNatClampNeg).1)) B hP (kc_in10 (kc_inF q_1)) rfl (by decide) kw_87 dX2_low_28 ?_
    refine kp_callNR (rm := rm_patternOf) (As := [.long ((c.2.2 x.toNatClampNeg).1)]) (rest := []) (r := some (.int (F_patternOf c ((c.2.2 x.toNatClampNeg).1)))) (st1 := [.int (F_patternOf c ((c.2.2 x.toNatClampNeg).1))]) B (C_patternOf l D ty sz G Z hG c ((c.2.2 x.toNatClampNeg).1)) kt_patternOf kw_228 kw_62 kw_63 (kc_rcS B hP) (by decide) ⟨rfl, rfl⟩ (by decide) rfl (Nat.le_of_ble_eq_true rfl) hl.1 hP hS dX2_low_31 rfl ?_
    exact kx_reti B hP hS (by simp only [F_low, if_neg q_1, Option.map_some]) dX2_low_34
  · exact kx_throwN (ic := 102) B htr hexc hH kw_232 kw_229 kw_230 kw_231 hl.1 dX2_low_8 dX2_low_11 dX2_low_12 dX2_low_14 dX2_low_17 (by decide) (by decide) (by decide) (by decide) (by simp only [F_low, if_pos q_1, Option.map_none])
def F_high (c : cw_C) (x : Int32) : Option Int32 :=
  if (F_isFilled c x) = (0 : Int32) then none else some (F_patternOf c ((c.2.2 x.toNatClampNeg).2))
def rm_high : Room := { frames := 6, cells := 1, slots := 6, locals := 82 }
set_option maxHeartbeats 4000000 in
set_option maxRecDepth 100000 in
theorem C_high (l : Launch) (D : va_G) (ty : List (ClassId × FieldType)) (sz : Nat) (G : cw_G) (Z : va_W) (hG : cw_ok ty sz G Z) (c : cw_C) (x : Int32) (htr : l.stackTraces = false) : kx_M l yX2_high cX2_high 2 (some .int) rm_high D ty sz [.ref (aD G), .int x] (cw_W G c Z) (Option.map Value.int (F_high c x)) (cw_W G c Z) "java/util/NoSuchElementException" := by
  refine kx_body (by decide) (Nat.le_of_ble_eq_true rfl) rfl ?_
  intro p e s m args below meth cd ls B hexc hH hl hP hS
  obtain ⟨hx, hb, hml, hown, hlk, hr, hw, hE, hK, hsz⟩ := id B
  have hl : lv_has ls 2 [(0, .ref (aD G)), (1, .int x)] := hl
  refine lv_aload_n hx hb dX2_high_0 rfl (lv_at hl 0 rfl) ?_
  refine lv_iload_n hx hb dX2_high_1 rfl (lv_at hl 1 rfl) ?_
  refine kp_callVR (rm := rm_isFilled) (As := [.int x]) (rest := []) (r := some (.int (F_isFilled c x))) (st1 := [.int (F_isFilled c x)]) B (C_isFilled l D ty sz G Z hG c x) kt_isFilled kw_184 kw_185 kw_186 (kc_rcD B hP) (by decide) ⟨rfl, rfl⟩ (by decide) rfl (Nat.le_of_ble_eq_true rfl) hl.1 hP hS dX2_high_2 rfl ?_
  refine lv_if_ne (tgt := 18) hx hb dX2_high_5 (by decide) (fun q_1 => ?_) (fun q_1 => ?_)
  · refine lv_aload_n hx hb dX2_high_18 rfl (lv_at hl 0 rfl) ?_
    refine kc_getD (j := 0) (v := .ref (aS G)) B hP rfl (by decide) kw_76 dX2_high_19 ?_
    refine lv_aload_n hx hb dX2_high_22 rfl (lv_at hl 0 rfl) ?_
    refine kc_getD (j := 1) (v := .ref (aP G)) B hP rfl (by decide) kw_74 dX2_high_23 ?_
    refine lv_iload_n hx hb dX2_high_26 rfl (lv_at hl 1 rfl) ?_
    refine kc_aald (i := x) B hG hP (kc_inF q_1) dX2_high_27 ?_
    refine kc_getNX (j := 1) (k := x.toNatClampNeg) (v := .long ((c.2.2 x.toNatClampNeg).2)) B hP (kc_in10 (kc_inF q_1)) rfl (by decide) kw_88 dX2_high_28 ?_
    refine kp_callNR (rm := rm_patternOf) (As := [.long ((c.2.2 x.toNatClampNeg).2)]) (rest := []) (r := some (.int (F_patternOf c ((c.2.2 x.toNatClampNeg).2)))) (st1 := [.int (F_patternOf c ((c.2.2 x.toNatClampNeg).2))]) B (C_patternOf l D ty sz G Z hG c ((c.2.2 x.toNatClampNeg).2)) kt_patternOf kw_228 kw_62 kw_63 (kc_rcS B hP) (by decide) ⟨rfl, rfl⟩ (by decide) rfl (Nat.le_of_ble_eq_true rfl) hl.1 hP hS dX2_high_31 rfl ?_
    exact kx_reti B hP hS (by simp only [F_high, if_neg q_1, Option.map_some]) dX2_high_34
  · exact kx_throwN (ic := 102) B htr hexc hH kw_232 kw_229 kw_230 kw_231 hl.1 dX2_high_8 dX2_high_11 dX2_high_12 dX2_high_14 dX2_high_17 (by decide) (by decide) (by decide) (by decide) (by simp only [F_high, if_pos q_1, Option.map_none])
def F_middle (c : cw_C) (x : Int32) : Option Int32 :=
  if (F_isFilled c x) = (0 : Int32) then none else (if (F_lacksAnEnd c x.toNatClampNeg) = (0 : Int32) then some (F_patternOfHalf c (((c.2.2 x.toNatClampNeg).1) + ((c.2.2 x.toNatClampNeg).2))) else none)
def rm_middle : Room := { frames := 6, cells := 1, slots := 6, locals := 145 }
set_option maxHeartbeats 4000000 in
set_option maxRecDepth 100000 in
theorem C_middle (l : Launch) (D : va_G) (ty : List (ClassId × FieldType)) (sz : Nat) (G : cw_G) (Z : va_W) (hG : cw_ok ty sz G Z) (c : cw_C) (x : Int32) (htr : l.stackTraces = false) : kx_M l yX2_middle cX2_middle 2 (some .int) rm_middle D ty sz [.ref (aD G), .int x] (cw_W G c Z) (Option.map Value.int (F_middle c x)) (cw_W G c Z) "java/util/NoSuchElementException" := by
  refine kx_body (by decide) (Nat.le_of_ble_eq_true rfl) rfl ?_
  intro p e s m args below meth cd ls B hexc hH hl hP hS
  obtain ⟨hx, hb, hml, hown, hlk, hr, hw, hE, hK, hsz⟩ := id B
  have hl : lv_has ls 2 [(0, .ref (aD G)), (1, .int x)] := hl
  refine lv_aload_n hx hb dX2_middle_0 rfl (lv_at hl 0 rfl) ?_
  refine lv_iload_n hx hb dX2_middle_1 rfl (lv_at hl 1 rfl) ?_
  refine kp_callVR (rm := rm_isFilled) (As := [.int x]) (rest := []) (r := some (.int (F_isFilled c x))) (st1 := [.int (F_isFilled c x)]) B (C_isFilled l D ty sz G Z hG c x) kt_isFilled kw_184 kw_185 kw_186 (kc_rcD B hP) (by decide) ⟨rfl, rfl⟩ (by decide) rfl (Nat.le_of_ble_eq_true rfl) hl.1 hP hS dX2_middle_2 rfl ?_
  refine lv_if_eq (tgt := 20) hx hb dX2_middle_5 (by decide) (fun q_1 => ?_) (fun q_1 => ?_)
  · exact kx_throwN (ic := 102) B htr hexc hH kw_232 kw_229 kw_230 kw_243 hl.1 dX2_middle_20 dX2_middle_23 dX2_middle_24 dX2_middle_26 dX2_middle_29 (by decide) (by decide) (by decide) (by decide) (by simp only [F_middle, if_pos q_1, Option.map_none])
  · refine lv_aload_n hx hb dX2_middle_8 rfl (lv_at hl 0 rfl) ?_
    refine kc_getD (j := 1) (v := .ref (aP G)) B hP rfl (by decide) kw_74 dX2_middle_9 ?_
    refine lv_iload_n hx hb dX2_middle_12 rfl (lv_at hl 1 rfl) ?_
    refine kc_aald (i := x) B hG hP (kc_inF q_1) dX2_middle_13 ?_
    refine kp_callNR (rm := rm_lacksAnEnd) (As := []) (rest := []) (r := some (.int (F_lacksAnEnd c x.toNatClampNeg))) (st1 := [.int (F_lacksAnEnd c x.toNatClampNeg)]) B (C_lacksAnEnd l D ty sz G Z hG c x.toNatClampNeg (kc_in10 (kc_inF q_1))) kt_lacksAnEnd kw_235 kw_236 kw_237 (kc_rcN B hP (kc_in10 (kc_inF q_1))) (by decide) ⟨rfl, rfl⟩ (by decide) rfl (Nat.le_of_ble_eq_true rfl) hl.1 hP hS dX2_middle_14 rfl ?_
    refine lv_if_eq (tgt := 30) hx hb dX2_middle_17 (by decide) (fun q_2 => ?_) (fun q_2 => ?_)
    · refine lv_aload_n hx hb dX2_middle_30 rfl (lv_at hl 0 rfl) ?_
      refine kc_getD (j := 0) (v := .ref (aS G)) B hP rfl (by decide) kw_76 dX2_middle_31 ?_
      refine lv_aload_n hx hb dX2_middle_34 rfl (lv_at hl 0 rfl) ?_
      refine kc_getD (j := 1) (v := .ref (aP G)) B hP rfl (by decide) kw_74 dX2_middle_35 ?_
      refine lv_iload_n hx hb dX2_middle_38 rfl (lv_at hl 1 rfl) ?_
      refine kc_aald (i := x) B hG hP (kc_inF q_1) dX2_middle_39 ?_
      refine kc_getNX (j := 0) (k := x.toNatClampNeg) (v := .long ((c.2.2 x.toNatClampNeg).1)) B hP (kc_in10 (kc_inF q_1)) rfl (by decide) kw_87 dX2_middle_40 ?_
      refine lv_aload_n hx hb dX2_middle_43 rfl (lv_at hl 0 rfl) ?_
      refine kc_getD (j := 1) (v := .ref (aP G)) B hP rfl (by decide) kw_74 dX2_middle_44 ?_
      refine lv_iload_n hx hb dX2_middle_47 rfl (lv_at hl 1 rfl) ?_
      refine kc_aald (i := x) B hG hP (kc_inF q_1) dX2_middle_48 ?_
      refine kc_getNX (j := 1) (k := x.toNatClampNeg) (v := .long ((c.2.2 x.toNatClampNeg).2)) B hP (kc_in10 (kc_inF q_1)) rfl (by decide) kw_88 dX2_middle_49 ?_
      refine lv_ladd hx hb dX2_middle_52 ?_
      refine kp_callNR (rm := rm_patternOfHalf) (As := [.long (((c.2.2 x.toNatClampNeg).1) + ((c.2.2 x.toNatClampNeg).2))]) (rest := []) (r := some (.int (F_patternOfHalf c (((c.2.2 x.toNatClampNeg).1) + ((c.2.2 x.toNatClampNeg).2))))) (st1 := [.int (F_patternOfHalf c (((c.2.2 x.toNatClampNeg).1) + ((c.2.2 x.toNatClampNeg).2)))]) B (C_patternOfHalf l D ty sz G Z hG c (((c.2.2 x.toNatClampNeg).1) + ((c.2.2 x.toNatClampNeg).2))) kt_patternOfHalf kw_240 kw_241 kw_242 (kc_rcS B hP) (by decide) ⟨rfl, rfl⟩ (by decide) rfl (Nat.le_of_ble_eq_true rfl) hl.1 hP hS dX2_middle_53 rfl ?_
      exact kx_reti B hP hS (by simp only [F_middle, if_neg q_1, if_pos q_2, Option.map_some]) dX2_middle_56
    · exact kx_throwN (ic := 102) B htr hexc hH kw_232 kw_229 kw_230 kw_243 hl.1 dX2_middle_20 dX2_middle_23 dX2_middle_24 dX2_middle_26 dX2_middle_29 (by decide) (by decide) (by decide) (by decide) (by simp only [F_middle, if_neg q_1, if_neg q_2, Option.map_none])
def F_width (c : cw_C) (x : Int32) : Option Int32 :=
  if (F_isFilled c x) = (0 : Int32) then none else some (F_patternOf c (F_notBelow c (F_plus ((c.2.2 x.toNatClampNeg).2) (-((c.2.2 x.toNatClampNeg).1)))))
def rm_width : Room := { frames := 6, cells := 1, slots := 6, locals := 113 }
set_option maxHeartbeats 4000000 in
set_option maxRecDepth 100000 in
theorem C_width (l : Launch) (D : va_G) (ty : List (ClassId × FieldType)) (sz : Nat) (G : cw_G) (Z : va_W) (hG : cw_ok ty sz G Z) (c : cw_C) (x : Int32) (htr : l.stackTraces = false) : kx_M l yX2_width cX2_width 4 (some .int) rm_width D ty sz [.ref (aD G), .int x] (cw_W G c Z) (Option.map Value.int (F_width c x)) (cw_W G c Z) "java/util/NoSuchElementException" := by
  refine kx_body (by decide) (Nat.le_of_ble_eq_true rfl) rfl ?_
  intro p e s m args below meth cd ls B hexc hH hl hP hS
  obtain ⟨hx, hb, hml, hown, hlk, hr, hw, hE, hK, hsz⟩ := id B
  have hl : lv_has ls 4 [(0, .ref (aD G)), (1, .int x)] := hl
  refine lv_aload_n hx hb dX2_width_0 rfl (lv_at hl 0 rfl) ?_
  refine lv_iload_n hx hb dX2_width_1 rfl (lv_at hl 1 rfl) ?_
  refine kp_callVR (rm := rm_isFilled) (As := [.int x]) (rest := []) (r := some (.int (F_isFilled c x))) (st1 := [.int (F_isFilled c x)]) B (C_isFilled l D ty sz G Z hG c x) kt_isFilled kw_184 kw_185 kw_186 (kc_rcD B hP) (by decide) ⟨rfl, rfl⟩ (by decide) rfl (Nat.le_of_ble_eq_true rfl) hl.1 hP hS dX2_width_2 rfl ?_
  refine lv_if_ne (tgt := 18) hx hb dX2_width_5 (by decide) (fun q_1 => ?_) (fun q_1 => ?_)
  · refine lv_aload_n hx hb dX2_width_18 rfl (lv_at hl 0 rfl) ?_
    refine kc_getD (j := 1) (v := .ref (aP G)) B hP rfl (by decide) kw_74 dX2_width_19 ?_
    refine lv_iload_n hx hb dX2_width_22 rfl (lv_at hl 1 rfl) ?_
    refine kc_aald (i := x) B hG hP (kc_inF q_1) dX2_width_23 ?_
    refine kc_getNX (j := 1) (k := x.toNatClampNeg) (v := .long ((c.2.2 x.toNatClampNeg).2)) B hP (kc_in10 (kc_inF q_1)) rfl (by decide) kw_88 dX2_width_24 ?_
    refine lv_aload_n hx hb dX2_width_27 rfl (lv_at hl 0 rfl) ?_
    refine kc_getD (j := 1) (v := .ref (aP G)) B hP rfl (by decide) kw_74 dX2_width_28 ?_
    refine lv_iload_n hx hb dX2_width_31 rfl (lv_at hl 1 rfl) ?_
    refine kc_aald (i := x) B hG hP (kc_inF q_1) dX2_width_32 ?_
    refine kc_getNX (j := 0) (k := x.toNatClampNeg) (v := .long ((c.2.2 x.toNatClampNeg).1)) B hP (kc_in10 (kc_inF q_1)) rfl (by decide) kw_87 dX2_width_33 ?_
    refine lv_lneg hx hb dX2_width_36 ?_
    refine kp_callSR (rm := rm_plus) (As := [.long ((c.2.2 x.toNatClampNeg).2), .long (-((c.2.2 x.toNatClampNeg).1))]) (rest := []) (r := some (.long (F_plus ((c.2.2 x.toNatClampNeg).2) (-((c.2.2 x.toNatClampNeg).1))))) (st1 := [.long (F_plus ((c.2.2 x.toNatClampNeg).2) (-((c.2.2 x.toNatClampNeg).1)))]) B (C_plus l D ty sz G Z hG c ((c.2.2 x.toNatClampNeg).2) (-((c.2.2 x.toNatClampNeg).1))) kt_plus kw_114 kw_115 (by decide) ⟨rfl, rfl⟩ (by decide) rfl (Nat.le_of_ble_eq_true rfl) hl.1 hP hS dX2_width_37 rfl ?_
    refine lv_lstore_n (lv' := [(2, .long (F_plus ((c.2.2 x.toNatClampNeg).2) (-((c.2.2 x.toNatClampNeg).1)))), (0, .ref (aD G)), (1, .int x)]) hx hb dX2_width_40 rfl hl (by decide) rfl (fun ls hl => ?_)
    refine lv_aload_n hx hb dX2_width_41 rfl (lv_at hl 1 rfl) ?_
    refine kc_getD (j := 0) (v := .ref (aS G)) B hP rfl (by decide) kw_76 dX2_width_42 ?_
    refine lv_aload_n hx hb dX2_width_45 rfl (lv_at hl 1 rfl) ?_
    refine kc_getD (j := 0) (v := .ref (aS G)) B hP rfl (by decide) kw_76 dX2_width_46 ?_
    refine lv_lload_n hx hb dX2_width_49 rfl (lv_at hl 0 rfl) ?_
    refine kp_callNR (rm := rm_notBelow) (As := [.long (F_plus ((c.2.2 x.toNatClampNeg).2) (-((c.2.2 x.toNatClampNeg).1)))]) (rest := [.ref (aS G)]) (r := some (.long (F_notBelow c (F_plus ((c.2.2 x.toNatClampNeg).2) (-((c.2.2 x.toNatClampNeg).1)))))) (st1 := [.long (F_notBelow c (F_plus ((c.2.2 x.toNatClampNeg).2) (-((c.2.2 x.toNatClampNeg).1)))), .ref (aS G)]) B (C_notBelow l D ty sz G Z hG c (F_plus ((c.2.2 x.toNatClampNeg).2) (-((c.2.2 x.toNatClampNeg).1)))) kt_notBelow kw_176 kw_57 kw_58 (kc_rcS B hP) (by decide) ⟨rfl, rfl⟩ (by decide) rfl (Nat.le_of_ble_eq_true rfl) hl.1 hP hS dX2_width_50 rfl ?_
    refine kp_callNR (rm := rm_patternOf) (As := [.long (F_notBelow c (F_plus ((c.2.2 x.toNatClampNeg).2) (-((c.2.2 x.toNatClampNeg).1))))]) (rest := []) (r := some (.int (F_patternOf c (F_notBelow c (F_plus ((c.2.2 x.toNatClampNeg).2) (-((c.2.2 x.toNatClampNeg).1))))))) (st1 := [.int (F_patternOf c (F_notBelow c (F_plus ((c.2.2 x.toNatClampNeg).2) (-((c.2.2 x.toNatClampNeg).1)))))]) B (C_patternOf l D ty sz G Z hG c (F_notBelow c (F_plus ((c.2.2 x.toNatClampNeg).2) (-((c.2.2 x.toNatClampNeg).1))))) kt_patternOf kw_228 kw_62 kw_63 (kc_rcS B hP) (by decide) ⟨rfl, rfl⟩ (by decide) rfl (Nat.le_of_ble_eq_true rfl) hl.1 hP hS dX2_width_53 rfl ?_
    exact kx_reti B hP hS (by simp only [F_width, if_neg q_1, Option.map_some]) dX2_width_56
  · exact kx_throwN (ic := 102) B htr hexc hH kw_232 kw_229 kw_230 kw_231 hl.1 dX2_width_8 dX2_width_11 dX2_width_12 dX2_width_14 dX2_width_17 (by decide) (by decide) (by decide) (by decide) (by simp only [F_width, if_pos q_1, Option.map_none])
