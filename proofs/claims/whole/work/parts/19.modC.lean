def F_m_kind (c : mw_C) (x : Int32) : Int32 :=
  if (F_m_isPlace x) = (0 : Int32) then (-1 : Int32) else (if (z_i (((mp_thrown c (0 : Int32)).2.1.1) x.toNatClampNeg)) = (0 : Int32) then (0 : Int32) else (if (F_m_isEnd (((mp_thrown c (0 : Int32)).2.1.2.1) x.toNatClampNeg)) = (0 : Int32) then (if (F_m_isEnd (((mp_thrown c (0 : Int32)).2.1.2.2) x.toNatClampNeg)) = (0 : Int32) then (5 : Int32) else (4 : Int32)) else (if (F_m_isEnd (((mp_thrown c (0 : Int32)).2.1.2.2) x.toNatClampNeg)) = (0 : Int32) then (3 : Int32) else (if (((mp_thrown c (0 : Int32)).2.1.2.1) x.toNatClampNeg) = (((mp_thrown c (0 : Int32)).2.1.2.2) x.toNatClampNeg) then (1 : Int32) else (2 : Int32)))))
def S_m_kind (c : mw_C) (x : Int32) : mw_C :=
  if (F_m_isPlace x) = (0 : Int32) then mp_thrown c (0 : Int32) else (if (z_i (((mp_thrown c (0 : Int32)).2.1.1) x.toNatClampNeg)) = (0 : Int32) then mp_thrown c (0 : Int32) else (if (F_m_isEnd (((mp_thrown c (0 : Int32)).2.1.2.1) x.toNatClampNeg)) = (0 : Int32) then (if (F_m_isEnd (((mp_thrown c (0 : Int32)).2.1.2.2) x.toNatClampNeg)) = (0 : Int32) then mp_thrown c (0 : Int32) else mp_thrown c (0 : Int32)) else (if (F_m_isEnd (((mp_thrown c (0 : Int32)).2.1.2.2) x.toNatClampNeg)) = (0 : Int32) then mp_thrown c (0 : Int32) else (if (((mp_thrown c (0 : Int32)).2.1.2.1) x.toNatClampNeg) = (((mp_thrown c (0 : Int32)).2.1.2.2) x.toNatClampNeg) then mp_thrown c (0 : Int32) else mp_thrown c (0 : Int32)))))
def rm_m_kind : Room := { frames := 1, cells := 0, slots := 0, locals := 21 }
set_option maxHeartbeats 4000000 in
set_option maxRecDepth 100000 in
theorem C_m_kind (l : Launch) (D : va_G) (ty : List (ClassId × FieldType)) (sz : Nat) (G : mw_G) (Z : va_W) (hG : mw_ok ty sz G Z) (c : mw_C) (x : Int32) : kp_M l yX3_kind cX3_kind 2 (some .int) rm_m_kind D ty sz [.ref (bM G), .int x] (mw_W G c Z) (some (.int (F_m_kind c x))) (mw_W G (S_m_kind c x) Z) := by
  refine kp_body (by decide) (Nat.le_of_ble_eq_true rfl) rfl ?_
  intro p e s m args below meth cd ls B hin hl hP hS
  obtain ⟨hx, hb, hml, hown, hlk, hr, hw, hE, hK, hsz⟩ := id B
  have hl : lv_has ls 2 [(0, .ref (bM G)), (1, .int x)] := hl
  refine lv_aload_n hx hb dX3_kind_0 rfl (lv_at hl 0 rfl) ?_
  refine lv_iconst (v := (0 : Int32)) hx hb dX3_kind_1 (by decide) ?_
  refine km_put0 (v := (0 : Int32)) (M' := mp_thrown c (0 : Int32)) B hG hP hS rfl kw_244 dX3_kind_2 (fun H locs hP hS => ?_)
  refine lv_iload_n hx hb dX3_kind_5 rfl (lv_at hl 1 rfl) ?_
  refine kp_callSR (rm := rm_m_isPlace) (As := [.int x]) (rest := []) (r := some (.int (F_m_isPlace x))) (st1 := [.int (F_m_isPlace x)]) B (C_m_isPlace l D ty sz G Z hG (mp_thrown c (0 : Int32)) x) kt_m_isPlace kw_316 kw_317 (by decide) ⟨rfl, rfl⟩ (by decide) rfl (Nat.le_of_ble_eq_true rfl) hl.1 hP hS dX3_kind_6 rfl ?_
  refine lv_if_ne (tgt := 14) hx hb dX3_kind_9 (by decide) (fun q_1 => ?_) (fun q_1 => ?_)
  · refine lv_aload_n hx hb dX3_kind_14 rfl (lv_at hl 0 rfl) ?_
    refine km_get (j := 3) (v := .ref (bB G)) B hP rfl (by decide) kw_298 dX3_kind_15 ?_
    refine lv_iload_n hx hb dX3_kind_18 rfl (lv_at hl 1 rfl) ?_
    refine km_zald (i := x) (v := z_i (((mp_thrown c (0 : Int32)).2.1.1) x.toNatClampNeg)) B hG hP (km_inP q_1) rfl dX3_kind_19 ?_
    refine lv_if_ne (tgt := 25) hx hb dX3_kind_20 (by decide) (fun q_2 => ?_) (fun q_2 => ?_)
    · refine lv_aload_n hx hb dX3_kind_25 rfl (lv_at hl 0 rfl) ?_
      refine km_get (j := 4) (v := .ref (bL G)) B hP rfl (by decide) kw_299 dX3_kind_26 ?_
      refine lv_iload_n hx hb dX3_kind_29 rfl (lv_at hl 1 rfl) ?_
      refine km_lald (i := x) (v := ((mp_thrown c (0 : Int32)).2.1.2.1) x.toNatClampNeg) B hG hP (km_inP q_1) rfl dX3_kind_30 ?_
      refine kp_callSR (rm := rm_m_isEnd) (As := [.long (((mp_thrown c (0 : Int32)).2.1.2.1) x.toNatClampNeg)]) (rest := []) (r := some (.int (F_m_isEnd (((mp_thrown c (0 : Int32)).2.1.2.1) x.toNatClampNeg)))) (st1 := [.int (F_m_isEnd (((mp_thrown c (0 : Int32)).2.1.2.1) x.toNatClampNeg))]) B (C_m_isEnd l D ty sz G Z hG (mp_thrown c (0 : Int32)) (((mp_thrown c (0 : Int32)).2.1.2.1) x.toNatClampNeg)) kt_m_isEnd kw_266 kw_267 (by decide) ⟨rfl, rfl⟩ (by decide) rfl (Nat.le_of_ble_eq_true rfl) hl.1 hP hS dX3_kind_31 rfl ?_
      refine lv_if_ne (tgt := 55) hx hb dX3_kind_34 (by decide) (fun q_3 => ?_) (fun q_3 => ?_)
      · refine lv_aload_n hx hb dX3_kind_55 rfl (lv_at hl 0 rfl) ?_
        refine km_get (j := 5) (v := .ref (bH G)) B hP rfl (by decide) kw_300 dX3_kind_56 ?_
        refine lv_iload_n hx hb dX3_kind_59 rfl (lv_at hl 1 rfl) ?_
        refine km_hald (i := x) (v := ((mp_thrown c (0 : Int32)).2.1.2.2) x.toNatClampNeg) B hG hP (km_inP q_1) rfl dX3_kind_60 ?_
        refine kp_callSR (rm := rm_m_isEnd) (As := [.long (((mp_thrown c (0 : Int32)).2.1.2.2) x.toNatClampNeg)]) (rest := []) (r := some (.int (F_m_isEnd (((mp_thrown c (0 : Int32)).2.1.2.2) x.toNatClampNeg)))) (st1 := [.int (F_m_isEnd (((mp_thrown c (0 : Int32)).2.1.2.2) x.toNatClampNeg))]) B (C_m_isEnd l D ty sz G Z hG (mp_thrown c (0 : Int32)) (((mp_thrown c (0 : Int32)).2.1.2.2) x.toNatClampNeg)) kt_m_isEnd kw_266 kw_267 (by decide) ⟨rfl, rfl⟩ (by decide) rfl (Nat.le_of_ble_eq_true rfl) hl.1 hP hS dX3_kind_61 rfl ?_
        refine lv_if_ne (tgt := 71) hx hb dX3_kind_64 (by decide) (fun q_4 => ?_) (fun q_4 => ?_)
        · refine lv_aload_n hx hb dX3_kind_71 rfl (lv_at hl 0 rfl) ?_
          refine km_get (j := 4) (v := .ref (bL G)) B hP rfl (by decide) kw_299 dX3_kind_72 ?_
          refine lv_iload_n hx hb dX3_kind_75 rfl (lv_at hl 1 rfl) ?_
          refine km_lald (i := x) (v := ((mp_thrown c (0 : Int32)).2.1.2.1) x.toNatClampNeg) B hG hP (km_inP q_1) rfl dX3_kind_76 ?_
          refine lv_aload_n hx hb dX3_kind_77 rfl (lv_at hl 0 rfl) ?_
          refine km_get (j := 5) (v := .ref (bH G)) B hP rfl (by decide) kw_300 dX3_kind_78 ?_
          refine lv_iload_n hx hb dX3_kind_81 rfl (lv_at hl 1 rfl) ?_
          refine km_hald (i := x) (v := ((mp_thrown c (0 : Int32)).2.1.2.2) x.toNatClampNeg) B hG hP (km_inP q_1) rfl dX3_kind_82 ?_
          refine kp_lne (tgt := 91) hx hb dX3_kind_83 dX3_kind_84 (by decide) (fun q_5 => ?_) (fun q_5 => ?_)
          · refine lv_iconst (v := (2 : Int32)) hx hb dX3_kind_91 (by decide) ?_
            exact kp_reti B (by simp only [S_m_kind, if_neg q_1, if_neg q_2, if_neg q_3, if_neg q_4, if_neg q_5]; exact hP) hS (by simp only [F_m_kind, if_neg q_1, if_neg q_2, if_neg q_3, if_neg q_4, if_neg q_5]) dX3_kind_92
          · refine lv_iconst (v := (1 : Int32)) hx hb dX3_kind_87 (by decide) ?_
            refine lv_goto (tgt := 92) hx hb dX3_kind_88 (by decide) ?_
            exact kp_reti B (by simp only [S_m_kind, if_neg q_1, if_neg q_2, if_neg q_3, if_neg q_4, if_pos q_5]; exact hP) hS (by simp only [F_m_kind, if_neg q_1, if_neg q_2, if_neg q_3, if_neg q_4, if_pos q_5]) dX3_kind_92
        · refine lv_iconst (v := (3 : Int32)) hx hb dX3_kind_67 (by decide) ?_
          refine lv_goto (tgt := 92) hx hb dX3_kind_68 (by decide) ?_
          exact kp_reti B (by simp only [S_m_kind, if_neg q_1, if_neg q_2, if_neg q_3, if_pos q_4]; exact hP) hS (by simp only [F_m_kind, if_neg q_1, if_neg q_2, if_neg q_3, if_pos q_4]) dX3_kind_92
      · refine lv_aload_n hx hb dX3_kind_37 rfl (lv_at hl 0 rfl) ?_
        refine km_get (j := 5) (v := .ref (bH G)) B hP rfl (by decide) kw_300 dX3_kind_38 ?_
        refine lv_iload_n hx hb dX3_kind_41 rfl (lv_at hl 1 rfl) ?_
        refine km_hald (i := x) (v := ((mp_thrown c (0 : Int32)).2.1.2.2) x.toNatClampNeg) B hG hP (km_inP q_1) rfl dX3_kind_42 ?_
        refine kp_callSR (rm := rm_m_isEnd) (As := [.long (((mp_thrown c (0 : Int32)).2.1.2.2) x.toNatClampNeg)]) (rest := []) (r := some (.int (F_m_isEnd (((mp_thrown c (0 : Int32)).2.1.2.2) x.toNatClampNeg)))) (st1 := [.int (F_m_isEnd (((mp_thrown c (0 : Int32)).2.1.2.2) x.toNatClampNeg))]) B (C_m_isEnd l D ty sz G Z hG (mp_thrown c (0 : Int32)) (((mp_thrown c (0 : Int32)).2.1.2.2) x.toNatClampNeg)) kt_m_isEnd kw_266 kw_267 (by decide) ⟨rfl, rfl⟩ (by decide) rfl (Nat.le_of_ble_eq_true rfl) hl.1 hP hS dX3_kind_43 rfl ?_
        refine lv_if_eq (tgt := 53) hx hb dX3_kind_46 (by decide) (fun q_6 => ?_) (fun q_6 => ?_)
        · refine lv_iconst (v := (5 : Int32)) hx hb dX3_kind_53 (by decide) ?_
          exact kp_reti B (by simp only [S_m_kind, if_neg q_1, if_neg q_2, if_pos q_3, if_pos q_6]; exact hP) hS (by simp only [F_m_kind, if_neg q_1, if_neg q_2, if_pos q_3, if_pos q_6]) dX3_kind_54
        · refine lv_iconst (v := (4 : Int32)) hx hb dX3_kind_49 (by decide) ?_
          refine lv_goto (tgt := 54) hx hb dX3_kind_50 (by decide) ?_
          exact kp_reti B (by simp only [S_m_kind, if_neg q_1, if_neg q_2, if_pos q_3, if_neg q_6]; exact hP) hS (by simp only [F_m_kind, if_neg q_1, if_neg q_2, if_pos q_3, if_neg q_6]) dX3_kind_54
    · refine lv_iconst (v := (0 : Int32)) hx hb dX3_kind_23 (by decide) ?_
      exact kp_reti B (by simp only [S_m_kind, if_neg q_1, if_pos q_2]; exact hP) hS (by simp only [F_m_kind, if_neg q_1, if_pos q_2]) dX3_kind_24
  · refine lv_iconst (v := (-1 : Int32)) hx hb dX3_kind_12 (by decide) ?_
    exact kp_reti B (by simp only [S_m_kind, if_pos q_1]; exact hP) hS (by simp only [F_m_kind, if_pos q_1]) dX3_kind_13
theorem km_inK {c : mw_C} {x : Int32} (q : (F_m_kind c x) = (1 : Int32) ∨ (F_m_kind c x) = (2 : Int32)) : vp_in x 8 := by
  by_cases h : (F_m_isPlace x) = (0 : Int32)
  · have e : F_m_kind c x = (-1 : Int32) := by unfold F_m_kind; rw [if_pos h]
    rw [e] at q
    exact absurd q (by decide)
  · exact km_inP h
def B_m_keep_1 (c : mw_C) (x : Int32) : mw_C := mp_some c (va_up c.2.1.1 x.toNatClampNeg (z_t (z_i c.2.2.1.1)))
def B_m_keep_2 (c : mw_C) (x : Int32) : mw_C := mp_lows (B_m_keep_1 c x) (va_up ((B_m_keep_1 c x).2.1.2.1) x.toNatClampNeg ((B_m_keep_1 c x).2.2.1.2.1))
def B_m_keep_3 (c : mw_C) (x : Int32) : mw_C := mp_highs (B_m_keep_2 c x) (va_up ((B_m_keep_2 c x).2.1.2.2) x.toNatClampNeg ((B_m_keep_2 c x).2.2.1.2.2))
def F_m_keep (c : mw_C) (x : Int32) : Int32 :=
  F_m_kind (B_m_keep_3 c x) x
def S_m_keep (c : mw_C) (x : Int32) : mw_C :=
  S_m_kind (B_m_keep_3 c x) x
def rm_m_keep : Room := { frames := 2, cells := 0, slots := 0, locals := 42 }
set_option maxHeartbeats 4000000 in
set_option maxRecDepth 100000 in
theorem C_m_keep (l : Launch) (D : va_G) (ty : List (ClassId × FieldType)) (sz : Nat) (G : mw_G) (Z : va_W) (hG : mw_ok ty sz G Z) (c : mw_C) (x : Int32) (hx8 : vp_in x 8) : kp_M l yX3_keep cX3_keep 2 (some .int) rm_m_keep D ty sz [.ref (bM G), .int x] (mw_W G c Z) (some (.int (F_m_keep c x))) (mw_W G (S_m_keep c x) Z) := by
  refine kp_body (by decide) (Nat.le_of_ble_eq_true rfl) rfl ?_
  intro p e s m args below meth cd ls B hin hl hP hS
  obtain ⟨hx, hb, hml, hown, hlk, hr, hw, hE, hK, hsz⟩ := id B
  have hl : lv_has ls 2 [(0, .ref (bM G)), (1, .int x)] := hl
  refine lv_aload_n hx hb dX3_keep_0 rfl (lv_at hl 0 rfl) ?_
  refine km_get (j := 3) (v := .ref (bB G)) B hP rfl (by decide) kw_298 dX3_keep_1 ?_
  refine lv_iload_n hx hb dX3_keep_4 rfl (lv_at hl 1 rfl) ?_
  refine lv_aload_n hx hb dX3_keep_5 rfl (lv_at hl 0 rfl) ?_
  refine km_get (j := 6) (v := .int (z_i c.2.2.1.1)) B hP rfl (by decide) kw_268 dX3_keep_6 ?_
  refine km_zast (i := x) (v := z_i c.2.2.1.1) (M' := B_m_keep_1 c x) B hG hP hS hx8 (z_i01 _) rfl dX3_keep_9 (fun H locs hP hS => ?_)
  refine lv_aload_n hx hb dX3_keep_10 rfl (lv_at hl 0 rfl) ?_
  refine km_get (j := 4) (v := .ref (bL G)) B hP rfl (by decide) kw_299 dX3_keep_11 ?_
  refine lv_iload_n hx hb dX3_keep_14 rfl (lv_at hl 1 rfl) ?_
  refine lv_aload_n hx hb dX3_keep_15 rfl (lv_at hl 0 rfl) ?_
  refine km_get (j := 7) (v := .long ((B_m_keep_1 c x).2.2.1.2.1)) B hP rfl (by decide) kw_274 dX3_keep_16 ?_
  refine km_last (i := x) (v := (B_m_keep_1 c x).2.2.1.2.1) (M' := B_m_keep_2 c x) B hG hP hS hx8 rfl dX3_keep_19 (fun H locs hP hS => ?_)
  refine lv_aload_n hx hb dX3_keep_20 rfl (lv_at hl 0 rfl) ?_
  refine km_get (j := 5) (v := .ref (bH G)) B hP rfl (by decide) kw_300 dX3_keep_21 ?_
  refine lv_iload_n hx hb dX3_keep_24 rfl (lv_at hl 1 rfl) ?_
  refine lv_aload_n hx hb dX3_keep_25 rfl (lv_at hl 0 rfl) ?_
  refine km_get (j := 8) (v := .long ((B_m_keep_2 c x).2.2.1.2.2)) B hP rfl (by decide) kw_275 dX3_keep_26 ?_
  refine km_hast (i := x) (v := (B_m_keep_2 c x).2.2.1.2.2) (M' := B_m_keep_3 c x) B hG hP hS hx8 rfl dX3_keep_29 (fun H locs hP hS => ?_)
  refine lv_aload_n hx hb dX3_keep_30 rfl (lv_at hl 0 rfl) ?_
  refine lv_iload_n hx hb dX3_keep_31 rfl (lv_at hl 1 rfl) ?_
  refine kp_callV (rm := rm_m_kind) (As := [.int x]) (rest := []) (r := some (.int (F_m_kind (B_m_keep_3 c x) x))) (st1 := [.int (F_m_kind (B_m_keep_3 c x) x)]) (ws' := mw_W G (S_m_kind (B_m_keep_3 c x) x) Z) B (C_m_kind l D ty sz G Z hG (B_m_keep_3 c x) x) kt_m_kind kw_320 kw_321 kw_322 (km_rc B hP) (by decide) rfl rfl (by decide) rfl (Nat.le_of_ble_eq_true rfl) hl.1 hP hS dX3_keep_32 rfl (fun H locs hP hS => ?_)
  exact kp_reti B hP hS rfl dX3_keep_35
def B_m_two_1 (c : mw_C) (x : Int32) (y : Int32) (z : Int32) : mw_C := mp_is c (z_t (if (z_i (c.2.1.1 y.toNatClampNeg)) = (0 : Int32) then (0 : Int32) else (if (z_i (c.2.1.1 z.toNatClampNeg)) = (0 : Int32) then (0 : Int32) else (1 : Int32))))
def B_m_two_2 (c : mw_C) (x : Int32) (y : Int32) (z : Int32) : mw_C := mp_is (B_m_two_1 c x y z) (z_t (z_i (((B_m_two_1 c x y z).2.1.1) (if (z_i (((B_m_two_1 c x y z).2.1.1) y.toNatClampNeg)) = (0 : Int32) then z else y).toNatClampNeg)))
def B_m_two_3 (c : mw_C) (x : Int32) (y : Int32) (z : Int32) : mw_C := mp_from (B_m_two_2 c x y z) (((B_m_two_2 c x y z).2.1.2.1) (if (z_i (((B_m_two_1 c x y z).2.1.1) y.toNatClampNeg)) = (0 : Int32) then z else y).toNatClampNeg)
def B_m_two_4 (c : mw_C) (x : Int32) (y : Int32) (z : Int32) : mw_C := mp_to (B_m_two_3 c x y z) (((B_m_two_3 c x y z).2.1.2.2) (if (z_i (((B_m_two_1 c x y z).2.1.1) y.toNatClampNeg)) = (0 : Int32) then z else y).toNatClampNeg)
def A_m_two_5 (c : mw_C) (x : Int32) (y : Int32) (z : Int32) : Int64 := ((B_m_two_1 c x y z).2.1.2.1) y.toNatClampNeg
def A_m_two_6 (c : mw_C) (x : Int32) (y : Int32) (z : Int32) : Int64 := ((B_m_two_1 c x y z).2.1.2.2) y.toNatClampNeg
def A_m_two_7 (c : mw_C) (x : Int32) (y : Int32) (z : Int32) : Int64 := ((B_m_two_1 c x y z).2.1.2.1) z.toNatClampNeg
def A_m_two_8 (c : mw_C) (x : Int32) (y : Int32) (z : Int32) : Int64 := ((B_m_two_1 c x y z).2.1.2.2) z.toNatClampNeg
def B_m_two_9 (c : mw_C) (x : Int32) (y : Int32) (z : Int32) : mw_C := S_m_span (B_m_two_1 c x y z) (F_m_plus (A_m_two_5 c x y z) (A_m_two_7 c x y z) (-mw_far)) (F_m_plus (A_m_two_6 c x y z) (A_m_two_8 c x y z) mw_far) (1 : Int64)
def B_m_two_10 (c : mw_C) (x : Int32) (y : Int32) (z : Int32) : mw_C := S_m_span (B_m_two_1 c x y z) (F_m_plus (A_m_two_5 c x y z) (-(A_m_two_8 c x y z)) (-mw_far)) (F_m_plus (A_m_two_6 c x y z) (-(A_m_two_7 c x y z)) mw_far) (1 : Int64)
def B_m_two_11 (c : mw_C) (x : Int32) (y : Int32) (z : Int32) : mw_C := S_m_product (B_m_two_1 c x y z) (A_m_two_5 c x y z) (A_m_two_6 c x y z) (A_m_two_7 c x y z) (A_m_two_8 c x y z)
def B_m_two_12 (c : mw_C) (x : Int32) (y : Int32) (z : Int32) : mw_C := mp_from (B_m_two_1 c x y z) (F_m_more (A_m_two_5 c x y z) (A_m_two_7 c x y z))
def B_m_two_13 (c : mw_C) (x : Int32) (y : Int32) (z : Int32) : mw_C := mp_to (B_m_two_12 c x y z) (F_m_more (A_m_two_6 c x y z) (A_m_two_8 c x y z))
def B_m_two_14 (c : mw_C) (x : Int32) (y : Int32) (z : Int32) : mw_C := mp_to (B_m_two_12 c x y z) (F_m_less (A_m_two_6 c x y z) (A_m_two_8 c x y z))
def B_m_two_15 (c : mw_C) (x : Int32) (y : Int32) (z : Int32) : mw_C := mp_is (B_m_two_14 c x y z) (z_t (if ((B_m_two_14 c x y z).2.2.1.2.2) < ((B_m_two_14 c x y z).2.2.1.2.1) then (0 : Int32) else (1 : Int32)))
def B_m_two_16 (c : mw_C) (x : Int32) (y : Int32) (z : Int32) : mw_C := mp_from (B_m_two_1 c x y z) (F_m_less (A_m_two_5 c x y z) (A_m_two_7 c x y z))
def B_m_two_17 (c : mw_C) (x : Int32) (y : Int32) (z : Int32) : mw_C := mp_to (B_m_two_16 c x y z) (F_m_less (A_m_two_6 c x y z) (A_m_two_8 c x y z))
def B_m_two_18 (c : mw_C) (x : Int32) (y : Int32) (z : Int32) : mw_C := mp_to (B_m_two_16 c x y z) (F_m_more (A_m_two_6 c x y z) (A_m_two_8 c x y z))
def A_m_two_19 (c : mw_C) (x : Int32) (y : Int32) (z : Int32) : Int64 := ((B_m_two_4 c x y z).2.1.2.1) y.toNatClampNeg
def A_m_two_20 (c : mw_C) (x : Int32) (y : Int32) (z : Int32) : Int64 := ((B_m_two_4 c x y z).2.1.2.2) y.toNatClampNeg
def A_m_two_21 (c : mw_C) (x : Int32) (y : Int32) (z : Int32) : Int64 := ((B_m_two_4 c x y z).2.1.2.1) z.toNatClampNeg
def A_m_two_22 (c : mw_C) (x : Int32) (y : Int32) (z : Int32) : Int64 := ((B_m_two_4 c x y z).2.1.2.2) z.toNatClampNeg
def B_m_two_23 (c : mw_C) (x : Int32) (y : Int32) (z : Int32) : mw_C := S_m_span (B_m_two_4 c x y z) (F_m_plus (A_m_two_19 c x y z) (A_m_two_21 c x y z) (-mw_far)) (F_m_plus (A_m_two_20 c x y z) (A_m_two_22 c x y z) mw_far) (1 : Int64)
def B_m_two_24 (c : mw_C) (x : Int32) (y : Int32) (z : Int32) : mw_C := S_m_span (B_m_two_4 c x y z) (F_m_plus (A_m_two_19 c x y z) (-(A_m_two_22 c x y z)) (-mw_far)) (F_m_plus (A_m_two_20 c x y z) (-(A_m_two_21 c x y z)) mw_far) (1 : Int64)
def B_m_two_25 (c : mw_C) (x : Int32) (y : Int32) (z : Int32) : mw_C := S_m_product (B_m_two_4 c x y z) (A_m_two_19 c x y z) (A_m_two_20 c x y z) (A_m_two_21 c x y z) (A_m_two_22 c x y z)
def B_m_two_26 (c : mw_C) (x : Int32) (y : Int32) (z : Int32) : mw_C := mp_from (B_m_two_4 c x y z) (F_m_more (A_m_two_19 c x y z) (A_m_two_21 c x y z))
def B_m_two_27 (c : mw_C) (x : Int32) (y : Int32) (z : Int32) : mw_C := mp_to (B_m_two_26 c x y z) (F_m_more (A_m_two_20 c x y z) (A_m_two_22 c x y z))
def B_m_two_28 (c : mw_C) (x : Int32) (y : Int32) (z : Int32) : mw_C := mp_from (B_m_two_4 c x y z) (F_m_less (A_m_two_19 c x y z) (A_m_two_21 c x y z))
def B_m_two_29 (c : mw_C) (x : Int32) (y : Int32) (z : Int32) : mw_C := mp_to (B_m_two_28 c x y z) (F_m_more (A_m_two_20 c x y z) (A_m_two_22 c x y z))
def S_m_two (c : mw_C) (x : Int32) (y : Int32) (z : Int32) : mw_C :=
  if x = (4 : Int32) then (if (z_i ((B_m_two_1 c x y z).2.2.1.1)) = (0 : Int32) then (if (z_i ((B_m_two_4 c x y z).2.2.1.1)) = (0 : Int32) then B_m_two_4 c x y z else (if (z_i (((B_m_two_4 c x y z).2.1.1) y.toNatClampNeg)) = (0 : Int32) then B_m_two_4 c x y z else (if (z_i (((B_m_two_4 c x y z).2.1.1) z.toNatClampNeg)) = (0 : Int32) then B_m_two_4 c x y z else (if x = (0 : Int32) then B_m_two_23 c x y z else (if x = (1 : Int32) then B_m_two_24 c x y z else (if x = (2 : Int32) then B_m_two_25 c x y z else (if x = (3 : Int32) then B_m_two_27 c x y z else B_m_two_29 c x y z))))))) else (if (z_i (((B_m_two_1 c x y z).2.1.1) y.toNatClampNeg)) = (0 : Int32) then B_m_two_1 c x y z else (if (z_i (((B_m_two_1 c x y z).2.1.1) z.toNatClampNeg)) = (0 : Int32) then B_m_two_1 c x y z else (if x = (0 : Int32) then B_m_two_9 c x y z else (if x = (1 : Int32) then B_m_two_10 c x y z else (if x = (2 : Int32) then B_m_two_11 c x y z else (if x = (3 : Int32) then B_m_two_13 c x y z else B_m_two_18 c x y z))))))) else (if (z_i ((B_m_two_1 c x y z).2.2.1.1)) = (0 : Int32) then B_m_two_1 c x y z else (if x = (0 : Int32) then B_m_two_9 c x y z else (if x = (1 : Int32) then B_m_two_10 c x y z else (if x = (2 : Int32) then B_m_two_11 c x y z else (if x = (3 : Int32) then B_m_two_13 c x y z else (if x = (5 : Int32) then B_m_two_15 c x y z else (if x = (6 : Int32) then B_m_two_17 c x y z else B_m_two_13 c x y z)))))))
def rm_m_two : Room := { frames := 4, cells := 0, slots := 0, locals := 116 }
set_option maxHeartbeats 4000000 in
set_option maxRecDepth 100000 in
theorem C_m_two (l : Launch) (D : va_G) (ty : List (ClassId × FieldType)) (sz : Nat) (G : mw_G) (Z : va_W) (hG : mw_ok ty sz G Z) (c : mw_C) (x : Int32) (y : Int32) (z : Int32) (hy8 : vp_in y 8) (hz8 : vp_in z 8) : kp_M l yX3_two cX3_two 12 none rm_m_two D ty sz [.ref (bM G), .int x, .int y, .int z] (mw_W G c Z) (none) (mw_W G (S_m_two c x y z) Z) := by
  refine kp_body (by decide) (Nat.le_of_ble_eq_true rfl) rfl ?_
  intro p e s m args below meth cd ls B hin hl hP hS
  obtain ⟨hx, hb, hml, hown, hlk, hr, hw, hE, hK, hsz⟩ := id B
  have hl : lv_has ls 12 [(0, .ref (bM G)), (1, .int x), (2, .int y), (3, .int z)] := hl
  refine lv_aload_n hx hb dX3_two_0 rfl (lv_at hl 0 rfl) ?_
  refine lv_aload_n hx hb dX3_two_1 rfl (lv_at hl 0 rfl) ?_
  refine km_get (j := 3) (v := .ref (bB G)) B hP rfl (by decide) kw_298 dX3_two_2 ?_
  refine lv_iload_n hx hb dX3_two_5 rfl (lv_at hl 2 rfl) ?_
  refine km_zald (i := y) (v := z_i (c.2.1.1 y.toNatClampNeg)) B hG hP hy8 rfl dX3_two_6 ?_
  have hJ24 : W p l e rm_m_two s m args below meth cd s.heap [] 0 0 (MQ below (kp_Q D sz (none) (mw_W G (S_m_two c x y z) Z)) args s rm_m_two.cells rm_m_two.slots (kp_A sz)) (F0 m 24 ls [.int (if (z_i (c.2.1.1 y.toNatClampNeg)) = (0 : Int32) then (0 : Int32) else (if (z_i (c.2.1.1 z.toNatClampNeg)) = (0 : Int32) then (0 : Int32) else (1 : Int32))), .ref (bM G)]) := by
    refine km_put6 (v := if (z_i (c.2.1.1 y.toNatClampNeg)) = (0 : Int32) then (0 : Int32) else (if (z_i (c.2.1.1 z.toNatClampNeg)) = (0 : Int32) then (0 : Int32) else (1 : Int32))) (M' := B_m_two_1 c x y z) B hG hP hS (z_ite01 (Or.inl rfl) (z_ite01 (Or.inl rfl) (Or.inr rfl))) rfl kw_268 dX3_two_24 (fun H locs hP hS => ?_)
    refine lv_iload_n hx hb dX3_two_27 rfl (lv_at hl 1 rfl) ?_
    refine lv_iconst (v := (4 : Int32)) hx hb dX3_two_28 (by decide) ?_
    refine lv_icmp_ne (tgt := 88) hx hb dX3_two_29 (by decide) (fun q_1 => ?_) (fun q_1 => ?_)
    · refine lv_aload_n hx hb dX3_two_88 rfl (lv_at hl 0 rfl) ?_
      refine km_get (j := 6) (v := .int (z_i ((B_m_two_1 c x y z).2.2.1.1))) B hP rfl (by decide) kw_268 dX3_two_89 ?_
      refine lv_if_eq (tgt := 118) hx hb dX3_two_92 (by decide) (fun q_2 => ?_) (fun q_2 => ?_)
      · exact kp_retv B (by simp only [S_m_two, if_neg q_1, if_pos q_2]; exact hP) hS rfl dX3_two_118
      · refine lv_iload_n hx hb dX3_two_95 rfl (lv_at hl 1 rfl) ?_
        refine lv_iconst (v := (4 : Int32)) hx hb dX3_two_96 (by decide) ?_
        refine lv_icmp_ne (tgt := 119) hx hb dX3_two_97 (by decide) (fun q_3 => ?_) (fun q_3 => ?_)
        · refine lv_aload_n hx hb dX3_two_119 rfl (lv_at hl 0 rfl) ?_
          refine km_get (j := 4) (v := .ref (bL G)) B hP rfl (by decide) kw_299 dX3_two_120 ?_
          refine lv_iload_n hx hb dX3_two_123 rfl (lv_at hl 2 rfl) ?_
          refine km_lald (i := y) (v := ((B_m_two_1 c x y z).2.1.2.1) y.toNatClampNeg) B hG hP hy8 rfl dX3_two_124 ?_
          refine W.eq (g2 := F0 m 125 ls [.long (A_m_two_5 c x y z)]) rfl ?_
          refine lv_lstore (lv' := [(4, .long (A_m_two_5 c x y z)), (0, .ref (bM G)), (1, .int x), (2, .int y), (3, .int z)]) hx hb dX3_two_125 hl (by decide) rfl (fun ls hl => ?_)
          refine lv_aload_n hx hb dX3_two_127 rfl (lv_at hl 1 rfl) ?_
          refine km_get (j := 5) (v := .ref (bH G)) B hP rfl (by decide) kw_300 dX3_two_128 ?_
          refine lv_iload_n hx hb dX3_two_131 rfl (lv_at hl 3 rfl) ?_
          refine km_hald (i := y) (v := ((B_m_two_1 c x y z).2.1.2.2) y.toNatClampNeg) B hG hP hy8 rfl dX3_two_132 ?_
          refine W.eq (g2 := F0 m 133 ls [.long (A_m_two_6 c x y z)]) rfl ?_
          refine lv_lstore (lv' := [(6, .long (A_m_two_6 c x y z)), (4, .long (A_m_two_5 c x y z)), (0, .ref (bM G)), (1, .int x), (2, .int y), (3, .int z)]) hx hb dX3_two_133 hl (by decide) rfl (fun ls hl => ?_)
          refine lv_aload_n hx hb dX3_two_135 rfl (lv_at hl 2 rfl) ?_
          refine km_get (j := 4) (v := .ref (bL G)) B hP rfl (by decide) kw_299 dX3_two_136 ?_
          refine lv_iload_n hx hb dX3_two_139 rfl (lv_at hl 5 rfl) ?_
          refine km_lald (i := z) (v := ((B_m_two_1 c x y z).2.1.2.1) z.toNatClampNeg) B hG hP hz8 rfl dX3_two_140 ?_
          refine W.eq (g2 := F0 m 141 ls [.long (A_m_two_7 c x y z)]) rfl ?_
          refine lv_lstore (lv' := [(8, .long (A_m_two_7 c x y z)), (6, .long (A_m_two_6 c x y z)), (4, .long (A_m_two_5 c x y z)), (0, .ref (bM G)), (1, .int x), (2, .int y), (3, .int z)]) hx hb dX3_two_141 hl (by decide) rfl (fun ls hl => ?_)
          refine lv_aload_n hx hb dX3_two_143 rfl (lv_at hl 3 rfl) ?_
          refine km_get (j := 5) (v := .ref (bH G)) B hP rfl (by decide) kw_300 dX3_two_144 ?_
          refine lv_iload_n hx hb dX3_two_147 rfl (lv_at hl 6 rfl) ?_
          refine km_hald (i := z) (v := ((B_m_two_1 c x y z).2.1.2.2) z.toNatClampNeg) B hG hP hz8 rfl dX3_two_148 ?_
          refine W.eq (g2 := F0 m 149 ls [.long (A_m_two_8 c x y z)]) rfl ?_
          refine lv_lstore (lv' := [(10, .long (A_m_two_8 c x y z)), (8, .long (A_m_two_7 c x y z)), (6, .long (A_m_two_6 c x y z)), (4, .long (A_m_two_5 c x y z)), (0, .ref (bM G)), (1, .int x), (2, .int y), (3, .int z)]) hx hb dX3_two_149 hl (by decide) rfl (fun ls hl => ?_)
          refine lv_iload_n hx hb dX3_two_151 rfl (lv_at hl 5 rfl) ?_
          by_cases q_4 : x = (0 : Int32)
          · refine lv_tableIn (tgt := 196) hx hb dX3_two_152 (by rw [q_4]; decide) (by rw [q_4]; decide) (by rw [q_4]; rfl) (by decide) ?_
            refine lv_aload_n hx hb dX3_two_196 rfl (lv_at hl 4 rfl) ?_
            refine lv_lload hx hb dX3_two_197 (lv_at hl 3 rfl) ?_
            refine lv_lload hx hb dX3_two_199 (lv_at hl 1 rfl) ?_
            refine lv_ldc2 (v := (-mw_far)) hx hb hown (hw _ kw_263 rfl) dX3_two_201 ?_
            refine kp_callSR (rm := rm_m_plus) (As := [.long (A_m_two_5 c x y z), .long (A_m_two_7 c x y z), .long (-mw_far)]) (rest := [.ref (bM G)]) (r := some (.long (F_m_plus (A_m_two_5 c x y z) (A_m_two_7 c x y z) (-mw_far)))) (st1 := [.long (F_m_plus (A_m_two_5 c x y z) (A_m_two_7 c x y z) (-mw_far)), .ref (bM G)]) B (C_m_plus l D ty sz G Z hG (B_m_two_1 c x y z) (A_m_two_5 c x y z) (A_m_two_7 c x y z) (-mw_far)) kt_m_plus kw_325 kw_326 (by decide) ⟨rfl, rfl⟩ (by decide) rfl (Nat.le_of_ble_eq_true rfl) hl.1 hP hS dX3_two_204 rfl ?_
            refine lv_lload hx hb dX3_two_207 (lv_at hl 2 rfl) ?_
            refine lv_lload hx hb dX3_two_209 (lv_at hl 0 rfl) ?_
            refine lv_ldc2 (v := mw_far) hx hb hown (hw _ kw_253 rfl) dX3_two_211 ?_
            refine kp_callSR (rm := rm_m_plus) (As := [.long (A_m_two_6 c x y z), .long (A_m_two_8 c x y z), .long mw_far]) (rest := [.long (F_m_plus (A_m_two_5 c x y z) (A_m_two_7 c x y z) (-mw_far)), .ref (bM G)]) (r := some (.long (F_m_plus (A_m_two_6 c x y z) (A_m_two_8 c x y z) mw_far))) (st1 := [.long (F_m_plus (A_m_two_6 c x y z) (A_m_two_8 c x y z) mw_far), .long (F_m_plus (A_m_two_5 c x y z) (A_m_two_7 c x y z) (-mw_far)), .ref (bM G)]) B (C_m_plus l D ty sz G Z hG (B_m_two_1 c x y z) (A_m_two_6 c x y z) (A_m_two_8 c x y z) mw_far) kt_m_plus kw_325 kw_326 (by decide) ⟨rfl, rfl⟩ (by decide) rfl (Nat.le_of_ble_eq_true rfl) hl.1 hP hS dX3_two_214 rfl ?_
            refine lv_lconst (v := (1 : Int64)) hx hb dX3_two_217 (by decide) ?_
            refine kp_callV (rm := rm_m_span) (As := [.long (F_m_plus (A_m_two_5 c x y z) (A_m_two_7 c x y z) (-mw_far)), .long (F_m_plus (A_m_two_6 c x y z) (A_m_two_8 c x y z) mw_far), .long (1 : Int64)]) (rest := []) (r := none) (st1 := []) (ws' := mw_W G (S_m_span (B_m_two_1 c x y z) (F_m_plus (A_m_two_5 c x y z) (A_m_two_7 c x y z) (-mw_far)) (F_m_plus (A_m_two_6 c x y z) (A_m_two_8 c x y z) mw_far) (1 : Int64)) Z) B (C_m_span l D ty sz G Z hG (B_m_two_1 c x y z) (F_m_plus (A_m_two_5 c x y z) (A_m_two_7 c x y z) (-mw_far)) (F_m_plus (A_m_two_6 c x y z) (A_m_two_8 c x y z) mw_far) (1 : Int64) (by decide)) kt_m_span kw_287 kw_288 kw_289 (km_rc B hP) (by decide) rfl rfl (by decide) rfl (Nat.le_of_ble_eq_true rfl) hl.1 hP hS dX3_two_218 rfl (fun H locs hP hS => ?_)
            have hP : va_P D vwCl (mw_W G (B_m_two_9 c x y z) Z) H := hP
            refine lv_goto (tgt := 387) hx hb dX3_two_221 (by decide) ?_
            exact kp_retv B (by simp only [S_m_two, if_neg q_1, if_neg q_2, if_pos q_4]; exact hP) hS rfl dX3_two_387
          · by_cases q_5 : x = (1 : Int32)
            · refine lv_tableIn (tgt := 224) hx hb dX3_two_152 (by rw [q_5]; decide) (by rw [q_5]; decide) (by rw [q_5]; rfl) (by decide) ?_
              refine lv_aload_n hx hb dX3_two_224 rfl (lv_at hl 4 rfl) ?_
              refine lv_lload hx hb dX3_two_225 (lv_at hl 3 rfl) ?_
              refine lv_lload hx hb dX3_two_227 (lv_at hl 0 rfl) ?_
              refine lv_lneg hx hb dX3_two_229 ?_
              refine lv_ldc2 (v := (-mw_far)) hx hb hown (hw _ kw_263 rfl) dX3_two_230 ?_
              refine kp_callSR (rm := rm_m_plus) (As := [.long (A_m_two_5 c x y z), .long (-(A_m_two_8 c x y z)), .long (-mw_far)]) (rest := [.ref (bM G)]) (r := some (.long (F_m_plus (A_m_two_5 c x y z) (-(A_m_two_8 c x y z)) (-mw_far)))) (st1 := [.long (F_m_plus (A_m_two_5 c x y z) (-(A_m_two_8 c x y z)) (-mw_far)), .ref (bM G)]) B (C_m_plus l D ty sz G Z hG (B_m_two_1 c x y z) (A_m_two_5 c x y z) (-(A_m_two_8 c x y z)) (-mw_far)) kt_m_plus kw_325 kw_326 (by decide) ⟨rfl, rfl⟩ (by decide) rfl (Nat.le_of_ble_eq_true rfl) hl.1 hP hS dX3_two_233 rfl ?_
              refine lv_lload hx hb dX3_two_236 (lv_at hl 2 rfl) ?_
              refine lv_lload hx hb dX3_two_238 (lv_at hl 1 rfl) ?_
              refine lv_lneg hx hb dX3_two_240 ?_
              refine lv_ldc2 (v := mw_far) hx hb hown (hw _ kw_253 rfl) dX3_two_241 ?_
              refine kp_callSR (rm := rm_m_plus) (As := [.long (A_m_two_6 c x y z), .long (-(A_m_two_7 c x y z)), .long mw_far]) (rest := [.long (F_m_plus (A_m_two_5 c x y z) (-(A_m_two_8 c x y z)) (-mw_far)), .ref (bM G)]) (r := some (.long (F_m_plus (A_m_two_6 c x y z) (-(A_m_two_7 c x y z)) mw_far))) (st1 := [.long (F_m_plus (A_m_two_6 c x y z) (-(A_m_two_7 c x y z)) mw_far), .long (F_m_plus (A_m_two_5 c x y z) (-(A_m_two_8 c x y z)) (-mw_far)), .ref (bM G)]) B (C_m_plus l D ty sz G Z hG (B_m_two_1 c x y z) (A_m_two_6 c x y z) (-(A_m_two_7 c x y z)) mw_far) kt_m_plus kw_325 kw_326 (by decide) ⟨rfl, rfl⟩ (by decide) rfl (Nat.le_of_ble_eq_true rfl) hl.1 hP hS dX3_two_244 rfl ?_
              refine lv_lconst (v := (1 : Int64)) hx hb dX3_two_247 (by decide) ?_
              refine kp_callV (rm := rm_m_span) (As := [.long (F_m_plus (A_m_two_5 c x y z) (-(A_m_two_8 c x y z)) (-mw_far)), .long (F_m_plus (A_m_two_6 c x y z) (-(A_m_two_7 c x y z)) mw_far), .long (1 : Int64)]) (rest := []) (r := none) (st1 := []) (ws' := mw_W G (S_m_span (B_m_two_1 c x y z) (F_m_plus (A_m_two_5 c x y z) (-(A_m_two_8 c x y z)) (-mw_far)) (F_m_plus (A_m_two_6 c x y z) (-(A_m_two_7 c x y z)) mw_far) (1 : Int64)) Z) B (C_m_span l D ty sz G Z hG (B_m_two_1 c x y z) (F_m_plus (A_m_two_5 c x y z) (-(A_m_two_8 c x y z)) (-mw_far)) (F_m_plus (A_m_two_6 c x y z) (-(A_m_two_7 c x y z)) mw_far) (1 : Int64) (by decide)) kt_m_span kw_287 kw_288 kw_289 (km_rc B hP) (by decide) rfl rfl (by decide) rfl (Nat.le_of_ble_eq_true rfl) hl.1 hP hS dX3_two_248 rfl (fun H locs hP hS => ?_)
              have hP : va_P D vwCl (mw_W G (B_m_two_10 c x y z) Z) H := hP
              refine lv_goto (tgt := 387) hx hb dX3_two_251 (by decide) ?_
              exact kp_retv B (by simp only [S_m_two, if_neg q_1, if_neg q_2, if_neg q_4, if_pos q_5]; exact hP) hS rfl dX3_two_387
            · by_cases q_6 : x = (2 : Int32)
              · refine lv_tableIn (tgt := 254) hx hb dX3_two_152 (by rw [q_6]; decide) (by rw [q_6]; decide) (by rw [q_6]; rfl) (by decide) ?_
                refine lv_aload_n hx hb dX3_two_254 rfl (lv_at hl 4 rfl) ?_
                refine lv_lload hx hb dX3_two_255 (lv_at hl 3 rfl) ?_
                refine lv_lload hx hb dX3_two_257 (lv_at hl 2 rfl) ?_
                refine lv_lload hx hb dX3_two_259 (lv_at hl 1 rfl) ?_
                refine lv_lload hx hb dX3_two_261 (lv_at hl 0 rfl) ?_
                refine kp_callV (rm := rm_m_product) (As := [.long (A_m_two_5 c x y z), .long (A_m_two_6 c x y z), .long (A_m_two_7 c x y z), .long (A_m_two_8 c x y z)]) (rest := []) (r := none) (st1 := []) (ws' := mw_W G (S_m_product (B_m_two_1 c x y z) (A_m_two_5 c x y z) (A_m_two_6 c x y z) (A_m_two_7 c x y z) (A_m_two_8 c x y z)) Z) B (C_m_product l D ty sz G Z hG (B_m_two_1 c x y z) (A_m_two_5 c x y z) (A_m_two_6 c x y z) (A_m_two_7 c x y z) (A_m_two_8 c x y z)) kt_m_product kw_329 kw_330 kw_331 (km_rc B hP) (by decide) rfl rfl (by decide) rfl (Nat.le_of_ble_eq_true rfl) hl.1 hP hS dX3_two_263 rfl (fun H locs hP hS => ?_)
                have hP : va_P D vwCl (mw_W G (B_m_two_11 c x y z) Z) H := hP
                refine lv_goto (tgt := 387) hx hb dX3_two_266 (by decide) ?_
                exact kp_retv B (by simp only [S_m_two, if_neg q_1, if_neg q_2, if_neg q_4, if_neg q_5, if_pos q_6]; exact hP) hS rfl dX3_two_387
              · by_cases q_7 : x = (3 : Int32)
                · refine lv_tableIn (tgt := 365) hx hb dX3_two_152 (by rw [q_7]; decide) (by rw [q_7]; decide) (by rw [q_7]; rfl) (by decide) ?_
                  refine lv_aload_n hx hb dX3_two_365 rfl (lv_at hl 4 rfl) ?_
                  refine lv_lload hx hb dX3_two_366 (lv_at hl 3 rfl) ?_
                  refine lv_lload hx hb dX3_two_368 (lv_at hl 1 rfl) ?_
                  refine kp_callSR (rm := rm_m_more) (As := [.long (A_m_two_5 c x y z), .long (A_m_two_7 c x y z)]) (rest := [.ref (bM G)]) (r := some (.long (F_m_more (A_m_two_5 c x y z) (A_m_two_7 c x y z)))) (st1 := [.long (F_m_more (A_m_two_5 c x y z) (A_m_two_7 c x y z)), .ref (bM G)]) B (C_m_more l D ty sz G Z hG (B_m_two_1 c x y z) (A_m_two_5 c x y z) (A_m_two_7 c x y z)) kt_m_more kw_312 kw_313 (by decide) ⟨rfl, rfl⟩ (by decide) rfl (Nat.le_of_ble_eq_true rfl) hl.1 hP hS dX3_two_370 rfl ?_
                  refine km_put7 (v := F_m_more (A_m_two_5 c x y z) (A_m_two_7 c x y z)) (M' := B_m_two_12 c x y z) B hG hP hS rfl kw_274 dX3_two_373 (fun H locs hP hS => ?_)
                  refine lv_aload_n hx hb dX3_two_376 rfl (lv_at hl 4 rfl) ?_
                  refine lv_lload hx hb dX3_two_377 (lv_at hl 2 rfl) ?_
                  refine lv_lload hx hb dX3_two_379 (lv_at hl 0 rfl) ?_
                  refine kp_callSR (rm := rm_m_more) (As := [.long (A_m_two_6 c x y z), .long (A_m_two_8 c x y z)]) (rest := [.ref (bM G)]) (r := some (.long (F_m_more (A_m_two_6 c x y z) (A_m_two_8 c x y z)))) (st1 := [.long (F_m_more (A_m_two_6 c x y z) (A_m_two_8 c x y z)), .ref (bM G)]) B (C_m_more l D ty sz G Z hG (B_m_two_12 c x y z) (A_m_two_6 c x y z) (A_m_two_8 c x y z)) kt_m_more kw_312 kw_313 (by decide) ⟨rfl, rfl⟩ (by decide) rfl (Nat.le_of_ble_eq_true rfl) hl.1 hP hS dX3_two_381 rfl ?_
                  refine km_put8 (v := F_m_more (A_m_two_6 c x y z) (A_m_two_8 c x y z)) (M' := B_m_two_13 c x y z) B hG hP hS rfl kw_275 dX3_two_384 (fun H locs hP hS => ?_)
                  exact kp_retv B (by simp only [S_m_two, if_neg q_1, if_neg q_2, if_neg q_4, if_neg q_5, if_neg q_6, if_pos q_7]; exact hP) hS rfl dX3_two_387
                · by_cases q_8 : x = (5 : Int32)
                  · refine lv_tableIn (tgt := 294) hx hb dX3_two_152 (by rw [q_8]; decide) (by rw [q_8]; decide) (by rw [q_8]; rfl) (by decide) ?_
                    refine lv_aload_n hx hb dX3_two_294 rfl (lv_at hl 4 rfl) ?_
                    refine lv_lload hx hb dX3_two_295 (lv_at hl 3 rfl) ?_
                    refine lv_lload hx hb dX3_two_297 (lv_at hl 1 rfl) ?_
                    refine kp_callSR (rm := rm_m_more) (As := [.long (A_m_two_5 c x y z), .long (A_m_two_7 c x y z)]) (rest := [.ref (bM G)]) (r := some (.long (F_m_more (A_m_two_5 c x y z) (A_m_two_7 c x y z)))) (st1 := [.long (F_m_more (A_m_two_5 c x y z) (A_m_two_7 c x y z)), .ref (bM G)]) B (C_m_more l D ty sz G Z hG (B_m_two_1 c x y z) (A_m_two_5 c x y z) (A_m_two_7 c x y z)) kt_m_more kw_312 kw_313 (by decide) ⟨rfl, rfl⟩ (by decide) rfl (Nat.le_of_ble_eq_true rfl) hl.1 hP hS dX3_two_299 rfl ?_
                    refine km_put7 (v := F_m_more (A_m_two_5 c x y z) (A_m_two_7 c x y z)) (M' := B_m_two_12 c x y z) B hG hP hS rfl kw_274 dX3_two_302 (fun H locs hP hS => ?_)
                    refine lv_aload_n hx hb dX3_two_305 rfl (lv_at hl 4 rfl) ?_
                    refine lv_lload hx hb dX3_two_306 (lv_at hl 2 rfl) ?_
                    refine lv_lload hx hb dX3_two_308 (lv_at hl 0 rfl) ?_
                    refine kp_callSR (rm := rm_m_less) (As := [.long (A_m_two_6 c x y z), .long (A_m_two_8 c x y z)]) (rest := [.ref (bM G)]) (r := some (.long (F_m_less (A_m_two_6 c x y z) (A_m_two_8 c x y z)))) (st1 := [.long (F_m_less (A_m_two_6 c x y z) (A_m_two_8 c x y z)), .ref (bM G)]) B (C_m_less l D ty sz G Z hG (B_m_two_12 c x y z) (A_m_two_6 c x y z) (A_m_two_8 c x y z)) kt_m_less kw_334 kw_335 (by decide) ⟨rfl, rfl⟩ (by decide) rfl (Nat.le_of_ble_eq_true rfl) hl.1 hP hS dX3_two_310 rfl ?_
                    refine km_put8 (v := F_m_less (A_m_two_6 c x y z) (A_m_two_8 c x y z)) (M' := B_m_two_14 c x y z) B hG hP hS rfl kw_275 dX3_two_313 (fun H locs hP hS => ?_)
                    refine lv_aload_n hx hb dX3_two_316 rfl (lv_at hl 4 rfl) ?_
                    refine lv_aload_n hx hb dX3_two_317 rfl (lv_at hl 4 rfl) ?_
                    refine km_get (j := 7) (v := .long ((B_m_two_14 c x y z).2.2.1.2.1)) B hP rfl (by decide) kw_274 dX3_two_318 ?_
                    refine lv_aload_n hx hb dX3_two_321 rfl (lv_at hl 4 rfl) ?_
                    refine km_get (j := 8) (v := .long ((B_m_two_14 c x y z).2.2.1.2.2)) B hP rfl (by decide) kw_275 dX3_two_322 ?_
                    have hJ334 : W p l e rm_m_two s m args below meth cd H locs 0 0 (MQ below (kp_Q D sz (none) (mw_W G (S_m_two c x y z) Z)) args s rm_m_two.cells rm_m_two.slots (kp_A sz)) (F0 m 334 ls [.int (if ((B_m_two_14 c x y z).2.2.1.2.2) < ((B_m_two_14 c x y z).2.2.1.2.1) then (0 : Int32) else (1 : Int32)), .ref (bM G)]) := by
                      refine km_put6 (v := if ((B_m_two_14 c x y z).2.2.1.2.2) < ((B_m_two_14 c x y z).2.2.1.2.1) then (0 : Int32) else (1 : Int32)) (M' := B_m_two_15 c x y z) B hG hP hS (z_ite01 (Or.inl rfl) (Or.inr rfl)) rfl kw_268 dX3_two_334 (fun H locs hP hS => ?_)
                      refine lv_goto (tgt := 387) hx hb dX3_two_337 (by decide) ?_
                      exact kp_retv B (by simp only [S_m_two, if_neg q_1, if_neg q_2, if_neg q_4, if_neg q_5, if_neg q_6, if_neg q_7, if_pos q_8]; exact hP) hS rfl dX3_two_387
                    refine kp_lgt (tgt := 333) hx hb dX3_two_325 dX3_two_326 (by decide) (fun q_9 => ?_) (fun q_9 => ?_)
                    · refine lv_iconst (v := (0 : Int32)) hx hb dX3_two_333 (by decide) ?_
                      exact kp_jI (by simp only [if_pos q_9]) hJ334
                    · refine lv_iconst (v := (1 : Int32)) hx hb dX3_two_329 (by decide) ?_
                      refine lv_goto (tgt := 334) hx hb dX3_two_330 (by decide) ?_
                      exact kp_jI (by simp only [if_neg q_9]) hJ334
                  · by_cases q_10 : x = (6 : Int32)
                    · refine lv_tableIn (tgt := 340) hx hb dX3_two_152 (by rw [q_10]; decide) (by rw [q_10]; decide) (by rw [q_10]; rfl) (by decide) ?_
                      refine lv_aload_n hx hb dX3_two_340 rfl (lv_at hl 4 rfl) ?_
                      refine lv_lload hx hb dX3_two_341 (lv_at hl 3 rfl) ?_
                      refine lv_lload hx hb dX3_two_343 (lv_at hl 1 rfl) ?_
                      refine kp_callSR (rm := rm_m_less) (As := [.long (A_m_two_5 c x y z), .long (A_m_two_7 c x y z)]) (rest := [.ref (bM G)]) (r := some (.long (F_m_less (A_m_two_5 c x y z) (A_m_two_7 c x y z)))) (st1 := [.long (F_m_less (A_m_two_5 c x y z) (A_m_two_7 c x y z)), .ref (bM G)]) B (C_m_less l D ty sz G Z hG (B_m_two_1 c x y z) (A_m_two_5 c x y z) (A_m_two_7 c x y z)) kt_m_less kw_334 kw_335 (by decide) ⟨rfl, rfl⟩ (by decide) rfl (Nat.le_of_ble_eq_true rfl) hl.1 hP hS dX3_two_345 rfl ?_
                      refine km_put7 (v := F_m_less (A_m_two_5 c x y z) (A_m_two_7 c x y z)) (M' := B_m_two_16 c x y z) B hG hP hS rfl kw_274 dX3_two_348 (fun H locs hP hS => ?_)
                      refine lv_aload_n hx hb dX3_two_351 rfl (lv_at hl 4 rfl) ?_
                      refine lv_lload hx hb dX3_two_352 (lv_at hl 2 rfl) ?_
                      refine lv_lload hx hb dX3_two_354 (lv_at hl 0 rfl) ?_
                      refine kp_callSR (rm := rm_m_less) (As := [.long (A_m_two_6 c x y z), .long (A_m_two_8 c x y z)]) (rest := [.ref (bM G)]) (r := some (.long (F_m_less (A_m_two_6 c x y z) (A_m_two_8 c x y z)))) (st1 := [.long (F_m_less (A_m_two_6 c x y z) (A_m_two_8 c x y z)), .ref (bM G)]) B (C_m_less l D ty sz G Z hG (B_m_two_16 c x y z) (A_m_two_6 c x y z) (A_m_two_8 c x y z)) kt_m_less kw_334 kw_335 (by decide) ⟨rfl, rfl⟩ (by decide) rfl (Nat.le_of_ble_eq_true rfl) hl.1 hP hS dX3_two_356 rfl ?_
                      refine km_put8 (v := F_m_less (A_m_two_6 c x y z) (A_m_two_8 c x y z)) (M' := B_m_two_17 c x y z) B hG hP hS rfl kw_275 dX3_two_359 (fun H locs hP hS => ?_)
                      refine lv_goto (tgt := 387) hx hb dX3_two_362 (by decide) ?_
                      exact kp_retv B (by simp only [S_m_two, if_neg q_1, if_neg q_2, if_neg q_4, if_neg q_5, if_neg q_6, if_neg q_7, if_neg q_8, if_pos q_10]; exact hP) hS rfl dX3_two_387
                    · refine lv_tableOut (tgt := 365) hx hb dX3_two_152 (kc_out7 q_4 q_5 q_6 q_7 q_1 q_8 q_10) (by decide) ?_
                      refine lv_aload_n hx hb dX3_two_365 rfl (lv_at hl 4 rfl) ?_
                      refine lv_lload hx hb dX3_two_366 (lv_at hl 3 rfl) ?_
                      refine lv_lload hx hb dX3_two_368 (lv_at hl 1 rfl) ?_
                      refine kp_callSR (rm := rm_m_more) (As := [.long (A_m_two_5 c x y z), .long (A_m_two_7 c x y z)]) (rest := [.ref (bM G)]) (r := some (.long (F_m_more (A_m_two_5 c x y z) (A_m_two_7 c x y z)))) (st1 := [.long (F_m_more (A_m_two_5 c x y z) (A_m_two_7 c x y z)), .ref (bM G)]) B (C_m_more l D ty sz G Z hG (B_m_two_1 c x y z) (A_m_two_5 c x y z) (A_m_two_7 c x y z)) kt_m_more kw_312 kw_313 (by decide) ⟨rfl, rfl⟩ (by decide) rfl (Nat.le_of_ble_eq_true rfl) hl.1 hP hS dX3_two_370 rfl ?_
                      refine km_put7 (v := F_m_more (A_m_two_5 c x y z) (A_m_two_7 c x y z)) (M' := B_m_two_12 c x y z) B hG hP hS rfl kw_274 dX3_two_373 (fun H locs hP hS => ?_)
                      refine lv_aload_n hx hb dX3_two_376 rfl (lv_at hl 4 rfl) ?_
                      refine lv_lload hx hb dX3_two_377 (lv_at hl 2 rfl) ?_
                      refine lv_lload hx hb dX3_two_379 (lv_at hl 0 rfl) ?_
                      refine kp_callSR (rm := rm_m_more) (As := [.long (A_m_two_6 c x y z), .long (A_m_two_8 c x y z)]) (rest := [.ref (bM G)]) (r := some (.long (F_m_more (A_m_two_6 c x y z) (A_m_two_8 c x y z)))) (st1 := [.long (F_m_more (A_m_two_6 c x y z) (A_m_two_8 c x y z)), .ref (bM G)]) B (C_m_more l D ty sz G Z hG (B_m_two_12 c x y z) (A_m_two_6 c x y z) (A_m_two_8 c x y z)) kt_m_more kw_312 kw_313 (by decide) ⟨rfl, rfl⟩ (by decide) rfl (Nat.le_of_ble_eq_true rfl) hl.1 hP hS dX3_two_381 rfl ?_
                      refine km_put8 (v := F_m_more (A_m_two_6 c x y z) (A_m_two_8 c x y z)) (M' := B_m_two_13 c x y z) B hG hP hS rfl kw_275 dX3_two_384 (fun H locs hP hS => ?_)
                      exact kp_retv B (by simp only [S_m_two, if_neg q_1, if_neg q_2, if_neg q_4, if_neg q_5, if_neg q_6, if_neg q_7, if_neg q_8, if_neg q_10]; exact hP) hS rfl dX3_two_387
        · exact absurd q_3 q_1
    · refine lv_aload_n hx hb dX3_two_32 rfl (lv_at hl 0 rfl) ?_
      refine km_get (j := 6) (v := .int (z_i ((B_m_two_1 c x y z).2.2.1.1))) B hP rfl (by decide) kw_268 dX3_two_33 ?_
      refine lv_if_ne (tgt := 88) hx hb dX3_two_36 (by decide) (fun q_11 => ?_) (fun q_11 => ?_)
      · refine lv_aload_n hx hb dX3_two_88 rfl (lv_at hl 0 rfl) ?_
        refine km_get (j := 6) (v := .int (z_i ((B_m_two_1 c x y z).2.2.1.1))) B hP rfl (by decide) kw_268 dX3_two_89 ?_
        refine lv_if_eq (tgt := 118) hx hb dX3_two_92 (by decide) (fun q_12 => ?_) (fun q_12 => ?_)
        · exact absurd q_12 q_11
        · refine lv_iload_n hx hb dX3_two_95 rfl (lv_at hl 1 rfl) ?_
          refine lv_iconst (v := (4 : Int32)) hx hb dX3_two_96 (by decide) ?_
          refine lv_icmp_ne (tgt := 119) hx hb dX3_two_97 (by decide) (fun q_13 => ?_) (fun q_13 => ?_)
          · exact absurd q_1 q_13
          · refine lv_aload_n hx hb dX3_two_100 rfl (lv_at hl 0 rfl) ?_
            refine km_get (j := 3) (v := .ref (bB G)) B hP rfl (by decide) kw_298 dX3_two_101 ?_
            refine lv_iload_n hx hb dX3_two_104 rfl (lv_at hl 2 rfl) ?_
            refine km_zald (i := y) (v := z_i (((B_m_two_1 c x y z).2.1.1) y.toNatClampNeg)) B hG hP hy8 rfl dX3_two_105 ?_
            refine lv_if_eq (tgt := 118) hx hb dX3_two_106 (by decide) (fun q_14 => ?_) (fun q_14 => ?_)
            · exact kp_retv B (by simp only [S_m_two, if_pos q_1, if_neg q_11, if_pos q_14]; exact hP) hS rfl dX3_two_118
            · refine lv_aload_n hx hb dX3_two_109 rfl (lv_at hl 0 rfl) ?_
              refine km_get (j := 3) (v := .ref (bB G)) B hP rfl (by decide) kw_298 dX3_two_110 ?_
              refine lv_iload_n hx hb dX3_two_113 rfl (lv_at hl 3 rfl) ?_
              refine km_zald (i := z) (v := z_i (((B_m_two_1 c x y z).2.1.1) z.toNatClampNeg)) B hG hP hz8 rfl dX3_two_114 ?_
              refine lv_if_ne (tgt := 119) hx hb dX3_two_115 (by decide) (fun q_15 => ?_) (fun q_15 => ?_)
              · refine lv_aload_n hx hb dX3_two_119 rfl (lv_at hl 0 rfl) ?_
                refine km_get (j := 4) (v := .ref (bL G)) B hP rfl (by decide) kw_299 dX3_two_120 ?_
                refine lv_iload_n hx hb dX3_two_123 rfl (lv_at hl 2 rfl) ?_
                refine km_lald (i := y) (v := ((B_m_two_1 c x y z).2.1.2.1) y.toNatClampNeg) B hG hP hy8 rfl dX3_two_124 ?_
                refine W.eq (g2 := F0 m 125 ls [.long (A_m_two_5 c x y z)]) rfl ?_
                refine lv_lstore (lv' := [(4, .long (A_m_two_5 c x y z)), (0, .ref (bM G)), (1, .int x), (2, .int y), (3, .int z)]) hx hb dX3_two_125 hl (by decide) rfl (fun ls hl => ?_)
                refine lv_aload_n hx hb dX3_two_127 rfl (lv_at hl 1 rfl) ?_
                refine km_get (j := 5) (v := .ref (bH G)) B hP rfl (by decide) kw_300 dX3_two_128 ?_
                refine lv_iload_n hx hb dX3_two_131 rfl (lv_at hl 3 rfl) ?_
                refine km_hald (i := y) (v := ((B_m_two_1 c x y z).2.1.2.2) y.toNatClampNeg) B hG hP hy8 rfl dX3_two_132 ?_
                refine W.eq (g2 := F0 m 133 ls [.long (A_m_two_6 c x y z)]) rfl ?_
                refine lv_lstore (lv' := [(6, .long (A_m_two_6 c x y z)), (4, .long (A_m_two_5 c x y z)), (0, .ref (bM G)), (1, .int x), (2, .int y), (3, .int z)]) hx hb dX3_two_133 hl (by decide) rfl (fun ls hl => ?_)
                refine lv_aload_n hx hb dX3_two_135 rfl (lv_at hl 2 rfl) ?_
                refine km_get (j := 4) (v := .ref (bL G)) B hP rfl (by decide) kw_299 dX3_two_136 ?_
                refine lv_iload_n hx hb dX3_two_139 rfl (lv_at hl 5 rfl) ?_
                refine km_lald (i := z) (v := ((B_m_two_1 c x y z).2.1.2.1) z.toNatClampNeg) B hG hP hz8 rfl dX3_two_140 ?_
                refine W.eq (g2 := F0 m 141 ls [.long (A_m_two_7 c x y z)]) rfl ?_
                refine lv_lstore (lv' := [(8, .long (A_m_two_7 c x y z)), (6, .long (A_m_two_6 c x y z)), (4, .long (A_m_two_5 c x y z)), (0, .ref (bM G)), (1, .int x), (2, .int y), (3, .int z)]) hx hb dX3_two_141 hl (by decide) rfl (fun ls hl => ?_)
                refine lv_aload_n hx hb dX3_two_143 rfl (lv_at hl 3 rfl) ?_
                refine km_get (j := 5) (v := .ref (bH G)) B hP rfl (by decide) kw_300 dX3_two_144 ?_
                refine lv_iload_n hx hb dX3_two_147 rfl (lv_at hl 6 rfl) ?_
                refine km_hald (i := z) (v := ((B_m_two_1 c x y z).2.1.2.2) z.toNatClampNeg) B hG hP hz8 rfl dX3_two_148 ?_
                refine W.eq (g2 := F0 m 149 ls [.long (A_m_two_8 c x y z)]) rfl ?_
                refine lv_lstore (lv' := [(10, .long (A_m_two_8 c x y z)), (8, .long (A_m_two_7 c x y z)), (6, .long (A_m_two_6 c x y z)), (4, .long (A_m_two_5 c x y z)), (0, .ref (bM G)), (1, .int x), (2, .int y), (3, .int z)]) hx hb dX3_two_149 hl (by decide) rfl (fun ls hl => ?_)
                refine lv_iload_n hx hb dX3_two_151 rfl (lv_at hl 5 rfl) ?_
                by_cases q_16 : x = (0 : Int32)
                · refine lv_tableIn (tgt := 196) hx hb dX3_two_152 (by rw [q_16]; decide) (by rw [q_16]; decide) (by rw [q_16]; rfl) (by decide) ?_
                  refine lv_aload_n hx hb dX3_two_196 rfl (lv_at hl 4 rfl) ?_
                  refine lv_lload hx hb dX3_two_197 (lv_at hl 3 rfl) ?_
                  refine lv_lload hx hb dX3_two_199 (lv_at hl 1 rfl) ?_
                  refine lv_ldc2 (v := (-mw_far)) hx hb hown (hw _ kw_263 rfl) dX3_two_201 ?_
                  refine kp_callSR (rm := rm_m_plus) (As := [.long (A_m_two_5 c x y z), .long (A_m_two_7 c x y z), .long (-mw_far)]) (rest := [.ref (bM G)]) (r := some (.long (F_m_plus (A_m_two_5 c x y z) (A_m_two_7 c x y z) (-mw_far)))) (st1 := [.long (F_m_plus (A_m_two_5 c x y z) (A_m_two_7 c x y z) (-mw_far)), .ref (bM G)]) B (C_m_plus l D ty sz G Z hG (B_m_two_1 c x y z) (A_m_two_5 c x y z) (A_m_two_7 c x y z) (-mw_far)) kt_m_plus kw_325 kw_326 (by decide) ⟨rfl, rfl⟩ (by decide) rfl (Nat.le_of_ble_eq_true rfl) hl.1 hP hS dX3_two_204 rfl ?_
                  refine lv_lload hx hb dX3_two_207 (lv_at hl 2 rfl) ?_
                  refine lv_lload hx hb dX3_two_209 (lv_at hl 0 rfl) ?_
                  refine lv_ldc2 (v := mw_far) hx hb hown (hw _ kw_253 rfl) dX3_two_211 ?_
                  refine kp_callSR (rm := rm_m_plus) (As := [.long (A_m_two_6 c x y z), .long (A_m_two_8 c x y z), .long mw_far]) (rest := [.long (F_m_plus (A_m_two_5 c x y z) (A_m_two_7 c x y z) (-mw_far)), .ref (bM G)]) (r := some (.long (F_m_plus (A_m_two_6 c x y z) (A_m_two_8 c x y z) mw_far))) (st1 := [.long (F_m_plus (A_m_two_6 c x y z) (A_m_two_8 c x y z) mw_far), .long (F_m_plus (A_m_two_5 c x y z) (A_m_two_7 c x y z) (-mw_far)), .ref (bM G)]) B (C_m_plus l D ty sz G Z hG (B_m_two_1 c x y z) (A_m_two_6 c x y z) (A_m_two_8 c x y z) mw_far) kt_m_plus kw_325 kw_326 (by decide) ⟨rfl, rfl⟩ (by decide) rfl (Nat.le_of_ble_eq_true rfl) hl.1 hP hS dX3_two_214 rfl ?_
                  refine lv_lconst (v := (1 : Int64)) hx hb dX3_two_217 (by decide) ?_
                  refine kp_callV (rm := rm_m_span) (As := [.long (F_m_plus (A_m_two_5 c x y z) (A_m_two_7 c x y z) (-mw_far)), .long (F_m_plus (A_m_two_6 c x y z) (A_m_two_8 c x y z) mw_far), .long (1 : Int64)]) (rest := []) (r := none) (st1 := []) (ws' := mw_W G (S_m_span (B_m_two_1 c x y z) (F_m_plus (A_m_two_5 c x y z) (A_m_two_7 c x y z) (-mw_far)) (F_m_plus (A_m_two_6 c x y z) (A_m_two_8 c x y z) mw_far) (1 : Int64)) Z) B (C_m_span l D ty sz G Z hG (B_m_two_1 c x y z) (F_m_plus (A_m_two_5 c x y z) (A_m_two_7 c x y z) (-mw_far)) (F_m_plus (A_m_two_6 c x y z) (A_m_two_8 c x y z) mw_far) (1 : Int64) (by decide)) kt_m_span kw_287 kw_288 kw_289 (km_rc B hP) (by decide) rfl rfl (by decide) rfl (Nat.le_of_ble_eq_true rfl) hl.1 hP hS dX3_two_218 rfl (fun H locs hP hS => ?_)
                  have hP : va_P D vwCl (mw_W G (B_m_two_9 c x y z) Z) H := hP
                  refine lv_goto (tgt := 387) hx hb dX3_two_221 (by decide) ?_
                  exact kp_retv B (by simp only [S_m_two, if_pos q_1, if_neg q_11, if_neg q_14, if_neg q_15, if_pos q_16]; exact hP) hS rfl dX3_two_387
                · by_cases q_17 : x = (1 : Int32)
                  · refine lv_tableIn (tgt := 224) hx hb dX3_two_152 (by rw [q_17]; decide) (by rw [q_17]; decide) (by rw [q_17]; rfl) (by decide) ?_
                    refine lv_aload_n hx hb dX3_two_224 rfl (lv_at hl 4 rfl) ?_
                    refine lv_lload hx hb dX3_two_225 (lv_at hl 3 rfl) ?_
                    refine lv_lload hx hb dX3_two_227 (lv_at hl 0 rfl) ?_
                    refine lv_lneg hx hb dX3_two_229 ?_
                    refine lv_ldc2 (v := (-mw_far)) hx hb hown (hw _ kw_263 rfl) dX3_two_230 ?_
                    refine kp_callSR (rm := rm_m_plus) (As := [.long (A_m_two_5 c x y z), .long (-(A_m_two_8 c x y z)), .long (-mw_far)]) (rest := [.ref (bM G)]) (r := some (.long (F_m_plus (A_m_two_5 c x y z) (-(A_m_two_8 c x y z)) (-mw_far)))) (st1 := [.long (F_m_plus (A_m_two_5 c x y z) (-(A_m_two_8 c x y z)) (-mw_far)), .ref (bM G)]) B (C_m_plus l D ty sz G Z hG (B_m_two_1 c x y z) (A_m_two_5 c x y z) (-(A_m_two_8 c x y z)) (-mw_far)) kt_m_plus kw_325 kw_326 (by decide) ⟨rfl, rfl⟩ (by decide) rfl (Nat.le_of_ble_eq_true rfl) hl.1 hP hS dX3_two_233 rfl ?_
                    refine lv_lload hx hb dX3_two_236 (lv_at hl 2 rfl) ?_
                    refine lv_lload hx hb dX3_two_238 (lv_at hl 1 rfl) ?_
                    refine lv_lneg hx hb dX3_two_240 ?_
                    refine lv_ldc2 (v := mw_far) hx hb hown (hw _ kw_253 rfl) dX3_two_241 ?_
                    refine kp_callSR (rm := rm_m_plus) (As := [.long (A_m_two_6 c x y z), .long (-(A_m_two_7 c x y z)), .long mw_far]) (rest := [.long (F_m_plus (A_m_two_5 c x y z) (-(A_m_two_8 c x y z)) (-mw_far)), .ref (bM G)]) (r := some (.long (F_m_plus (A_m_two_6 c x y z) (-(A_m_two_7 c x y z)) mw_far))) (st1 := [.long (F_m_plus (A_m_two_6 c x y z) (-(A_m_two_7 c x y z)) mw_far), .long (F_m_plus (A_m_two_5 c x y z) (-(A_m_two_8 c x y z)) (-mw_far)), .ref (bM G)]) B (C_m_plus l D ty sz G Z hG (B_m_two_1 c x y z) (A_m_two_6 c x y z) (-(A_m_two_7 c x y z)) mw_far) kt_m_plus kw_325 kw_326 (by decide) ⟨rfl, rfl⟩ (by decide) rfl (Nat.le_of_ble_eq_true rfl) hl.1 hP hS dX3_two_244 rfl ?_
                    refine lv_lconst (v := (1 : Int64)) hx hb dX3_two_247 (by decide) ?_
                    refine kp_callV (rm := rm_m_span) (As := [.long (F_m_plus (A_m_two_5 c x y z) (-(A_m_two_8 c x y z)) (-mw_far)), .long (F_m_plus (A_m_two_6 c x y z) (-(A_m_two_7 c x y z)) mw_far), .long (1 : Int64)]) (rest := []) (r := none) (st1 := []) (ws' := mw_W G (S_m_span (B_m_two_1 c x y z) (F_m_plus (A_m_two_5 c x y z) (-(A_m_two_8 c x y z)) (-mw_far)) (F_m_plus (A_m_two_6 c x y z) (-(A_m_two_7 c x y z)) mw_far) (1 : Int64)) Z) B (C_m_span l D ty sz G Z hG (B_m_two_1 c x y z) (F_m_plus (A_m_two_5 c x y z) (-(A_m_two_8 c x y z)) (-mw_far)) (F_m_plus (A_m_two_6 c x y z) (-(A_m_two_7 c x y z)) mw_far) (1 : Int64) (by decide)) kt_m_span kw_287 kw_288 kw_289 (km_rc B hP) (by decide) rfl rfl (by decide) rfl (Nat.le_of_ble_eq_true rfl) hl.1 hP hS dX3_two_248 rfl (fun H locs hP hS => ?_)
                    have hP : va_P D vwCl (mw_W G (B_m_two_10 c x y z) Z) H := hP
                    refine lv_goto (tgt := 387) hx hb dX3_two_251 (by decide) ?_
                    exact kp_retv B (by simp only [S_m_two, if_pos q_1, if_neg q_11, if_neg q_14, if_neg q_15, if_neg q_16, if_pos q_17]; exact hP) hS rfl dX3_two_387
                  · by_cases q_18 : x = (2 : Int32)
                    · refine lv_tableIn (tgt := 254) hx hb dX3_two_152 (by rw [q_18]; decide) (by rw [q_18]; decide) (by rw [q_18]; rfl) (by decide) ?_
                      refine lv_aload_n hx hb dX3_two_254 rfl (lv_at hl 4 rfl) ?_
                      refine lv_lload hx hb dX3_two_255 (lv_at hl 3 rfl) ?_
                      refine lv_lload hx hb dX3_two_257 (lv_at hl 2 rfl) ?_
                      refine lv_lload hx hb dX3_two_259 (lv_at hl 1 rfl) ?_
                      refine lv_lload hx hb dX3_two_261 (lv_at hl 0 rfl) ?_
                      refine kp_callV (rm := rm_m_product) (As := [.long (A_m_two_5 c x y z), .long (A_m_two_6 c x y z), .long (A_m_two_7 c x y z), .long (A_m_two_8 c x y z)]) (rest := []) (r := none) (st1 := []) (ws' := mw_W G (S_m_product (B_m_two_1 c x y z) (A_m_two_5 c x y z) (A_m_two_6 c x y z) (A_m_two_7 c x y z) (A_m_two_8 c x y z)) Z) B (C_m_product l D ty sz G Z hG (B_m_two_1 c x y z) (A_m_two_5 c x y z) (A_m_two_6 c x y z) (A_m_two_7 c x y z) (A_m_two_8 c x y z)) kt_m_product kw_329 kw_330 kw_331 (km_rc B hP) (by decide) rfl rfl (by decide) rfl (Nat.le_of_ble_eq_true rfl) hl.1 hP hS dX3_two_263 rfl (fun H locs hP hS => ?_)
                      have hP : va_P D vwCl (mw_W G (B_m_two_11 c x y z) Z) H := hP
                      refine lv_goto (tgt := 387) hx hb dX3_two_266 (by decide) ?_
                      exact kp_retv B (by simp only [S_m_two, if_pos q_1, if_neg q_11, if_neg q_14, if_neg q_15, if_neg q_16, if_neg q_17, if_pos q_18]; exact hP) hS rfl dX3_two_387
                    · by_cases q_19 : x = (3 : Int32)
                      · refine lv_tableIn (tgt := 365) hx hb dX3_two_152 (by rw [q_19]; decide) (by rw [q_19]; decide) (by rw [q_19]; rfl) (by decide) ?_
                        refine lv_aload_n hx hb dX3_two_365 rfl (lv_at hl 4 rfl) ?_
                        refine lv_lload hx hb dX3_two_366 (lv_at hl 3 rfl) ?_
                        refine lv_lload hx hb dX3_two_368 (lv_at hl 1 rfl) ?_
                        refine kp_callSR (rm := rm_m_more) (As := [.long (A_m_two_5 c x y z), .long (A_m_two_7 c x y z)]) (rest := [.ref (bM G)]) (r := some (.long (F_m_more (A_m_two_5 c x y z) (A_m_two_7 c x y z)))) (st1 := [.long (F_m_more (A_m_two_5 c x y z) (A_m_two_7 c x y z)), .ref (bM G)]) B (C_m_more l D ty sz G Z hG (B_m_two_1 c x y z) (A_m_two_5 c x y z) (A_m_two_7 c x y z)) kt_m_more kw_312 kw_313 (by decide) ⟨rfl, rfl⟩ (by decide) rfl (Nat.le_of_ble_eq_true rfl) hl.1 hP hS dX3_two_370 rfl ?_
                        refine km_put7 (v := F_m_more (A_m_two_5 c x y z) (A_m_two_7 c x y z)) (M' := B_m_two_12 c x y z) B hG hP hS rfl kw_274 dX3_two_373 (fun H locs hP hS => ?_)
                        refine lv_aload_n hx hb dX3_two_376 rfl (lv_at hl 4 rfl) ?_
                        refine lv_lload hx hb dX3_two_377 (lv_at hl 2 rfl) ?_
                        refine lv_lload hx hb dX3_two_379 (lv_at hl 0 rfl) ?_
                        refine kp_callSR (rm := rm_m_more) (As := [.long (A_m_two_6 c x y z), .long (A_m_two_8 c x y z)]) (rest := [.ref (bM G)]) (r := some (.long (F_m_more (A_m_two_6 c x y z) (A_m_two_8 c x y z)))) (st1 := [.long (F_m_more (A_m_two_6 c x y z) (A_m_two_8 c x y z)), .ref (bM G)]) B (C_m_more l D ty sz G Z hG (B_m_two_12 c x y z) (A_m_two_6 c x y z) (A_m_two_8 c x y z)) kt_m_more kw_312 kw_313 (by decide) ⟨rfl, rfl⟩ (by decide) rfl (Nat.le_of_ble_eq_true rfl) hl.1 hP hS dX3_two_381 rfl ?_
                        refine km_put8 (v := F_m_more (A_m_two_6 c x y z) (A_m_two_8 c x y z)) (M' := B_m_two_13 c x y z) B hG hP hS rfl kw_275 dX3_two_384 (fun H locs hP hS => ?_)
                        exact kp_retv B (by simp only [S_m_two, if_pos q_1, if_neg q_11, if_neg q_14, if_neg q_15, if_neg q_16, if_neg q_17, if_neg q_18, if_pos q_19]; exact hP) hS rfl dX3_two_387
                      · refine lv_tableIn (tgt := 269) hx hb dX3_two_152 (by rw [q_1]; decide) (by rw [q_1]; decide) (by rw [q_1]; rfl) (by decide) ?_
                        refine lv_aload_n hx hb dX3_two_269 rfl (lv_at hl 4 rfl) ?_
                        refine lv_lload hx hb dX3_two_270 (lv_at hl 3 rfl) ?_
                        refine lv_lload hx hb dX3_two_272 (lv_at hl 1 rfl) ?_
                        refine kp_callSR (rm := rm_m_less) (As := [.long (A_m_two_5 c x y z), .long (A_m_two_7 c x y z)]) (rest := [.ref (bM G)]) (r := some (.long (F_m_less (A_m_two_5 c x y z) (A_m_two_7 c x y z)))) (st1 := [.long (F_m_less (A_m_two_5 c x y z) (A_m_two_7 c x y z)), .ref (bM G)]) B (C_m_less l D ty sz G Z hG (B_m_two_1 c x y z) (A_m_two_5 c x y z) (A_m_two_7 c x y z)) kt_m_less kw_334 kw_335 (by decide) ⟨rfl, rfl⟩ (by decide) rfl (Nat.le_of_ble_eq_true rfl) hl.1 hP hS dX3_two_274 rfl ?_
                        refine km_put7 (v := F_m_less (A_m_two_5 c x y z) (A_m_two_7 c x y z)) (M' := B_m_two_16 c x y z) B hG hP hS rfl kw_274 dX3_two_277 (fun H locs hP hS => ?_)
                        refine lv_aload_n hx hb dX3_two_280 rfl (lv_at hl 4 rfl) ?_
                        refine lv_lload hx hb dX3_two_281 (lv_at hl 2 rfl) ?_
                        refine lv_lload hx hb dX3_two_283 (lv_at hl 0 rfl) ?_
                        refine kp_callSR (rm := rm_m_more) (As := [.long (A_m_two_6 c x y z), .long (A_m_two_8 c x y z)]) (rest := [.ref (bM G)]) (r := some (.long (F_m_more (A_m_two_6 c x y z) (A_m_two_8 c x y z)))) (st1 := [.long (F_m_more (A_m_two_6 c x y z) (A_m_two_8 c x y z)), .ref (bM G)]) B (C_m_more l D ty sz G Z hG (B_m_two_16 c x y z) (A_m_two_6 c x y z) (A_m_two_8 c x y z)) kt_m_more kw_312 kw_313 (by decide) ⟨rfl, rfl⟩ (by decide) rfl (Nat.le_of_ble_eq_true rfl) hl.1 hP hS dX3_two_285 rfl ?_
                        refine km_put8 (v := F_m_more (A_m_two_6 c x y z) (A_m_two_8 c x y z)) (M' := B_m_two_18 c x y z) B hG hP hS rfl kw_275 dX3_two_288 (fun H locs hP hS => ?_)
                        refine lv_goto (tgt := 387) hx hb dX3_two_291 (by decide) ?_
                        exact kp_retv B (by simp only [S_m_two, if_pos q_1, if_neg q_11, if_neg q_14, if_neg q_15, if_neg q_16, if_neg q_17, if_neg q_18, if_neg q_19]; exact hP) hS rfl dX3_two_387
              · exact kp_retv B (by simp only [S_m_two, if_pos q_1, if_neg q_11, if_neg q_14, if_pos q_15]; exact hP) hS rfl dX3_two_118
      · refine lv_aload_n hx hb dX3_two_39 rfl (lv_at hl 0 rfl) ?_
        refine km_get (j := 3) (v := .ref (bB G)) B hP rfl (by decide) kw_298 dX3_two_40 ?_
        refine lv_iload_n hx hb dX3_two_43 rfl (lv_at hl 2 rfl) ?_
        refine km_zald (i := y) (v := z_i (((B_m_two_1 c x y z).2.1.1) y.toNatClampNeg)) B hG hP hy8 rfl dX3_two_44 ?_
        have hJ53 : W p l e rm_m_two s m args below meth cd H locs 0 0 (MQ below (kp_Q D sz (none) (mw_W G (S_m_two c x y z) Z)) args s rm_m_two.cells rm_m_two.slots (kp_A sz)) (F0 m 53 ls [.int (if (z_i (((B_m_two_1 c x y z).2.1.1) y.toNatClampNeg)) = (0 : Int32) then z else y)]) := by
          refine lv_istore (lv' := [(4, .int (if (z_i (((B_m_two_1 c x y z).2.1.1) y.toNatClampNeg)) = (0 : Int32) then z else y)), (0, .ref (bM G)), (1, .int x), (2, .int y), (3, .int z)]) hx hb dX3_two_53 hl (by decide) rfl (fun ls hl => ?_)
          refine lv_aload_n hx hb dX3_two_55 rfl (lv_at hl 1 rfl) ?_
          refine lv_aload_n hx hb dX3_two_56 rfl (lv_at hl 1 rfl) ?_
          refine km_get (j := 3) (v := .ref (bB G)) B hP rfl (by decide) kw_298 dX3_two_57 ?_
          refine lv_iload hx hb dX3_two_60 (lv_at hl 0 rfl) ?_
          refine km_zald (i := if (z_i (((B_m_two_1 c x y z).2.1.1) y.toNatClampNeg)) = (0 : Int32) then z else y) (v := z_i (((B_m_two_1 c x y z).2.1.1) (if (z_i (((B_m_two_1 c x y z).2.1.1) y.toNatClampNeg)) = (0 : Int32) then z else y).toNatClampNeg)) B hG hP (km_inite hz8 hy8) rfl dX3_two_62 ?_
          refine km_put6 (v := z_i (((B_m_two_1 c x y z).2.1.1) (if (z_i (((B_m_two_1 c x y z).2.1.1) y.toNatClampNeg)) = (0 : Int32) then z else y).toNatClampNeg)) (M' := B_m_two_2 c x y z) B hG hP hS (z_i01 _) rfl kw_268 dX3_two_63 (fun H locs hP hS => ?_)
          refine lv_aload_n hx hb dX3_two_66 rfl (lv_at hl 1 rfl) ?_
          refine lv_aload_n hx hb dX3_two_67 rfl (lv_at hl 1 rfl) ?_
          refine km_get (j := 4) (v := .ref (bL G)) B hP rfl (by decide) kw_299 dX3_two_68 ?_
          refine lv_iload hx hb dX3_two_71 (lv_at hl 0 rfl) ?_
          refine km_lald (i := if (z_i (((B_m_two_1 c x y z).2.1.1) y.toNatClampNeg)) = (0 : Int32) then z else y) (v := ((B_m_two_2 c x y z).2.1.2.1) (if (z_i (((B_m_two_1 c x y z).2.1.1) y.toNatClampNeg)) = (0 : Int32) then z else y).toNatClampNeg) B hG hP (km_inite hz8 hy8) rfl dX3_two_73 ?_
          refine km_put7 (v := ((B_m_two_2 c x y z).2.1.2.1) (if (z_i (((B_m_two_1 c x y z).2.1.1) y.toNatClampNeg)) = (0 : Int32) then z else y).toNatClampNeg) (M' := B_m_two_3 c x y z) B hG hP hS rfl kw_274 dX3_two_74 (fun H locs hP hS => ?_)
          refine lv_aload_n hx hb dX3_two_77 rfl (lv_at hl 1 rfl) ?_
          refine lv_aload_n hx hb dX3_two_78 rfl (lv_at hl 1 rfl) ?_
          refine km_get (j := 5) (v := .ref (bH G)) B hP rfl (by decide) kw_300 dX3_two_79 ?_
          refine lv_iload hx hb dX3_two_82 (lv_at hl 0 rfl) ?_
          refine km_hald (i := if (z_i (((B_m_two_1 c x y z).2.1.1) y.toNatClampNeg)) = (0 : Int32) then z else y) (v := ((B_m_two_3 c x y z).2.1.2.2) (if (z_i (((B_m_two_1 c x y z).2.1.1) y.toNatClampNeg)) = (0 : Int32) then z else y).toNatClampNeg) B hG hP (km_inite hz8 hy8) rfl dX3_two_84 ?_
          refine km_put8 (v := ((B_m_two_3 c x y z).2.1.2.2) (if (z_i (((B_m_two_1 c x y z).2.1.1) y.toNatClampNeg)) = (0 : Int32) then z else y).toNatClampNeg) (M' := B_m_two_4 c x y z) B hG hP hS rfl kw_275 dX3_two_85 (fun H locs hP hS => ?_)
          refine lv_aload_n hx hb dX3_two_88 rfl (lv_at hl 1 rfl) ?_
          refine km_get (j := 6) (v := .int (z_i ((B_m_two_4 c x y z).2.2.1.1))) B hP rfl (by decide) kw_268 dX3_two_89 ?_
          refine lv_if_eq (tgt := 118) hx hb dX3_two_92 (by decide) (fun q_20 => ?_) (fun q_20 => ?_)
          · exact kp_retv B (by simp only [S_m_two, if_pos q_1, if_pos q_11, if_pos q_20]; exact hP) hS rfl dX3_two_118
          · refine lv_iload_n hx hb dX3_two_95 rfl (lv_at hl 2 rfl) ?_
            refine lv_iconst (v := (4 : Int32)) hx hb dX3_two_96 (by decide) ?_
            refine lv_icmp_ne (tgt := 119) hx hb dX3_two_97 (by decide) (fun q_21 => ?_) (fun q_21 => ?_)
            · exact absurd q_1 q_21
            · refine lv_aload_n hx hb dX3_two_100 rfl (lv_at hl 1 rfl) ?_
              refine km_get (j := 3) (v := .ref (bB G)) B hP rfl (by decide) kw_298 dX3_two_101 ?_
              refine lv_iload_n hx hb dX3_two_104 rfl (lv_at hl 3 rfl) ?_
              refine km_zald (i := y) (v := z_i (((B_m_two_4 c x y z).2.1.1) y.toNatClampNeg)) B hG hP hy8 rfl dX3_two_105 ?_
              refine lv_if_eq (tgt := 118) hx hb dX3_two_106 (by decide) (fun q_22 => ?_) (fun q_22 => ?_)
              · exact kp_retv B (by simp only [S_m_two, if_pos q_1, if_pos q_11, if_neg q_20, if_pos q_22]; exact hP) hS rfl dX3_two_118
              · refine lv_aload_n hx hb dX3_two_109 rfl (lv_at hl 1 rfl) ?_
                refine km_get (j := 3) (v := .ref (bB G)) B hP rfl (by decide) kw_298 dX3_two_110 ?_
                refine lv_iload_n hx hb dX3_two_113 rfl (lv_at hl 4 rfl) ?_
                refine km_zald (i := z) (v := z_i (((B_m_two_4 c x y z).2.1.1) z.toNatClampNeg)) B hG hP hz8 rfl dX3_two_114 ?_
                refine lv_if_ne (tgt := 119) hx hb dX3_two_115 (by decide) (fun q_23 => ?_) (fun q_23 => ?_)
                · refine lv_aload_n hx hb dX3_two_119 rfl (lv_at hl 1 rfl) ?_
                  refine km_get (j := 4) (v := .ref (bL G)) B hP rfl (by decide) kw_299 dX3_two_120 ?_
                  refine lv_iload_n hx hb dX3_two_123 rfl (lv_at hl 3 rfl) ?_
                  refine km_lald (i := y) (v := ((B_m_two_4 c x y z).2.1.2.1) y.toNatClampNeg) B hG hP hy8 rfl dX3_two_124 ?_
                  refine W.eq (g2 := F0 m 125 ls [.long (A_m_two_19 c x y z)]) rfl ?_
                  refine lv_lstore (lv' := [(4, .long (A_m_two_19 c x y z)), (0, .ref (bM G)), (1, .int x), (2, .int y), (3, .int z)]) hx hb dX3_two_125 hl (by decide) rfl (fun ls hl => ?_)
                  refine lv_aload_n hx hb dX3_two_127 rfl (lv_at hl 1 rfl) ?_
                  refine km_get (j := 5) (v := .ref (bH G)) B hP rfl (by decide) kw_300 dX3_two_128 ?_
                  refine lv_iload_n hx hb dX3_two_131 rfl (lv_at hl 3 rfl) ?_
                  refine km_hald (i := y) (v := ((B_m_two_4 c x y z).2.1.2.2) y.toNatClampNeg) B hG hP hy8 rfl dX3_two_132 ?_
                  refine W.eq (g2 := F0 m 133 ls [.long (A_m_two_20 c x y z)]) rfl ?_
                  refine lv_lstore (lv' := [(6, .long (A_m_two_20 c x y z)), (4, .long (A_m_two_19 c x y z)), (0, .ref (bM G)), (1, .int x), (2, .int y), (3, .int z)]) hx hb dX3_two_133 hl (by decide) rfl (fun ls hl => ?_)
                  refine lv_aload_n hx hb dX3_two_135 rfl (lv_at hl 2 rfl) ?_
                  refine km_get (j := 4) (v := .ref (bL G)) B hP rfl (by decide) kw_299 dX3_two_136 ?_
                  refine lv_iload_n hx hb dX3_two_139 rfl (lv_at hl 5 rfl) ?_
                  refine km_lald (i := z) (v := ((B_m_two_4 c x y z).2.1.2.1) z.toNatClampNeg) B hG hP hz8 rfl dX3_two_140 ?_
                  refine W.eq (g2 := F0 m 141 ls [.long (A_m_two_21 c x y z)]) rfl ?_
                  refine lv_lstore (lv' := [(8, .long (A_m_two_21 c x y z)), (6, .long (A_m_two_20 c x y z)), (4, .long (A_m_two_19 c x y z)), (0, .ref (bM G)), (1, .int x), (2, .int y), (3, .int z)]) hx hb dX3_two_141 hl (by decide) rfl (fun ls hl => ?_)
                  refine lv_aload_n hx hb dX3_two_143 rfl (lv_at hl 3 rfl) ?_
                  refine km_get (j := 5) (v := .ref (bH G)) B hP rfl (by decide) kw_300 dX3_two_144 ?_
                  refine lv_iload_n hx hb dX3_two_147 rfl (lv_at hl 6 rfl) ?_
                  refine km_hald (i := z) (v := ((B_m_two_4 c x y z).2.1.2.2) z.toNatClampNeg) B hG hP hz8 rfl dX3_two_148 ?_
                  refine W.eq (g2 := F0 m 149 ls [.long (A_m_two_22 c x y z)]) rfl ?_
                  refine lv_lstore (lv' := [(10, .long (A_m_two_22 c x y z)), (8, .long (A_m_two_21 c x y z)), (6, .long (A_m_two_20 c x y z)), (4, .long (A_m_two_19 c x y z)), (0, .ref (bM G)), (1, .int x), (2, .int y), (3, .int z)]) hx hb dX3_two_149 hl (by decide) rfl (fun ls hl => ?_)
                  refine lv_iload_n hx hb dX3_two_151 rfl (lv_at hl 5 rfl) ?_
                  by_cases q_24 : x = (0 : Int32)
                  · refine lv_tableIn (tgt := 196) hx hb dX3_two_152 (by rw [q_24]; decide) (by rw [q_24]; decide) (by rw [q_24]; rfl) (by decide) ?_
                    refine lv_aload_n hx hb dX3_two_196 rfl (lv_at hl 4 rfl) ?_
                    refine lv_lload hx hb dX3_two_197 (lv_at hl 3 rfl) ?_
                    refine lv_lload hx hb dX3_two_199 (lv_at hl 1 rfl) ?_
                    refine lv_ldc2 (v := (-mw_far)) hx hb hown (hw _ kw_263 rfl) dX3_two_201 ?_
                    refine kp_callSR (rm := rm_m_plus) (As := [.long (A_m_two_19 c x y z), .long (A_m_two_21 c x y z), .long (-mw_far)]) (rest := [.ref (bM G)]) (r := some (.long (F_m_plus (A_m_two_19 c x y z) (A_m_two_21 c x y z) (-mw_far)))) (st1 := [.long (F_m_plus (A_m_two_19 c x y z) (A_m_two_21 c x y z) (-mw_far)), .ref (bM G)]) B (C_m_plus l D ty sz G Z hG (B_m_two_4 c x y z) (A_m_two_19 c x y z) (A_m_two_21 c x y z) (-mw_far)) kt_m_plus kw_325 kw_326 (by decide) ⟨rfl, rfl⟩ (by decide) rfl (Nat.le_of_ble_eq_true rfl) hl.1 hP hS dX3_two_204 rfl ?_
                    refine lv_lload hx hb dX3_two_207 (lv_at hl 2 rfl) ?_
                    refine lv_lload hx hb dX3_two_209 (lv_at hl 0 rfl) ?_
                    refine lv_ldc2 (v := mw_far) hx hb hown (hw _ kw_253 rfl) dX3_two_211 ?_
                    refine kp_callSR (rm := rm_m_plus) (As := [.long (A_m_two_20 c x y z), .long (A_m_two_22 c x y z), .long mw_far]) (rest := [.long (F_m_plus (A_m_two_19 c x y z) (A_m_two_21 c x y z) (-mw_far)), .ref (bM G)]) (r := some (.long (F_m_plus (A_m_two_20 c x y z) (A_m_two_22 c x y z) mw_far))) (st1 := [.long (F_m_plus (A_m_two_20 c x y z) (A_m_two_22 c x y z) mw_far), .long (F_m_plus (A_m_two_19 c x y z) (A_m_two_21 c x y z) (-mw_far)), .ref (bM G)]) B (C_m_plus l D ty sz G Z hG (B_m_two_4 c x y z) (A_m_two_20 c x y z) (A_m_two_22 c x y z) mw_far) kt_m_plus kw_325 kw_326 (by decide) ⟨rfl, rfl⟩ (by decide) rfl (Nat.le_of_ble_eq_true rfl) hl.1 hP hS dX3_two_214 rfl ?_
                    refine lv_lconst (v := (1 : Int64)) hx hb dX3_two_217 (by decide) ?_
                    refine kp_callV (rm := rm_m_span) (As := [.long (F_m_plus (A_m_two_19 c x y z) (A_m_two_21 c x y z) (-mw_far)), .long (F_m_plus (A_m_two_20 c x y z) (A_m_two_22 c x y z) mw_far), .long (1 : Int64)]) (rest := []) (r := none) (st1 := []) (ws' := mw_W G (S_m_span (B_m_two_4 c x y z) (F_m_plus (A_m_two_19 c x y z) (A_m_two_21 c x y z) (-mw_far)) (F_m_plus (A_m_two_20 c x y z) (A_m_two_22 c x y z) mw_far) (1 : Int64)) Z) B (C_m_span l D ty sz G Z hG (B_m_two_4 c x y z) (F_m_plus (A_m_two_19 c x y z) (A_m_two_21 c x y z) (-mw_far)) (F_m_plus (A_m_two_20 c x y z) (A_m_two_22 c x y z) mw_far) (1 : Int64) (by decide)) kt_m_span kw_287 kw_288 kw_289 (km_rc B hP) (by decide) rfl rfl (by decide) rfl (Nat.le_of_ble_eq_true rfl) hl.1 hP hS dX3_two_218 rfl (fun H locs hP hS => ?_)
                    have hP : va_P D vwCl (mw_W G (B_m_two_23 c x y z) Z) H := hP
                    refine lv_goto (tgt := 387) hx hb dX3_two_221 (by decide) ?_
                    exact kp_retv B (by simp only [S_m_two, if_pos q_1, if_pos q_11, if_neg q_20, if_neg q_22, if_neg q_23, if_pos q_24]; exact hP) hS rfl dX3_two_387
                  · by_cases q_25 : x = (1 : Int32)
                    · refine lv_tableIn (tgt := 224) hx hb dX3_two_152 (by rw [q_25]; decide) (by rw [q_25]; decide) (by rw [q_25]; rfl) (by decide) ?_
                      refine lv_aload_n hx hb dX3_two_224 rfl (lv_at hl 4 rfl) ?_
                      refine lv_lload hx hb dX3_two_225 (lv_at hl 3 rfl) ?_
                      refine lv_lload hx hb dX3_two_227 (lv_at hl 0 rfl) ?_
                      refine lv_lneg hx hb dX3_two_229 ?_
                      refine lv_ldc2 (v := (-mw_far)) hx hb hown (hw _ kw_263 rfl) dX3_two_230 ?_
                      refine kp_callSR (rm := rm_m_plus) (As := [.long (A_m_two_19 c x y z), .long (-(A_m_two_22 c x y z)), .long (-mw_far)]) (rest := [.ref (bM G)]) (r := some (.long (F_m_plus (A_m_two_19 c x y z) (-(A_m_two_22 c x y z)) (-mw_far)))) (st1 := [.long (F_m_plus (A_m_two_19 c x y z) (-(A_m_two_22 c x y z)) (-mw_far)), .ref (bM G)]) B (C_m_plus l D ty sz G Z hG (B_m_two_4 c x y z) (A_m_two_19 c x y z) (-(A_m_two_22 c x y z)) (-mw_far)) kt_m_plus kw_325 kw_326 (by decide) ⟨rfl, rfl⟩ (by decide) rfl (Nat.le_of_ble_eq_true rfl) hl.1 hP hS dX3_two_233 rfl ?_
                      refine lv_lload hx hb dX3_two_236 (lv_at hl 2 rfl) ?_
                      refine lv_lload hx hb dX3_two_238 (lv_at hl 1 rfl) ?_
                      refine lv_lneg hx hb dX3_two_240 ?_
                      refine lv_ldc2 (v := mw_far) hx hb hown (hw _ kw_253 rfl) dX3_two_241 ?_
                      refine kp_callSR (rm := rm_m_plus) (As := [.long (A_m_two_20 c x y z), .long (-(A_m_two_21 c x y z)), .long mw_far]) (rest := [.long (F_m_plus (A_m_two_19 c x y z) (-(A_m_two_22 c x y z)) (-mw_far)), .ref (bM G)]) (r := some (.long (F_m_plus (A_m_two_20 c x y z) (-(A_m_two_21 c x y z)) mw_far))) (st1 := [.long (F_m_plus (A_m_two_20 c x y z) (-(A_m_two_21 c x y z)) mw_far), .long (F_m_plus (A_m_two_19 c x y z) (-(A_m_two_22 c x y z)) (-mw_far)), .ref (bM G)]) B (C_m_plus l D ty sz G Z hG (B_m_two_4 c x y z) (A_m_two_20 c x y z) (-(A_m_two_21 c x y z)) mw_far) kt_m_plus kw_325 kw_326 (by decide) ⟨rfl, rfl⟩ (by decide) rfl (Nat.le_of_ble_eq_true rfl) hl.1 hP hS dX3_two_244 rfl ?_
                      refine lv_lconst (v := (1 : Int64)) hx hb dX3_two_247 (by decide) ?_
                      refine kp_callV (rm := rm_m_span) (As := [.long (F_m_plus (A_m_two_19 c x y z) (-(A_m_two_22 c x y z)) (-mw_far)), .long (F_m_plus (A_m_two_20 c x y z) (-(A_m_two_21 c x y z)) mw_far), .long (1 : Int64)]) (rest := []) (r := none) (st1 := []) (ws' := mw_W G (S_m_span (B_m_two_4 c x y z) (F_m_plus (A_m_two_19 c x y z) (-(A_m_two_22 c x y z)) (-mw_far)) (F_m_plus (A_m_two_20 c x y z) (-(A_m_two_21 c x y z)) mw_far) (1 : Int64)) Z) B (C_m_span l D ty sz G Z hG (B_m_two_4 c x y z) (F_m_plus (A_m_two_19 c x y z) (-(A_m_two_22 c x y z)) (-mw_far)) (F_m_plus (A_m_two_20 c x y z) (-(A_m_two_21 c x y z)) mw_far) (1 : Int64) (by decide)) kt_m_span kw_287 kw_288 kw_289 (km_rc B hP) (by decide) rfl rfl (by decide) rfl (Nat.le_of_ble_eq_true rfl) hl.1 hP hS dX3_two_248 rfl (fun H locs hP hS => ?_)
                      have hP : va_P D vwCl (mw_W G (B_m_two_24 c x y z) Z) H := hP
                      refine lv_goto (tgt := 387) hx hb dX3_two_251 (by decide) ?_
                      exact kp_retv B (by simp only [S_m_two, if_pos q_1, if_pos q_11, if_neg q_20, if_neg q_22, if_neg q_23, if_neg q_24, if_pos q_25]; exact hP) hS rfl dX3_two_387
                    · by_cases q_26 : x = (2 : Int32)
                      · refine lv_tableIn (tgt := 254) hx hb dX3_two_152 (by rw [q_26]; decide) (by rw [q_26]; decide) (by rw [q_26]; rfl) (by decide) ?_
                        refine lv_aload_n hx hb dX3_two_254 rfl (lv_at hl 4 rfl) ?_
                        refine lv_lload hx hb dX3_two_255 (lv_at hl 3 rfl) ?_
                        refine lv_lload hx hb dX3_two_257 (lv_at hl 2 rfl) ?_
                        refine lv_lload hx hb dX3_two_259 (lv_at hl 1 rfl) ?_
                        refine lv_lload hx hb dX3_two_261 (lv_at hl 0 rfl) ?_
                        refine kp_callV (rm := rm_m_product) (As := [.long (A_m_two_19 c x y z), .long (A_m_two_20 c x y z), .long (A_m_two_21 c x y z), .long (A_m_two_22 c x y z)]) (rest := []) (r := none) (st1 := []) (ws' := mw_W G (S_m_product (B_m_two_4 c x y z) (A_m_two_19 c x y z) (A_m_two_20 c x y z) (A_m_two_21 c x y z) (A_m_two_22 c x y z)) Z) B (C_m_product l D ty sz G Z hG (B_m_two_4 c x y z) (A_m_two_19 c x y z) (A_m_two_20 c x y z) (A_m_two_21 c x y z) (A_m_two_22 c x y z)) kt_m_product kw_329 kw_330 kw_331 (km_rc B hP) (by decide) rfl rfl (by decide) rfl (Nat.le_of_ble_eq_true rfl) hl.1 hP hS dX3_two_263 rfl (fun H locs hP hS => ?_)
                        have hP : va_P D vwCl (mw_W G (B_m_two_25 c x y z) Z) H := hP
                        refine lv_goto (tgt := 387) hx hb dX3_two_266 (by decide) ?_
                        exact kp_retv B (by simp only [S_m_two, if_pos q_1, if_pos q_11, if_neg q_20, if_neg q_22, if_neg q_23, if_neg q_24, if_neg q_25, if_pos q_26]; exact hP) hS rfl dX3_two_387
                      · by_cases q_27 : x = (3 : Int32)
                        · refine lv_tableIn (tgt := 365) hx hb dX3_two_152 (by rw [q_27]; decide) (by rw [q_27]; decide) (by rw [q_27]; rfl) (by decide) ?_
                          refine lv_aload_n hx hb dX3_two_365 rfl (lv_at hl 4 rfl) ?_
                          refine lv_lload hx hb dX3_two_366 (lv_at hl 3 rfl) ?_
                          refine lv_lload hx hb dX3_two_368 (lv_at hl 1 rfl) ?_
                          refine kp_callSR (rm := rm_m_more) (As := [.long (A_m_two_19 c x y z), .long (A_m_two_21 c x y z)]) (rest := [.ref (bM G)]) (r := some (.long (F_m_more (A_m_two_19 c x y z) (A_m_two_21 c x y z)))) (st1 := [.long (F_m_more (A_m_two_19 c x y z) (A_m_two_21 c x y z)), .ref (bM G)]) B (C_m_more l D ty sz G Z hG (B_m_two_4 c x y z) (A_m_two_19 c x y z) (A_m_two_21 c x y z)) kt_m_more kw_312 kw_313 (by decide) ⟨rfl, rfl⟩ (by decide) rfl (Nat.le_of_ble_eq_true rfl) hl.1 hP hS dX3_two_370 rfl ?_
                          refine km_put7 (v := F_m_more (A_m_two_19 c x y z) (A_m_two_21 c x y z)) (M' := B_m_two_26 c x y z) B hG hP hS rfl kw_274 dX3_two_373 (fun H locs hP hS => ?_)
                          refine lv_aload_n hx hb dX3_two_376 rfl (lv_at hl 4 rfl) ?_
                          refine lv_lload hx hb dX3_two_377 (lv_at hl 2 rfl) ?_
                          refine lv_lload hx hb dX3_two_379 (lv_at hl 0 rfl) ?_
                          refine kp_callSR (rm := rm_m_more) (As := [.long (A_m_two_20 c x y z), .long (A_m_two_22 c x y z)]) (rest := [.ref (bM G)]) (r := some (.long (F_m_more (A_m_two_20 c x y z) (A_m_two_22 c x y z)))) (st1 := [.long (F_m_more (A_m_two_20 c x y z) (A_m_two_22 c x y z)), .ref (bM G)]) B (C_m_more l D ty sz G Z hG (B_m_two_26 c x y z) (A_m_two_20 c x y z) (A_m_two_22 c x y z)) kt_m_more kw_312 kw_313 (by decide) ⟨rfl, rfl⟩ (by decide) rfl (Nat.le_of_ble_eq_true rfl) hl.1 hP hS dX3_two_381 rfl ?_
                          refine km_put8 (v := F_m_more (A_m_two_20 c x y z) (A_m_two_22 c x y z)) (M' := B_m_two_27 c x y z) B hG hP hS rfl kw_275 dX3_two_384 (fun H locs hP hS => ?_)
                          exact kp_retv B (by simp only [S_m_two, if_pos q_1, if_pos q_11, if_neg q_20, if_neg q_22, if_neg q_23, if_neg q_24, if_neg q_25, if_neg q_26, if_pos q_27]; exact hP) hS rfl dX3_two_387
                        · refine lv_tableIn (tgt := 269) hx hb dX3_two_152 (by rw [q_1]; decide) (by rw [q_1]; decide) (by rw [q_1]; rfl) (by decide) ?_
                          refine lv_aload_n hx hb dX3_two_269 rfl (lv_at hl 4 rfl) ?_
                          refine lv_lload hx hb dX3_two_270 (lv_at hl 3 rfl) ?_
                          refine lv_lload hx hb dX3_two_272 (lv_at hl 1 rfl) ?_
                          refine kp_callSR (rm := rm_m_less) (As := [.long (A_m_two_19 c x y z), .long (A_m_two_21 c x y z)]) (rest := [.ref (bM G)]) (r := some (.long (F_m_less (A_m_two_19 c x y z) (A_m_two_21 c x y z)))) (st1 := [.long (F_m_less (A_m_two_19 c x y z) (A_m_two_21 c x y z)), .ref (bM G)]) B (C_m_less l D ty sz G Z hG (B_m_two_4 c x y z) (A_m_two_19 c x y z) (A_m_two_21 c x y z)) kt_m_less kw_334 kw_335 (by decide) ⟨rfl, rfl⟩ (by decide) rfl (Nat.le_of_ble_eq_true rfl) hl.1 hP hS dX3_two_274 rfl ?_
                          refine km_put7 (v := F_m_less (A_m_two_19 c x y z) (A_m_two_21 c x y z)) (M' := B_m_two_28 c x y z) B hG hP hS rfl kw_274 dX3_two_277 (fun H locs hP hS => ?_)
                          refine lv_aload_n hx hb dX3_two_280 rfl (lv_at hl 4 rfl) ?_
                          refine lv_lload hx hb dX3_two_281 (lv_at hl 2 rfl) ?_
                          refine lv_lload hx hb dX3_two_283 (lv_at hl 0 rfl) ?_
                          refine kp_callSR (rm := rm_m_more) (As := [.long (A_m_two_20 c x y z), .long (A_m_two_22 c x y z)]) (rest := [.ref (bM G)]) (r := some (.long (F_m_more (A_m_two_20 c x y z) (A_m_two_22 c x y z)))) (st1 := [.long (F_m_more (A_m_two_20 c x y z) (A_m_two_22 c x y z)), .ref (bM G)]) B (C_m_more l D ty sz G Z hG (B_m_two_28 c x y z) (A_m_two_20 c x y z) (A_m_two_22 c x y z)) kt_m_more kw_312 kw_313 (by decide) ⟨rfl, rfl⟩ (by decide) rfl (Nat.le_of_ble_eq_true rfl) hl.1 hP hS dX3_two_285 rfl ?_
                          refine km_put8 (v := F_m_more (A_m_two_20 c x y z) (A_m_two_22 c x y z)) (M' := B_m_two_29 c x y z) B hG hP hS rfl kw_275 dX3_two_288 (fun H locs hP hS => ?_)
                          refine lv_goto (tgt := 387) hx hb dX3_two_291 (by decide) ?_
                          exact kp_retv B (by simp only [S_m_two, if_pos q_1, if_pos q_11, if_neg q_20, if_neg q_22, if_neg q_23, if_neg q_24, if_neg q_25, if_neg q_26, if_neg q_27]; exact hP) hS rfl dX3_two_387
                · exact kp_retv B (by simp only [S_m_two, if_pos q_1, if_pos q_11, if_neg q_20, if_neg q_22, if_pos q_23]; exact hP) hS rfl dX3_two_118
        refine lv_if_eq (tgt := 52) hx hb dX3_two_45 (by decide) (fun q_28 => ?_) (fun q_28 => ?_)
        · refine lv_iload_n hx hb dX3_two_52 rfl (lv_at hl 3 rfl) ?_
          exact kp_jI (by simp only [if_pos q_28]) hJ53
        · refine lv_iload_n hx hb dX3_two_48 rfl (lv_at hl 2 rfl) ?_
          refine lv_goto (tgt := 53) hx hb dX3_two_49 (by decide) ?_
          exact kp_jI (by simp only [if_neg q_28]) hJ53
  refine lv_if_eq (tgt := 23) hx hb dX3_two_7 (by decide) (fun q_29 => ?_) (fun q_29 => ?_)
  · refine lv_iconst (v := (0 : Int32)) hx hb dX3_two_23 (by decide) ?_
    exact kp_jI (by simp only [if_pos q_29]) hJ24
  · refine lv_aload_n hx hb dX3_two_10 rfl (lv_at hl 0 rfl) ?_
    refine km_get (j := 3) (v := .ref (bB G)) B hP rfl (by decide) kw_298 dX3_two_11 ?_
    refine lv_iload_n hx hb dX3_two_14 rfl (lv_at hl 3 rfl) ?_
    refine km_zald (i := z) (v := z_i (c.2.1.1 z.toNatClampNeg)) B hG hP hz8 rfl dX3_two_15 ?_
    refine lv_if_eq (tgt := 23) hx hb dX3_two_16 (by decide) (fun q_30 => ?_) (fun q_30 => ?_)
    · refine lv_iconst (v := (0 : Int32)) hx hb dX3_two_23 (by decide) ?_
      exact kp_jI (by simp only [if_neg q_29, if_pos q_30]) hJ24
    · refine lv_iconst (v := (1 : Int32)) hx hb dX3_two_19 (by decide) ?_
      refine lv_goto (tgt := 24) hx hb dX3_two_20 (by decide) ?_
      exact kp_jI (by simp only [if_neg q_29, if_neg q_30]) hJ24
def B_m_alone_1 (c : mw_C) (x : Int32) (y : Int32) : mw_C := mp_from (mp_is c (z_t (z_i (c.2.1.1 y.toNatClampNeg)))) (-(((mp_is c (z_t (z_i (c.2.1.1 y.toNatClampNeg)))).2.1.2.2) y.toNatClampNeg))
def B_m_alone_2 (c : mw_C) (x : Int32) (y : Int32) : mw_C := mp_to (B_m_alone_1 c x y) (-(((B_m_alone_1 c x y).2.1.2.1) y.toNatClampNeg))
def B_m_alone_3 (c : mw_C) (x : Int32) (y : Int32) : mw_C := S_m_sizes (mp_is c (z_t (z_i (c.2.1.1 y.toNatClampNeg)))) (((mp_is c (z_t (z_i (c.2.1.1 y.toNatClampNeg)))).2.1.2.1) y.toNatClampNeg) (((mp_is c (z_t (z_i (c.2.1.1 y.toNatClampNeg)))).2.1.2.2) y.toNatClampNeg)
def B_m_alone_4 (c : mw_C) (x : Int32) (y : Int32) : mw_C := S_m_product (B_m_alone_3 c x y) ((B_m_alone_3 c x y).2.2.1.2.1) ((B_m_alone_3 c x y).2.2.1.2.1) ((B_m_alone_3 c x y).2.2.1.2.1) ((B_m_alone_3 c x y).2.2.1.2.1)
def B_m_alone_5 (c : mw_C) (x : Int32) (y : Int32) : mw_C := S_m_sizes (B_m_alone_4 c x y) (((B_m_alone_4 c x y).2.1.2.1) y.toNatClampNeg) (((B_m_alone_4 c x y).2.1.2.2) y.toNatClampNeg)
def B_m_alone_6 (c : mw_C) (x : Int32) (y : Int32) : mw_C := S_m_product (B_m_alone_5 c x y) ((B_m_alone_5 c x y).2.2.1.2.2) ((B_m_alone_5 c x y).2.2.1.2.2) ((B_m_alone_5 c x y).2.2.1.2.2) ((B_m_alone_5 c x y).2.2.1.2.2)
def B_m_alone_7 (c : mw_C) (x : Int32) (y : Int32) : mw_C := mp_from (B_m_alone_6 c x y) ((B_m_alone_4 c x y).2.2.1.2.1)
def B_m_alone_8 (c : mw_C) (x : Int32) (y : Int32) : mw_C := S_m_roots (mp_is c (z_t (z_i (c.2.1.1 y.toNatClampNeg)))) (((mp_is c (z_t (z_i (c.2.1.1 y.toNatClampNeg)))).2.1.2.1) y.toNatClampNeg) (((mp_is c (z_t (z_i (c.2.1.1 y.toNatClampNeg)))).2.1.2.2) y.toNatClampNeg)
def S_m_alone (c : mw_C) (x : Int32) (y : Int32) : mw_C :=
  if (z_i ((mp_is c (z_t (z_i (c.2.1.1 y.toNatClampNeg)))).2.2.1.1)) = (0 : Int32) then mp_is c (z_t (z_i (c.2.1.1 y.toNatClampNeg))) else (if x = (8 : Int32) then B_m_alone_2 c x y else (if x = (9 : Int32) then B_m_alone_7 c x y else (if x = (10 : Int32) then B_m_alone_8 c x y else B_m_alone_3 c x y)))
def rm_m_alone : Room := { frames := 4, cells := 0, slots := 0, locals := 116 }
set_option maxHeartbeats 4000000 in
set_option maxRecDepth 100000 in
theorem C_m_alone (l : Launch) (D : va_G) (ty : List (ClassId × FieldType)) (sz : Nat) (G : mw_G) (Z : va_W) (hG : mw_ok ty sz G Z) (c : mw_C) (x : Int32) (y : Int32) (hy8 : vp_in y 8) : kp_M l yX3_alone cX3_alone 5 none rm_m_alone D ty sz [.ref (bM G), .int x, .int y] (mw_W G c Z) (none) (mw_W G (S_m_alone c x y) Z) := by
  refine kp_body (by decide) (Nat.le_of_ble_eq_true rfl) rfl ?_
  intro p e s m args below meth cd ls B hin hl hP hS
  obtain ⟨hx, hb, hml, hown, hlk, hr, hw, hE, hK, hsz⟩ := id B
  have hl : lv_has ls 5 [(0, .ref (bM G)), (1, .int x), (2, .int y)] := hl
  refine lv_aload_n hx hb dX3_alone_0 rfl (lv_at hl 0 rfl) ?_
  refine lv_aload_n hx hb dX3_alone_1 rfl (lv_at hl 0 rfl) ?_
  refine km_get (j := 3) (v := .ref (bB G)) B hP rfl (by decide) kw_298 dX3_alone_2 ?_
  refine lv_iload_n hx hb dX3_alone_5 rfl (lv_at hl 2 rfl) ?_
  refine km_zald (i := y) (v := z_i (c.2.1.1 y.toNatClampNeg)) B hG hP hy8 rfl dX3_alone_6 ?_
  refine km_put6 (v := z_i (c.2.1.1 y.toNatClampNeg)) (M' := mp_is c (z_t (z_i (c.2.1.1 y.toNatClampNeg)))) B hG hP hS (z_i01 _) rfl kw_268 dX3_alone_7 (fun H locs hP hS => ?_)
  refine lv_aload_n hx hb dX3_alone_10 rfl (lv_at hl 0 rfl) ?_
  refine km_get (j := 6) (v := .int (z_i ((mp_is c (z_t (z_i (c.2.1.1 y.toNatClampNeg)))).2.2.1.1))) B hP rfl (by decide) kw_268 dX3_alone_11 ?_
  refine lv_if_ne (tgt := 18) hx hb dX3_alone_14 (by decide) (fun q_1 => ?_) (fun q_1 => ?_)
  · refine lv_iload_n hx hb dX3_alone_18 rfl (lv_at hl 1 rfl) ?_
    by_cases q_2 : x = (8 : Int32)
    · refine lv_tableIn (tgt := 44) hx hb dX3_alone_19 (by rw [q_2]; decide) (by rw [q_2]; decide) (by rw [q_2]; rfl) (by decide) ?_
      refine lv_aload_n hx hb dX3_alone_44 rfl (lv_at hl 0 rfl) ?_
      refine lv_aload_n hx hb dX3_alone_45 rfl (lv_at hl 0 rfl) ?_
      refine km_get (j := 5) (v := .ref (bH G)) B hP rfl (by decide) kw_300 dX3_alone_46 ?_
      refine lv_iload_n hx hb dX3_alone_49 rfl (lv_at hl 2 rfl) ?_
      refine km_hald (i := y) (v := ((mp_is c (z_t (z_i (c.2.1.1 y.toNatClampNeg)))).2.1.2.2) y.toNatClampNeg) B hG hP hy8 rfl dX3_alone_50 ?_
      refine lv_lneg hx hb dX3_alone_51 ?_
      refine km_put7 (v := -(((mp_is c (z_t (z_i (c.2.1.1 y.toNatClampNeg)))).2.1.2.2) y.toNatClampNeg)) (M' := B_m_alone_1 c x y) B hG hP hS rfl kw_274 dX3_alone_52 (fun H locs hP hS => ?_)
      refine lv_aload_n hx hb dX3_alone_55 rfl (lv_at hl 0 rfl) ?_
      refine lv_aload_n hx hb dX3_alone_56 rfl (lv_at hl 0 rfl) ?_
      refine km_get (j := 4) (v := .ref (bL G)) B hP rfl (by decide) kw_299 dX3_alone_57 ?_
      refine lv_iload_n hx hb dX3_alone_60 rfl (lv_at hl 2 rfl) ?_
      refine km_lald (i := y) (v := ((B_m_alone_1 c x y).2.1.2.1) y.toNatClampNeg) B hG hP hy8 rfl dX3_alone_61 ?_
      refine lv_lneg hx hb dX3_alone_62 ?_
      refine km_put8 (v := -(((B_m_alone_1 c x y).2.1.2.1) y.toNatClampNeg)) (M' := B_m_alone_2 c x y) B hG hP hS rfl kw_275 dX3_alone_63 (fun H locs hP hS => ?_)
      refine lv_goto (tgt := 189) hx hb dX3_alone_66 (by decide) ?_
      exact kp_retv B (by simp only [S_m_alone, if_neg q_1, if_pos q_2]; exact hP) hS rfl dX3_alone_189
    · by_cases q_3 : x = (9 : Int32)
      · refine lv_tableIn (tgt := 69) hx hb dX3_alone_19 (by rw [q_3]; decide) (by rw [q_3]; decide) (by rw [q_3]; rfl) (by decide) ?_
        refine lv_aload_n hx hb dX3_alone_69 rfl (lv_at hl 0 rfl) ?_
        refine lv_aload_n hx hb dX3_alone_70 rfl (lv_at hl 0 rfl) ?_
        refine km_get (j := 4) (v := .ref (bL G)) B hP rfl (by decide) kw_299 dX3_alone_71 ?_
        refine lv_iload_n hx hb dX3_alone_74 rfl (lv_at hl 2 rfl) ?_
        refine km_lald (i := y) (v := ((mp_is c (z_t (z_i (c.2.1.1 y.toNatClampNeg)))).2.1.2.1) y.toNatClampNeg) B hG hP hy8 rfl dX3_alone_75 ?_
        refine lv_aload_n hx hb dX3_alone_76 rfl (lv_at hl 0 rfl) ?_
        refine km_get (j := 5) (v := .ref (bH G)) B hP rfl (by decide) kw_300 dX3_alone_77 ?_
        refine lv_iload_n hx hb dX3_alone_80 rfl (lv_at hl 2 rfl) ?_
        refine km_hald (i := y) (v := ((mp_is c (z_t (z_i (c.2.1.1 y.toNatClampNeg)))).2.1.2.2) y.toNatClampNeg) B hG hP hy8 rfl dX3_alone_81 ?_
        refine kp_callV (rm := rm_m_sizes) (As := [.long (((mp_is c (z_t (z_i (c.2.1.1 y.toNatClampNeg)))).2.1.2.1) y.toNatClampNeg), .long (((mp_is c (z_t (z_i (c.2.1.1 y.toNatClampNeg)))).2.1.2.2) y.toNatClampNeg)]) (rest := []) (r := none) (st1 := []) (ws' := mw_W G (S_m_sizes (mp_is c (z_t (z_i (c.2.1.1 y.toNatClampNeg)))) (((mp_is c (z_t (z_i (c.2.1.1 y.toNatClampNeg)))).2.1.2.1) y.toNatClampNeg) (((mp_is c (z_t (z_i (c.2.1.1 y.toNatClampNeg)))).2.1.2.2) y.toNatClampNeg)) Z) B (C_m_sizes l D ty sz G Z hG (mp_is c (z_t (z_i (c.2.1.1 y.toNatClampNeg)))) (((mp_is c (z_t (z_i (c.2.1.1 y.toNatClampNeg)))).2.1.2.1) y.toNatClampNeg) (((mp_is c (z_t (z_i (c.2.1.1 y.toNatClampNeg)))).2.1.2.2) y.toNatClampNeg)) kt_m_sizes kw_338 kw_339 kw_340 (km_rc B hP) (by decide) rfl rfl (by decide) rfl (Nat.le_of_ble_eq_true rfl) hl.1 hP hS dX3_alone_82 rfl (fun H locs hP hS => ?_)
        have hP : va_P D vwCl (mw_W G (B_m_alone_3 c x y) Z) H := hP
        refine lv_aload_n hx hb dX3_alone_85 rfl (lv_at hl 0 rfl) ?_
        refine lv_aload_n hx hb dX3_alone_86 rfl (lv_at hl 0 rfl) ?_
        refine km_get (j := 7) (v := .long ((B_m_alone_3 c x y).2.2.1.2.1)) B hP rfl (by decide) kw_274 dX3_alone_87 ?_
        refine lv_aload_n hx hb dX3_alone_90 rfl (lv_at hl 0 rfl) ?_
        refine km_get (j := 7) (v := .long ((B_m_alone_3 c x y).2.2.1.2.1)) B hP rfl (by decide) kw_274 dX3_alone_91 ?_
        refine lv_aload_n hx hb dX3_alone_94 rfl (lv_at hl 0 rfl) ?_
        refine km_get (j := 7) (v := .long ((B_m_alone_3 c x y).2.2.1.2.1)) B hP rfl (by decide) kw_274 dX3_alone_95 ?_
        refine lv_aload_n hx hb dX3_alone_98 rfl (lv_at hl 0 rfl) ?_
        refine km_get (j := 7) (v := .long ((B_m_alone_3 c x y).2.2.1.2.1)) B hP rfl (by decide) kw_274 dX3_alone_99 ?_
        refine kp_callV (rm := rm_m_product) (As := [.long ((B_m_alone_3 c x y).2.2.1.2.1), .long ((B_m_alone_3 c x y).2.2.1.2.1), .long ((B_m_alone_3 c x y).2.2.1.2.1), .long ((B_m_alone_3 c x y).2.2.1.2.1)]) (rest := []) (r := none) (st1 := []) (ws' := mw_W G (S_m_product (B_m_alone_3 c x y) ((B_m_alone_3 c x y).2.2.1.2.1) ((B_m_alone_3 c x y).2.2.1.2.1) ((B_m_alone_3 c x y).2.2.1.2.1) ((B_m_alone_3 c x y).2.2.1.2.1)) Z) B (C_m_product l D ty sz G Z hG (B_m_alone_3 c x y) ((B_m_alone_3 c x y).2.2.1.2.1) ((B_m_alone_3 c x y).2.2.1.2.1) ((B_m_alone_3 c x y).2.2.1.2.1) ((B_m_alone_3 c x y).2.2.1.2.1)) kt_m_product kw_329 kw_330 kw_331 (km_rc B hP) (by decide) rfl rfl (by decide) rfl (Nat.le_of_ble_eq_true rfl) hl.1 hP hS dX3_alone_102 rfl (fun H locs hP hS => ?_)
        have hP : va_P D vwCl (mw_W G (B_m_alone_4 c x y) Z) H := hP
        refine lv_aload_n hx hb dX3_alone_105 rfl (lv_at hl 0 rfl) ?_
        refine km_get (j := 7) (v := .long ((B_m_alone_4 c x y).2.2.1.2.1)) B hP rfl (by decide) kw_274 dX3_alone_106 ?_
        refine lv_lstore_n (lv' := [(3, .long ((B_m_alone_4 c x y).2.2.1.2.1)), (0, .ref (bM G)), (1, .int x), (2, .int y)]) hx hb dX3_alone_109 rfl hl (by decide) rfl (fun ls hl => ?_)
        refine lv_aload_n hx hb dX3_alone_110 rfl (lv_at hl 1 rfl) ?_
        refine lv_aload_n hx hb dX3_alone_111 rfl (lv_at hl 1 rfl) ?_
        refine km_get (j := 4) (v := .ref (bL G)) B hP rfl (by decide) kw_299 dX3_alone_112 ?_
        refine lv_iload_n hx hb dX3_alone_115 rfl (lv_at hl 3 rfl) ?_
        refine km_lald (i := y) (v := ((B_m_alone_4 c x y).2.1.2.1) y.toNatClampNeg) B hG hP hy8 rfl dX3_alone_116 ?_
        refine lv_aload_n hx hb dX3_alone_117 rfl (lv_at hl 1 rfl) ?_
        refine km_get (j := 5) (v := .ref (bH G)) B hP rfl (by decide) kw_300 dX3_alone_118 ?_
        refine lv_iload_n hx hb dX3_alone_121 rfl (lv_at hl 3 rfl) ?_
        refine km_hald (i := y) (v := ((B_m_alone_4 c x y).2.1.2.2) y.toNatClampNeg) B hG hP hy8 rfl dX3_alone_122 ?_
        refine kp_callV (rm := rm_m_sizes) (As := [.long (((B_m_alone_4 c x y).2.1.2.1) y.toNatClampNeg), .long (((B_m_alone_4 c x y).2.1.2.2) y.toNatClampNeg)]) (rest := []) (r := none) (st1 := []) (ws' := mw_W G (S_m_sizes (B_m_alone_4 c x y) (((B_m_alone_4 c x y).2.1.2.1) y.toNatClampNeg) (((B_m_alone_4 c x y).2.1.2.2) y.toNatClampNeg)) Z) B (C_m_sizes l D ty sz G Z hG (B_m_alone_4 c x y) (((B_m_alone_4 c x y).2.1.2.1) y.toNatClampNeg) (((B_m_alone_4 c x y).2.1.2.2) y.toNatClampNeg)) kt_m_sizes kw_338 kw_339 kw_340 (km_rc B hP) (by decide) rfl rfl (by decide) rfl (Nat.le_of_ble_eq_true rfl) hl.1 hP hS dX3_alone_123 rfl (fun H locs hP hS => ?_)
        have hP : va_P D vwCl (mw_W G (B_m_alone_5 c x y) Z) H := hP
        refine lv_aload_n hx hb dX3_alone_126 rfl (lv_at hl 1 rfl) ?_
        refine lv_aload_n hx hb dX3_alone_127 rfl (lv_at hl 1 rfl) ?_
        refine km_get (j := 8) (v := .long ((B_m_alone_5 c x y).2.2.1.2.2)) B hP rfl (by decide) kw_275 dX3_alone_128 ?_
        refine lv_aload_n hx hb dX3_alone_131 rfl (lv_at hl 1 rfl) ?_
        refine km_get (j := 8) (v := .long ((B_m_alone_5 c x y).2.2.1.2.2)) B hP rfl (by decide) kw_275 dX3_alone_132 ?_
        refine lv_aload_n hx hb dX3_alone_135 rfl (lv_at hl 1 rfl) ?_
        refine km_get (j := 8) (v := .long ((B_m_alone_5 c x y).2.2.1.2.2)) B hP rfl (by decide) kw_275 dX3_alone_136 ?_
        refine lv_aload_n hx hb dX3_alone_139 rfl (lv_at hl 1 rfl) ?_
        refine km_get (j := 8) (v := .long ((B_m_alone_5 c x y).2.2.1.2.2)) B hP rfl (by decide) kw_275 dX3_alone_140 ?_
        refine kp_callV (rm := rm_m_product) (As := [.long ((B_m_alone_5 c x y).2.2.1.2.2), .long ((B_m_alone_5 c x y).2.2.1.2.2), .long ((B_m_alone_5 c x y).2.2.1.2.2), .long ((B_m_alone_5 c x y).2.2.1.2.2)]) (rest := []) (r := none) (st1 := []) (ws' := mw_W G (S_m_product (B_m_alone_5 c x y) ((B_m_alone_5 c x y).2.2.1.2.2) ((B_m_alone_5 c x y).2.2.1.2.2) ((B_m_alone_5 c x y).2.2.1.2.2) ((B_m_alone_5 c x y).2.2.1.2.2)) Z) B (C_m_product l D ty sz G Z hG (B_m_alone_5 c x y) ((B_m_alone_5 c x y).2.2.1.2.2) ((B_m_alone_5 c x y).2.2.1.2.2) ((B_m_alone_5 c x y).2.2.1.2.2) ((B_m_alone_5 c x y).2.2.1.2.2)) kt_m_product kw_329 kw_330 kw_331 (km_rc B hP) (by decide) rfl rfl (by decide) rfl (Nat.le_of_ble_eq_true rfl) hl.1 hP hS dX3_alone_143 rfl (fun H locs hP hS => ?_)
        have hP : va_P D vwCl (mw_W G (B_m_alone_6 c x y) Z) H := hP
        refine lv_aload_n hx hb dX3_alone_146 rfl (lv_at hl 1 rfl) ?_
        refine lv_lload_n hx hb dX3_alone_147 rfl (lv_at hl 0 rfl) ?_
        refine km_put7 (v := (B_m_alone_4 c x y).2.2.1.2.1) (M' := B_m_alone_7 c x y) B hG hP hS rfl kw_274 dX3_alone_148 (fun H locs hP hS => ?_)
        refine lv_goto (tgt := 189) hx hb dX3_alone_151 (by decide) ?_
        exact kp_retv B (by simp only [S_m_alone, if_neg q_1, if_neg q_2, if_pos q_3]; exact hP) hS rfl dX3_alone_189
      · by_cases q_4 : x = (10 : Int32)
        · refine lv_tableIn (tgt := 154) hx hb dX3_alone_19 (by rw [q_4]; decide) (by rw [q_4]; decide) (by rw [q_4]; rfl) (by decide) ?_
          refine lv_aload_n hx hb dX3_alone_154 rfl (lv_at hl 0 rfl) ?_
          refine lv_aload_n hx hb dX3_alone_155 rfl (lv_at hl 0 rfl) ?_
          refine km_get (j := 4) (v := .ref (bL G)) B hP rfl (by decide) kw_299 dX3_alone_156 ?_
          refine lv_iload_n hx hb dX3_alone_159 rfl (lv_at hl 2 rfl) ?_
          refine km_lald (i := y) (v := ((mp_is c (z_t (z_i (c.2.1.1 y.toNatClampNeg)))).2.1.2.1) y.toNatClampNeg) B hG hP hy8 rfl dX3_alone_160 ?_
          refine lv_aload_n hx hb dX3_alone_161 rfl (lv_at hl 0 rfl) ?_
          refine km_get (j := 5) (v := .ref (bH G)) B hP rfl (by decide) kw_300 dX3_alone_162 ?_
          refine lv_iload_n hx hb dX3_alone_165 rfl (lv_at hl 2 rfl) ?_
          refine km_hald (i := y) (v := ((mp_is c (z_t (z_i (c.2.1.1 y.toNatClampNeg)))).2.1.2.2) y.toNatClampNeg) B hG hP hy8 rfl dX3_alone_166 ?_
          refine kp_callV (rm := rm_m_roots) (As := [.long (((mp_is c (z_t (z_i (c.2.1.1 y.toNatClampNeg)))).2.1.2.1) y.toNatClampNeg), .long (((mp_is c (z_t (z_i (c.2.1.1 y.toNatClampNeg)))).2.1.2.2) y.toNatClampNeg)]) (rest := []) (r := none) (st1 := []) (ws' := mw_W G (S_m_roots (mp_is c (z_t (z_i (c.2.1.1 y.toNatClampNeg)))) (((mp_is c (z_t (z_i (c.2.1.1 y.toNatClampNeg)))).2.1.2.1) y.toNatClampNeg) (((mp_is c (z_t (z_i (c.2.1.1 y.toNatClampNeg)))).2.1.2.2) y.toNatClampNeg)) Z) B (C_m_roots l D ty sz G Z hG (mp_is c (z_t (z_i (c.2.1.1 y.toNatClampNeg)))) (((mp_is c (z_t (z_i (c.2.1.1 y.toNatClampNeg)))).2.1.2.1) y.toNatClampNeg) (((mp_is c (z_t (z_i (c.2.1.1 y.toNatClampNeg)))).2.1.2.2) y.toNatClampNeg)) kt_m_roots kw_343 kw_344 kw_345 (km_rc B hP) (by decide) rfl rfl (by decide) rfl (Nat.le_of_ble_eq_true rfl) hl.1 hP hS dX3_alone_167 rfl (fun H locs hP hS => ?_)
          have hP : va_P D vwCl (mw_W G (B_m_alone_8 c x y) Z) H := hP
          refine lv_goto (tgt := 189) hx hb dX3_alone_170 (by decide) ?_
          exact kp_retv B (by simp only [S_m_alone, if_neg q_1, if_neg q_2, if_neg q_3, if_pos q_4]; exact hP) hS rfl dX3_alone_189
        · refine lv_tableOut (tgt := 173) hx hb dX3_alone_19 (kc_out3 q_2 q_3 q_4) (by decide) ?_
          refine lv_aload_n hx hb dX3_alone_173 rfl (lv_at hl 0 rfl) ?_
          refine lv_aload_n hx hb dX3_alone_174 rfl (lv_at hl 0 rfl) ?_
          refine km_get (j := 4) (v := .ref (bL G)) B hP rfl (by decide) kw_299 dX3_alone_175 ?_
          refine lv_iload_n hx hb dX3_alone_178 rfl (lv_at hl 2 rfl) ?_
          refine km_lald (i := y) (v := ((mp_is c (z_t (z_i (c.2.1.1 y.toNatClampNeg)))).2.1.2.1) y.toNatClampNeg) B hG hP hy8 rfl dX3_alone_179 ?_
          refine lv_aload_n hx hb dX3_alone_180 rfl (lv_at hl 0 rfl) ?_
          refine km_get (j := 5) (v := .ref (bH G)) B hP rfl (by decide) kw_300 dX3_alone_181 ?_
          refine lv_iload_n hx hb dX3_alone_184 rfl (lv_at hl 2 rfl) ?_
          refine km_hald (i := y) (v := ((mp_is c (z_t (z_i (c.2.1.1 y.toNatClampNeg)))).2.1.2.2) y.toNatClampNeg) B hG hP hy8 rfl dX3_alone_185 ?_
          refine kp_callV (rm := rm_m_sizes) (As := [.long (((mp_is c (z_t (z_i (c.2.1.1 y.toNatClampNeg)))).2.1.2.1) y.toNatClampNeg), .long (((mp_is c (z_t (z_i (c.2.1.1 y.toNatClampNeg)))).2.1.2.2) y.toNatClampNeg)]) (rest := []) (r := none) (st1 := []) (ws' := mw_W G (S_m_sizes (mp_is c (z_t (z_i (c.2.1.1 y.toNatClampNeg)))) (((mp_is c (z_t (z_i (c.2.1.1 y.toNatClampNeg)))).2.1.2.1) y.toNatClampNeg) (((mp_is c (z_t (z_i (c.2.1.1 y.toNatClampNeg)))).2.1.2.2) y.toNatClampNeg)) Z) B (C_m_sizes l D ty sz G Z hG (mp_is c (z_t (z_i (c.2.1.1 y.toNatClampNeg)))) (((mp_is c (z_t (z_i (c.2.1.1 y.toNatClampNeg)))).2.1.2.1) y.toNatClampNeg) (((mp_is c (z_t (z_i (c.2.1.1 y.toNatClampNeg)))).2.1.2.2) y.toNatClampNeg)) kt_m_sizes kw_338 kw_339 kw_340 (km_rc B hP) (by decide) rfl rfl (by decide) rfl (Nat.le_of_ble_eq_true rfl) hl.1 hP hS dX3_alone_186 rfl (fun H locs hP hS => ?_)
          have hP : va_P D vwCl (mw_W G (B_m_alone_3 c x y) Z) H := hP
          exact kp_retv B (by simp only [S_m_alone, if_neg q_1, if_neg q_2, if_neg q_3, if_neg q_4]; exact hP) hS rfl dX3_alone_189
  · exact kp_retv B (by simp only [S_m_alone, if_pos q_1]; exact hP) hS rfl dX3_alone_17
