def LF_m_format (x : Int32) (y : Int32) : Nat → mw_C → Int32 → Int32
  | 0, c, i => 0
  | n + 1, c, i => if (8 : Int32) ≤ i then (1 : Int32) else LF_m_format x y n (mp_some c (va_up c.2.1.1 i.toNatClampNeg (z_t (0 : Int32)))) (i + (1 : Int32))
def LS_m_format (x : Int32) (y : Int32) : Nat → mw_C → Int32 → mw_C
  | 0, c, i => c
  | n + 1, c, i => if (8 : Int32) ≤ i then c else LS_m_format x y n (mp_some c (va_up c.2.1.1 i.toNatClampNeg (z_t (0 : Int32)))) (i + (1 : Int32))
def B_m_format_1 (c : mw_C) (x : Int32) (y : Int32) : mw_C := mp_widthM (mp_widthE (mp_thrown c (0 : Int32)) x) y
def F_m_format (c : mw_C) (x : Int32) (y : Int32) : Int32 :=
  if x < (2 : Int32) then (0 : Int32) else (if (4 : Int32) < x then (0 : Int32) else (if y < (1 : Int32) then (0 : Int32) else (if y ≤ (10 : Int32) then LF_m_format x y 9 (B_m_format_1 c x y) (0 : Int32) else (0 : Int32))))
def S_m_format (c : mw_C) (x : Int32) (y : Int32) : mw_C :=
  if x < (2 : Int32) then mp_thrown c (0 : Int32) else (if (4 : Int32) < x then mp_thrown c (0 : Int32) else (if y < (1 : Int32) then mp_thrown c (0 : Int32) else (if y ≤ (10 : Int32) then LS_m_format x y 9 (B_m_format_1 c x y) (0 : Int32) else mp_thrown c (0 : Int32))))
def rm_m_format : Room := { frames := 0, cells := 0, slots := 0, locals := 0 }
set_option maxHeartbeats 4000000 in
set_option maxRecDepth 100000 in
theorem LP_m_format (l : Launch) (D : va_G) (ty : List (ClassId × FieldType)) (sz : Nat) (G : mw_G) (Z : va_W) (hG : mw_ok ty sz G Z) (x : Int32) (y : Int32) {p : Program} {e : Env} {s : State} {m : MethodId} {args : Array Value} {below : List Frame} {meth : Method} {cd : Code} (B : kp_B p l s m args meth cd yX3_format.cls cX3_format 4 (some .boolean) D ty sz) :
    ∀ (n : Nat) (c : mw_C) (i : Int32) (h1 : 0 ≤ i.toInt) (h2 : 9 ≤ i.toInt + n) (h3 : i.toInt ≤ 8), ∀ (H : Heap) (locs : List Loc) (ls : Array Slot), lv_has ls 4 [(0, .ref (bM G)), (1, .int x), (2, .int y), (3, .int i)] → va_P D vwCl (mw_W G c Z) H → va_S (kp_A sz) s.heap H locs → W p l e rm_m_format s m args below meth cd H locs 0 0 (MQ below (kp_Q D sz (some (.int (LF_m_format x y n c i))) (mw_W G (LS_m_format x y n c i) Z)) args s rm_m_format.cells rm_m_format.slots (kp_A sz)) (F0 m 40 ls []) := by
  obtain ⟨hx, hb, hml, hown, hlk, hr, hw, hE, hK, hsz⟩ := id B
  intro n
  induction n with
  | zero =>
    intro c i h1 h2 h3
    exact absurd h2 (by omega)
  | succ n ih =>
    intro c i h1 h2 h3 H locs ls hl hP hS
    refine lv_iload_n hx hb dX3_format_40 rfl (lv_at hl 3 rfl) ?_
    refine lv_bipush (v := (8 : Int32)) hx hb dX3_format_41 (by decide) ?_
    refine lv_icmp_ge (tgt := 59) hx hb dX3_format_43 (by decide) (fun q_1 => ?_) (fun q_1 => ?_)
    · refine lv_iconst (v := (1 : Int32)) hx hb dX3_format_59 (by decide) ?_
      exact kp_retz B (by simp only [LS_m_format, if_pos q_1]; exact hP) hS (by simp only [LF_m_format, if_pos q_1]) (Or.inr rfl) dX3_format_60
    · refine lv_aload_n hx hb dX3_format_46 rfl (lv_at hl 0 rfl) ?_
      refine km_get (j := 3) (v := .ref (bB G)) B hP rfl (by decide) kw_298 dX3_format_47 ?_
      refine lv_iload_n hx hb dX3_format_50 rfl (lv_at hl 3 rfl) ?_
      refine lv_iconst (v := (0 : Int32)) hx hb dX3_format_51 (by decide) ?_
      refine km_zast (i := i) (v := (0 : Int32)) (M' := mp_some c (va_up c.2.1.1 i.toNatClampNeg (z_t (0 : Int32)))) B hG hP hS (ki_in8 h1 q_1) (Or.inl rfl) rfl dX3_format_52 (fun H locs hP hS => ?_)
      refine lv_iinc (v := i + (1 : Int32)) (lv' := [(3, .int (i + (1 : Int32))), (0, .ref (bM G)), (1, .int x), (2, .int y)]) hx hb dX3_format_53 hl (k := 3) rfl rfl (by decide) rfl (fun ls hl => ?_)
      refine lv_goto (tgt := 40) hx hb dX3_format_56 (by decide) ?_
      rw [show LF_m_format x y (n + 1) c i = LF_m_format x y n (mp_some c (va_up c.2.1.1 i.toNatClampNeg (z_t (0 : Int32)))) (i + (1 : Int32)) from by simp only [LF_m_format, if_neg q_1]]
      rw [show LS_m_format x y (n + 1) c i = LS_m_format x y n (mp_some c (va_up c.2.1.1 i.toNatClampNeg (z_t (0 : Int32)))) (i + (1 : Int32)) from by simp only [LS_m_format, if_neg q_1]]
      exact ih (mp_some c (va_up c.2.1.1 i.toNatClampNeg (z_t (0 : Int32)))) (i + (1 : Int32)) (ki_up8 h1 h3 q_1 h2).1 (ki_up8 h1 h3 q_1 h2).2.1 (ki_up8 h1 h3 q_1 h2).2.2 _ _ ls (lv_sub hl [1, 2, 3, 0] rfl) hP hS
set_option maxHeartbeats 4000000 in
set_option maxRecDepth 100000 in
theorem C_m_format (l : Launch) (D : va_G) (ty : List (ClassId × FieldType)) (sz : Nat) (G : mw_G) (Z : va_W) (hG : mw_ok ty sz G Z) (c : mw_C) (x : Int32) (y : Int32) : kp_M l yX3_format cX3_format 4 (some .boolean) rm_m_format D ty sz [.ref (bM G), .int x, .int y] (mw_W G c Z) (some (.int (F_m_format c x y))) (mw_W G (S_m_format c x y) Z) := by
  refine kp_body (by decide) (Nat.le_of_ble_eq_true rfl) rfl ?_
  intro p e s m args below meth cd ls B hin hl hP hS
  obtain ⟨hx, hb, hml, hown, hlk, hr, hw, hE, hK, hsz⟩ := id B
  have hl : lv_has ls 4 [(0, .ref (bM G)), (1, .int x), (2, .int y)] := hl
  refine lv_aload_n hx hb dX3_format_0 rfl (lv_at hl 0 rfl) ?_
  refine lv_iconst (v := (0 : Int32)) hx hb dX3_format_1 (by decide) ?_
  refine km_put0 (v := (0 : Int32)) (M' := mp_thrown c (0 : Int32)) B hG hP hS rfl kw_244 dX3_format_2 (fun H locs hP hS => ?_)
  refine lv_iload_n hx hb dX3_format_5 rfl (lv_at hl 1 rfl) ?_
  refine lv_iconst (v := (2 : Int32)) hx hb dX3_format_6 (by decide) ?_
  refine lv_icmp_lt (tgt := 26) hx hb dX3_format_7 (by decide) (fun q_1 => ?_) (fun q_1 => ?_)
  · refine lv_iconst (v := (0 : Int32)) hx hb dX3_format_26 (by decide) ?_
    exact kp_retz B (by simp only [S_m_format, if_pos q_1]; exact hP) hS (by simp only [F_m_format, if_pos q_1]) (Or.inl rfl) dX3_format_27
  · refine lv_iload_n hx hb dX3_format_10 rfl (lv_at hl 1 rfl) ?_
    refine lv_iconst (v := (4 : Int32)) hx hb dX3_format_11 (by decide) ?_
    refine lv_icmp_gt (tgt := 26) hx hb dX3_format_12 (by decide) (fun q_2 => ?_) (fun q_2 => ?_)
    · refine lv_iconst (v := (0 : Int32)) hx hb dX3_format_26 (by decide) ?_
      exact kp_retz B (by simp only [S_m_format, if_neg q_1, if_pos q_2]; exact hP) hS (by simp only [F_m_format, if_neg q_1, if_pos q_2]) (Or.inl rfl) dX3_format_27
    · refine lv_iload_n hx hb dX3_format_15 rfl (lv_at hl 2 rfl) ?_
      refine lv_iconst (v := (1 : Int32)) hx hb dX3_format_16 (by decide) ?_
      refine lv_icmp_lt (tgt := 26) hx hb dX3_format_17 (by decide) (fun q_3 => ?_) (fun q_3 => ?_)
      · refine lv_iconst (v := (0 : Int32)) hx hb dX3_format_26 (by decide) ?_
        exact kp_retz B (by simp only [S_m_format, if_neg q_1, if_neg q_2, if_pos q_3]; exact hP) hS (by simp only [F_m_format, if_neg q_1, if_neg q_2, if_pos q_3]) (Or.inl rfl) dX3_format_27
      · refine lv_iload_n hx hb dX3_format_20 rfl (lv_at hl 2 rfl) ?_
        refine lv_bipush (v := (10 : Int32)) hx hb dX3_format_21 (by decide) ?_
        refine lv_icmp_le (tgt := 28) hx hb dX3_format_23 (by decide) (fun q_4 => ?_) (fun q_4 => ?_)
        · refine lv_aload_n hx hb dX3_format_28 rfl (lv_at hl 0 rfl) ?_
          refine lv_iload_n hx hb dX3_format_29 rfl (lv_at hl 1 rfl) ?_
          refine km_put1 (v := x) (M' := mp_widthE (mp_thrown c (0 : Int32)) x) B hG hP hS rfl kw_245 dX3_format_30 (fun H locs hP hS => ?_)
          refine lv_aload_n hx hb dX3_format_33 rfl (lv_at hl 0 rfl) ?_
          refine lv_iload_n hx hb dX3_format_34 rfl (lv_at hl 2 rfl) ?_
          refine km_put2 (v := y) (M' := B_m_format_1 c x y) B hG hP hS rfl kw_246 dX3_format_35 (fun H locs hP hS => ?_)
          refine lv_iconst (v := (0 : Int32)) hx hb dX3_format_38 (by decide) ?_
          refine lv_istore_n (lv' := [(3, .int (0 : Int32)), (0, .ref (bM G)), (1, .int x), (2, .int y)]) hx hb dX3_format_39 rfl hl (by decide) rfl (fun ls hl => ?_)
          rw [show F_m_format c x y = LF_m_format x y 9 (B_m_format_1 c x y) (0 : Int32) from by simp only [F_m_format, if_neg q_1, if_neg q_2, if_neg q_3, if_pos q_4]]
          rw [show S_m_format c x y = LS_m_format x y 9 (B_m_format_1 c x y) (0 : Int32) from by simp only [S_m_format, if_neg q_1, if_neg q_2, if_neg q_3, if_pos q_4]]
          exact LP_m_format l D ty sz G Z hG x y B 9 (B_m_format_1 c x y) (0 : Int32) (by decide) (by decide) (by decide) _ _ ls (lv_sub hl [1, 2, 3, 0] rfl) hP hS
        · refine lv_iconst (v := (0 : Int32)) hx hb dX3_format_26 (by decide) ?_
          exact kp_retz B (by simp only [S_m_format, if_neg q_1, if_neg q_2, if_neg q_3, if_neg q_4]; exact hP) hS (by simp only [F_m_format, if_neg q_1, if_neg q_2, if_neg q_3, if_neg q_4]) (Or.inl rfl) dX3_format_27
def B_m_set_1 (c : mw_C) (x : Int32) (y : Int32) (z : Int32) : mw_C := mp_some (mp_thrown c (0 : Int32)) (va_up ((mp_thrown c (0 : Int32)).2.1.1) x.toNatClampNeg (z_t (1 : Int32)))
def B_m_set_2 (c : mw_C) (x : Int32) (y : Int32) (z : Int32) : mw_C := mp_lows (B_m_set_1 c x y z) (va_up ((B_m_set_1 c x y z).2.1.2.1) x.toNatClampNeg (F_m_number (mp_thrown c (0 : Int32)) y))
def B_m_set_3 (c : mw_C) (x : Int32) (y : Int32) (z : Int32) : mw_C := mp_highs (B_m_set_2 c x y z) (va_up ((B_m_set_2 c x y z).2.1.2.2) x.toNatClampNeg (F_m_number (mp_thrown c (0 : Int32)) z))
def F_m_set (c : mw_C) (x : Int32) (y : Int32) (z : Int32) : Int32 :=
  if (F_m_isPlace x) = (0 : Int32) then (0 : Int32) else (if (F_m_isPattern (mp_thrown c (0 : Int32)) y) = (0 : Int32) then (0 : Int32) else (if (F_m_isPattern (mp_thrown c (0 : Int32)) z) = (0 : Int32) then (0 : Int32) else (if (F_m_number (mp_thrown c (0 : Int32)) z) < (F_m_number (mp_thrown c (0 : Int32)) y) then (0 : Int32) else (if (F_m_number (mp_thrown c (0 : Int32)) y) = mw_far then (0 : Int32) else (if (F_m_number (mp_thrown c (0 : Int32)) z) = (-mw_far) then (0 : Int32) else (1 : Int32))))))
def S_m_set (c : mw_C) (x : Int32) (y : Int32) (z : Int32) : mw_C :=
  if (F_m_isPlace x) = (0 : Int32) then mp_thrown c (0 : Int32) else (if (F_m_isPattern (mp_thrown c (0 : Int32)) y) = (0 : Int32) then mp_thrown c (0 : Int32) else (if (F_m_isPattern (mp_thrown c (0 : Int32)) z) = (0 : Int32) then mp_thrown c (0 : Int32) else (if (F_m_number (mp_thrown c (0 : Int32)) z) < (F_m_number (mp_thrown c (0 : Int32)) y) then mp_thrown c (0 : Int32) else (if (F_m_number (mp_thrown c (0 : Int32)) y) = mw_far then mp_thrown c (0 : Int32) else (if (F_m_number (mp_thrown c (0 : Int32)) z) = (-mw_far) then mp_thrown c (0 : Int32) else B_m_set_3 c x y z)))))
def rm_m_set : Room := { frames := 2, cells := 0, slots := 0, locals := 47 }
set_option maxHeartbeats 4000000 in
set_option maxRecDepth 100000 in
theorem C_m_set (l : Launch) (D : va_G) (ty : List (ClassId × FieldType)) (sz : Nat) (G : mw_G) (Z : va_W) (hG : mw_ok ty sz G Z) (c : mw_C) (x : Int32) (y : Int32) (z : Int32) : kp_M l yX3_set cX3_set 8 (some .boolean) rm_m_set D ty sz [.ref (bM G), .int x, .int y, .int z] (mw_W G c Z) (some (.int (F_m_set c x y z))) (mw_W G (S_m_set c x y z) Z) := by
  refine kp_body (by decide) (Nat.le_of_ble_eq_true rfl) rfl ?_
  intro p e s m args below meth cd ls B hin hl hP hS
  obtain ⟨hx, hb, hml, hown, hlk, hr, hw, hE, hK, hsz⟩ := id B
  have hl : lv_has ls 8 [(0, .ref (bM G)), (1, .int x), (2, .int y), (3, .int z)] := hl
  refine lv_aload_n hx hb dX3_set_0 rfl (lv_at hl 0 rfl) ?_
  refine lv_iconst (v := (0 : Int32)) hx hb dX3_set_1 (by decide) ?_
  refine km_put0 (v := (0 : Int32)) (M' := mp_thrown c (0 : Int32)) B hG hP hS rfl kw_244 dX3_set_2 (fun H locs hP hS => ?_)
  refine lv_iload_n hx hb dX3_set_5 rfl (lv_at hl 1 rfl) ?_
  refine kp_callSR (rm := rm_m_isPlace) (As := [.int x]) (rest := []) (r := some (.int (F_m_isPlace x))) (st1 := [.int (F_m_isPlace x)]) B (C_m_isPlace l D ty sz G Z hG (mp_thrown c (0 : Int32)) x) kt_m_isPlace kw_316 kw_317 (by decide) ⟨rfl, rfl⟩ (by decide) rfl (Nat.le_of_ble_eq_true rfl) hl.1 hP hS dX3_set_6 rfl ?_
  refine lv_if_eq (tgt := 28) hx hb dX3_set_9 (by decide) (fun q_1 => ?_) (fun q_1 => ?_)
  · refine lv_iconst (v := (0 : Int32)) hx hb dX3_set_28 (by decide) ?_
    exact kp_retz B (by simp only [S_m_set, if_pos q_1]; exact hP) hS (by simp only [F_m_set, if_pos q_1]) (Or.inl rfl) dX3_set_29
  · refine lv_aload_n hx hb dX3_set_12 rfl (lv_at hl 0 rfl) ?_
    refine lv_iload_n hx hb dX3_set_13 rfl (lv_at hl 2 rfl) ?_
    refine kp_callVR (rm := rm_m_isPattern) (As := [.int y]) (rest := []) (r := some (.int (F_m_isPattern (mp_thrown c (0 : Int32)) y))) (st1 := [.int (F_m_isPattern (mp_thrown c (0 : Int32)) y)]) B (C_m_isPattern l D ty sz G Z hG (mp_thrown c (0 : Int32)) y) kt_m_isPattern kw_348 kw_349 kw_350 (km_rc B hP) (by decide) ⟨rfl, rfl⟩ (by decide) rfl (Nat.le_of_ble_eq_true rfl) hl.1 hP hS dX3_set_14 rfl ?_
    refine lv_if_eq (tgt := 28) hx hb dX3_set_17 (by decide) (fun q_2 => ?_) (fun q_2 => ?_)
    · refine lv_iconst (v := (0 : Int32)) hx hb dX3_set_28 (by decide) ?_
      exact kp_retz B (by simp only [S_m_set, if_neg q_1, if_pos q_2]; exact hP) hS (by simp only [F_m_set, if_neg q_1, if_pos q_2]) (Or.inl rfl) dX3_set_29
    · refine lv_aload_n hx hb dX3_set_20 rfl (lv_at hl 0 rfl) ?_
      refine lv_iload_n hx hb dX3_set_21 rfl (lv_at hl 3 rfl) ?_
      refine kp_callVR (rm := rm_m_isPattern) (As := [.int z]) (rest := []) (r := some (.int (F_m_isPattern (mp_thrown c (0 : Int32)) z))) (st1 := [.int (F_m_isPattern (mp_thrown c (0 : Int32)) z)]) B (C_m_isPattern l D ty sz G Z hG (mp_thrown c (0 : Int32)) z) kt_m_isPattern kw_348 kw_349 kw_350 (km_rc B hP) (by decide) ⟨rfl, rfl⟩ (by decide) rfl (Nat.le_of_ble_eq_true rfl) hl.1 hP hS dX3_set_22 rfl ?_
      refine lv_if_ne (tgt := 30) hx hb dX3_set_25 (by decide) (fun q_3 => ?_) (fun q_3 => ?_)
      · refine lv_aload_n hx hb dX3_set_30 rfl (lv_at hl 0 rfl) ?_
        refine lv_iload_n hx hb dX3_set_31 rfl (lv_at hl 2 rfl) ?_
        refine kp_callVR (rm := rm_m_number) (As := [.int y]) (rest := []) (r := some (.long (F_m_number (mp_thrown c (0 : Int32)) y))) (st1 := [.long (F_m_number (mp_thrown c (0 : Int32)) y)]) B (C_m_number l D ty sz G Z hG (mp_thrown c (0 : Int32)) y) kt_m_number kw_353 kw_354 kw_355 (km_rc B hP) (by decide) ⟨rfl, rfl⟩ (by decide) rfl (Nat.le_of_ble_eq_true rfl) hl.1 hP hS dX3_set_32 rfl ?_
        refine lv_lstore (lv' := [(4, .long (F_m_number (mp_thrown c (0 : Int32)) y)), (0, .ref (bM G)), (1, .int x), (2, .int y), (3, .int z)]) hx hb dX3_set_35 hl (by decide) rfl (fun ls hl => ?_)
        refine lv_aload_n hx hb dX3_set_37 rfl (lv_at hl 1 rfl) ?_
        refine lv_iload_n hx hb dX3_set_38 rfl (lv_at hl 4 rfl) ?_
        refine kp_callVR (rm := rm_m_number) (As := [.int z]) (rest := []) (r := some (.long (F_m_number (mp_thrown c (0 : Int32)) z))) (st1 := [.long (F_m_number (mp_thrown c (0 : Int32)) z)]) B (C_m_number l D ty sz G Z hG (mp_thrown c (0 : Int32)) z) kt_m_number kw_353 kw_354 kw_355 (km_rc B hP) (by decide) ⟨rfl, rfl⟩ (by decide) rfl (Nat.le_of_ble_eq_true rfl) hl.1 hP hS dX3_set_39 rfl ?_
        refine lv_lstore (lv' := [(6, .long (F_m_number (mp_thrown c (0 : Int32)) z)), (4, .long (F_m_number (mp_thrown c (0 : Int32)) y)), (0, .ref (bM G)), (1, .int x), (2, .int y), (3, .int z)]) hx hb dX3_set_42 hl (by decide) rfl (fun ls hl => ?_)
        refine lv_lload hx hb dX3_set_44 (lv_at hl 1 rfl) ?_
        refine lv_lload hx hb dX3_set_46 (lv_at hl 0 rfl) ?_
        refine kp_lgt (tgt := 70) hx hb dX3_set_48 dX3_set_49 (by decide) (fun q_4 => ?_) (fun q_4 => ?_)
        · refine lv_iconst (v := (0 : Int32)) hx hb dX3_set_70 (by decide) ?_
          exact kp_retz B (by simp only [S_m_set, if_neg q_1, if_neg q_2, if_neg q_3, if_pos q_4]; exact hP) hS (by simp only [F_m_set, if_neg q_1, if_neg q_2, if_neg q_3, if_pos q_4]) (Or.inl rfl) dX3_set_71
        · refine lv_lload hx hb dX3_set_52 (lv_at hl 1 rfl) ?_
          refine lv_ldc2 (v := mw_far) hx hb hown (hw _ kw_253 rfl) dX3_set_54 ?_
          refine kp_leq (tgt := 70) hx hb dX3_set_57 dX3_set_58 (by decide) (fun q_5 => ?_) (fun q_5 => ?_)
          · refine lv_iconst (v := (0 : Int32)) hx hb dX3_set_70 (by decide) ?_
            exact kp_retz B (by simp only [S_m_set, if_neg q_1, if_neg q_2, if_neg q_3, if_neg q_4, if_pos q_5]; exact hP) hS (by simp only [F_m_set, if_neg q_1, if_neg q_2, if_neg q_3, if_neg q_4, if_pos q_5]) (Or.inl rfl) dX3_set_71
          · refine lv_lload hx hb dX3_set_61 (lv_at hl 0 rfl) ?_
            refine lv_ldc2 (v := (-mw_far)) hx hb hown (hw _ kw_263 rfl) dX3_set_63 ?_
            refine kp_lne (tgt := 72) hx hb dX3_set_66 dX3_set_67 (by decide) (fun q_6 => ?_) (fun q_6 => ?_)
            · refine lv_aload_n hx hb dX3_set_72 rfl (lv_at hl 2 rfl) ?_
              refine km_get (j := 3) (v := .ref (bB G)) B hP rfl (by decide) kw_298 dX3_set_73 ?_
              refine lv_iload_n hx hb dX3_set_76 rfl (lv_at hl 3 rfl) ?_
              refine lv_iconst (v := (1 : Int32)) hx hb dX3_set_77 (by decide) ?_
              refine km_zast (i := x) (v := (1 : Int32)) (M' := B_m_set_1 c x y z) B hG hP hS (km_inP q_1) (Or.inr rfl) rfl dX3_set_78 (fun H locs hP hS => ?_)
              refine lv_aload_n hx hb dX3_set_79 rfl (lv_at hl 2 rfl) ?_
              refine km_get (j := 4) (v := .ref (bL G)) B hP rfl (by decide) kw_299 dX3_set_80 ?_
              refine lv_iload_n hx hb dX3_set_83 rfl (lv_at hl 3 rfl) ?_
              refine lv_lload hx hb dX3_set_84 (lv_at hl 1 rfl) ?_
              refine km_last (i := x) (v := F_m_number (mp_thrown c (0 : Int32)) y) (M' := B_m_set_2 c x y z) B hG hP hS (km_inP q_1) rfl dX3_set_86 (fun H locs hP hS => ?_)
              refine lv_aload_n hx hb dX3_set_87 rfl (lv_at hl 2 rfl) ?_
              refine km_get (j := 5) (v := .ref (bH G)) B hP rfl (by decide) kw_300 dX3_set_88 ?_
              refine lv_iload_n hx hb dX3_set_91 rfl (lv_at hl 3 rfl) ?_
              refine lv_lload hx hb dX3_set_92 (lv_at hl 0 rfl) ?_
              refine km_hast (i := x) (v := F_m_number (mp_thrown c (0 : Int32)) z) (M' := B_m_set_3 c x y z) B hG hP hS (km_inP q_1) rfl dX3_set_94 (fun H locs hP hS => ?_)
              refine lv_iconst (v := (1 : Int32)) hx hb dX3_set_95 (by decide) ?_
              exact kp_retz B (by simp only [S_m_set, if_neg q_1, if_neg q_2, if_neg q_3, if_neg q_4, if_neg q_5, if_neg q_6]; exact hP) hS (by simp only [F_m_set, if_neg q_1, if_neg q_2, if_neg q_3, if_neg q_4, if_neg q_5, if_neg q_6]) (Or.inr rfl) dX3_set_96
            · refine lv_iconst (v := (0 : Int32)) hx hb dX3_set_70 (by decide) ?_
              exact kp_retz B (by simp only [S_m_set, if_neg q_1, if_neg q_2, if_neg q_3, if_neg q_4, if_neg q_5, if_pos q_6]; exact hP) hS (by simp only [F_m_set, if_neg q_1, if_neg q_2, if_neg q_3, if_neg q_4, if_neg q_5, if_pos q_6]) (Or.inl rfl) dX3_set_71
      · refine lv_iconst (v := (0 : Int32)) hx hb dX3_set_28 (by decide) ?_
        exact kp_retz B (by simp only [S_m_set, if_neg q_1, if_neg q_2, if_pos q_3]; exact hP) hS (by simp only [F_m_set, if_neg q_1, if_neg q_2, if_pos q_3]) (Or.inl rfl) dX3_set_29
def B_m_clear_1 (c : mw_C) (x : Int32) : mw_C := mp_some (mp_thrown c (0 : Int32)) (va_up ((mp_thrown c (0 : Int32)).2.1.1) x.toNatClampNeg (z_t (0 : Int32)))
def F_m_clear (c : mw_C) (x : Int32) : Int32 :=
  if (F_m_isPlace x) = (0 : Int32) then (0 : Int32) else (1 : Int32)
def S_m_clear (c : mw_C) (x : Int32) : mw_C :=
  if (F_m_isPlace x) = (0 : Int32) then mp_thrown c (0 : Int32) else B_m_clear_1 c x
def rm_m_clear : Room := { frames := 1, cells := 0, slots := 0, locals := 20 }
set_option maxHeartbeats 4000000 in
set_option maxRecDepth 100000 in
theorem C_m_clear (l : Launch) (D : va_G) (ty : List (ClassId × FieldType)) (sz : Nat) (G : mw_G) (Z : va_W) (hG : mw_ok ty sz G Z) (c : mw_C) (x : Int32) : kp_M l yX3_clear cX3_clear 2 (some .boolean) rm_m_clear D ty sz [.ref (bM G), .int x] (mw_W G c Z) (some (.int (F_m_clear c x))) (mw_W G (S_m_clear c x) Z) := by
  refine kp_body (by decide) (Nat.le_of_ble_eq_true rfl) rfl ?_
  intro p e s m args below meth cd ls B hin hl hP hS
  obtain ⟨hx, hb, hml, hown, hlk, hr, hw, hE, hK, hsz⟩ := id B
  have hl : lv_has ls 2 [(0, .ref (bM G)), (1, .int x)] := hl
  refine lv_aload_n hx hb dX3_clear_0 rfl (lv_at hl 0 rfl) ?_
  refine lv_iconst (v := (0 : Int32)) hx hb dX3_clear_1 (by decide) ?_
  refine km_put0 (v := (0 : Int32)) (M' := mp_thrown c (0 : Int32)) B hG hP hS rfl kw_244 dX3_clear_2 (fun H locs hP hS => ?_)
  refine lv_iload_n hx hb dX3_clear_5 rfl (lv_at hl 1 rfl) ?_
  refine kp_callSR (rm := rm_m_isPlace) (As := [.int x]) (rest := []) (r := some (.int (F_m_isPlace x))) (st1 := [.int (F_m_isPlace x)]) B (C_m_isPlace l D ty sz G Z hG (mp_thrown c (0 : Int32)) x) kt_m_isPlace kw_316 kw_317 (by decide) ⟨rfl, rfl⟩ (by decide) rfl (Nat.le_of_ble_eq_true rfl) hl.1 hP hS dX3_clear_6 rfl ?_
  refine lv_if_ne (tgt := 14) hx hb dX3_clear_9 (by decide) (fun q_1 => ?_) (fun q_1 => ?_)
  · refine lv_aload_n hx hb dX3_clear_14 rfl (lv_at hl 0 rfl) ?_
    refine km_get (j := 3) (v := .ref (bB G)) B hP rfl (by decide) kw_298 dX3_clear_15 ?_
    refine lv_iload_n hx hb dX3_clear_18 rfl (lv_at hl 1 rfl) ?_
    refine lv_iconst (v := (0 : Int32)) hx hb dX3_clear_19 (by decide) ?_
    refine km_zast (i := x) (v := (0 : Int32)) (M' := B_m_clear_1 c x) B hG hP hS (km_inP q_1) (Or.inl rfl) rfl dX3_clear_20 (fun H locs hP hS => ?_)
    refine lv_iconst (v := (1 : Int32)) hx hb dX3_clear_21 (by decide) ?_
    exact kp_retz B (by simp only [S_m_clear, if_neg q_1]; exact hP) hS (by simp only [F_m_clear, if_neg q_1]) (Or.inr rfl) dX3_clear_22
  · refine lv_iconst (v := (0 : Int32)) hx hb dX3_clear_12 (by decide) ?_
    exact kp_retz B (by simp only [S_m_clear, if_pos q_1]; exact hP) hS (by simp only [F_m_clear, if_pos q_1]) (Or.inl rfl) dX3_clear_13
def B_m_does_1 (c : mw_C) (x : Int32) (y : Int32) (z : Int32) (v : Int32) : mw_C := S_m_keep (S_m_alone (mp_thrown c (0 : Int32)) x z) y
def B_m_does_2 (c : mw_C) (x : Int32) (y : Int32) (z : Int32) (v : Int32) : mw_C := S_m_keep (S_m_two (mp_thrown c (0 : Int32)) x z v) y
def B_m_does_3 (c : mw_C) (x : Int32) (y : Int32) (z : Int32) (v : Int32) : mw_C := S_m_keep (S_m_divide (mp_thrown c (0 : Int32)) z v) y
def F_m_does (c : mw_C) (x : Int32) (y : Int32) (z : Int32) (v : Int32) : Int32 :=
  if x < (0 : Int32) then F_m_raise c (1 : Int32) else (if (11 : Int32) < x then F_m_raise c (1 : Int32) else (if (F_m_isPlace y) = (0 : Int32) then F_m_raise c (1 : Int32) else (if (F_m_isPlace z) = (0 : Int32) then F_m_raise c (1 : Int32) else (if (8 : Int32) ≤ x then F_m_keep (S_m_alone (mp_thrown c (0 : Int32)) x z) y else (if (F_m_isPlace v) = (0 : Int32) then F_m_raise c (1 : Int32) else (if x = (3 : Int32) then F_m_keep (S_m_divide (mp_thrown c (0 : Int32)) z v) y else F_m_keep (S_m_two (mp_thrown c (0 : Int32)) x z v) y))))))
def S_m_does (c : mw_C) (x : Int32) (y : Int32) (z : Int32) (v : Int32) : mw_C :=
  if x < (0 : Int32) then S_m_raise c (1 : Int32) else (if (11 : Int32) < x then S_m_raise c (1 : Int32) else (if (F_m_isPlace y) = (0 : Int32) then S_m_raise c (1 : Int32) else (if (F_m_isPlace z) = (0 : Int32) then S_m_raise c (1 : Int32) else (if (8 : Int32) ≤ x then B_m_does_1 c x y z v else (if (F_m_isPlace v) = (0 : Int32) then S_m_raise c (1 : Int32) else (if x = (3 : Int32) then B_m_does_3 c x y z v else B_m_does_2 c x y z v))))))
def rm_m_does : Room := { frames := 5, cells := 0, slots := 0, locals := 147 }
set_option maxHeartbeats 4000000 in
set_option maxRecDepth 100000 in
theorem C_m_does (l : Launch) (D : va_G) (ty : List (ClassId × FieldType)) (sz : Nat) (G : mw_G) (Z : va_W) (hG : mw_ok ty sz G Z) (c : mw_C) (x : Int32) (y : Int32) (z : Int32) (v : Int32) : kp_M l yX3_does cX3_does 5 (some .int) rm_m_does D ty sz [.ref (bM G), .int x, .int y, .int z, .int v] (mw_W G c Z) (some (.int (F_m_does c x y z v))) (mw_W G (S_m_does c x y z v) Z) := by
  refine kp_body (by decide) (Nat.le_of_ble_eq_true rfl) rfl ?_
  intro p e s m args below meth cd ls B hin hl hP hS
  obtain ⟨hx, hb, hml, hown, hlk, hr, hw, hE, hK, hsz⟩ := id B
  have hl : lv_has ls 5 [(0, .ref (bM G)), (1, .int x), (2, .int y), (3, .int z), (4, .int v)] := hl
  refine lv_iload_n hx hb dX3_does_0 rfl (lv_at hl 1 rfl) ?_
  refine lv_if_lt (tgt := 38) hx hb dX3_does_1 (by decide) (fun q_1 => ?_) (fun q_1 => ?_)
  · refine lv_aload_n hx hb dX3_does_38 rfl (lv_at hl 0 rfl) ?_
    refine lv_iconst (v := (1 : Int32)) hx hb dX3_does_39 (by decide) ?_
    refine kp_callV (rm := rm_m_raise) (As := [.int (1 : Int32)]) (rest := []) (r := some (.int (F_m_raise c (1 : Int32)))) (st1 := [.int (F_m_raise c (1 : Int32))]) (ws' := mw_W G (S_m_raise c (1 : Int32)) Z) B (C_m_raise l D ty sz G Z hG c (1 : Int32)) kt_m_raise kw_358 kw_359 kw_360 (km_rc B hP) (by decide) rfl rfl (by decide) rfl (Nat.le_of_ble_eq_true rfl) hl.1 hP hS dX3_does_40 rfl (fun H locs hP hS => ?_)
    exact kp_reti B (by simp only [S_m_does, if_pos q_1]; exact hP) hS (by simp only [F_m_does, if_pos q_1]) dX3_does_43
  · refine lv_iload_n hx hb dX3_does_4 rfl (lv_at hl 1 rfl) ?_
    refine lv_bipush (v := (11 : Int32)) hx hb dX3_does_5 (by decide) ?_
    refine lv_icmp_gt (tgt := 38) hx hb dX3_does_7 (by decide) (fun q_2 => ?_) (fun q_2 => ?_)
    · refine lv_aload_n hx hb dX3_does_38 rfl (lv_at hl 0 rfl) ?_
      refine lv_iconst (v := (1 : Int32)) hx hb dX3_does_39 (by decide) ?_
      refine kp_callV (rm := rm_m_raise) (As := [.int (1 : Int32)]) (rest := []) (r := some (.int (F_m_raise c (1 : Int32)))) (st1 := [.int (F_m_raise c (1 : Int32))]) (ws' := mw_W G (S_m_raise c (1 : Int32)) Z) B (C_m_raise l D ty sz G Z hG c (1 : Int32)) kt_m_raise kw_358 kw_359 kw_360 (km_rc B hP) (by decide) rfl rfl (by decide) rfl (Nat.le_of_ble_eq_true rfl) hl.1 hP hS dX3_does_40 rfl (fun H locs hP hS => ?_)
      exact kp_reti B (by simp only [S_m_does, if_neg q_1, if_pos q_2]; exact hP) hS (by simp only [F_m_does, if_neg q_1, if_pos q_2]) dX3_does_43
    · refine lv_iload_n hx hb dX3_does_10 rfl (lv_at hl 2 rfl) ?_
      refine kp_callSR (rm := rm_m_isPlace) (As := [.int y]) (rest := []) (r := some (.int (F_m_isPlace y))) (st1 := [.int (F_m_isPlace y)]) B (C_m_isPlace l D ty sz G Z hG c y) kt_m_isPlace kw_316 kw_317 (by decide) ⟨rfl, rfl⟩ (by decide) rfl (Nat.le_of_ble_eq_true rfl) hl.1 hP hS dX3_does_11 rfl ?_
      refine lv_if_eq (tgt := 38) hx hb dX3_does_14 (by decide) (fun q_3 => ?_) (fun q_3 => ?_)
      · refine lv_aload_n hx hb dX3_does_38 rfl (lv_at hl 0 rfl) ?_
        refine lv_iconst (v := (1 : Int32)) hx hb dX3_does_39 (by decide) ?_
        refine kp_callV (rm := rm_m_raise) (As := [.int (1 : Int32)]) (rest := []) (r := some (.int (F_m_raise c (1 : Int32)))) (st1 := [.int (F_m_raise c (1 : Int32))]) (ws' := mw_W G (S_m_raise c (1 : Int32)) Z) B (C_m_raise l D ty sz G Z hG c (1 : Int32)) kt_m_raise kw_358 kw_359 kw_360 (km_rc B hP) (by decide) rfl rfl (by decide) rfl (Nat.le_of_ble_eq_true rfl) hl.1 hP hS dX3_does_40 rfl (fun H locs hP hS => ?_)
        exact kp_reti B (by simp only [S_m_does, if_neg q_1, if_neg q_2, if_pos q_3]; exact hP) hS (by simp only [F_m_does, if_neg q_1, if_neg q_2, if_pos q_3]) dX3_does_43
      · refine lv_iload_n hx hb dX3_does_17 rfl (lv_at hl 3 rfl) ?_
        refine kp_callSR (rm := rm_m_isPlace) (As := [.int z]) (rest := []) (r := some (.int (F_m_isPlace z))) (st1 := [.int (F_m_isPlace z)]) B (C_m_isPlace l D ty sz G Z hG c z) kt_m_isPlace kw_316 kw_317 (by decide) ⟨rfl, rfl⟩ (by decide) rfl (Nat.le_of_ble_eq_true rfl) hl.1 hP hS dX3_does_18 rfl ?_
        refine lv_if_eq (tgt := 38) hx hb dX3_does_21 (by decide) (fun q_4 => ?_) (fun q_4 => ?_)
        · refine lv_aload_n hx hb dX3_does_38 rfl (lv_at hl 0 rfl) ?_
          refine lv_iconst (v := (1 : Int32)) hx hb dX3_does_39 (by decide) ?_
          refine kp_callV (rm := rm_m_raise) (As := [.int (1 : Int32)]) (rest := []) (r := some (.int (F_m_raise c (1 : Int32)))) (st1 := [.int (F_m_raise c (1 : Int32))]) (ws' := mw_W G (S_m_raise c (1 : Int32)) Z) B (C_m_raise l D ty sz G Z hG c (1 : Int32)) kt_m_raise kw_358 kw_359 kw_360 (km_rc B hP) (by decide) rfl rfl (by decide) rfl (Nat.le_of_ble_eq_true rfl) hl.1 hP hS dX3_does_40 rfl (fun H locs hP hS => ?_)
          exact kp_reti B (by simp only [S_m_does, if_neg q_1, if_neg q_2, if_neg q_3, if_pos q_4]; exact hP) hS (by simp only [F_m_does, if_neg q_1, if_neg q_2, if_neg q_3, if_pos q_4]) dX3_does_43
        · refine lv_iload_n hx hb dX3_does_24 rfl (lv_at hl 1 rfl) ?_
          refine lv_bipush (v := (8 : Int32)) hx hb dX3_does_25 (by decide) ?_
          refine lv_icmp_ge (tgt := 44) hx hb dX3_does_27 (by decide) (fun q_5 => ?_) (fun q_5 => ?_)
          · refine lv_aload_n hx hb dX3_does_44 rfl (lv_at hl 0 rfl) ?_
            refine lv_iconst (v := (0 : Int32)) hx hb dX3_does_45 (by decide) ?_
            refine km_put0 (v := (0 : Int32)) (M' := mp_thrown c (0 : Int32)) B hG hP hS rfl kw_244 dX3_does_46 (fun H locs hP hS => ?_)
            refine lv_iload_n hx hb dX3_does_49 rfl (lv_at hl 1 rfl) ?_
            refine lv_bipush (v := (7 : Int32)) hx hb dX3_does_50 (by decide) ?_
            refine lv_icmp_le (tgt := 64) hx hb dX3_does_52 (by decide) (fun q_6 => ?_) (fun q_6 => ?_)
            · exact absurd q_6 (km_87a q_5)
            · refine lv_aload_n hx hb dX3_does_55 rfl (lv_at hl 0 rfl) ?_
              refine lv_iload_n hx hb dX3_does_56 rfl (lv_at hl 1 rfl) ?_
              refine lv_iload_n hx hb dX3_does_57 rfl (lv_at hl 3 rfl) ?_
              refine kp_callV (rm := rm_m_alone) (As := [.int x, .int z]) (rest := []) (r := none) (st1 := []) (ws' := mw_W G (S_m_alone (mp_thrown c (0 : Int32)) x z) Z) B (C_m_alone l D ty sz G Z hG (mp_thrown c (0 : Int32)) x z (km_inP q_4)) kt_m_alone kw_363 kw_364 kw_365 (km_rc B hP) (by decide) rfl rfl (by decide) rfl (Nat.le_of_ble_eq_true rfl) hl.1 hP hS dX3_does_58 rfl (fun H locs hP hS => ?_)
              refine lv_goto (tgt := 87) hx hb dX3_does_61 (by decide) ?_
              refine lv_aload_n hx hb dX3_does_87 rfl (lv_at hl 0 rfl) ?_
              refine lv_iload_n hx hb dX3_does_88 rfl (lv_at hl 2 rfl) ?_
              refine kp_callV (rm := rm_m_keep) (As := [.int y]) (rest := []) (r := some (.int (F_m_keep (S_m_alone (mp_thrown c (0 : Int32)) x z) y))) (st1 := [.int (F_m_keep (S_m_alone (mp_thrown c (0 : Int32)) x z) y)]) (ws' := mw_W G (S_m_keep (S_m_alone (mp_thrown c (0 : Int32)) x z) y) Z) B (C_m_keep l D ty sz G Z hG (S_m_alone (mp_thrown c (0 : Int32)) x z) y (km_inP q_3)) kt_m_keep kw_368 kw_369 kw_370 (km_rc B hP) (by decide) rfl rfl (by decide) rfl (Nat.le_of_ble_eq_true rfl) hl.1 hP hS dX3_does_89 rfl (fun H locs hP hS => ?_)
              have hP : va_P D vwCl (mw_W G (B_m_does_1 c x y z v) Z) H := hP
              exact kp_reti B (by simp only [S_m_does, if_neg q_1, if_neg q_2, if_neg q_3, if_neg q_4, if_pos q_5]; exact hP) hS (by simp only [F_m_does, if_neg q_1, if_neg q_2, if_neg q_3, if_neg q_4, if_pos q_5]) dX3_does_92
          · refine lv_iload hx hb dX3_does_30 (lv_at hl 4 rfl) ?_
            refine kp_callSR (rm := rm_m_isPlace) (As := [.int v]) (rest := []) (r := some (.int (F_m_isPlace v))) (st1 := [.int (F_m_isPlace v)]) B (C_m_isPlace l D ty sz G Z hG c v) kt_m_isPlace kw_316 kw_317 (by decide) ⟨rfl, rfl⟩ (by decide) rfl (Nat.le_of_ble_eq_true rfl) hl.1 hP hS dX3_does_32 rfl ?_
            refine lv_if_ne (tgt := 44) hx hb dX3_does_35 (by decide) (fun q_7 => ?_) (fun q_7 => ?_)
            · refine lv_aload_n hx hb dX3_does_44 rfl (lv_at hl 0 rfl) ?_
              refine lv_iconst (v := (0 : Int32)) hx hb dX3_does_45 (by decide) ?_
              refine km_put0 (v := (0 : Int32)) (M' := mp_thrown c (0 : Int32)) B hG hP hS rfl kw_244 dX3_does_46 (fun H locs hP hS => ?_)
              refine lv_iload_n hx hb dX3_does_49 rfl (lv_at hl 1 rfl) ?_
              refine lv_bipush (v := (7 : Int32)) hx hb dX3_does_50 (by decide) ?_
              refine lv_icmp_le (tgt := 64) hx hb dX3_does_52 (by decide) (fun q_8 => ?_) (fun q_8 => ?_)
              · refine lv_iload_n hx hb dX3_does_64 rfl (lv_at hl 1 rfl) ?_
                refine lv_iconst (v := (3 : Int32)) hx hb dX3_does_65 (by decide) ?_
                refine lv_icmp_ne (tgt := 79) hx hb dX3_does_66 (by decide) (fun q_9 => ?_) (fun q_9 => ?_)
                · refine lv_aload_n hx hb dX3_does_79 rfl (lv_at hl 0 rfl) ?_
                  refine lv_iload_n hx hb dX3_does_80 rfl (lv_at hl 1 rfl) ?_
                  refine lv_iload_n hx hb dX3_does_81 rfl (lv_at hl 3 rfl) ?_
                  refine lv_iload hx hb dX3_does_82 (lv_at hl 4 rfl) ?_
                  refine kp_callV (rm := rm_m_two) (As := [.int x, .int z, .int v]) (rest := []) (r := none) (st1 := []) (ws' := mw_W G (S_m_two (mp_thrown c (0 : Int32)) x z v) Z) B (C_m_two l D ty sz G Z hG (mp_thrown c (0 : Int32)) x z v (km_inP q_4) (km_inP q_7)) kt_m_two kw_373 kw_374 kw_375 (km_rc B hP) (by decide) rfl rfl (by decide) rfl (Nat.le_of_ble_eq_true rfl) hl.1 hP hS dX3_does_84 rfl (fun H locs hP hS => ?_)
                  refine lv_aload_n hx hb dX3_does_87 rfl (lv_at hl 0 rfl) ?_
                  refine lv_iload_n hx hb dX3_does_88 rfl (lv_at hl 2 rfl) ?_
                  refine kp_callV (rm := rm_m_keep) (As := [.int y]) (rest := []) (r := some (.int (F_m_keep (S_m_two (mp_thrown c (0 : Int32)) x z v) y))) (st1 := [.int (F_m_keep (S_m_two (mp_thrown c (0 : Int32)) x z v) y)]) (ws' := mw_W G (S_m_keep (S_m_two (mp_thrown c (0 : Int32)) x z v) y) Z) B (C_m_keep l D ty sz G Z hG (S_m_two (mp_thrown c (0 : Int32)) x z v) y (km_inP q_3)) kt_m_keep kw_368 kw_369 kw_370 (km_rc B hP) (by decide) rfl rfl (by decide) rfl (Nat.le_of_ble_eq_true rfl) hl.1 hP hS dX3_does_89 rfl (fun H locs hP hS => ?_)
                  have hP : va_P D vwCl (mw_W G (B_m_does_2 c x y z v) Z) H := hP
                  exact kp_reti B (by simp only [S_m_does, if_neg q_1, if_neg q_2, if_neg q_3, if_neg q_4, if_neg q_5, if_neg q_7, if_neg q_9]; exact hP) hS (by simp only [F_m_does, if_neg q_1, if_neg q_2, if_neg q_3, if_neg q_4, if_neg q_5, if_neg q_7, if_neg q_9]) dX3_does_92
                · refine lv_aload_n hx hb dX3_does_69 rfl (lv_at hl 0 rfl) ?_
                  refine lv_iload_n hx hb dX3_does_70 rfl (lv_at hl 3 rfl) ?_
                  refine lv_iload hx hb dX3_does_71 (lv_at hl 4 rfl) ?_
                  refine kp_callV (rm := rm_m_divide) (As := [.int z, .int v]) (rest := []) (r := none) (st1 := []) (ws' := mw_W G (S_m_divide (mp_thrown c (0 : Int32)) z v) Z) B (C_m_divide l D ty sz G Z hG (mp_thrown c (0 : Int32)) z v (km_inP q_4) (km_inP q_7)) kt_m_divide kw_378 kw_379 kw_380 (km_rc B hP) (by decide) rfl rfl (by decide) rfl (Nat.le_of_ble_eq_true rfl) hl.1 hP hS dX3_does_73 rfl (fun H locs hP hS => ?_)
                  refine lv_goto (tgt := 87) hx hb dX3_does_76 (by decide) ?_
                  refine lv_aload_n hx hb dX3_does_87 rfl (lv_at hl 0 rfl) ?_
                  refine lv_iload_n hx hb dX3_does_88 rfl (lv_at hl 2 rfl) ?_
                  refine kp_callV (rm := rm_m_keep) (As := [.int y]) (rest := []) (r := some (.int (F_m_keep (S_m_divide (mp_thrown c (0 : Int32)) z v) y))) (st1 := [.int (F_m_keep (S_m_divide (mp_thrown c (0 : Int32)) z v) y)]) (ws' := mw_W G (S_m_keep (S_m_divide (mp_thrown c (0 : Int32)) z v) y) Z) B (C_m_keep l D ty sz G Z hG (S_m_divide (mp_thrown c (0 : Int32)) z v) y (km_inP q_3)) kt_m_keep kw_368 kw_369 kw_370 (km_rc B hP) (by decide) rfl rfl (by decide) rfl (Nat.le_of_ble_eq_true rfl) hl.1 hP hS dX3_does_89 rfl (fun H locs hP hS => ?_)
                  have hP : va_P D vwCl (mw_W G (B_m_does_3 c x y z v) Z) H := hP
                  exact kp_reti B (by simp only [S_m_does, if_neg q_1, if_neg q_2, if_neg q_3, if_neg q_4, if_neg q_5, if_neg q_7, if_pos q_9]; exact hP) hS (by simp only [F_m_does, if_neg q_1, if_neg q_2, if_neg q_3, if_neg q_4, if_neg q_5, if_neg q_7, if_pos q_9]) dX3_does_92
              · exact absurd (km_87b q_5) q_8
            · refine lv_aload_n hx hb dX3_does_38 rfl (lv_at hl 0 rfl) ?_
              refine lv_iconst (v := (1 : Int32)) hx hb dX3_does_39 (by decide) ?_
              refine kp_callV (rm := rm_m_raise) (As := [.int (1 : Int32)]) (rest := []) (r := some (.int (F_m_raise c (1 : Int32)))) (st1 := [.int (F_m_raise c (1 : Int32))]) (ws' := mw_W G (S_m_raise c (1 : Int32)) Z) B (C_m_raise l D ty sz G Z hG c (1 : Int32)) kt_m_raise kw_358 kw_359 kw_360 (km_rc B hP) (by decide) rfl rfl (by decide) rfl (Nat.le_of_ble_eq_true rfl) hl.1 hP hS dX3_does_40 rfl (fun H locs hP hS => ?_)
              exact kp_reti B (by simp only [S_m_does, if_neg q_1, if_neg q_2, if_neg q_3, if_neg q_4, if_neg q_5, if_pos q_7]; exact hP) hS (by simp only [F_m_does, if_neg q_1, if_neg q_2, if_neg q_3, if_neg q_4, if_neg q_5, if_pos q_7]) dX3_does_43
def I_m_part_1 (c : mw_C) (x : Int32) (y : Int32) (z : Int32) : Int32 := if (z_i (((mp_thrown c (0 : Int32)).2.1.1) y.toNatClampNeg)) = (0 : Int32) then (0 : Int32) else (if (z_i (((mp_thrown c (0 : Int32)).2.1.1) z.toNatClampNeg)) = (0 : Int32) then (0 : Int32) else (1 : Int32))
def A_m_part_2 (c : mw_C) (x : Int32) (y : Int32) (z : Int32) : Int64 := ((mp_thrown c (0 : Int32)).2.1.2.1) y.toNatClampNeg
def A_m_part_3 (c : mw_C) (x : Int32) (y : Int32) (z : Int32) : Int64 := ((mp_thrown c (0 : Int32)).2.1.2.2) y.toNatClampNeg
def A_m_part_4 (c : mw_C) (x : Int32) (y : Int32) (z : Int32) : Int64 := ((mp_thrown c (0 : Int32)).2.1.2.1) z.toNatClampNeg
def A_m_part_5 (c : mw_C) (x : Int32) (y : Int32) (z : Int32) : Int64 := ((mp_thrown c (0 : Int32)).2.1.2.2) z.toNatClampNeg
def B_m_part_6 (c : mw_C) (x : Int32) (y : Int32) (z : Int32) : mw_C := S_m_ratio (mp_thrown c (0 : Int32)) (A_m_part_2 c x y z) (A_m_part_3 c x y z) (A_m_part_4 c x y z) (A_m_part_5 c x y z)
def B_m_part_7 (c : mw_C) (x : Int32) (y : Int32) (z : Int32) : mw_C := mp_is (B_m_part_6 c x y z) (z_t (if (I_m_part_1 c x y z) = (0 : Int32) then (0 : Int32) else (if (z_i ((B_m_part_6 c x y z).2.2.2.1)) = (0 : Int32) then (0 : Int32) else (1 : Int32))))
def B_m_part_8 (c : mw_C) (x : Int32) (y : Int32) (z : Int32) : mw_C := mp_from (B_m_part_7 c x y z) ((B_m_part_7 c x y z).2.2.2.2.1)
def B_m_part_9 (c : mw_C) (x : Int32) (y : Int32) (z : Int32) : mw_C := mp_to (B_m_part_8 c x y z) ((B_m_part_8 c x y z).2.2.2.2.2)
def B_m_part_10 (c : mw_C) (x : Int32) (y : Int32) (z : Int32) : mw_C := S_m_ratio (S_m_keep (B_m_part_9 c x y z) x) (-(A_m_part_3 c x y z)) (-(A_m_part_2 c x y z)) (-(A_m_part_5 c x y z)) (-(A_m_part_4 c x y z))
def B_m_part_11 (c : mw_C) (x : Int32) (y : Int32) (z : Int32) : mw_C := mp_is (B_m_part_10 c x y z) (z_t (if (I_m_part_1 c x y z) = (0 : Int32) then (0 : Int32) else (if (z_i ((B_m_part_10 c x y z).2.2.2.1)) = (0 : Int32) then (0 : Int32) else (1 : Int32))))
def B_m_part_12 (c : mw_C) (x : Int32) (y : Int32) (z : Int32) : mw_C := mp_from (B_m_part_11 c x y z) ((B_m_part_11 c x y z).2.2.2.2.1)
def B_m_part_13 (c : mw_C) (x : Int32) (y : Int32) (z : Int32) : mw_C := mp_to (B_m_part_12 c x y z) ((B_m_part_12 c x y z).2.2.2.2.2)
def F_m_part (c : mw_C) (x : Int32) (y : Int32) (z : Int32) : Int32 :=
  if (F_m_isPlace x) = (0 : Int32) then F_m_raise c (1 : Int32) else (if (F_m_isPlace (x + (1 : Int32))) = (0 : Int32) then F_m_raise c (1 : Int32) else (if (F_m_isPlace y) = (0 : Int32) then F_m_raise c (1 : Int32) else (if (F_m_isPlace z) = (0 : Int32) then F_m_raise c (1 : Int32) else (F_m_keep (B_m_part_9 c x y z) x) + ((8 : Int32) * (F_m_keep (B_m_part_13 c x y z) (x + (1 : Int32)))))))
def S_m_part (c : mw_C) (x : Int32) (y : Int32) (z : Int32) : mw_C :=
  if (F_m_isPlace x) = (0 : Int32) then S_m_raise c (1 : Int32) else (if (F_m_isPlace (x + (1 : Int32))) = (0 : Int32) then S_m_raise c (1 : Int32) else (if (F_m_isPlace y) = (0 : Int32) then S_m_raise c (1 : Int32) else (if (F_m_isPlace z) = (0 : Int32) then S_m_raise c (1 : Int32) else S_m_keep (B_m_part_13 c x y z) (x + (1 : Int32)))))
def rm_m_part : Room := { frames := 4, cells := 0, slots := 0, locals := 108 }
set_option maxHeartbeats 4000000 in
set_option maxRecDepth 100000 in
theorem C_m_part (l : Launch) (D : va_G) (ty : List (ClassId × FieldType)) (sz : Nat) (G : mw_G) (Z : va_W) (hG : mw_ok ty sz G Z) (c : mw_C) (x : Int32) (y : Int32) (z : Int32) : kp_M l yX3_part cX3_part 14 (some .int) rm_m_part D ty sz [.ref (bM G), .int x, .int y, .int z] (mw_W G c Z) (some (.int (F_m_part c x y z))) (mw_W G (S_m_part c x y z) Z) := by
  refine kp_body (by decide) (Nat.le_of_ble_eq_true rfl) rfl ?_
  intro p e s m args below meth cd ls B hin hl hP hS
  obtain ⟨hx, hb, hml, hown, hlk, hr, hw, hE, hK, hsz⟩ := id B
  have hl : lv_has ls 14 [(0, .ref (bM G)), (1, .int x), (2, .int y), (3, .int z)] := hl
  refine lv_iload_n hx hb dX3_part_0 rfl (lv_at hl 1 rfl) ?_
  refine kp_callSR (rm := rm_m_isPlace) (As := [.int x]) (rest := []) (r := some (.int (F_m_isPlace x))) (st1 := [.int (F_m_isPlace x)]) B (C_m_isPlace l D ty sz G Z hG c x) kt_m_isPlace kw_316 kw_317 (by decide) ⟨rfl, rfl⟩ (by decide) rfl (Nat.le_of_ble_eq_true rfl) hl.1 hP hS dX3_part_1 rfl ?_
  refine lv_if_eq (tgt := 30) hx hb dX3_part_4 (by decide) (fun q_1 => ?_) (fun q_1 => ?_)
  · refine lv_aload_n hx hb dX3_part_30 rfl (lv_at hl 0 rfl) ?_
    refine lv_iconst (v := (1 : Int32)) hx hb dX3_part_31 (by decide) ?_
    refine kp_callV (rm := rm_m_raise) (As := [.int (1 : Int32)]) (rest := []) (r := some (.int (F_m_raise c (1 : Int32)))) (st1 := [.int (F_m_raise c (1 : Int32))]) (ws' := mw_W G (S_m_raise c (1 : Int32)) Z) B (C_m_raise l D ty sz G Z hG c (1 : Int32)) kt_m_raise kw_358 kw_359 kw_360 (km_rc B hP) (by decide) rfl rfl (by decide) rfl (Nat.le_of_ble_eq_true rfl) hl.1 hP hS dX3_part_32 rfl (fun H locs hP hS => ?_)
    exact kp_reti B (by simp only [S_m_part, if_pos q_1]; exact hP) hS (by simp only [F_m_part, if_pos q_1]) dX3_part_35
  · refine lv_iload_n hx hb dX3_part_7 rfl (lv_at hl 1 rfl) ?_
    refine lv_iconst (v := (1 : Int32)) hx hb dX3_part_8 (by decide) ?_
    refine lv_iadd hx hb dX3_part_9 ?_
    refine kp_callSR (rm := rm_m_isPlace) (As := [.int (x + (1 : Int32))]) (rest := []) (r := some (.int (F_m_isPlace (x + (1 : Int32))))) (st1 := [.int (F_m_isPlace (x + (1 : Int32)))]) B (C_m_isPlace l D ty sz G Z hG c (x + (1 : Int32))) kt_m_isPlace kw_316 kw_317 (by decide) ⟨rfl, rfl⟩ (by decide) rfl (Nat.le_of_ble_eq_true rfl) hl.1 hP hS dX3_part_10 rfl ?_
    refine lv_if_eq (tgt := 30) hx hb dX3_part_13 (by decide) (fun q_2 => ?_) (fun q_2 => ?_)
    · refine lv_aload_n hx hb dX3_part_30 rfl (lv_at hl 0 rfl) ?_
      refine lv_iconst (v := (1 : Int32)) hx hb dX3_part_31 (by decide) ?_
      refine kp_callV (rm := rm_m_raise) (As := [.int (1 : Int32)]) (rest := []) (r := some (.int (F_m_raise c (1 : Int32)))) (st1 := [.int (F_m_raise c (1 : Int32))]) (ws' := mw_W G (S_m_raise c (1 : Int32)) Z) B (C_m_raise l D ty sz G Z hG c (1 : Int32)) kt_m_raise kw_358 kw_359 kw_360 (km_rc B hP) (by decide) rfl rfl (by decide) rfl (Nat.le_of_ble_eq_true rfl) hl.1 hP hS dX3_part_32 rfl (fun H locs hP hS => ?_)
      exact kp_reti B (by simp only [S_m_part, if_neg q_1, if_pos q_2]; exact hP) hS (by simp only [F_m_part, if_neg q_1, if_pos q_2]) dX3_part_35
    · refine lv_iload_n hx hb dX3_part_16 rfl (lv_at hl 2 rfl) ?_
      refine kp_callSR (rm := rm_m_isPlace) (As := [.int y]) (rest := []) (r := some (.int (F_m_isPlace y))) (st1 := [.int (F_m_isPlace y)]) B (C_m_isPlace l D ty sz G Z hG c y) kt_m_isPlace kw_316 kw_317 (by decide) ⟨rfl, rfl⟩ (by decide) rfl (Nat.le_of_ble_eq_true rfl) hl.1 hP hS dX3_part_17 rfl ?_
      refine lv_if_eq (tgt := 30) hx hb dX3_part_20 (by decide) (fun q_3 => ?_) (fun q_3 => ?_)
      · refine lv_aload_n hx hb dX3_part_30 rfl (lv_at hl 0 rfl) ?_
        refine lv_iconst (v := (1 : Int32)) hx hb dX3_part_31 (by decide) ?_
        refine kp_callV (rm := rm_m_raise) (As := [.int (1 : Int32)]) (rest := []) (r := some (.int (F_m_raise c (1 : Int32)))) (st1 := [.int (F_m_raise c (1 : Int32))]) (ws' := mw_W G (S_m_raise c (1 : Int32)) Z) B (C_m_raise l D ty sz G Z hG c (1 : Int32)) kt_m_raise kw_358 kw_359 kw_360 (km_rc B hP) (by decide) rfl rfl (by decide) rfl (Nat.le_of_ble_eq_true rfl) hl.1 hP hS dX3_part_32 rfl (fun H locs hP hS => ?_)
        exact kp_reti B (by simp only [S_m_part, if_neg q_1, if_neg q_2, if_pos q_3]; exact hP) hS (by simp only [F_m_part, if_neg q_1, if_neg q_2, if_pos q_3]) dX3_part_35
      · refine lv_iload_n hx hb dX3_part_23 rfl (lv_at hl 3 rfl) ?_
        refine kp_callSR (rm := rm_m_isPlace) (As := [.int z]) (rest := []) (r := some (.int (F_m_isPlace z))) (st1 := [.int (F_m_isPlace z)]) B (C_m_isPlace l D ty sz G Z hG c z) kt_m_isPlace kw_316 kw_317 (by decide) ⟨rfl, rfl⟩ (by decide) rfl (Nat.le_of_ble_eq_true rfl) hl.1 hP hS dX3_part_24 rfl ?_
        refine lv_if_ne (tgt := 36) hx hb dX3_part_27 (by decide) (fun q_4 => ?_) (fun q_4 => ?_)
        · refine lv_aload_n hx hb dX3_part_36 rfl (lv_at hl 0 rfl) ?_
          refine lv_iconst (v := (0 : Int32)) hx hb dX3_part_37 (by decide) ?_
          refine km_put0 (v := (0 : Int32)) (M' := mp_thrown c (0 : Int32)) B hG hP hS rfl kw_244 dX3_part_38 (fun H locs hP hS => ?_)
          refine lv_aload_n hx hb dX3_part_41 rfl (lv_at hl 0 rfl) ?_
          refine km_get (j := 3) (v := .ref (bB G)) B hP rfl (by decide) kw_298 dX3_part_42 ?_
          refine lv_iload_n hx hb dX3_part_45 rfl (lv_at hl 2 rfl) ?_
          refine km_zald (i := y) (v := z_i (((mp_thrown c (0 : Int32)).2.1.1) y.toNatClampNeg)) B hG hP (km_inP q_3) rfl dX3_part_46 ?_
          have hJ64 : W p l e rm_m_part s m args below meth cd H locs 0 0 (MQ below (kp_Q D sz (some (.int (F_m_part c x y z))) (mw_W G (S_m_part c x y z) Z)) args s rm_m_part.cells rm_m_part.slots (kp_A sz)) (F0 m 64 ls [.int (if (z_i (((mp_thrown c (0 : Int32)).2.1.1) y.toNatClampNeg)) = (0 : Int32) then (0 : Int32) else (if (z_i (((mp_thrown c (0 : Int32)).2.1.1) z.toNatClampNeg)) = (0 : Int32) then (0 : Int32) else (1 : Int32)))]) := by
            refine W.eq (g2 := F0 m 64 ls [.int (I_m_part_1 c x y z)]) rfl ?_
            refine lv_istore (lv' := [(4, .int (I_m_part_1 c x y z)), (0, .ref (bM G)), (1, .int x), (2, .int y), (3, .int z)]) hx hb dX3_part_64 hl (by decide) rfl (fun ls hl => ?_)
            refine lv_aload_n hx hb dX3_part_66 rfl (lv_at hl 1 rfl) ?_
            refine km_get (j := 4) (v := .ref (bL G)) B hP rfl (by decide) kw_299 dX3_part_67 ?_
            refine lv_iload_n hx hb dX3_part_70 rfl (lv_at hl 3 rfl) ?_
            refine km_lald (i := y) (v := ((mp_thrown c (0 : Int32)).2.1.2.1) y.toNatClampNeg) B hG hP (km_inP q_3) rfl dX3_part_71 ?_
            refine W.eq (g2 := F0 m 72 ls [.long (A_m_part_2 c x y z)]) rfl ?_
            refine lv_lstore (lv' := [(5, .long (A_m_part_2 c x y z)), (4, .int (I_m_part_1 c x y z)), (0, .ref (bM G)), (1, .int x), (2, .int y), (3, .int z)]) hx hb dX3_part_72 hl (by decide) rfl (fun ls hl => ?_)
            refine lv_aload_n hx hb dX3_part_74 rfl (lv_at hl 2 rfl) ?_
            refine km_get (j := 5) (v := .ref (bH G)) B hP rfl (by decide) kw_300 dX3_part_75 ?_
            refine lv_iload_n hx hb dX3_part_78 rfl (lv_at hl 4 rfl) ?_
            refine km_hald (i := y) (v := ((mp_thrown c (0 : Int32)).2.1.2.2) y.toNatClampNeg) B hG hP (km_inP q_3) rfl dX3_part_79 ?_
            refine W.eq (g2 := F0 m 80 ls [.long (A_m_part_3 c x y z)]) rfl ?_
            refine lv_lstore (lv' := [(7, .long (A_m_part_3 c x y z)), (5, .long (A_m_part_2 c x y z)), (4, .int (I_m_part_1 c x y z)), (0, .ref (bM G)), (1, .int x), (2, .int y), (3, .int z)]) hx hb dX3_part_80 hl (by decide) rfl (fun ls hl => ?_)
            refine lv_aload_n hx hb dX3_part_82 rfl (lv_at hl 3 rfl) ?_
            refine km_get (j := 4) (v := .ref (bL G)) B hP rfl (by decide) kw_299 dX3_part_83 ?_
            refine lv_iload_n hx hb dX3_part_86 rfl (lv_at hl 6 rfl) ?_
            refine km_lald (i := z) (v := ((mp_thrown c (0 : Int32)).2.1.2.1) z.toNatClampNeg) B hG hP (km_inP q_4) rfl dX3_part_87 ?_
            refine W.eq (g2 := F0 m 88 ls [.long (A_m_part_4 c x y z)]) rfl ?_
            refine lv_lstore (lv' := [(9, .long (A_m_part_4 c x y z)), (7, .long (A_m_part_3 c x y z)), (5, .long (A_m_part_2 c x y z)), (4, .int (I_m_part_1 c x y z)), (0, .ref (bM G)), (1, .int x), (2, .int y), (3, .int z)]) hx hb dX3_part_88 hl (by decide) rfl (fun ls hl => ?_)
            refine lv_aload_n hx hb dX3_part_90 rfl (lv_at hl 4 rfl) ?_
            refine km_get (j := 5) (v := .ref (bH G)) B hP rfl (by decide) kw_300 dX3_part_91 ?_
            refine lv_iload_n hx hb dX3_part_94 rfl (lv_at hl 7 rfl) ?_
            refine km_hald (i := z) (v := ((mp_thrown c (0 : Int32)).2.1.2.2) z.toNatClampNeg) B hG hP (km_inP q_4) rfl dX3_part_95 ?_
            refine W.eq (g2 := F0 m 96 ls [.long (A_m_part_5 c x y z)]) rfl ?_
            refine lv_lstore (lv' := [(11, .long (A_m_part_5 c x y z)), (9, .long (A_m_part_4 c x y z)), (7, .long (A_m_part_3 c x y z)), (5, .long (A_m_part_2 c x y z)), (4, .int (I_m_part_1 c x y z)), (0, .ref (bM G)), (1, .int x), (2, .int y), (3, .int z)]) hx hb dX3_part_96 hl (by decide) rfl (fun ls hl => ?_)
            refine lv_aload_n hx hb dX3_part_98 rfl (lv_at hl 5 rfl) ?_
            refine lv_lload hx hb dX3_part_99 (lv_at hl 3 rfl) ?_
            refine lv_lload hx hb dX3_part_101 (lv_at hl 2 rfl) ?_
            refine lv_lload hx hb dX3_part_103 (lv_at hl 1 rfl) ?_
            refine lv_lload hx hb dX3_part_105 (lv_at hl 0 rfl) ?_
            refine kp_callV (rm := rm_m_ratio) (As := [.long (A_m_part_2 c x y z), .long (A_m_part_3 c x y z), .long (A_m_part_4 c x y z), .long (A_m_part_5 c x y z)]) (rest := []) (r := none) (st1 := []) (ws' := mw_W G (S_m_ratio (mp_thrown c (0 : Int32)) (A_m_part_2 c x y z) (A_m_part_3 c x y z) (A_m_part_4 c x y z) (A_m_part_5 c x y z)) Z) B (C_m_ratio l D ty sz G Z hG (mp_thrown c (0 : Int32)) (A_m_part_2 c x y z) (A_m_part_3 c x y z) (A_m_part_4 c x y z) (A_m_part_5 c x y z)) kt_m_ratio kw_303 kw_304 kw_305 (km_rc B hP) (by decide) rfl rfl (by decide) rfl (Nat.le_of_ble_eq_true rfl) hl.1 hP hS dX3_part_107 rfl (fun H locs hP hS => ?_)
            have hP : va_P D vwCl (mw_W G (B_m_part_6 c x y z) Z) H := hP
            refine lv_aload_n hx hb dX3_part_110 rfl (lv_at hl 5 rfl) ?_
            refine lv_iload hx hb dX3_part_111 (lv_at hl 4 rfl) ?_
            have hJ128 : W p l e rm_m_part s m args below meth cd H locs 0 0 (MQ below (kp_Q D sz (some (.int (F_m_part c x y z))) (mw_W G (S_m_part c x y z) Z)) args s rm_m_part.cells rm_m_part.slots (kp_A sz)) (F0 m 128 ls [.int (if (I_m_part_1 c x y z) = (0 : Int32) then (0 : Int32) else (if (z_i ((B_m_part_6 c x y z).2.2.2.1)) = (0 : Int32) then (0 : Int32) else (1 : Int32))), .ref (bM G)]) := by
              refine km_put6 (v := if (I_m_part_1 c x y z) = (0 : Int32) then (0 : Int32) else (if (z_i ((B_m_part_6 c x y z).2.2.2.1)) = (0 : Int32) then (0 : Int32) else (1 : Int32))) (M' := B_m_part_7 c x y z) B hG hP hS (z_ite01 (Or.inl rfl) (z_ite01 (Or.inl rfl) (Or.inr rfl))) rfl kw_268 dX3_part_128 (fun H locs hP hS => ?_)
              refine lv_aload_n hx hb dX3_part_131 rfl (lv_at hl 5 rfl) ?_
              refine lv_aload_n hx hb dX3_part_132 rfl (lv_at hl 5 rfl) ?_
              refine km_get (j := 10) (v := .long ((B_m_part_7 c x y z).2.2.2.2.1)) B hP rfl (by decide) kw_296 dX3_part_133 ?_
              refine km_put7 (v := (B_m_part_7 c x y z).2.2.2.2.1) (M' := B_m_part_8 c x y z) B hG hP hS rfl kw_274 dX3_part_136 (fun H locs hP hS => ?_)
              refine lv_aload_n hx hb dX3_part_139 rfl (lv_at hl 5 rfl) ?_
              refine lv_aload_n hx hb dX3_part_140 rfl (lv_at hl 5 rfl) ?_
              refine km_get (j := 11) (v := .long ((B_m_part_8 c x y z).2.2.2.2.2)) B hP rfl (by decide) kw_297 dX3_part_141 ?_
              refine km_put8 (v := (B_m_part_8 c x y z).2.2.2.2.2) (M' := B_m_part_9 c x y z) B hG hP hS rfl kw_275 dX3_part_144 (fun H locs hP hS => ?_)
              refine lv_aload_n hx hb dX3_part_147 rfl (lv_at hl 5 rfl) ?_
              refine lv_iload_n hx hb dX3_part_148 rfl (lv_at hl 6 rfl) ?_
              refine kp_callV (rm := rm_m_keep) (As := [.int x]) (rest := []) (r := some (.int (F_m_keep (B_m_part_9 c x y z) x))) (st1 := [.int (F_m_keep (B_m_part_9 c x y z) x)]) (ws' := mw_W G (S_m_keep (B_m_part_9 c x y z) x) Z) B (C_m_keep l D ty sz G Z hG (B_m_part_9 c x y z) x (km_inP q_1)) kt_m_keep kw_368 kw_369 kw_370 (km_rc B hP) (by decide) rfl rfl (by decide) rfl (Nat.le_of_ble_eq_true rfl) hl.1 hP hS dX3_part_149 rfl (fun H locs hP hS => ?_)
              refine lv_istore (lv' := [(13, .int (F_m_keep (B_m_part_9 c x y z) x)), (11, .long (A_m_part_5 c x y z)), (9, .long (A_m_part_4 c x y z)), (7, .long (A_m_part_3 c x y z)), (5, .long (A_m_part_2 c x y z)), (4, .int (I_m_part_1 c x y z)), (0, .ref (bM G)), (1, .int x), (2, .int y), (3, .int z)]) hx hb dX3_part_152 hl (by decide) rfl (fun ls hl => ?_)
              refine lv_aload_n hx hb dX3_part_154 rfl (lv_at hl 6 rfl) ?_
              refine lv_lload hx hb dX3_part_155 (lv_at hl 3 rfl) ?_
              refine lv_lneg hx hb dX3_part_157 ?_
              refine lv_lload hx hb dX3_part_158 (lv_at hl 4 rfl) ?_
              refine lv_lneg hx hb dX3_part_160 ?_
              refine lv_lload hx hb dX3_part_161 (lv_at hl 1 rfl) ?_
              refine lv_lneg hx hb dX3_part_163 ?_
              refine lv_lload hx hb dX3_part_164 (lv_at hl 2 rfl) ?_
              refine lv_lneg hx hb dX3_part_166 ?_
              refine kp_callV (rm := rm_m_ratio) (As := [.long (-(A_m_part_3 c x y z)), .long (-(A_m_part_2 c x y z)), .long (-(A_m_part_5 c x y z)), .long (-(A_m_part_4 c x y z))]) (rest := []) (r := none) (st1 := []) (ws' := mw_W G (S_m_ratio (S_m_keep (B_m_part_9 c x y z) x) (-(A_m_part_3 c x y z)) (-(A_m_part_2 c x y z)) (-(A_m_part_5 c x y z)) (-(A_m_part_4 c x y z))) Z) B (C_m_ratio l D ty sz G Z hG (S_m_keep (B_m_part_9 c x y z) x) (-(A_m_part_3 c x y z)) (-(A_m_part_2 c x y z)) (-(A_m_part_5 c x y z)) (-(A_m_part_4 c x y z))) kt_m_ratio kw_303 kw_304 kw_305 (km_rc B hP) (by decide) rfl rfl (by decide) rfl (Nat.le_of_ble_eq_true rfl) hl.1 hP hS dX3_part_167 rfl (fun H locs hP hS => ?_)
              have hP : va_P D vwCl (mw_W G (B_m_part_10 c x y z) Z) H := hP
              refine lv_aload_n hx hb dX3_part_170 rfl (lv_at hl 6 rfl) ?_
              refine lv_iload hx hb dX3_part_171 (lv_at hl 5 rfl) ?_
              have hJ188 : W p l e rm_m_part s m args below meth cd H locs 0 0 (MQ below (kp_Q D sz (some (.int (F_m_part c x y z))) (mw_W G (S_m_part c x y z) Z)) args s rm_m_part.cells rm_m_part.slots (kp_A sz)) (F0 m 188 ls [.int (if (I_m_part_1 c x y z) = (0 : Int32) then (0 : Int32) else (if (z_i ((B_m_part_10 c x y z).2.2.2.1)) = (0 : Int32) then (0 : Int32) else (1 : Int32))), .ref (bM G)]) := by
                refine km_put6 (v := if (I_m_part_1 c x y z) = (0 : Int32) then (0 : Int32) else (if (z_i ((B_m_part_10 c x y z).2.2.2.1)) = (0 : Int32) then (0 : Int32) else (1 : Int32))) (M' := B_m_part_11 c x y z) B hG hP hS (z_ite01 (Or.inl rfl) (z_ite01 (Or.inl rfl) (Or.inr rfl))) rfl kw_268 dX3_part_188 (fun H locs hP hS => ?_)
                refine lv_aload_n hx hb dX3_part_191 rfl (lv_at hl 6 rfl) ?_
                refine lv_aload_n hx hb dX3_part_192 rfl (lv_at hl 6 rfl) ?_
                refine km_get (j := 10) (v := .long ((B_m_part_11 c x y z).2.2.2.2.1)) B hP rfl (by decide) kw_296 dX3_part_193 ?_
                refine km_put7 (v := (B_m_part_11 c x y z).2.2.2.2.1) (M' := B_m_part_12 c x y z) B hG hP hS rfl kw_274 dX3_part_196 (fun H locs hP hS => ?_)
                refine lv_aload_n hx hb dX3_part_199 rfl (lv_at hl 6 rfl) ?_
                refine lv_aload_n hx hb dX3_part_200 rfl (lv_at hl 6 rfl) ?_
                refine km_get (j := 11) (v := .long ((B_m_part_12 c x y z).2.2.2.2.2)) B hP rfl (by decide) kw_297 dX3_part_201 ?_
                refine km_put8 (v := (B_m_part_12 c x y z).2.2.2.2.2) (M' := B_m_part_13 c x y z) B hG hP hS rfl kw_275 dX3_part_204 (fun H locs hP hS => ?_)
                refine lv_iload hx hb dX3_part_207 (lv_at hl 0 rfl) ?_
                refine lv_bipush (v := (8 : Int32)) hx hb dX3_part_209 (by decide) ?_
                refine lv_aload_n hx hb dX3_part_211 rfl (lv_at hl 6 rfl) ?_
                refine lv_iload_n hx hb dX3_part_212 rfl (lv_at hl 7 rfl) ?_
                refine lv_iconst (v := (1 : Int32)) hx hb dX3_part_213 (by decide) ?_
                refine lv_iadd hx hb dX3_part_214 ?_
                refine kp_callV (rm := rm_m_keep) (As := [.int (x + (1 : Int32))]) (rest := [.int (8 : Int32), .int (F_m_keep (B_m_part_9 c x y z) x)]) (r := some (.int (F_m_keep (B_m_part_13 c x y z) (x + (1 : Int32))))) (st1 := [.int (F_m_keep (B_m_part_13 c x y z) (x + (1 : Int32))), .int (8 : Int32), .int (F_m_keep (B_m_part_9 c x y z) x)]) (ws' := mw_W G (S_m_keep (B_m_part_13 c x y z) (x + (1 : Int32))) Z) B (C_m_keep l D ty sz G Z hG (B_m_part_13 c x y z) (x + (1 : Int32)) (km_inP q_2)) kt_m_keep kw_368 kw_369 kw_370 (km_rc B hP) (by decide) rfl rfl (by decide) rfl (Nat.le_of_ble_eq_true rfl) hl.1 hP hS dX3_part_215 rfl (fun H locs hP hS => ?_)
                refine lv_imul hx hb dX3_part_218 ?_
                refine lv_iadd hx hb dX3_part_219 ?_
                exact kp_reti B (by simp only [S_m_part, if_neg q_1, if_neg q_2, if_neg q_3, if_neg q_4]; exact hP) hS (by simp only [F_m_part, if_neg q_1, if_neg q_2, if_neg q_3, if_neg q_4]) dX3_part_220
              refine lv_if_eq (tgt := 187) hx hb dX3_part_173 (by decide) (fun q_5 => ?_) (fun q_5 => ?_)
              · refine lv_iconst (v := (0 : Int32)) hx hb dX3_part_187 (by decide) ?_
                exact kp_jI (by simp only [if_pos q_5]) hJ188
              · refine lv_aload_n hx hb dX3_part_176 rfl (lv_at hl 6 rfl) ?_
                refine km_get (j := 9) (v := .int (z_i ((B_m_part_10 c x y z).2.2.2.1))) B hP rfl (by decide) kw_290 dX3_part_177 ?_
                refine lv_if_eq (tgt := 187) hx hb dX3_part_180 (by decide) (fun q_6 => ?_) (fun q_6 => ?_)
                · refine lv_iconst (v := (0 : Int32)) hx hb dX3_part_187 (by decide) ?_
                  exact kp_jI (by simp only [if_neg q_5, if_pos q_6]) hJ188
                · refine lv_iconst (v := (1 : Int32)) hx hb dX3_part_183 (by decide) ?_
                  refine lv_goto (tgt := 188) hx hb dX3_part_184 (by decide) ?_
                  exact kp_jI (by simp only [if_neg q_5, if_neg q_6]) hJ188
            refine lv_if_eq (tgt := 127) hx hb dX3_part_113 (by decide) (fun q_7 => ?_) (fun q_7 => ?_)
            · refine lv_iconst (v := (0 : Int32)) hx hb dX3_part_127 (by decide) ?_
              exact kp_jI (by simp only [if_pos q_7]) hJ128
            · refine lv_aload_n hx hb dX3_part_116 rfl (lv_at hl 5 rfl) ?_
              refine km_get (j := 9) (v := .int (z_i ((B_m_part_6 c x y z).2.2.2.1))) B hP rfl (by decide) kw_290 dX3_part_117 ?_
              refine lv_if_eq (tgt := 127) hx hb dX3_part_120 (by decide) (fun q_8 => ?_) (fun q_8 => ?_)
              · refine lv_iconst (v := (0 : Int32)) hx hb dX3_part_127 (by decide) ?_
                exact kp_jI (by simp only [if_neg q_7, if_pos q_8]) hJ128
              · refine lv_iconst (v := (1 : Int32)) hx hb dX3_part_123 (by decide) ?_
                refine lv_goto (tgt := 128) hx hb dX3_part_124 (by decide) ?_
                exact kp_jI (by simp only [if_neg q_7, if_neg q_8]) hJ128
          refine lv_if_eq (tgt := 63) hx hb dX3_part_47 (by decide) (fun q_9 => ?_) (fun q_9 => ?_)
          · refine lv_iconst (v := (0 : Int32)) hx hb dX3_part_63 (by decide) ?_
            exact kp_jI (by simp only [if_pos q_9]) hJ64
          · refine lv_aload_n hx hb dX3_part_50 rfl (lv_at hl 0 rfl) ?_
            refine km_get (j := 3) (v := .ref (bB G)) B hP rfl (by decide) kw_298 dX3_part_51 ?_
            refine lv_iload_n hx hb dX3_part_54 rfl (lv_at hl 3 rfl) ?_
            refine km_zald (i := z) (v := z_i (((mp_thrown c (0 : Int32)).2.1.1) z.toNatClampNeg)) B hG hP (km_inP q_4) rfl dX3_part_55 ?_
            refine lv_if_eq (tgt := 63) hx hb dX3_part_56 (by decide) (fun q_10 => ?_) (fun q_10 => ?_)
            · refine lv_iconst (v := (0 : Int32)) hx hb dX3_part_63 (by decide) ?_
              exact kp_jI (by simp only [if_neg q_9, if_pos q_10]) hJ64
            · refine lv_iconst (v := (1 : Int32)) hx hb dX3_part_59 (by decide) ?_
              refine lv_goto (tgt := 64) hx hb dX3_part_60 (by decide) ?_
              exact kp_jI (by simp only [if_neg q_9, if_neg q_10]) hJ64
        · refine lv_aload_n hx hb dX3_part_30 rfl (lv_at hl 0 rfl) ?_
          refine lv_iconst (v := (1 : Int32)) hx hb dX3_part_31 (by decide) ?_
          refine kp_callV (rm := rm_m_raise) (As := [.int (1 : Int32)]) (rest := []) (r := some (.int (F_m_raise c (1 : Int32)))) (st1 := [.int (F_m_raise c (1 : Int32))]) (ws' := mw_W G (S_m_raise c (1 : Int32)) Z) B (C_m_raise l D ty sz G Z hG c (1 : Int32)) kt_m_raise kw_358 kw_359 kw_360 (km_rc B hP) (by decide) rfl rfl (by decide) rfl (Nat.le_of_ble_eq_true rfl) hl.1 hP hS dX3_part_32 rfl (fun H locs hP hS => ?_)
          exact kp_reti B (by simp only [S_m_part, if_neg q_1, if_neg q_2, if_neg q_3, if_pos q_4]; exact hP) hS (by simp only [F_m_part, if_neg q_1, if_neg q_2, if_neg q_3, if_pos q_4]) dX3_part_35
def LF_m_sum (x : Int32) (y : Int32) (z : Int32) : Nat → mw_C → Int32 → Int64 → Int64 → Int32 → Int32
  | 0, c, a, u, v, i => 0
  | n + 1, c, a, u, v, i => if (y + z) ≤ i then (if a = (0 : Int32) then F_m_keep (mp_is c (z_t a)) x else F_m_keep (mp_is (S_m_span c u v (1 : Int64)) (z_t a)) x) else LF_m_sum x y z n c (if a = (0 : Int32) then (0 : Int32) else (if (z_i (c.2.1.1 i.toNatClampNeg)) = (0 : Int32) then (0 : Int32) else (1 : Int32))) (F_m_plus u (c.2.1.2.1 i.toNatClampNeg) (-mw_far)) (F_m_plus v (c.2.1.2.2 i.toNatClampNeg) mw_far) (i + (1 : Int32))
def LS_m_sum (x : Int32) (y : Int32) (z : Int32) : Nat → mw_C → Int32 → Int64 → Int64 → Int32 → mw_C
  | 0, c, a, u, v, i => c
  | n + 1, c, a, u, v, i => if (y + z) ≤ i then (if a = (0 : Int32) then S_m_keep (mp_is c (z_t a)) x else S_m_keep (mp_is (S_m_span c u v (1 : Int64)) (z_t a)) x) else LS_m_sum x y z n c (if a = (0 : Int32) then (0 : Int32) else (if (z_i (c.2.1.1 i.toNatClampNeg)) = (0 : Int32) then (0 : Int32) else (1 : Int32))) (F_m_plus u (c.2.1.2.1 i.toNatClampNeg) (-mw_far)) (F_m_plus v (c.2.1.2.2 i.toNatClampNeg) mw_far) (i + (1 : Int32))
def F_m_sum (c : mw_C) (x : Int32) (y : Int32) (z : Int32) : Int32 :=
  if (F_m_isPlace x) = (0 : Int32) then F_m_raise c (1 : Int32) else (if (F_m_isPlace y) = (0 : Int32) then F_m_raise c (1 : Int32) else (if z < (1 : Int32) then F_m_raise c (1 : Int32) else (if z ≤ ((8 : Int32) - y) then LF_m_sum x y z 9 (mp_thrown c (0 : Int32)) (1 : Int32) (0 : Int64) (0 : Int64) y else F_m_raise c (1 : Int32))))
def S_m_sum (c : mw_C) (x : Int32) (y : Int32) (z : Int32) : mw_C :=
  if (F_m_isPlace x) = (0 : Int32) then S_m_raise c (1 : Int32) else (if (F_m_isPlace y) = (0 : Int32) then S_m_raise c (1 : Int32) else (if z < (1 : Int32) then S_m_raise c (1 : Int32) else (if z ≤ ((8 : Int32) - y) then LS_m_sum x y z 9 (mp_thrown c (0 : Int32)) (1 : Int32) (0 : Int64) (0 : Int64) y else S_m_raise c (1 : Int32))))
def rm_m_sum : Room := { frames := 3, cells := 0, slots := 0, locals := 81 }
set_option maxHeartbeats 4000000 in
set_option maxRecDepth 100000 in
theorem LP_m_sum (l : Launch) (D : va_G) (ty : List (ClassId × FieldType)) (sz : Nat) (G : mw_G) (Z : va_W) (hG : mw_ok ty sz G Z) (x : Int32) (y : Int32) (z : Int32) {p : Program} {e : Env} {s : State} {m : MethodId} {args : Array Value} {below : List Frame} {meth : Method} {cd : Code} (B : kp_B p l s m args meth cd yX3_sum.cls cX3_sum 10 (some .int) D ty sz) :
    ∀ (n : Nat) (c : mw_C) (a : Int32) (u : Int64) (v : Int64) (i : Int32) (hx8 : vp_in x 8) (h01 : a = 0 ∨ a = 1) (hv : 0 ≤ y.toInt ∧ 1 ≤ z.toInt ∧ y.toInt + z.toInt ≤ 8 ∧ y.toInt ≤ i.toInt ∧ i.toInt ≤ y.toInt + z.toInt) (h2 : y.toInt + z.toInt + 1 ≤ i.toInt + n), ∀ (H : Heap) (locs : List Loc) (ls : Array Slot), lv_has ls 10 [(0, .ref (bM G)), (1, .int x), (2, .int y), (3, .int z), (4, .int a), (5, .long u), (7, .long v), (9, .int i)] → va_P D vwCl (mw_W G c Z) H → va_S (kp_A sz) s.heap H locs → W p l e rm_m_sum s m args below meth cd H locs 0 0 (MQ below (kp_Q D sz (some (.int (LF_m_sum x y z n c a u v i))) (mw_W G (LS_m_sum x y z n c a u v i) Z)) args s rm_m_sum.cells rm_m_sum.slots (kp_A sz)) (F0 m 50 ls []) := by
  obtain ⟨hx, hb, hml, hown, hlk, hr, hw, hE, hK, hsz⟩ := id B
  intro n
  induction n with
  | zero =>
    intro c a u v i hx8 h01 hv h2
    exact absurd h2 (by omega)
  | succ n ih =>
    intro c a u v i hx8 h01 hv h2 H locs ls hl hP hS
    refine lv_iload hx hb dX3_sum_50 (lv_at hl 7 rfl) ?_
    refine lv_iload_n hx hb dX3_sum_52 rfl (lv_at hl 2 rfl) ?_
    refine lv_iload_n hx hb dX3_sum_53 rfl (lv_at hl 3 rfl) ?_
    refine lv_iadd hx hb dX3_sum_54 ?_
    refine lv_icmp_ge (tgt := 120) hx hb dX3_sum_55 (by decide) (fun q_1 => ?_) (fun q_1 => ?_)
    · refine lv_iload hx hb dX3_sum_120 (lv_at hl 4 rfl) ?_
      refine lv_if_eq (tgt := 134) hx hb dX3_sum_122 (by decide) (fun q_2 => ?_) (fun q_2 => ?_)
      · refine lv_aload_n hx hb dX3_sum_134 rfl (lv_at hl 0 rfl) ?_
        refine lv_iload hx hb dX3_sum_135 (lv_at hl 4 rfl) ?_
        refine km_put6 (v := a) (M' := mp_is c (z_t a)) B hG hP hS h01 rfl kw_268 dX3_sum_137 (fun H locs hP hS => ?_)
        refine lv_aload_n hx hb dX3_sum_140 rfl (lv_at hl 0 rfl) ?_
        refine lv_iload_n hx hb dX3_sum_141 rfl (lv_at hl 1 rfl) ?_
        refine kp_callV (rm := rm_m_keep) (As := [.int x]) (rest := []) (r := some (.int (F_m_keep (mp_is c (z_t a)) x))) (st1 := [.int (F_m_keep (mp_is c (z_t a)) x)]) (ws' := mw_W G (S_m_keep (mp_is c (z_t a)) x) Z) B (C_m_keep l D ty sz G Z hG (mp_is c (z_t a)) x hx8) kt_m_keep kw_368 kw_369 kw_370 (km_rc B hP) (by decide) rfl rfl (by decide) rfl (Nat.le_of_ble_eq_true rfl) hl.1 hP hS dX3_sum_142 rfl (fun H locs hP hS => ?_)
        exact kp_reti B (by simp only [LS_m_sum, if_pos q_1, if_pos q_2]; exact hP) hS (by simp only [LF_m_sum, if_pos q_1, if_pos q_2]) dX3_sum_145
      · refine lv_aload_n hx hb dX3_sum_125 rfl (lv_at hl 0 rfl) ?_
        refine lv_lload hx hb dX3_sum_126 (lv_at hl 5 rfl) ?_
        refine lv_lload hx hb dX3_sum_128 (lv_at hl 6 rfl) ?_
        refine lv_lconst (v := (1 : Int64)) hx hb dX3_sum_130 (by decide) ?_
        refine kp_callV (rm := rm_m_span) (As := [.long u, .long v, .long (1 : Int64)]) (rest := []) (r := none) (st1 := []) (ws' := mw_W G (S_m_span c u v (1 : Int64)) Z) B (C_m_span l D ty sz G Z hG c u v (1 : Int64) (by decide)) kt_m_span kw_287 kw_288 kw_289 (km_rc B hP) (by decide) rfl rfl (by decide) rfl (Nat.le_of_ble_eq_true rfl) hl.1 hP hS dX3_sum_131 rfl (fun H locs hP hS => ?_)
        refine lv_aload_n hx hb dX3_sum_134 rfl (lv_at hl 0 rfl) ?_
        refine lv_iload hx hb dX3_sum_135 (lv_at hl 4 rfl) ?_
        refine km_put6 (v := a) (M' := mp_is (S_m_span c u v (1 : Int64)) (z_t a)) B hG hP hS h01 rfl kw_268 dX3_sum_137 (fun H locs hP hS => ?_)
        refine lv_aload_n hx hb dX3_sum_140 rfl (lv_at hl 0 rfl) ?_
        refine lv_iload_n hx hb dX3_sum_141 rfl (lv_at hl 1 rfl) ?_
        refine kp_callV (rm := rm_m_keep) (As := [.int x]) (rest := []) (r := some (.int (F_m_keep (mp_is (S_m_span c u v (1 : Int64)) (z_t a)) x))) (st1 := [.int (F_m_keep (mp_is (S_m_span c u v (1 : Int64)) (z_t a)) x)]) (ws' := mw_W G (S_m_keep (mp_is (S_m_span c u v (1 : Int64)) (z_t a)) x) Z) B (C_m_keep l D ty sz G Z hG (mp_is (S_m_span c u v (1 : Int64)) (z_t a)) x hx8) kt_m_keep kw_368 kw_369 kw_370 (km_rc B hP) (by decide) rfl rfl (by decide) rfl (Nat.le_of_ble_eq_true rfl) hl.1 hP hS dX3_sum_142 rfl (fun H locs hP hS => ?_)
        exact kp_reti B (by simp only [LS_m_sum, if_pos q_1, if_neg q_2]; exact hP) hS (by simp only [LF_m_sum, if_pos q_1, if_neg q_2]) dX3_sum_145
    · refine lv_iload hx hb dX3_sum_58 (lv_at hl 4 rfl) ?_
      have hJ78 : W p l e rm_m_sum s m args below meth cd H locs 0 0 (MQ below (kp_Q D sz (some (.int (LF_m_sum x y z (n + 1) c a u v i))) (mw_W G (LS_m_sum x y z (n + 1) c a u v i) Z)) args s rm_m_sum.cells rm_m_sum.slots (kp_A sz)) (F0 m 78 ls [.int (if a = (0 : Int32) then (0 : Int32) else (if (z_i (c.2.1.1 i.toNatClampNeg)) = (0 : Int32) then (0 : Int32) else (1 : Int32)))]) := by
        refine lv_istore (lv' := [(4, .int (if a = (0 : Int32) then (0 : Int32) else (if (z_i (c.2.1.1 i.toNatClampNeg)) = (0 : Int32) then (0 : Int32) else (1 : Int32)))), (0, .ref (bM G)), (1, .int x), (2, .int y), (3, .int z), (5, .long u), (7, .long v), (9, .int i)]) hx hb dX3_sum_78 hl (by decide) rfl (fun ls hl => ?_)
        refine lv_lload hx hb dX3_sum_80 (lv_at hl 5 rfl) ?_
        refine lv_aload_n hx hb dX3_sum_82 rfl (lv_at hl 1 rfl) ?_
        refine km_get (j := 4) (v := .ref (bL G)) B hP rfl (by decide) kw_299 dX3_sum_83 ?_
        refine lv_iload hx hb dX3_sum_86 (lv_at hl 7 rfl) ?_
        refine km_lald (i := i) (v := c.2.1.2.1 i.toNatClampNeg) B hG hP (ki_insum hv q_1) rfl dX3_sum_88 ?_
        refine lv_ldc2 (v := (-mw_far)) hx hb hown (hw _ kw_263 rfl) dX3_sum_89 ?_
        refine kp_callSR (rm := rm_m_plus) (As := [.long u, .long (c.2.1.2.1 i.toNatClampNeg), .long (-mw_far)]) (rest := []) (r := some (.long (F_m_plus u (c.2.1.2.1 i.toNatClampNeg) (-mw_far)))) (st1 := [.long (F_m_plus u (c.2.1.2.1 i.toNatClampNeg) (-mw_far))]) B (C_m_plus l D ty sz G Z hG c u (c.2.1.2.1 i.toNatClampNeg) (-mw_far)) kt_m_plus kw_325 kw_326 (by decide) ⟨rfl, rfl⟩ (by decide) rfl (Nat.le_of_ble_eq_true rfl) hl.1 hP hS dX3_sum_92 rfl ?_
        refine lv_lstore (lv' := [(5, .long (F_m_plus u (c.2.1.2.1 i.toNatClampNeg) (-mw_far))), (4, .int (if a = (0 : Int32) then (0 : Int32) else (if (z_i (c.2.1.1 i.toNatClampNeg)) = (0 : Int32) then (0 : Int32) else (1 : Int32)))), (0, .ref (bM G)), (1, .int x), (2, .int y), (3, .int z), (7, .long v), (9, .int i)]) hx hb dX3_sum_95 hl (by decide) rfl (fun ls hl => ?_)
        refine lv_lload hx hb dX3_sum_97 (lv_at hl 6 rfl) ?_
        refine lv_aload_n hx hb dX3_sum_99 rfl (lv_at hl 2 rfl) ?_
        refine km_get (j := 5) (v := .ref (bH G)) B hP rfl (by decide) kw_300 dX3_sum_100 ?_
        refine lv_iload hx hb dX3_sum_103 (lv_at hl 7 rfl) ?_
        refine km_hald (i := i) (v := c.2.1.2.2 i.toNatClampNeg) B hG hP (ki_insum hv q_1) rfl dX3_sum_105 ?_
        refine lv_ldc2 (v := mw_far) hx hb hown (hw _ kw_253 rfl) dX3_sum_106 ?_
        refine kp_callSR (rm := rm_m_plus) (As := [.long v, .long (c.2.1.2.2 i.toNatClampNeg), .long mw_far]) (rest := []) (r := some (.long (F_m_plus v (c.2.1.2.2 i.toNatClampNeg) mw_far))) (st1 := [.long (F_m_plus v (c.2.1.2.2 i.toNatClampNeg) mw_far)]) B (C_m_plus l D ty sz G Z hG c v (c.2.1.2.2 i.toNatClampNeg) mw_far) kt_m_plus kw_325 kw_326 (by decide) ⟨rfl, rfl⟩ (by decide) rfl (Nat.le_of_ble_eq_true rfl) hl.1 hP hS dX3_sum_109 rfl ?_
        refine lv_lstore (lv' := [(7, .long (F_m_plus v (c.2.1.2.2 i.toNatClampNeg) mw_far)), (5, .long (F_m_plus u (c.2.1.2.1 i.toNatClampNeg) (-mw_far))), (4, .int (if a = (0 : Int32) then (0 : Int32) else (if (z_i (c.2.1.1 i.toNatClampNeg)) = (0 : Int32) then (0 : Int32) else (1 : Int32)))), (0, .ref (bM G)), (1, .int x), (2, .int y), (3, .int z), (9, .int i)]) hx hb dX3_sum_112 hl (by decide) rfl (fun ls hl => ?_)
        refine lv_iinc (v := i + (1 : Int32)) (lv' := [(9, .int (i + (1 : Int32))), (7, .long (F_m_plus v (c.2.1.2.2 i.toNatClampNeg) mw_far)), (5, .long (F_m_plus u (c.2.1.2.1 i.toNatClampNeg) (-mw_far))), (4, .int (if a = (0 : Int32) then (0 : Int32) else (if (z_i (c.2.1.1 i.toNatClampNeg)) = (0 : Int32) then (0 : Int32) else (1 : Int32)))), (0, .ref (bM G)), (1, .int x), (2, .int y), (3, .int z)]) hx hb dX3_sum_114 hl (k := 7) rfl rfl (by decide) rfl (fun ls hl => ?_)
        refine lv_goto (tgt := 50) hx hb dX3_sum_117 (by decide) ?_
        rw [show LF_m_sum x y z (n + 1) c a u v i = LF_m_sum x y z n c (if a = (0 : Int32) then (0 : Int32) else (if (z_i (c.2.1.1 i.toNatClampNeg)) = (0 : Int32) then (0 : Int32) else (1 : Int32))) (F_m_plus u (c.2.1.2.1 i.toNatClampNeg) (-mw_far)) (F_m_plus v (c.2.1.2.2 i.toNatClampNeg) mw_far) (i + (1 : Int32)) from by simp only [LF_m_sum, if_neg q_1]]
        rw [show LS_m_sum x y z (n + 1) c a u v i = LS_m_sum x y z n c (if a = (0 : Int32) then (0 : Int32) else (if (z_i (c.2.1.1 i.toNatClampNeg)) = (0 : Int32) then (0 : Int32) else (1 : Int32))) (F_m_plus u (c.2.1.2.1 i.toNatClampNeg) (-mw_far)) (F_m_plus v (c.2.1.2.2 i.toNatClampNeg) mw_far) (i + (1 : Int32)) from by simp only [LS_m_sum, if_neg q_1]]
        exact ih c (if a = (0 : Int32) then (0 : Int32) else (if (z_i (c.2.1.1 i.toNatClampNeg)) = (0 : Int32) then (0 : Int32) else (1 : Int32))) (F_m_plus u (c.2.1.2.1 i.toNatClampNeg) (-mw_far)) (F_m_plus v (c.2.1.2.2 i.toNatClampNeg) mw_far) (i + (1 : Int32)) hx8 (z_ite01 (Or.inl rfl) (z_ite01 (Or.inl rfl) (Or.inr rfl))) (ki_sum1 hv q_1 h2).1 (ki_sum1 hv q_1 h2).2 _ _ ls (lv_sub hl [4, 5, 6, 7, 3, 2, 1, 0] rfl) hP hS
      refine lv_if_eq (tgt := 77) hx hb dX3_sum_60 (by decide) (fun q_3 => ?_) (fun q_3 => ?_)
      · refine lv_iconst (v := (0 : Int32)) hx hb dX3_sum_77 (by decide) ?_
        exact kp_jI (by simp only [if_pos q_3]) hJ78
      · refine lv_aload_n hx hb dX3_sum_63 rfl (lv_at hl 0 rfl) ?_
        refine km_get (j := 3) (v := .ref (bB G)) B hP rfl (by decide) kw_298 dX3_sum_64 ?_
        refine lv_iload hx hb dX3_sum_67 (lv_at hl 7 rfl) ?_
        refine km_zald (i := i) (v := z_i (c.2.1.1 i.toNatClampNeg)) B hG hP (ki_insum hv q_1) rfl dX3_sum_69 ?_
        refine lv_if_eq (tgt := 77) hx hb dX3_sum_70 (by decide) (fun q_4 => ?_) (fun q_4 => ?_)
        · refine lv_iconst (v := (0 : Int32)) hx hb dX3_sum_77 (by decide) ?_
          exact kp_jI (by simp only [if_neg q_3, if_pos q_4]) hJ78
        · refine lv_iconst (v := (1 : Int32)) hx hb dX3_sum_73 (by decide) ?_
          refine lv_goto (tgt := 78) hx hb dX3_sum_74 (by decide) ?_
          exact kp_jI (by simp only [if_neg q_3, if_neg q_4]) hJ78
set_option maxHeartbeats 4000000 in
set_option maxRecDepth 100000 in
theorem C_m_sum (l : Launch) (D : va_G) (ty : List (ClassId × FieldType)) (sz : Nat) (G : mw_G) (Z : va_W) (hG : mw_ok ty sz G Z) (c : mw_C) (x : Int32) (y : Int32) (z : Int32) : kp_M l yX3_sum cX3_sum 10 (some .int) rm_m_sum D ty sz [.ref (bM G), .int x, .int y, .int z] (mw_W G c Z) (some (.int (F_m_sum c x y z))) (mw_W G (S_m_sum c x y z) Z) := by
  refine kp_body (by decide) (Nat.le_of_ble_eq_true rfl) rfl ?_
  intro p e s m args below meth cd ls B hin hl hP hS
  obtain ⟨hx, hb, hml, hown, hlk, hr, hw, hE, hK, hsz⟩ := id B
  have hl : lv_has ls 10 [(0, .ref (bM G)), (1, .int x), (2, .int y), (3, .int z)] := hl
  refine lv_iload_n hx hb dX3_sum_0 rfl (lv_at hl 1 rfl) ?_
  refine kp_callSR (rm := rm_m_isPlace) (As := [.int x]) (rest := []) (r := some (.int (F_m_isPlace x))) (st1 := [.int (F_m_isPlace x)]) B (C_m_isPlace l D ty sz G Z hG c x) kt_m_isPlace kw_316 kw_317 (by decide) ⟨rfl, rfl⟩ (by decide) rfl (Nat.le_of_ble_eq_true rfl) hl.1 hP hS dX3_sum_1 rfl ?_
  refine lv_if_eq (tgt := 27) hx hb dX3_sum_4 (by decide) (fun q_1 => ?_) (fun q_1 => ?_)
  · refine lv_aload_n hx hb dX3_sum_27 rfl (lv_at hl 0 rfl) ?_
    refine lv_iconst (v := (1 : Int32)) hx hb dX3_sum_28 (by decide) ?_
    refine kp_callV (rm := rm_m_raise) (As := [.int (1 : Int32)]) (rest := []) (r := some (.int (F_m_raise c (1 : Int32)))) (st1 := [.int (F_m_raise c (1 : Int32))]) (ws' := mw_W G (S_m_raise c (1 : Int32)) Z) B (C_m_raise l D ty sz G Z hG c (1 : Int32)) kt_m_raise kw_358 kw_359 kw_360 (km_rc B hP) (by decide) rfl rfl (by decide) rfl (Nat.le_of_ble_eq_true rfl) hl.1 hP hS dX3_sum_29 rfl (fun H locs hP hS => ?_)
    exact kp_reti B (by simp only [S_m_sum, if_pos q_1]; exact hP) hS (by simp only [F_m_sum, if_pos q_1]) dX3_sum_32
  · refine lv_iload_n hx hb dX3_sum_7 rfl (lv_at hl 2 rfl) ?_
    refine kp_callSR (rm := rm_m_isPlace) (As := [.int y]) (rest := []) (r := some (.int (F_m_isPlace y))) (st1 := [.int (F_m_isPlace y)]) B (C_m_isPlace l D ty sz G Z hG c y) kt_m_isPlace kw_316 kw_317 (by decide) ⟨rfl, rfl⟩ (by decide) rfl (Nat.le_of_ble_eq_true rfl) hl.1 hP hS dX3_sum_8 rfl ?_
    refine lv_if_eq (tgt := 27) hx hb dX3_sum_11 (by decide) (fun q_2 => ?_) (fun q_2 => ?_)
    · refine lv_aload_n hx hb dX3_sum_27 rfl (lv_at hl 0 rfl) ?_
      refine lv_iconst (v := (1 : Int32)) hx hb dX3_sum_28 (by decide) ?_
      refine kp_callV (rm := rm_m_raise) (As := [.int (1 : Int32)]) (rest := []) (r := some (.int (F_m_raise c (1 : Int32)))) (st1 := [.int (F_m_raise c (1 : Int32))]) (ws' := mw_W G (S_m_raise c (1 : Int32)) Z) B (C_m_raise l D ty sz G Z hG c (1 : Int32)) kt_m_raise kw_358 kw_359 kw_360 (km_rc B hP) (by decide) rfl rfl (by decide) rfl (Nat.le_of_ble_eq_true rfl) hl.1 hP hS dX3_sum_29 rfl (fun H locs hP hS => ?_)
      exact kp_reti B (by simp only [S_m_sum, if_neg q_1, if_pos q_2]; exact hP) hS (by simp only [F_m_sum, if_neg q_1, if_pos q_2]) dX3_sum_32
    · refine lv_iload_n hx hb dX3_sum_14 rfl (lv_at hl 3 rfl) ?_
      refine lv_iconst (v := (1 : Int32)) hx hb dX3_sum_15 (by decide) ?_
      refine lv_icmp_lt (tgt := 27) hx hb dX3_sum_16 (by decide) (fun q_3 => ?_) (fun q_3 => ?_)
      · refine lv_aload_n hx hb dX3_sum_27 rfl (lv_at hl 0 rfl) ?_
        refine lv_iconst (v := (1 : Int32)) hx hb dX3_sum_28 (by decide) ?_
        refine kp_callV (rm := rm_m_raise) (As := [.int (1 : Int32)]) (rest := []) (r := some (.int (F_m_raise c (1 : Int32)))) (st1 := [.int (F_m_raise c (1 : Int32))]) (ws' := mw_W G (S_m_raise c (1 : Int32)) Z) B (C_m_raise l D ty sz G Z hG c (1 : Int32)) kt_m_raise kw_358 kw_359 kw_360 (km_rc B hP) (by decide) rfl rfl (by decide) rfl (Nat.le_of_ble_eq_true rfl) hl.1 hP hS dX3_sum_29 rfl (fun H locs hP hS => ?_)
        exact kp_reti B (by simp only [S_m_sum, if_neg q_1, if_neg q_2, if_pos q_3]; exact hP) hS (by simp only [F_m_sum, if_neg q_1, if_neg q_2, if_pos q_3]) dX3_sum_32
      · refine lv_iload_n hx hb dX3_sum_19 rfl (lv_at hl 3 rfl) ?_
        refine lv_bipush (v := (8 : Int32)) hx hb dX3_sum_20 (by decide) ?_
        refine lv_iload_n hx hb dX3_sum_22 rfl (lv_at hl 2 rfl) ?_
        refine lv_isub hx hb dX3_sum_23 ?_
        refine lv_icmp_le (tgt := 33) hx hb dX3_sum_24 (by decide) (fun q_4 => ?_) (fun q_4 => ?_)
        · refine lv_aload_n hx hb dX3_sum_33 rfl (lv_at hl 0 rfl) ?_
          refine lv_iconst (v := (0 : Int32)) hx hb dX3_sum_34 (by decide) ?_
          refine km_put0 (v := (0 : Int32)) (M' := mp_thrown c (0 : Int32)) B hG hP hS rfl kw_244 dX3_sum_35 (fun H locs hP hS => ?_)
          refine lv_iconst (v := (1 : Int32)) hx hb dX3_sum_38 (by decide) ?_
          refine lv_istore (lv' := [(4, .int (1 : Int32)), (0, .ref (bM G)), (1, .int x), (2, .int y), (3, .int z)]) hx hb dX3_sum_39 hl (by decide) rfl (fun ls hl => ?_)
          refine lv_lconst (v := (0 : Int64)) hx hb dX3_sum_41 (by decide) ?_
          refine lv_lstore (lv' := [(5, .long (0 : Int64)), (4, .int (1 : Int32)), (0, .ref (bM G)), (1, .int x), (2, .int y), (3, .int z)]) hx hb dX3_sum_42 hl (by decide) rfl (fun ls hl => ?_)
          refine lv_lconst (v := (0 : Int64)) hx hb dX3_sum_44 (by decide) ?_
          refine lv_lstore (lv' := [(7, .long (0 : Int64)), (5, .long (0 : Int64)), (4, .int (1 : Int32)), (0, .ref (bM G)), (1, .int x), (2, .int y), (3, .int z)]) hx hb dX3_sum_45 hl (by decide) rfl (fun ls hl => ?_)
          refine lv_iload_n hx hb dX3_sum_47 rfl (lv_at hl 5 rfl) ?_
          refine lv_istore (lv' := [(9, .int y), (7, .long (0 : Int64)), (5, .long (0 : Int64)), (4, .int (1 : Int32)), (0, .ref (bM G)), (1, .int x), (2, .int y), (3, .int z)]) hx hb dX3_sum_48 hl (by decide) rfl (fun ls hl => ?_)
          rw [show F_m_sum c x y z = LF_m_sum x y z 9 (mp_thrown c (0 : Int32)) (1 : Int32) (0 : Int64) (0 : Int64) y from by simp only [F_m_sum, if_neg q_1, if_neg q_2, if_neg q_3, if_pos q_4]]
          rw [show S_m_sum c x y z = LS_m_sum x y z 9 (mp_thrown c (0 : Int32)) (1 : Int32) (0 : Int64) (0 : Int64) y from by simp only [S_m_sum, if_neg q_1, if_neg q_2, if_neg q_3, if_pos q_4]]
          exact LP_m_sum l D ty sz G Z hG x y z B 9 (mp_thrown c (0 : Int32)) (1 : Int32) (0 : Int64) (0 : Int64) y (km_inP q_1) (Or.inr rfl) (km_sum0 q_2 q_3 q_4).1 (km_sum0 q_2 q_3 q_4).2 _ _ ls (lv_sub hl [4, 5, 6, 7, 3, 2, 1, 0] rfl) hP hS
        · refine lv_aload_n hx hb dX3_sum_27 rfl (lv_at hl 0 rfl) ?_
          refine lv_iconst (v := (1 : Int32)) hx hb dX3_sum_28 (by decide) ?_
          refine kp_callV (rm := rm_m_raise) (As := [.int (1 : Int32)]) (rest := []) (r := some (.int (F_m_raise c (1 : Int32)))) (st1 := [.int (F_m_raise c (1 : Int32))]) (ws' := mw_W G (S_m_raise c (1 : Int32)) Z) B (C_m_raise l D ty sz G Z hG c (1 : Int32)) kt_m_raise kw_358 kw_359 kw_360 (km_rc B hP) (by decide) rfl rfl (by decide) rfl (Nat.le_of_ble_eq_true rfl) hl.1 hP hS dX3_sum_29 rfl (fun H locs hP hS => ?_)
          exact kp_reti B (by simp only [S_m_sum, if_neg q_1, if_neg q_2, if_neg q_3, if_neg q_4]; exact hP) hS (by simp only [F_m_sum, if_neg q_1, if_neg q_2, if_neg q_3, if_neg q_4]) dX3_sum_32
def B_m_low_1 (c : mw_C) (x : Int32) : mw_C := mp_thrown c (if (F_m_isPlace x) = (0 : Int32) then (1 : Int32) else (if (z_i (c.2.1.1 x.toNatClampNeg)) = (0 : Int32) then (1 : Int32) else (0 : Int32)))
def F_m_low (c : mw_C) (x : Int32) : Int32 :=
  if ((B_m_low_1 c x).1.1) ≤ (0 : Int32) then F_m_pattern (B_m_low_1 c x) (((B_m_low_1 c x).2.1.2.1) x.toNatClampNeg) else (0 : Int32)
def S_m_low (c : mw_C) (x : Int32) : mw_C :=
  if ((B_m_low_1 c x).1.1) ≤ (0 : Int32) then B_m_low_1 c x else B_m_low_1 c x
def rm_m_low : Room := { frames := 2, cells := 0, slots := 0, locals := 48 }
set_option maxHeartbeats 4000000 in
set_option maxRecDepth 100000 in
theorem C_m_low (l : Launch) (D : va_G) (ty : List (ClassId × FieldType)) (sz : Nat) (G : mw_G) (Z : va_W) (hG : mw_ok ty sz G Z) (c : mw_C) (x : Int32) : kp_M l yX3_low cX3_low 2 (some .int) rm_m_low D ty sz [.ref (bM G), .int x] (mw_W G c Z) (some (.int (F_m_low c x))) (mw_W G (S_m_low c x) Z) := by
  refine kp_body (by decide) (Nat.le_of_ble_eq_true rfl) rfl ?_
  intro p e s m args below meth cd ls B hin hl hP hS
  obtain ⟨hx, hb, hml, hown, hlk, hr, hw, hE, hK, hsz⟩ := id B
  have hl : lv_has ls 2 [(0, .ref (bM G)), (1, .int x)] := hl
  refine lv_aload_n hx hb dX3_low_0 rfl (lv_at hl 0 rfl) ?_
  refine lv_iload_n hx hb dX3_low_1 rfl (lv_at hl 1 rfl) ?_
  refine kp_callSR (rm := rm_m_isPlace) (As := [.int x]) (rest := [.ref (bM G)]) (r := some (.int (F_m_isPlace x))) (st1 := [.int (F_m_isPlace x), .ref (bM G)]) B (C_m_isPlace l D ty sz G Z hG c x) kt_m_isPlace kw_316 kw_317 (by decide) ⟨rfl, rfl⟩ (by decide) rfl (Nat.le_of_ble_eq_true rfl) hl.1 hP hS dX3_low_2 rfl ?_
  have hJ22 : W p l e rm_m_low s m args below meth cd s.heap [] 0 0 (MQ below (kp_Q D sz (some (.int (F_m_low c x))) (mw_W G (S_m_low c x) Z)) args s rm_m_low.cells rm_m_low.slots (kp_A sz)) (F0 m 22 ls [.int (if (F_m_isPlace x) = (0 : Int32) then (1 : Int32) else (if (z_i (c.2.1.1 x.toNatClampNeg)) = (0 : Int32) then (1 : Int32) else (0 : Int32))), .ref (bM G)]) := by
    refine km_put0 (v := if (F_m_isPlace x) = (0 : Int32) then (1 : Int32) else (if (z_i (c.2.1.1 x.toNatClampNeg)) = (0 : Int32) then (1 : Int32) else (0 : Int32))) (M' := B_m_low_1 c x) B hG hP hS rfl kw_244 dX3_low_22 (fun H locs hP hS => ?_)
    refine lv_aload_n hx hb dX3_low_25 rfl (lv_at hl 0 rfl) ?_
    refine km_get (j := 0) (v := .int ((B_m_low_1 c x).1.1)) B hP rfl (by decide) kw_244 dX3_low_26 ?_
    refine lv_if_le (tgt := 36) hx hb dX3_low_29 (by decide) (fun q_1 => ?_) (fun q_1 => ?_)
    · refine lv_aload_n hx hb dX3_low_36 rfl (lv_at hl 0 rfl) ?_
      refine lv_aload_n hx hb dX3_low_37 rfl (lv_at hl 0 rfl) ?_
      refine km_get (j := 4) (v := .ref (bL G)) B hP rfl (by decide) kw_299 dX3_low_38 ?_
      refine lv_iload_n hx hb dX3_low_41 rfl (lv_at hl 1 rfl) ?_
      refine km_lald (i := x) (v := ((B_m_low_1 c x).2.1.2.1) x.toNatClampNeg) B hG hP (km_inT (c := c) q_1) rfl dX3_low_42 ?_
      refine kp_callVR (rm := rm_m_pattern) (As := [.long (((B_m_low_1 c x).2.1.2.1) x.toNatClampNeg)]) (rest := []) (r := some (.int (F_m_pattern (B_m_low_1 c x) (((B_m_low_1 c x).2.1.2.1) x.toNatClampNeg)))) (st1 := [.int (F_m_pattern (B_m_low_1 c x) (((B_m_low_1 c x).2.1.2.1) x.toNatClampNeg))]) B (C_m_pattern l D ty sz G Z hG (B_m_low_1 c x) (((B_m_low_1 c x).2.1.2.1) x.toNatClampNeg)) kt_m_pattern kw_383 kw_384 kw_385 (km_rc B hP) (by decide) ⟨rfl, rfl⟩ (by decide) rfl (Nat.le_of_ble_eq_true rfl) hl.1 hP hS dX3_low_43 rfl ?_
      exact kp_reti B (by simp only [S_m_low, if_pos q_1]; exact hP) hS (by simp only [F_m_low, if_pos q_1]) dX3_low_46
    · refine lv_iconst (v := (0 : Int32)) hx hb dX3_low_32 (by decide) ?_
      refine lv_goto (tgt := 46) hx hb dX3_low_33 (by decide) ?_
      exact kp_reti B (by simp only [S_m_low, if_neg q_1]; exact hP) hS (by simp only [F_m_low, if_neg q_1]) dX3_low_46
  refine lv_if_eq (tgt := 21) hx hb dX3_low_5 (by decide) (fun q_2 => ?_) (fun q_2 => ?_)
  · refine lv_iconst (v := (1 : Int32)) hx hb dX3_low_21 (by decide) ?_
    exact kp_jI (by simp only [if_pos q_2]) hJ22
  · refine lv_aload_n hx hb dX3_low_8 rfl (lv_at hl 0 rfl) ?_
    refine km_get (j := 3) (v := .ref (bB G)) B hP rfl (by decide) kw_298 dX3_low_9 ?_
    refine lv_iload_n hx hb dX3_low_12 rfl (lv_at hl 1 rfl) ?_
    refine km_zald (i := x) (v := z_i (c.2.1.1 x.toNatClampNeg)) B hG hP (km_inP q_2) rfl dX3_low_13 ?_
    refine lv_if_eq (tgt := 21) hx hb dX3_low_14 (by decide) (fun q_3 => ?_) (fun q_3 => ?_)
    · refine lv_iconst (v := (1 : Int32)) hx hb dX3_low_21 (by decide) ?_
      exact kp_jI (by simp only [if_neg q_2, if_pos q_3]) hJ22
    · refine lv_iconst (v := (0 : Int32)) hx hb dX3_low_17 (by decide) ?_
      refine lv_goto (tgt := 22) hx hb dX3_low_18 (by decide) ?_
      exact kp_jI (by simp only [if_neg q_2, if_neg q_3]) hJ22
def B_m_high_1 (c : mw_C) (x : Int32) : mw_C := mp_thrown c (if (F_m_isPlace x) = (0 : Int32) then (1 : Int32) else (if (z_i (c.2.1.1 x.toNatClampNeg)) = (0 : Int32) then (1 : Int32) else (0 : Int32)))
def F_m_high (c : mw_C) (x : Int32) : Int32 :=
  if ((B_m_high_1 c x).1.1) ≤ (0 : Int32) then F_m_pattern (B_m_high_1 c x) (((B_m_high_1 c x).2.1.2.2) x.toNatClampNeg) else (0 : Int32)
def S_m_high (c : mw_C) (x : Int32) : mw_C :=
  if ((B_m_high_1 c x).1.1) ≤ (0 : Int32) then B_m_high_1 c x else B_m_high_1 c x
def rm_m_high : Room := { frames := 2, cells := 0, slots := 0, locals := 48 }
set_option maxHeartbeats 4000000 in
set_option maxRecDepth 100000 in
theorem C_m_high (l : Launch) (D : va_G) (ty : List (ClassId × FieldType)) (sz : Nat) (G : mw_G) (Z : va_W) (hG : mw_ok ty sz G Z) (c : mw_C) (x : Int32) : kp_M l yX3_high cX3_high 2 (some .int) rm_m_high D ty sz [.ref (bM G), .int x] (mw_W G c Z) (some (.int (F_m_high c x))) (mw_W G (S_m_high c x) Z) := by
  refine kp_body (by decide) (Nat.le_of_ble_eq_true rfl) rfl ?_
  intro p e s m args below meth cd ls B hin hl hP hS
  obtain ⟨hx, hb, hml, hown, hlk, hr, hw, hE, hK, hsz⟩ := id B
  have hl : lv_has ls 2 [(0, .ref (bM G)), (1, .int x)] := hl
  refine lv_aload_n hx hb dX3_high_0 rfl (lv_at hl 0 rfl) ?_
  refine lv_iload_n hx hb dX3_high_1 rfl (lv_at hl 1 rfl) ?_
  refine kp_callSR (rm := rm_m_isPlace) (As := [.int x]) (rest := [.ref (bM G)]) (r := some (.int (F_m_isPlace x))) (st1 := [.int (F_m_isPlace x), .ref (bM G)]) B (C_m_isPlace l D ty sz G Z hG c x) kt_m_isPlace kw_316 kw_317 (by decide) ⟨rfl, rfl⟩ (by decide) rfl (Nat.le_of_ble_eq_true rfl) hl.1 hP hS dX3_high_2 rfl ?_
  have hJ22 : W p l e rm_m_high s m args below meth cd s.heap [] 0 0 (MQ below (kp_Q D sz (some (.int (F_m_high c x))) (mw_W G (S_m_high c x) Z)) args s rm_m_high.cells rm_m_high.slots (kp_A sz)) (F0 m 22 ls [.int (if (F_m_isPlace x) = (0 : Int32) then (1 : Int32) else (if (z_i (c.2.1.1 x.toNatClampNeg)) = (0 : Int32) then (1 : Int32) else (0 : Int32))), .ref (bM G)]) := by
    refine km_put0 (v := if (F_m_isPlace x) = (0 : Int32) then (1 : Int32) else (if (z_i (c.2.1.1 x.toNatClampNeg)) = (0 : Int32) then (1 : Int32) else (0 : Int32))) (M' := B_m_high_1 c x) B hG hP hS rfl kw_244 dX3_high_22 (fun H locs hP hS => ?_)
    refine lv_aload_n hx hb dX3_high_25 rfl (lv_at hl 0 rfl) ?_
    refine km_get (j := 0) (v := .int ((B_m_high_1 c x).1.1)) B hP rfl (by decide) kw_244 dX3_high_26 ?_
    refine lv_if_le (tgt := 36) hx hb dX3_high_29 (by decide) (fun q_1 => ?_) (fun q_1 => ?_)
    · refine lv_aload_n hx hb dX3_high_36 rfl (lv_at hl 0 rfl) ?_
      refine lv_aload_n hx hb dX3_high_37 rfl (lv_at hl 0 rfl) ?_
      refine km_get (j := 5) (v := .ref (bH G)) B hP rfl (by decide) kw_300 dX3_high_38 ?_
      refine lv_iload_n hx hb dX3_high_41 rfl (lv_at hl 1 rfl) ?_
      refine km_hald (i := x) (v := ((B_m_high_1 c x).2.1.2.2) x.toNatClampNeg) B hG hP (km_inT (c := c) q_1) rfl dX3_high_42 ?_
      refine kp_callVR (rm := rm_m_pattern) (As := [.long (((B_m_high_1 c x).2.1.2.2) x.toNatClampNeg)]) (rest := []) (r := some (.int (F_m_pattern (B_m_high_1 c x) (((B_m_high_1 c x).2.1.2.2) x.toNatClampNeg)))) (st1 := [.int (F_m_pattern (B_m_high_1 c x) (((B_m_high_1 c x).2.1.2.2) x.toNatClampNeg))]) B (C_m_pattern l D ty sz G Z hG (B_m_high_1 c x) (((B_m_high_1 c x).2.1.2.2) x.toNatClampNeg)) kt_m_pattern kw_383 kw_384 kw_385 (km_rc B hP) (by decide) ⟨rfl, rfl⟩ (by decide) rfl (Nat.le_of_ble_eq_true rfl) hl.1 hP hS dX3_high_43 rfl ?_
      exact kp_reti B (by simp only [S_m_high, if_pos q_1]; exact hP) hS (by simp only [F_m_high, if_pos q_1]) dX3_high_46
    · refine lv_iconst (v := (0 : Int32)) hx hb dX3_high_32 (by decide) ?_
      refine lv_goto (tgt := 46) hx hb dX3_high_33 (by decide) ?_
      exact kp_reti B (by simp only [S_m_high, if_neg q_1]; exact hP) hS (by simp only [F_m_high, if_neg q_1]) dX3_high_46
  refine lv_if_eq (tgt := 21) hx hb dX3_high_5 (by decide) (fun q_2 => ?_) (fun q_2 => ?_)
  · refine lv_iconst (v := (1 : Int32)) hx hb dX3_high_21 (by decide) ?_
    exact kp_jI (by simp only [if_pos q_2]) hJ22
  · refine lv_aload_n hx hb dX3_high_8 rfl (lv_at hl 0 rfl) ?_
    refine km_get (j := 3) (v := .ref (bB G)) B hP rfl (by decide) kw_298 dX3_high_9 ?_
    refine lv_iload_n hx hb dX3_high_12 rfl (lv_at hl 1 rfl) ?_
    refine km_zald (i := x) (v := z_i (c.2.1.1 x.toNatClampNeg)) B hG hP (km_inP q_2) rfl dX3_high_13 ?_
    refine lv_if_eq (tgt := 21) hx hb dX3_high_14 (by decide) (fun q_3 => ?_) (fun q_3 => ?_)
    · refine lv_iconst (v := (1 : Int32)) hx hb dX3_high_21 (by decide) ?_
      exact kp_jI (by simp only [if_neg q_2, if_pos q_3]) hJ22
    · refine lv_iconst (v := (0 : Int32)) hx hb dX3_high_17 (by decide) ?_
      refine lv_goto (tgt := 22) hx hb dX3_high_18 (by decide) ?_
      exact kp_jI (by simp only [if_neg q_2, if_neg q_3]) hJ22
def A_m_middle_1 (c : mw_C) (x : Int32) : Int64 := (((S_m_kind c x).2.1.2.1) x.toNatClampNeg) + (((S_m_kind c x).2.1.2.2) x.toNatClampNeg)
def A_m_middle_2 (c : mw_C) (x : Int32) : Int64 := F_m_rounded (S_m_kind c x) (A_m_middle_1 c x) (2 : Int64) (0 : Int32)
def A_m_middle_3 (c : mw_C) (x : Int32) : Int64 := F_m_rounded (S_m_kind c x) (A_m_middle_1 c x) (2 : Int64) (1 : Int32)
def A_m_middle_4 (c : mw_C) (x : Int32) : Int64 := ((A_m_middle_1 c x) - ((2 : Int64) * (A_m_middle_2 c x))) - (((2 : Int64) * (A_m_middle_3 c x)) - (A_m_middle_1 c x))
def I_m_middle_5 (c : mw_C) (x : Int32) : Int32 := if ((F_m_pattern (S_m_kind c x) (A_m_middle_2 c x)) &&& (1 : Int32)) = (0 : Int32) then (1 : Int32) else (0 : Int32)
def F_m_middle (c : mw_C) (x : Int32) : Int32 :=
  if (F_m_kind c x) = (1 : Int32) then F_m_pattern (S_m_kind c x) (if (A_m_middle_4 c x) < (0 : Int64) then A_m_middle_2 c x else (if (A_m_middle_4 c x) = (0 : Int64) then (if (I_m_middle_5 c x) = (0 : Int32) then A_m_middle_3 c x else A_m_middle_2 c x) else A_m_middle_3 c x)) else (if (F_m_kind c x) = (2 : Int32) then F_m_pattern (S_m_kind c x) (if (A_m_middle_4 c x) < (0 : Int64) then A_m_middle_2 c x else (if (A_m_middle_4 c x) = (0 : Int64) then (if (I_m_middle_5 c x) = (0 : Int32) then A_m_middle_3 c x else A_m_middle_2 c x) else A_m_middle_3 c x)) else F_m_raise (S_m_kind c x) (1 : Int32))
def S_m_middle (c : mw_C) (x : Int32) : mw_C :=
  if (F_m_kind c x) = (1 : Int32) then S_m_kind c x else (if (F_m_kind c x) = (2 : Int32) then S_m_kind c x else S_m_raise (S_m_kind c x) (1 : Int32))
def rm_m_middle : Room := { frames := 2, cells := 0, slots := 0, locals := 55 }
set_option maxHeartbeats 4000000 in
set_option maxRecDepth 100000 in
theorem C_m_middle (l : Launch) (D : va_G) (ty : List (ClassId × FieldType)) (sz : Nat) (G : mw_G) (Z : va_W) (hG : mw_ok ty sz G Z) (c : mw_C) (x : Int32) : kp_M l yX3_middle cX3_middle 12 (some .int) rm_m_middle D ty sz [.ref (bM G), .int x] (mw_W G c Z) (some (.int (F_m_middle c x))) (mw_W G (S_m_middle c x) Z) := by
  refine kp_body (by decide) (Nat.le_of_ble_eq_true rfl) rfl ?_
  intro p e s m args below meth cd ls B hin hl hP hS
  obtain ⟨hx, hb, hml, hown, hlk, hr, hw, hE, hK, hsz⟩ := id B
  have hl : lv_has ls 12 [(0, .ref (bM G)), (1, .int x)] := hl
  refine lv_aload_n hx hb dX3_middle_0 rfl (lv_at hl 0 rfl) ?_
  refine lv_iload_n hx hb dX3_middle_1 rfl (lv_at hl 1 rfl) ?_
  refine kp_callV (rm := rm_m_kind) (As := [.int x]) (rest := []) (r := some (.int (F_m_kind c x))) (st1 := [.int (F_m_kind c x)]) (ws' := mw_W G (S_m_kind c x) Z) B (C_m_kind l D ty sz G Z hG c x) kt_m_kind kw_320 kw_321 kw_322 (km_rc B hP) (by decide) rfl rfl (by decide) rfl (Nat.le_of_ble_eq_true rfl) hl.1 hP hS dX3_middle_2 rfl (fun H locs hP hS => ?_)
  refine lv_istore_n (lv' := [(2, .int (F_m_kind c x)), (0, .ref (bM G)), (1, .int x)]) hx hb dX3_middle_5 rfl hl (by decide) rfl (fun ls hl => ?_)
  refine lv_iload_n hx hb dX3_middle_6 rfl (lv_at hl 0 rfl) ?_
  refine lv_iconst (v := (1 : Int32)) hx hb dX3_middle_7 (by decide) ?_
  refine lv_icmp_eq (tgt := 22) hx hb dX3_middle_8 (by decide) (fun q_1 => ?_) (fun q_1 => ?_)
  · refine lv_aload_n hx hb dX3_middle_22 rfl (lv_at hl 1 rfl) ?_
    refine km_get (j := 4) (v := .ref (bL G)) B hP rfl (by decide) kw_299 dX3_middle_23 ?_
    refine lv_iload_n hx hb dX3_middle_26 rfl (lv_at hl 2 rfl) ?_
    refine km_lald (i := x) (v := ((S_m_kind c x).2.1.2.1) x.toNatClampNeg) B hG hP (km_inK (Or.inl q_1)) rfl dX3_middle_27 ?_
    refine lv_aload_n hx hb dX3_middle_28 rfl (lv_at hl 1 rfl) ?_
    refine km_get (j := 5) (v := .ref (bH G)) B hP rfl (by decide) kw_300 dX3_middle_29 ?_
    refine lv_iload_n hx hb dX3_middle_32 rfl (lv_at hl 2 rfl) ?_
    refine km_hald (i := x) (v := ((S_m_kind c x).2.1.2.2) x.toNatClampNeg) B hG hP (km_inK (Or.inl q_1)) rfl dX3_middle_33 ?_
    refine lv_ladd hx hb dX3_middle_34 ?_
    refine W.eq (g2 := F0 m 35 ls [.long (A_m_middle_1 c x)]) rfl ?_
    refine lv_lstore_n (lv' := [(3, .long (A_m_middle_1 c x)), (2, .int (F_m_kind c x)), (0, .ref (bM G)), (1, .int x)]) hx hb dX3_middle_35 rfl hl (by decide) rfl (fun ls hl => ?_)
    refine lv_aload_n hx hb dX3_middle_36 rfl (lv_at hl 2 rfl) ?_
    refine lv_lload_n hx hb dX3_middle_37 rfl (lv_at hl 0 rfl) ?_
    refine lv_ldc2 (v := (2 : Int64)) hx hb hown (hw _ kw_247 rfl) dX3_middle_38 ?_
    refine lv_iconst (v := (0 : Int32)) hx hb dX3_middle_41 (by decide) ?_
    refine kp_callVR (rm := rm_m_rounded) (As := [.long (A_m_middle_1 c x), .long (2 : Int64), .int (0 : Int32)]) (rest := []) (r := some (.long (F_m_rounded (S_m_kind c x) (A_m_middle_1 c x) (2 : Int64) (0 : Int32)))) (st1 := [.long (F_m_rounded (S_m_kind c x) (A_m_middle_1 c x) (2 : Int64) (0 : Int32))]) B (C_m_rounded l D ty sz G Z hG (S_m_kind c x) (A_m_middle_1 c x) (2 : Int64) (0 : Int32) (by decide)) kt_m_rounded kw_271 kw_272 kw_273 (km_rc B hP) (by decide) ⟨rfl, rfl⟩ (by decide) rfl (Nat.le_of_ble_eq_true rfl) hl.1 hP hS dX3_middle_42 rfl ?_
    refine W.eq (g2 := F0 m 45 ls [.long (A_m_middle_2 c x)]) rfl ?_
    refine lv_lstore (lv' := [(5, .long (A_m_middle_2 c x)), (3, .long (A_m_middle_1 c x)), (2, .int (F_m_kind c x)), (0, .ref (bM G)), (1, .int x)]) hx hb dX3_middle_45 hl (by decide) rfl (fun ls hl => ?_)
    refine lv_aload_n hx hb dX3_middle_47 rfl (lv_at hl 3 rfl) ?_
    refine lv_lload_n hx hb dX3_middle_48 rfl (lv_at hl 1 rfl) ?_
    refine lv_ldc2 (v := (2 : Int64)) hx hb hown (hw _ kw_247 rfl) dX3_middle_49 ?_
    refine lv_iconst (v := (1 : Int32)) hx hb dX3_middle_52 (by decide) ?_
    refine kp_callVR (rm := rm_m_rounded) (As := [.long (A_m_middle_1 c x), .long (2 : Int64), .int (1 : Int32)]) (rest := []) (r := some (.long (F_m_rounded (S_m_kind c x) (A_m_middle_1 c x) (2 : Int64) (1 : Int32)))) (st1 := [.long (F_m_rounded (S_m_kind c x) (A_m_middle_1 c x) (2 : Int64) (1 : Int32))]) B (C_m_rounded l D ty sz G Z hG (S_m_kind c x) (A_m_middle_1 c x) (2 : Int64) (1 : Int32) (by decide)) kt_m_rounded kw_271 kw_272 kw_273 (km_rc B hP) (by decide) ⟨rfl, rfl⟩ (by decide) rfl (Nat.le_of_ble_eq_true rfl) hl.1 hP hS dX3_middle_53 rfl ?_
    refine W.eq (g2 := F0 m 56 ls [.long (A_m_middle_3 c x)]) rfl ?_
    refine lv_lstore (lv' := [(7, .long (A_m_middle_3 c x)), (5, .long (A_m_middle_2 c x)), (3, .long (A_m_middle_1 c x)), (2, .int (F_m_kind c x)), (0, .ref (bM G)), (1, .int x)]) hx hb dX3_middle_56 hl (by decide) rfl (fun ls hl => ?_)
    refine lv_lload_n hx hb dX3_middle_58 rfl (lv_at hl 2 rfl) ?_
    refine lv_ldc2 (v := (2 : Int64)) hx hb hown (hw _ kw_247 rfl) dX3_middle_59 ?_
    refine lv_lload hx hb dX3_middle_62 (lv_at hl 1 rfl) ?_
    refine lv_lmul hx hb dX3_middle_64 ?_
    refine lv_lsub hx hb dX3_middle_65 ?_
    refine lv_ldc2 (v := (2 : Int64)) hx hb hown (hw _ kw_247 rfl) dX3_middle_66 ?_
    refine lv_lload hx hb dX3_middle_69 (lv_at hl 0 rfl) ?_
    refine lv_lmul hx hb dX3_middle_71 ?_
    refine lv_lload_n hx hb dX3_middle_72 rfl (lv_at hl 2 rfl) ?_
    refine lv_lsub hx hb dX3_middle_73 ?_
    refine lv_lsub hx hb dX3_middle_74 ?_
    refine W.eq (g2 := F0 m 75 ls [.long (A_m_middle_4 c x)]) rfl ?_
    refine lv_lstore (lv' := [(9, .long (A_m_middle_4 c x)), (7, .long (A_m_middle_3 c x)), (5, .long (A_m_middle_2 c x)), (3, .long (A_m_middle_1 c x)), (2, .int (F_m_kind c x)), (0, .ref (bM G)), (1, .int x)]) hx hb dX3_middle_75 hl (by decide) rfl (fun ls hl => ?_)
    refine lv_aload_n hx hb dX3_middle_77 rfl (lv_at hl 5 rfl) ?_
    refine lv_lload hx hb dX3_middle_78 (lv_at hl 2 rfl) ?_
    refine kp_callVR (rm := rm_m_pattern) (As := [.long (A_m_middle_2 c x)]) (rest := []) (r := some (.int (F_m_pattern (S_m_kind c x) (A_m_middle_2 c x)))) (st1 := [.int (F_m_pattern (S_m_kind c x) (A_m_middle_2 c x))]) B (C_m_pattern l D ty sz G Z hG (S_m_kind c x) (A_m_middle_2 c x)) kt_m_pattern kw_383 kw_384 kw_385 (km_rc B hP) (by decide) ⟨rfl, rfl⟩ (by decide) rfl (Nat.le_of_ble_eq_true rfl) hl.1 hP hS dX3_middle_80 rfl ?_
    refine lv_iconst (v := (1 : Int32)) hx hb dX3_middle_83 (by decide) ?_
    refine lv_iand hx hb dX3_middle_84 ?_
    have hJ93 : W p l e rm_m_middle s m args below meth cd H locs 0 0 (MQ below (kp_Q D sz (some (.int (F_m_middle c x))) (mw_W G (S_m_middle c x) Z)) args s rm_m_middle.cells rm_m_middle.slots (kp_A sz)) (F0 m 93 ls [.int (if ((F_m_pattern (S_m_kind c x) (A_m_middle_2 c x)) &&& (1 : Int32)) = (0 : Int32) then (1 : Int32) else (0 : Int32))]) := by
      refine W.eq (g2 := F0 m 93 ls [.int (I_m_middle_5 c x)]) rfl ?_
      refine lv_istore (lv' := [(11, .int (I_m_middle_5 c x)), (9, .long (A_m_middle_4 c x)), (7, .long (A_m_middle_3 c x)), (5, .long (A_m_middle_2 c x)), (3, .long (A_m_middle_1 c x)), (2, .int (F_m_kind c x)), (0, .ref (bM G)), (1, .int x)]) hx hb dX3_middle_93 hl (by decide) rfl (fun ls hl => ?_)
      refine lv_aload_n hx hb dX3_middle_95 rfl (lv_at hl 6 rfl) ?_
      refine lv_lload hx hb dX3_middle_96 (lv_at hl 1 rfl) ?_
      refine lv_lconst (v := (0 : Int64)) hx hb dX3_middle_98 (by decide) ?_
      have hJ122 : W p l e rm_m_middle s m args below meth cd H locs 0 0 (MQ below (kp_Q D sz (some (.int (F_m_middle c x))) (mw_W G (S_m_middle c x) Z)) args s rm_m_middle.cells rm_m_middle.slots (kp_A sz)) (F0 m 122 ls [.long (if (A_m_middle_4 c x) < (0 : Int64) then A_m_middle_2 c x else (if (A_m_middle_4 c x) = (0 : Int64) then (if (I_m_middle_5 c x) = (0 : Int32) then A_m_middle_3 c x else A_m_middle_2 c x) else A_m_middle_3 c x)), .ref (bM G)]) := by
        refine kp_callVR (rm := rm_m_pattern) (As := [.long (if (A_m_middle_4 c x) < (0 : Int64) then A_m_middle_2 c x else (if (A_m_middle_4 c x) = (0 : Int64) then (if (I_m_middle_5 c x) = (0 : Int32) then A_m_middle_3 c x else A_m_middle_2 c x) else A_m_middle_3 c x))]) (rest := []) (r := some (.int (F_m_pattern (S_m_kind c x) (if (A_m_middle_4 c x) < (0 : Int64) then A_m_middle_2 c x else (if (A_m_middle_4 c x) = (0 : Int64) then (if (I_m_middle_5 c x) = (0 : Int32) then A_m_middle_3 c x else A_m_middle_2 c x) else A_m_middle_3 c x))))) (st1 := [.int (F_m_pattern (S_m_kind c x) (if (A_m_middle_4 c x) < (0 : Int64) then A_m_middle_2 c x else (if (A_m_middle_4 c x) = (0 : Int64) then (if (I_m_middle_5 c x) = (0 : Int32) then A_m_middle_3 c x else A_m_middle_2 c x) else A_m_middle_3 c x)))]) B (C_m_pattern l D ty sz G Z hG (S_m_kind c x) (if (A_m_middle_4 c x) < (0 : Int64) then A_m_middle_2 c x else (if (A_m_middle_4 c x) = (0 : Int64) then (if (I_m_middle_5 c x) = (0 : Int32) then A_m_middle_3 c x else A_m_middle_2 c x) else A_m_middle_3 c x))) kt_m_pattern kw_383 kw_384 kw_385 (km_rc B hP) (by decide) ⟨rfl, rfl⟩ (by decide) rfl (Nat.le_of_ble_eq_true rfl) hl.1 hP hS dX3_middle_122 rfl ?_
        exact kp_reti B (by simp only [S_m_middle, if_pos q_1]; exact hP) hS (by simp only [F_m_middle, if_pos q_1]) dX3_middle_125
      refine kp_llt (tgt := 115) hx hb dX3_middle_99 dX3_middle_100 (by decide) (fun q_2 => ?_) (fun q_2 => ?_)
      · refine lv_lload hx hb dX3_middle_115 (lv_at hl 3 rfl) ?_
        refine lv_goto (tgt := 122) hx hb dX3_middle_117 (by decide) ?_
        exact kp_jJ (by simp only [if_pos q_2]) hJ122
      · refine lv_lload hx hb dX3_middle_103 (lv_at hl 1 rfl) ?_
        refine lv_lconst (v := (0 : Int64)) hx hb dX3_middle_105 (by decide) ?_
        refine kp_lne (tgt := 120) hx hb dX3_middle_106 dX3_middle_107 (by decide) (fun q_3 => ?_) (fun q_3 => ?_)
        · refine lv_lload hx hb dX3_middle_120 (lv_at hl 2 rfl) ?_
          exact kp_jJ (by simp only [if_neg q_2, if_neg q_3]) hJ122
        · refine lv_iload hx hb dX3_middle_110 (lv_at hl 0 rfl) ?_
          refine lv_if_eq (tgt := 120) hx hb dX3_middle_112 (by decide) (fun q_4 => ?_) (fun q_4 => ?_)
          · refine lv_lload hx hb dX3_middle_120 (lv_at hl 2 rfl) ?_
            exact kp_jJ (by simp only [if_neg q_2, if_pos q_3, if_pos q_4]) hJ122
          · refine lv_lload hx hb dX3_middle_115 (lv_at hl 3 rfl) ?_
            refine lv_goto (tgt := 122) hx hb dX3_middle_117 (by decide) ?_
            exact kp_jJ (by simp only [if_neg q_2, if_pos q_3, if_neg q_4]) hJ122
    refine lv_if_ne (tgt := 92) hx hb dX3_middle_85 (by decide) (fun q_5 => ?_) (fun q_5 => ?_)
    · refine lv_iconst (v := (0 : Int32)) hx hb dX3_middle_92 (by decide) ?_
      exact kp_jI (by simp only [if_neg q_5]) hJ93
    · refine lv_iconst (v := (1 : Int32)) hx hb dX3_middle_88 (by decide) ?_
      refine lv_goto (tgt := 93) hx hb dX3_middle_89 (by decide) ?_
      exact kp_jI (by simp only [if_pos q_5]) hJ93
  · refine lv_iload_n hx hb dX3_middle_11 rfl (lv_at hl 0 rfl) ?_
    refine lv_iconst (v := (2 : Int32)) hx hb dX3_middle_12 (by decide) ?_
    refine lv_icmp_eq (tgt := 22) hx hb dX3_middle_13 (by decide) (fun q_6 => ?_) (fun q_6 => ?_)
    · refine lv_aload_n hx hb dX3_middle_22 rfl (lv_at hl 1 rfl) ?_
      refine km_get (j := 4) (v := .ref (bL G)) B hP rfl (by decide) kw_299 dX3_middle_23 ?_
      refine lv_iload_n hx hb dX3_middle_26 rfl (lv_at hl 2 rfl) ?_
      refine km_lald (i := x) (v := ((S_m_kind c x).2.1.2.1) x.toNatClampNeg) B hG hP (km_inK (Or.inr q_6)) rfl dX3_middle_27 ?_
      refine lv_aload_n hx hb dX3_middle_28 rfl (lv_at hl 1 rfl) ?_
      refine km_get (j := 5) (v := .ref (bH G)) B hP rfl (by decide) kw_300 dX3_middle_29 ?_
      refine lv_iload_n hx hb dX3_middle_32 rfl (lv_at hl 2 rfl) ?_
      refine km_hald (i := x) (v := ((S_m_kind c x).2.1.2.2) x.toNatClampNeg) B hG hP (km_inK (Or.inr q_6)) rfl dX3_middle_33 ?_
      refine lv_ladd hx hb dX3_middle_34 ?_
      refine W.eq (g2 := F0 m 35 ls [.long (A_m_middle_1 c x)]) rfl ?_
      refine lv_lstore_n (lv' := [(3, .long (A_m_middle_1 c x)), (2, .int (F_m_kind c x)), (0, .ref (bM G)), (1, .int x)]) hx hb dX3_middle_35 rfl hl (by decide) rfl (fun ls hl => ?_)
      refine lv_aload_n hx hb dX3_middle_36 rfl (lv_at hl 2 rfl) ?_
      refine lv_lload_n hx hb dX3_middle_37 rfl (lv_at hl 0 rfl) ?_
      refine lv_ldc2 (v := (2 : Int64)) hx hb hown (hw _ kw_247 rfl) dX3_middle_38 ?_
      refine lv_iconst (v := (0 : Int32)) hx hb dX3_middle_41 (by decide) ?_
      refine kp_callVR (rm := rm_m_rounded) (As := [.long (A_m_middle_1 c x), .long (2 : Int64), .int (0 : Int32)]) (rest := []) (r := some (.long (F_m_rounded (S_m_kind c x) (A_m_middle_1 c x) (2 : Int64) (0 : Int32)))) (st1 := [.long (F_m_rounded (S_m_kind c x) (A_m_middle_1 c x) (2 : Int64) (0 : Int32))]) B (C_m_rounded l D ty sz G Z hG (S_m_kind c x) (A_m_middle_1 c x) (2 : Int64) (0 : Int32) (by decide)) kt_m_rounded kw_271 kw_272 kw_273 (km_rc B hP) (by decide) ⟨rfl, rfl⟩ (by decide) rfl (Nat.le_of_ble_eq_true rfl) hl.1 hP hS dX3_middle_42 rfl ?_
      refine W.eq (g2 := F0 m 45 ls [.long (A_m_middle_2 c x)]) rfl ?_
      refine lv_lstore (lv' := [(5, .long (A_m_middle_2 c x)), (3, .long (A_m_middle_1 c x)), (2, .int (F_m_kind c x)), (0, .ref (bM G)), (1, .int x)]) hx hb dX3_middle_45 hl (by decide) rfl (fun ls hl => ?_)
      refine lv_aload_n hx hb dX3_middle_47 rfl (lv_at hl 3 rfl) ?_
      refine lv_lload_n hx hb dX3_middle_48 rfl (lv_at hl 1 rfl) ?_
      refine lv_ldc2 (v := (2 : Int64)) hx hb hown (hw _ kw_247 rfl) dX3_middle_49 ?_
      refine lv_iconst (v := (1 : Int32)) hx hb dX3_middle_52 (by decide) ?_
      refine kp_callVR (rm := rm_m_rounded) (As := [.long (A_m_middle_1 c x), .long (2 : Int64), .int (1 : Int32)]) (rest := []) (r := some (.long (F_m_rounded (S_m_kind c x) (A_m_middle_1 c x) (2 : Int64) (1 : Int32)))) (st1 := [.long (F_m_rounded (S_m_kind c x) (A_m_middle_1 c x) (2 : Int64) (1 : Int32))]) B (C_m_rounded l D ty sz G Z hG (S_m_kind c x) (A_m_middle_1 c x) (2 : Int64) (1 : Int32) (by decide)) kt_m_rounded kw_271 kw_272 kw_273 (km_rc B hP) (by decide) ⟨rfl, rfl⟩ (by decide) rfl (Nat.le_of_ble_eq_true rfl) hl.1 hP hS dX3_middle_53 rfl ?_
      refine W.eq (g2 := F0 m 56 ls [.long (A_m_middle_3 c x)]) rfl ?_
      refine lv_lstore (lv' := [(7, .long (A_m_middle_3 c x)), (5, .long (A_m_middle_2 c x)), (3, .long (A_m_middle_1 c x)), (2, .int (F_m_kind c x)), (0, .ref (bM G)), (1, .int x)]) hx hb dX3_middle_56 hl (by decide) rfl (fun ls hl => ?_)
      refine lv_lload_n hx hb dX3_middle_58 rfl (lv_at hl 2 rfl) ?_
      refine lv_ldc2 (v := (2 : Int64)) hx hb hown (hw _ kw_247 rfl) dX3_middle_59 ?_
      refine lv_lload hx hb dX3_middle_62 (lv_at hl 1 rfl) ?_
      refine lv_lmul hx hb dX3_middle_64 ?_
      refine lv_lsub hx hb dX3_middle_65 ?_
      refine lv_ldc2 (v := (2 : Int64)) hx hb hown (hw _ kw_247 rfl) dX3_middle_66 ?_
      refine lv_lload hx hb dX3_middle_69 (lv_at hl 0 rfl) ?_
      refine lv_lmul hx hb dX3_middle_71 ?_
      refine lv_lload_n hx hb dX3_middle_72 rfl (lv_at hl 2 rfl) ?_
      refine lv_lsub hx hb dX3_middle_73 ?_
      refine lv_lsub hx hb dX3_middle_74 ?_
      refine W.eq (g2 := F0 m 75 ls [.long (A_m_middle_4 c x)]) rfl ?_
      refine lv_lstore (lv' := [(9, .long (A_m_middle_4 c x)), (7, .long (A_m_middle_3 c x)), (5, .long (A_m_middle_2 c x)), (3, .long (A_m_middle_1 c x)), (2, .int (F_m_kind c x)), (0, .ref (bM G)), (1, .int x)]) hx hb dX3_middle_75 hl (by decide) rfl (fun ls hl => ?_)
      refine lv_aload_n hx hb dX3_middle_77 rfl (lv_at hl 5 rfl) ?_
      refine lv_lload hx hb dX3_middle_78 (lv_at hl 2 rfl) ?_
      refine kp_callVR (rm := rm_m_pattern) (As := [.long (A_m_middle_2 c x)]) (rest := []) (r := some (.int (F_m_pattern (S_m_kind c x) (A_m_middle_2 c x)))) (st1 := [.int (F_m_pattern (S_m_kind c x) (A_m_middle_2 c x))]) B (C_m_pattern l D ty sz G Z hG (S_m_kind c x) (A_m_middle_2 c x)) kt_m_pattern kw_383 kw_384 kw_385 (km_rc B hP) (by decide) ⟨rfl, rfl⟩ (by decide) rfl (Nat.le_of_ble_eq_true rfl) hl.1 hP hS dX3_middle_80 rfl ?_
      refine lv_iconst (v := (1 : Int32)) hx hb dX3_middle_83 (by decide) ?_
      refine lv_iand hx hb dX3_middle_84 ?_
      have hJ93 : W p l e rm_m_middle s m args below meth cd H locs 0 0 (MQ below (kp_Q D sz (some (.int (F_m_middle c x))) (mw_W G (S_m_middle c x) Z)) args s rm_m_middle.cells rm_m_middle.slots (kp_A sz)) (F0 m 93 ls [.int (if ((F_m_pattern (S_m_kind c x) (A_m_middle_2 c x)) &&& (1 : Int32)) = (0 : Int32) then (1 : Int32) else (0 : Int32))]) := by
        refine W.eq (g2 := F0 m 93 ls [.int (I_m_middle_5 c x)]) rfl ?_
        refine lv_istore (lv' := [(11, .int (I_m_middle_5 c x)), (9, .long (A_m_middle_4 c x)), (7, .long (A_m_middle_3 c x)), (5, .long (A_m_middle_2 c x)), (3, .long (A_m_middle_1 c x)), (2, .int (F_m_kind c x)), (0, .ref (bM G)), (1, .int x)]) hx hb dX3_middle_93 hl (by decide) rfl (fun ls hl => ?_)
        refine lv_aload_n hx hb dX3_middle_95 rfl (lv_at hl 6 rfl) ?_
        refine lv_lload hx hb dX3_middle_96 (lv_at hl 1 rfl) ?_
        refine lv_lconst (v := (0 : Int64)) hx hb dX3_middle_98 (by decide) ?_
        have hJ122 : W p l e rm_m_middle s m args below meth cd H locs 0 0 (MQ below (kp_Q D sz (some (.int (F_m_middle c x))) (mw_W G (S_m_middle c x) Z)) args s rm_m_middle.cells rm_m_middle.slots (kp_A sz)) (F0 m 122 ls [.long (if (A_m_middle_4 c x) < (0 : Int64) then A_m_middle_2 c x else (if (A_m_middle_4 c x) = (0 : Int64) then (if (I_m_middle_5 c x) = (0 : Int32) then A_m_middle_3 c x else A_m_middle_2 c x) else A_m_middle_3 c x)), .ref (bM G)]) := by
          refine kp_callVR (rm := rm_m_pattern) (As := [.long (if (A_m_middle_4 c x) < (0 : Int64) then A_m_middle_2 c x else (if (A_m_middle_4 c x) = (0 : Int64) then (if (I_m_middle_5 c x) = (0 : Int32) then A_m_middle_3 c x else A_m_middle_2 c x) else A_m_middle_3 c x))]) (rest := []) (r := some (.int (F_m_pattern (S_m_kind c x) (if (A_m_middle_4 c x) < (0 : Int64) then A_m_middle_2 c x else (if (A_m_middle_4 c x) = (0 : Int64) then (if (I_m_middle_5 c x) = (0 : Int32) then A_m_middle_3 c x else A_m_middle_2 c x) else A_m_middle_3 c x))))) (st1 := [.int (F_m_pattern (S_m_kind c x) (if (A_m_middle_4 c x) < (0 : Int64) then A_m_middle_2 c x else (if (A_m_middle_4 c x) = (0 : Int64) then (if (I_m_middle_5 c x) = (0 : Int32) then A_m_middle_3 c x else A_m_middle_2 c x) else A_m_middle_3 c x)))]) B (C_m_pattern l D ty sz G Z hG (S_m_kind c x) (if (A_m_middle_4 c x) < (0 : Int64) then A_m_middle_2 c x else (if (A_m_middle_4 c x) = (0 : Int64) then (if (I_m_middle_5 c x) = (0 : Int32) then A_m_middle_3 c x else A_m_middle_2 c x) else A_m_middle_3 c x))) kt_m_pattern kw_383 kw_384 kw_385 (km_rc B hP) (by decide) ⟨rfl, rfl⟩ (by decide) rfl (Nat.le_of_ble_eq_true rfl) hl.1 hP hS dX3_middle_122 rfl ?_
          exact kp_reti B (by simp only [S_m_middle, if_neg q_1, if_pos q_6]; exact hP) hS (by simp only [F_m_middle, if_neg q_1, if_pos q_6]) dX3_middle_125
        refine kp_llt (tgt := 115) hx hb dX3_middle_99 dX3_middle_100 (by decide) (fun q_7 => ?_) (fun q_7 => ?_)
        · refine lv_lload hx hb dX3_middle_115 (lv_at hl 3 rfl) ?_
          refine lv_goto (tgt := 122) hx hb dX3_middle_117 (by decide) ?_
          exact kp_jJ (by simp only [if_pos q_7]) hJ122
        · refine lv_lload hx hb dX3_middle_103 (lv_at hl 1 rfl) ?_
          refine lv_lconst (v := (0 : Int64)) hx hb dX3_middle_105 (by decide) ?_
          refine kp_lne (tgt := 120) hx hb dX3_middle_106 dX3_middle_107 (by decide) (fun q_8 => ?_) (fun q_8 => ?_)
          · refine lv_lload hx hb dX3_middle_120 (lv_at hl 2 rfl) ?_
            exact kp_jJ (by simp only [if_neg q_7, if_neg q_8]) hJ122
          · refine lv_iload hx hb dX3_middle_110 (lv_at hl 0 rfl) ?_
            refine lv_if_eq (tgt := 120) hx hb dX3_middle_112 (by decide) (fun q_9 => ?_) (fun q_9 => ?_)
            · refine lv_lload hx hb dX3_middle_120 (lv_at hl 2 rfl) ?_
              exact kp_jJ (by simp only [if_neg q_7, if_pos q_8, if_pos q_9]) hJ122
            · refine lv_lload hx hb dX3_middle_115 (lv_at hl 3 rfl) ?_
              refine lv_goto (tgt := 122) hx hb dX3_middle_117 (by decide) ?_
              exact kp_jJ (by simp only [if_neg q_7, if_pos q_8, if_neg q_9]) hJ122
      refine lv_if_ne (tgt := 92) hx hb dX3_middle_85 (by decide) (fun q_10 => ?_) (fun q_10 => ?_)
      · refine lv_iconst (v := (0 : Int32)) hx hb dX3_middle_92 (by decide) ?_
        exact kp_jI (by simp only [if_neg q_10]) hJ93
      · refine lv_iconst (v := (1 : Int32)) hx hb dX3_middle_88 (by decide) ?_
        refine lv_goto (tgt := 93) hx hb dX3_middle_89 (by decide) ?_
        exact kp_jI (by simp only [if_pos q_10]) hJ93
    · refine lv_aload_n hx hb dX3_middle_16 rfl (lv_at hl 1 rfl) ?_
      refine lv_iconst (v := (1 : Int32)) hx hb dX3_middle_17 (by decide) ?_
      refine kp_callV (rm := rm_m_raise) (As := [.int (1 : Int32)]) (rest := []) (r := some (.int (F_m_raise (S_m_kind c x) (1 : Int32)))) (st1 := [.int (F_m_raise (S_m_kind c x) (1 : Int32))]) (ws' := mw_W G (S_m_raise (S_m_kind c x) (1 : Int32)) Z) B (C_m_raise l D ty sz G Z hG (S_m_kind c x) (1 : Int32)) kt_m_raise kw_358 kw_359 kw_360 (km_rc B hP) (by decide) rfl rfl (by decide) rfl (Nat.le_of_ble_eq_true rfl) hl.1 hP hS dX3_middle_18 rfl (fun H locs hP hS => ?_)
      exact kp_reti B (by simp only [S_m_middle, if_neg q_1, if_neg q_6]; exact hP) hS (by simp only [F_m_middle, if_neg q_1, if_neg q_6]) dX3_middle_21
def B_m_width_1 (c : mw_C) (x : Int32) : mw_C := mp_thrown c (if (F_m_isPlace x) = (0 : Int32) then (1 : Int32) else (if (z_i (c.2.1.1 x.toNatClampNeg)) = (0 : Int32) then (1 : Int32) else (0 : Int32)))
def I_m_width_2 (c : mw_C) (x : Int32) : Int32 := if (F_m_isEnd (((B_m_width_1 c x).2.1.2.1) x.toNatClampNeg)) = (0 : Int32) then (0 : Int32) else (if (F_m_isEnd (((B_m_width_1 c x).2.1.2.2) x.toNatClampNeg)) = (0 : Int32) then (0 : Int32) else (1 : Int32))
def F_m_width (c : mw_C) (x : Int32) : Int32 :=
  if ((B_m_width_1 c x).1.1) ≤ (0 : Int32) then F_m_pattern (B_m_width_1 c x) (if (I_m_width_2 c x) = (0 : Int32) then mw_far else F_m_rounded (B_m_width_1 c x) ((((B_m_width_1 c x).2.1.2.2) x.toNatClampNeg) - (((B_m_width_1 c x).2.1.2.1) x.toNatClampNeg)) (1 : Int64) (1 : Int32)) else (0 : Int32)
def S_m_width (c : mw_C) (x : Int32) : mw_C :=
  if ((B_m_width_1 c x).1.1) ≤ (0 : Int32) then B_m_width_1 c x else B_m_width_1 c x
def rm_m_width : Room := { frames := 2, cells := 0, slots := 0, locals := 55 }
set_option maxHeartbeats 4000000 in
set_option maxRecDepth 100000 in
theorem C_m_width (l : Launch) (D : va_G) (ty : List (ClassId × FieldType)) (sz : Nat) (G : mw_G) (Z : va_W) (hG : mw_ok ty sz G Z) (c : mw_C) (x : Int32) : kp_M l yX3_width cX3_width 3 (some .int) rm_m_width D ty sz [.ref (bM G), .int x] (mw_W G c Z) (some (.int (F_m_width c x))) (mw_W G (S_m_width c x) Z) := by
  refine kp_body (by decide) (Nat.le_of_ble_eq_true rfl) rfl ?_
  intro p e s m args below meth cd ls B hin hl hP hS
  obtain ⟨hx, hb, hml, hown, hlk, hr, hw, hE, hK, hsz⟩ := id B
  have hl : lv_has ls 3 [(0, .ref (bM G)), (1, .int x)] := hl
  refine lv_aload_n hx hb dX3_width_0 rfl (lv_at hl 0 rfl) ?_
  refine lv_iload_n hx hb dX3_width_1 rfl (lv_at hl 1 rfl) ?_
  refine kp_callSR (rm := rm_m_isPlace) (As := [.int x]) (rest := [.ref (bM G)]) (r := some (.int (F_m_isPlace x))) (st1 := [.int (F_m_isPlace x), .ref (bM G)]) B (C_m_isPlace l D ty sz G Z hG c x) kt_m_isPlace kw_316 kw_317 (by decide) ⟨rfl, rfl⟩ (by decide) rfl (Nat.le_of_ble_eq_true rfl) hl.1 hP hS dX3_width_2 rfl ?_
  have hJ22 : W p l e rm_m_width s m args below meth cd s.heap [] 0 0 (MQ below (kp_Q D sz (some (.int (F_m_width c x))) (mw_W G (S_m_width c x) Z)) args s rm_m_width.cells rm_m_width.slots (kp_A sz)) (F0 m 22 ls [.int (if (F_m_isPlace x) = (0 : Int32) then (1 : Int32) else (if (z_i (c.2.1.1 x.toNatClampNeg)) = (0 : Int32) then (1 : Int32) else (0 : Int32))), .ref (bM G)]) := by
    refine km_put0 (v := if (F_m_isPlace x) = (0 : Int32) then (1 : Int32) else (if (z_i (c.2.1.1 x.toNatClampNeg)) = (0 : Int32) then (1 : Int32) else (0 : Int32))) (M' := B_m_width_1 c x) B hG hP hS rfl kw_244 dX3_width_22 (fun H locs hP hS => ?_)
    refine lv_aload_n hx hb dX3_width_25 rfl (lv_at hl 0 rfl) ?_
    refine km_get (j := 0) (v := .int ((B_m_width_1 c x).1.1)) B hP rfl (by decide) kw_244 dX3_width_26 ?_
    refine lv_if_le (tgt := 34) hx hb dX3_width_29 (by decide) (fun q_1 => ?_) (fun q_1 => ?_)
    · refine lv_aload_n hx hb dX3_width_34 rfl (lv_at hl 0 rfl) ?_
      refine km_get (j := 4) (v := .ref (bL G)) B hP rfl (by decide) kw_299 dX3_width_35 ?_
      refine lv_iload_n hx hb dX3_width_38 rfl (lv_at hl 1 rfl) ?_
      refine km_lald (i := x) (v := ((B_m_width_1 c x).2.1.2.1) x.toNatClampNeg) B hG hP (km_inT (c := c) q_1) rfl dX3_width_39 ?_
      refine kp_callSR (rm := rm_m_isEnd) (As := [.long (((B_m_width_1 c x).2.1.2.1) x.toNatClampNeg)]) (rest := []) (r := some (.int (F_m_isEnd (((B_m_width_1 c x).2.1.2.1) x.toNatClampNeg)))) (st1 := [.int (F_m_isEnd (((B_m_width_1 c x).2.1.2.1) x.toNatClampNeg))]) B (C_m_isEnd l D ty sz G Z hG (B_m_width_1 c x) (((B_m_width_1 c x).2.1.2.1) x.toNatClampNeg)) kt_m_isEnd kw_266 kw_267 (by decide) ⟨rfl, rfl⟩ (by decide) rfl (Nat.le_of_ble_eq_true rfl) hl.1 hP hS dX3_width_40 rfl ?_
      have hJ63 : W p l e rm_m_width s m args below meth cd H locs 0 0 (MQ below (kp_Q D sz (some (.int (F_m_width c x))) (mw_W G (S_m_width c x) Z)) args s rm_m_width.cells rm_m_width.slots (kp_A sz)) (F0 m 63 ls [.int (if (F_m_isEnd (((B_m_width_1 c x).2.1.2.1) x.toNatClampNeg)) = (0 : Int32) then (0 : Int32) else (if (F_m_isEnd (((B_m_width_1 c x).2.1.2.2) x.toNatClampNeg)) = (0 : Int32) then (0 : Int32) else (1 : Int32)))]) := by
        refine W.eq (g2 := F0 m 63 ls [.int (I_m_width_2 c x)]) rfl ?_
        refine lv_istore_n (lv' := [(2, .int (I_m_width_2 c x)), (0, .ref (bM G)), (1, .int x)]) hx hb dX3_width_63 rfl hl (by decide) rfl (fun ls hl => ?_)
        refine lv_aload_n hx hb dX3_width_64 rfl (lv_at hl 1 rfl) ?_
        refine lv_iload_n hx hb dX3_width_65 rfl (lv_at hl 0 rfl) ?_
        have hJ94 : W p l e rm_m_width s m args below meth cd H locs 0 0 (MQ below (kp_Q D sz (some (.int (F_m_width c x))) (mw_W G (S_m_width c x) Z)) args s rm_m_width.cells rm_m_width.slots (kp_A sz)) (F0 m 94 ls [.long (if (I_m_width_2 c x) = (0 : Int32) then mw_far else F_m_rounded (B_m_width_1 c x) ((((B_m_width_1 c x).2.1.2.2) x.toNatClampNeg) - (((B_m_width_1 c x).2.1.2.1) x.toNatClampNeg)) (1 : Int64) (1 : Int32)), .ref (bM G)]) := by
          refine kp_callVR (rm := rm_m_pattern) (As := [.long (if (I_m_width_2 c x) = (0 : Int32) then mw_far else F_m_rounded (B_m_width_1 c x) ((((B_m_width_1 c x).2.1.2.2) x.toNatClampNeg) - (((B_m_width_1 c x).2.1.2.1) x.toNatClampNeg)) (1 : Int64) (1 : Int32))]) (rest := []) (r := some (.int (F_m_pattern (B_m_width_1 c x) (if (I_m_width_2 c x) = (0 : Int32) then mw_far else F_m_rounded (B_m_width_1 c x) ((((B_m_width_1 c x).2.1.2.2) x.toNatClampNeg) - (((B_m_width_1 c x).2.1.2.1) x.toNatClampNeg)) (1 : Int64) (1 : Int32))))) (st1 := [.int (F_m_pattern (B_m_width_1 c x) (if (I_m_width_2 c x) = (0 : Int32) then mw_far else F_m_rounded (B_m_width_1 c x) ((((B_m_width_1 c x).2.1.2.2) x.toNatClampNeg) - (((B_m_width_1 c x).2.1.2.1) x.toNatClampNeg)) (1 : Int64) (1 : Int32)))]) B (C_m_pattern l D ty sz G Z hG (B_m_width_1 c x) (if (I_m_width_2 c x) = (0 : Int32) then mw_far else F_m_rounded (B_m_width_1 c x) ((((B_m_width_1 c x).2.1.2.2) x.toNatClampNeg) - (((B_m_width_1 c x).2.1.2.1) x.toNatClampNeg)) (1 : Int64) (1 : Int32))) kt_m_pattern kw_383 kw_384 kw_385 (km_rc B hP) (by decide) ⟨rfl, rfl⟩ (by decide) rfl (Nat.le_of_ble_eq_true rfl) hl.1 hP hS dX3_width_94 rfl ?_
          exact kp_reti B (by simp only [S_m_width, if_pos q_1]; exact hP) hS (by simp only [F_m_width, if_pos q_1]) dX3_width_97
        refine lv_if_eq (tgt := 91) hx hb dX3_width_66 (by decide) (fun q_2 => ?_) (fun q_2 => ?_)
        · refine lv_ldc2 (v := mw_far) hx hb hown (hw _ kw_253 rfl) dX3_width_91 ?_
          exact kp_jJ (by simp only [if_pos q_2]) hJ94
        · refine lv_aload_n hx hb dX3_width_69 rfl (lv_at hl 1 rfl) ?_
          refine lv_aload_n hx hb dX3_width_70 rfl (lv_at hl 1 rfl) ?_
          refine km_get (j := 5) (v := .ref (bH G)) B hP rfl (by decide) kw_300 dX3_width_71 ?_
          refine lv_iload_n hx hb dX3_width_74 rfl (lv_at hl 2 rfl) ?_
          refine km_hald (i := x) (v := ((B_m_width_1 c x).2.1.2.2) x.toNatClampNeg) B hG hP (km_inT (c := c) q_1) rfl dX3_width_75 ?_
          refine lv_aload_n hx hb dX3_width_76 rfl (lv_at hl 1 rfl) ?_
          refine km_get (j := 4) (v := .ref (bL G)) B hP rfl (by decide) kw_299 dX3_width_77 ?_
          refine lv_iload_n hx hb dX3_width_80 rfl (lv_at hl 2 rfl) ?_
          refine km_lald (i := x) (v := ((B_m_width_1 c x).2.1.2.1) x.toNatClampNeg) B hG hP (km_inT (c := c) q_1) rfl dX3_width_81 ?_
          refine lv_lsub hx hb dX3_width_82 ?_
          refine lv_lconst (v := (1 : Int64)) hx hb dX3_width_83 (by decide) ?_
          refine lv_iconst (v := (1 : Int32)) hx hb dX3_width_84 (by decide) ?_
          refine kp_callVR (rm := rm_m_rounded) (As := [.long ((((B_m_width_1 c x).2.1.2.2) x.toNatClampNeg) - (((B_m_width_1 c x).2.1.2.1) x.toNatClampNeg)), .long (1 : Int64), .int (1 : Int32)]) (rest := [.ref (bM G)]) (r := some (.long (F_m_rounded (B_m_width_1 c x) ((((B_m_width_1 c x).2.1.2.2) x.toNatClampNeg) - (((B_m_width_1 c x).2.1.2.1) x.toNatClampNeg)) (1 : Int64) (1 : Int32)))) (st1 := [.long (F_m_rounded (B_m_width_1 c x) ((((B_m_width_1 c x).2.1.2.2) x.toNatClampNeg) - (((B_m_width_1 c x).2.1.2.1) x.toNatClampNeg)) (1 : Int64) (1 : Int32)), .ref (bM G)]) B (C_m_rounded l D ty sz G Z hG (B_m_width_1 c x) ((((B_m_width_1 c x).2.1.2.2) x.toNatClampNeg) - (((B_m_width_1 c x).2.1.2.1) x.toNatClampNeg)) (1 : Int64) (1 : Int32) (by decide)) kt_m_rounded kw_271 kw_272 kw_273 (km_rc B hP) (by decide) ⟨rfl, rfl⟩ (by decide) rfl (Nat.le_of_ble_eq_true rfl) hl.1 hP hS dX3_width_85 rfl ?_
          refine lv_goto (tgt := 94) hx hb dX3_width_88 (by decide) ?_
          exact kp_jJ (by simp only [if_neg q_2]) hJ94
      refine lv_if_eq (tgt := 62) hx hb dX3_width_43 (by decide) (fun q_3 => ?_) (fun q_3 => ?_)
      · refine lv_iconst (v := (0 : Int32)) hx hb dX3_width_62 (by decide) ?_
        exact kp_jI (by simp only [if_pos q_3]) hJ63
      · refine lv_aload_n hx hb dX3_width_46 rfl (lv_at hl 0 rfl) ?_
        refine km_get (j := 5) (v := .ref (bH G)) B hP rfl (by decide) kw_300 dX3_width_47 ?_
        refine lv_iload_n hx hb dX3_width_50 rfl (lv_at hl 1 rfl) ?_
        refine km_hald (i := x) (v := ((B_m_width_1 c x).2.1.2.2) x.toNatClampNeg) B hG hP (km_inT (c := c) q_1) rfl dX3_width_51 ?_
        refine kp_callSR (rm := rm_m_isEnd) (As := [.long (((B_m_width_1 c x).2.1.2.2) x.toNatClampNeg)]) (rest := []) (r := some (.int (F_m_isEnd (((B_m_width_1 c x).2.1.2.2) x.toNatClampNeg)))) (st1 := [.int (F_m_isEnd (((B_m_width_1 c x).2.1.2.2) x.toNatClampNeg))]) B (C_m_isEnd l D ty sz G Z hG (B_m_width_1 c x) (((B_m_width_1 c x).2.1.2.2) x.toNatClampNeg)) kt_m_isEnd kw_266 kw_267 (by decide) ⟨rfl, rfl⟩ (by decide) rfl (Nat.le_of_ble_eq_true rfl) hl.1 hP hS dX3_width_52 rfl ?_
        refine lv_if_eq (tgt := 62) hx hb dX3_width_55 (by decide) (fun q_4 => ?_) (fun q_4 => ?_)
        · refine lv_iconst (v := (0 : Int32)) hx hb dX3_width_62 (by decide) ?_
          exact kp_jI (by simp only [if_neg q_3, if_pos q_4]) hJ63
        · refine lv_iconst (v := (1 : Int32)) hx hb dX3_width_58 (by decide) ?_
          refine lv_goto (tgt := 63) hx hb dX3_width_59 (by decide) ?_
          exact kp_jI (by simp only [if_neg q_3, if_neg q_4]) hJ63
    · refine lv_iconst (v := (0 : Int32)) hx hb dX3_width_32 (by decide) ?_
      exact kp_reti B (by simp only [S_m_width, if_neg q_1]; exact hP) hS (by simp only [F_m_width, if_neg q_1]) dX3_width_33
  refine lv_if_eq (tgt := 21) hx hb dX3_width_5 (by decide) (fun q_5 => ?_) (fun q_5 => ?_)
  · refine lv_iconst (v := (1 : Int32)) hx hb dX3_width_21 (by decide) ?_
    exact kp_jI (by simp only [if_pos q_5]) hJ22
  · refine lv_aload_n hx hb dX3_width_8 rfl (lv_at hl 0 rfl) ?_
    refine km_get (j := 3) (v := .ref (bB G)) B hP rfl (by decide) kw_298 dX3_width_9 ?_
    refine lv_iload_n hx hb dX3_width_12 rfl (lv_at hl 1 rfl) ?_
    refine km_zald (i := x) (v := z_i (c.2.1.1 x.toNatClampNeg)) B hG hP (km_inP q_5) rfl dX3_width_13 ?_
    refine lv_if_eq (tgt := 21) hx hb dX3_width_14 (by decide) (fun q_6 => ?_) (fun q_6 => ?_)
    · refine lv_iconst (v := (1 : Int32)) hx hb dX3_width_21 (by decide) ?_
      exact kp_jI (by simp only [if_neg q_5, if_pos q_6]) hJ22
    · refine lv_iconst (v := (0 : Int32)) hx hb dX3_width_17 (by decide) ?_
      refine lv_goto (tgt := 22) hx hb dX3_width_18 (by decide) ?_
      exact kp_jI (by simp only [if_neg q_5, if_neg q_6]) hJ22
def A_m_compare_1 (c : mw_C) (x : Int32) (y : Int32) : Int64 := ((mp_thrown c (0 : Int32)).2.1.2.1) x.toNatClampNeg
def A_m_compare_2 (c : mw_C) (x : Int32) (y : Int32) : Int64 := ((mp_thrown c (0 : Int32)).2.1.2.2) x.toNatClampNeg
def A_m_compare_3 (c : mw_C) (x : Int32) (y : Int32) : Int64 := ((mp_thrown c (0 : Int32)).2.1.2.1) y.toNatClampNeg
def A_m_compare_4 (c : mw_C) (x : Int32) (y : Int32) : Int64 := ((mp_thrown c (0 : Int32)).2.1.2.2) y.toNatClampNeg
def I_m_compare_5 (c : mw_C) (x : Int32) (y : Int32) : Int32 := if (F_m_less (A_m_compare_2 c x y) (A_m_compare_4 c x y)) < (F_m_more (A_m_compare_1 c x y) (A_m_compare_3 c x y)) then (if (A_m_compare_4 c x y) ≤ (A_m_compare_1 c x y) then (0 : Int32) else (1 : Int32)) else (if (A_m_compare_4 c x y) ≤ (A_m_compare_1 c x y) then (0 : Int32) else (1 : Int32)) + (2 : Int32)
def I_m_compare_6 (c : mw_C) (x : Int32) (y : Int32) : Int32 := if (A_m_compare_2 c x y) ≤ (A_m_compare_3 c x y) then I_m_compare_5 c x y else (I_m_compare_5 c x y) + (4 : Int32)
def I_m_compare_7 (c : mw_C) (x : Int32) (y : Int32) : Int32 := if (A_m_compare_1 c x y) < (A_m_compare_3 c x y) then I_m_compare_6 c x y else (if (A_m_compare_4 c x y) < (A_m_compare_2 c x y) then I_m_compare_6 c x y else (I_m_compare_6 c x y) + (8 : Int32))
def I_m_compare_8 (c : mw_C) (x : Int32) (y : Int32) : Int32 := if (A_m_compare_3 c x y) < (A_m_compare_1 c x y) then I_m_compare_7 c x y else (if (A_m_compare_2 c x y) < (A_m_compare_4 c x y) then I_m_compare_7 c x y else (I_m_compare_7 c x y) + (16 : Int32))
def I_m_compare_9 (c : mw_C) (x : Int32) (y : Int32) : Int32 := if (A_m_compare_1 c x y) = (A_m_compare_3 c x y) then (if (A_m_compare_2 c x y) = (A_m_compare_4 c x y) then (I_m_compare_8 c x y) + (32 : Int32) else I_m_compare_8 c x y) else I_m_compare_8 c x y
def F_m_compare (c : mw_C) (x : Int32) (y : Int32) : Int32 :=
  if (F_m_isPlace x) = (0 : Int32) then (-1 : Int32) else (if (F_m_isPlace y) = (0 : Int32) then (-1 : Int32) else (if (z_i (((mp_thrown c (0 : Int32)).2.1.1) x.toNatClampNeg)) = (0 : Int32) then (0 : Int32) else (if (z_i (((mp_thrown c (0 : Int32)).2.1.1) y.toNatClampNeg)) = (0 : Int32) then (0 : Int32) else I_m_compare_9 c x y)))
def S_m_compare (c : mw_C) (x : Int32) (y : Int32) : mw_C :=
  if (F_m_isPlace x) = (0 : Int32) then mp_thrown c (0 : Int32) else (if (F_m_isPlace y) = (0 : Int32) then mp_thrown c (0 : Int32) else (if (z_i (((mp_thrown c (0 : Int32)).2.1.1) x.toNatClampNeg)) = (0 : Int32) then mp_thrown c (0 : Int32) else (if (z_i (((mp_thrown c (0 : Int32)).2.1.1) y.toNatClampNeg)) = (0 : Int32) then mp_thrown c (0 : Int32) else mp_thrown c (0 : Int32))))
def rm_m_compare : Room := { frames := 1, cells := 0, slots := 0, locals := 23 }
set_option maxHeartbeats 4000000 in
set_option maxRecDepth 100000 in
theorem C_m_compare (l : Launch) (D : va_G) (ty : List (ClassId × FieldType)) (sz : Nat) (G : mw_G) (Z : va_W) (hG : mw_ok ty sz G Z) (c : mw_C) (x : Int32) (y : Int32) : kp_M l yX3_compare cX3_compare 12 (some .int) rm_m_compare D ty sz [.ref (bM G), .int x, .int y] (mw_W G c Z) (some (.int (F_m_compare c x y))) (mw_W G (S_m_compare c x y) Z) := by
  refine kp_body (by decide) (Nat.le_of_ble_eq_true rfl) rfl ?_
  intro p e s m args below meth cd ls B hin hl hP hS
  obtain ⟨hx, hb, hml, hown, hlk, hr, hw, hE, hK, hsz⟩ := id B
  have hl : lv_has ls 12 [(0, .ref (bM G)), (1, .int x), (2, .int y)] := hl
  refine lv_aload_n hx hb dX3_compare_0 rfl (lv_at hl 0 rfl) ?_
  refine lv_iconst (v := (0 : Int32)) hx hb dX3_compare_1 (by decide) ?_
  refine km_put0 (v := (0 : Int32)) (M' := mp_thrown c (0 : Int32)) B hG hP hS rfl kw_244 dX3_compare_2 (fun H locs hP hS => ?_)
  refine lv_iload_n hx hb dX3_compare_5 rfl (lv_at hl 1 rfl) ?_
  refine kp_callSR (rm := rm_m_isPlace) (As := [.int x]) (rest := []) (r := some (.int (F_m_isPlace x))) (st1 := [.int (F_m_isPlace x)]) B (C_m_isPlace l D ty sz G Z hG (mp_thrown c (0 : Int32)) x) kt_m_isPlace kw_316 kw_317 (by decide) ⟨rfl, rfl⟩ (by decide) rfl (Nat.le_of_ble_eq_true rfl) hl.1 hP hS dX3_compare_6 rfl ?_
  refine lv_if_eq (tgt := 19) hx hb dX3_compare_9 (by decide) (fun q_1 => ?_) (fun q_1 => ?_)
  · refine lv_iconst (v := (-1 : Int32)) hx hb dX3_compare_19 (by decide) ?_
    exact kp_reti B (by simp only [S_m_compare, if_pos q_1]; exact hP) hS (by simp only [F_m_compare, if_pos q_1]) dX3_compare_20
  · refine lv_iload_n hx hb dX3_compare_12 rfl (lv_at hl 2 rfl) ?_
    refine kp_callSR (rm := rm_m_isPlace) (As := [.int y]) (rest := []) (r := some (.int (F_m_isPlace y))) (st1 := [.int (F_m_isPlace y)]) B (C_m_isPlace l D ty sz G Z hG (mp_thrown c (0 : Int32)) y) kt_m_isPlace kw_316 kw_317 (by decide) ⟨rfl, rfl⟩ (by decide) rfl (Nat.le_of_ble_eq_true rfl) hl.1 hP hS dX3_compare_13 rfl ?_
    refine lv_if_ne (tgt := 21) hx hb dX3_compare_16 (by decide) (fun q_2 => ?_) (fun q_2 => ?_)
    · refine lv_aload_n hx hb dX3_compare_21 rfl (lv_at hl 0 rfl) ?_
      refine km_get (j := 3) (v := .ref (bB G)) B hP rfl (by decide) kw_298 dX3_compare_22 ?_
      refine lv_iload_n hx hb dX3_compare_25 rfl (lv_at hl 1 rfl) ?_
      refine km_zald (i := x) (v := z_i (((mp_thrown c (0 : Int32)).2.1.1) x.toNatClampNeg)) B hG hP (km_inP q_1) rfl dX3_compare_26 ?_
      refine lv_if_eq (tgt := 39) hx hb dX3_compare_27 (by decide) (fun q_3 => ?_) (fun q_3 => ?_)
      · refine lv_iconst (v := (0 : Int32)) hx hb dX3_compare_39 (by decide) ?_
        exact kp_reti B (by simp only [S_m_compare, if_neg q_1, if_neg q_2, if_pos q_3]; exact hP) hS (by simp only [F_m_compare, if_neg q_1, if_neg q_2, if_pos q_3]) dX3_compare_40
      · refine lv_aload_n hx hb dX3_compare_30 rfl (lv_at hl 0 rfl) ?_
        refine km_get (j := 3) (v := .ref (bB G)) B hP rfl (by decide) kw_298 dX3_compare_31 ?_
        refine lv_iload_n hx hb dX3_compare_34 rfl (lv_at hl 2 rfl) ?_
        refine km_zald (i := y) (v := z_i (((mp_thrown c (0 : Int32)).2.1.1) y.toNatClampNeg)) B hG hP (km_inP q_2) rfl dX3_compare_35 ?_
        refine lv_if_ne (tgt := 41) hx hb dX3_compare_36 (by decide) (fun q_4 => ?_) (fun q_4 => ?_)
        · refine lv_aload_n hx hb dX3_compare_41 rfl (lv_at hl 0 rfl) ?_
          refine km_get (j := 4) (v := .ref (bL G)) B hP rfl (by decide) kw_299 dX3_compare_42 ?_
          refine lv_iload_n hx hb dX3_compare_45 rfl (lv_at hl 1 rfl) ?_
          refine km_lald (i := x) (v := ((mp_thrown c (0 : Int32)).2.1.2.1) x.toNatClampNeg) B hG hP (km_inP q_1) rfl dX3_compare_46 ?_
          refine W.eq (g2 := F0 m 47 ls [.long (A_m_compare_1 c x y)]) rfl ?_
          refine lv_lstore_n (lv' := [(3, .long (A_m_compare_1 c x y)), (0, .ref (bM G)), (1, .int x), (2, .int y)]) hx hb dX3_compare_47 rfl hl (by decide) rfl (fun ls hl => ?_)
          refine lv_aload_n hx hb dX3_compare_48 rfl (lv_at hl 1 rfl) ?_
          refine km_get (j := 5) (v := .ref (bH G)) B hP rfl (by decide) kw_300 dX3_compare_49 ?_
          refine lv_iload_n hx hb dX3_compare_52 rfl (lv_at hl 2 rfl) ?_
          refine km_hald (i := x) (v := ((mp_thrown c (0 : Int32)).2.1.2.2) x.toNatClampNeg) B hG hP (km_inP q_1) rfl dX3_compare_53 ?_
          refine W.eq (g2 := F0 m 54 ls [.long (A_m_compare_2 c x y)]) rfl ?_
          refine lv_lstore (lv' := [(5, .long (A_m_compare_2 c x y)), (3, .long (A_m_compare_1 c x y)), (0, .ref (bM G)), (1, .int x), (2, .int y)]) hx hb dX3_compare_54 hl (by decide) rfl (fun ls hl => ?_)
          refine lv_aload_n hx hb dX3_compare_56 rfl (lv_at hl 2 rfl) ?_
          refine km_get (j := 4) (v := .ref (bL G)) B hP rfl (by decide) kw_299 dX3_compare_57 ?_
          refine lv_iload_n hx hb dX3_compare_60 rfl (lv_at hl 4 rfl) ?_
          refine km_lald (i := y) (v := ((mp_thrown c (0 : Int32)).2.1.2.1) y.toNatClampNeg) B hG hP (km_inP q_2) rfl dX3_compare_61 ?_
          refine W.eq (g2 := F0 m 62 ls [.long (A_m_compare_3 c x y)]) rfl ?_
          refine lv_lstore (lv' := [(7, .long (A_m_compare_3 c x y)), (5, .long (A_m_compare_2 c x y)), (3, .long (A_m_compare_1 c x y)), (0, .ref (bM G)), (1, .int x), (2, .int y)]) hx hb dX3_compare_62 hl (by decide) rfl (fun ls hl => ?_)
          refine lv_aload_n hx hb dX3_compare_64 rfl (lv_at hl 3 rfl) ?_
          refine km_get (j := 5) (v := .ref (bH G)) B hP rfl (by decide) kw_300 dX3_compare_65 ?_
          refine lv_iload_n hx hb dX3_compare_68 rfl (lv_at hl 5 rfl) ?_
          refine km_hald (i := y) (v := ((mp_thrown c (0 : Int32)).2.1.2.2) y.toNatClampNeg) B hG hP (km_inP q_2) rfl dX3_compare_69 ?_
          refine W.eq (g2 := F0 m 70 ls [.long (A_m_compare_4 c x y)]) rfl ?_
          refine lv_lstore (lv' := [(9, .long (A_m_compare_4 c x y)), (7, .long (A_m_compare_3 c x y)), (5, .long (A_m_compare_2 c x y)), (3, .long (A_m_compare_1 c x y)), (0, .ref (bM G)), (1, .int x), (2, .int y)]) hx hb dX3_compare_70 hl (by decide) rfl (fun ls hl => ?_)
          refine lv_lload_n hx hb dX3_compare_72 rfl (lv_at hl 3 rfl) ?_
          refine lv_lload hx hb dX3_compare_73 (lv_at hl 0 rfl) ?_
          have hJ84 : W p l e rm_m_compare s m args below meth cd H locs 0 0 (MQ below (kp_Q D sz (some (.int (F_m_compare c x y))) (mw_W G (S_m_compare c x y) Z)) args s rm_m_compare.cells rm_m_compare.slots (kp_A sz)) (F0 m 84 ls [.int (if (A_m_compare_4 c x y) ≤ (A_m_compare_1 c x y) then (0 : Int32) else (1 : Int32))]) := by
            refine lv_istore (lv' := [(11, .int (if (A_m_compare_4 c x y) ≤ (A_m_compare_1 c x y) then (0 : Int32) else (1 : Int32))), (9, .long (A_m_compare_4 c x y)), (7, .long (A_m_compare_3 c x y)), (5, .long (A_m_compare_2 c x y)), (3, .long (A_m_compare_1 c x y)), (0, .ref (bM G)), (1, .int x), (2, .int y)]) hx hb dX3_compare_84 hl (by decide) rfl (fun ls hl => ?_)
            refine lv_lload_n hx hb dX3_compare_86 rfl (lv_at hl 4 rfl) ?_
            refine lv_lload hx hb dX3_compare_87 (lv_at hl 2 rfl) ?_
            refine kp_callSR (rm := rm_m_more) (As := [.long (A_m_compare_1 c x y), .long (A_m_compare_3 c x y)]) (rest := []) (r := some (.long (F_m_more (A_m_compare_1 c x y) (A_m_compare_3 c x y)))) (st1 := [.long (F_m_more (A_m_compare_1 c x y) (A_m_compare_3 c x y))]) B (C_m_more l D ty sz G Z hG (mp_thrown c (0 : Int32)) (A_m_compare_1 c x y) (A_m_compare_3 c x y)) kt_m_more kw_312 kw_313 (by decide) ⟨rfl, rfl⟩ (by decide) rfl (Nat.le_of_ble_eq_true rfl) hl.1 hP hS dX3_compare_89 rfl ?_
            refine lv_lload hx hb dX3_compare_92 (lv_at hl 3 rfl) ?_
            refine lv_lload hx hb dX3_compare_94 (lv_at hl 1 rfl) ?_
            refine kp_callSR (rm := rm_m_less) (As := [.long (A_m_compare_2 c x y), .long (A_m_compare_4 c x y)]) (rest := [.long (F_m_more (A_m_compare_1 c x y) (A_m_compare_3 c x y))]) (r := some (.long (F_m_less (A_m_compare_2 c x y) (A_m_compare_4 c x y)))) (st1 := [.long (F_m_less (A_m_compare_2 c x y) (A_m_compare_4 c x y)), .long (F_m_more (A_m_compare_1 c x y) (A_m_compare_3 c x y))]) B (C_m_less l D ty sz G Z hG (mp_thrown c (0 : Int32)) (A_m_compare_2 c x y) (A_m_compare_4 c x y)) kt_m_less kw_334 kw_335 (by decide) ⟨rfl, rfl⟩ (by decide) rfl (Nat.le_of_ble_eq_true rfl) hl.1 hP hS dX3_compare_96 rfl ?_
            have hJ106 : ∀ ls : Array Slot, lv_has ls 12 [(0, .ref (bM G)), (1, .int x), (2, .int y), (3, .long (A_m_compare_1 c x y)), (5, .long (A_m_compare_2 c x y)), (7, .long (A_m_compare_3 c x y)), (9, .long (A_m_compare_4 c x y)), (11, .int (I_m_compare_5 c x y))] → W p l e rm_m_compare s m args below meth cd H locs 0 0 (MQ below (kp_Q D sz (some (.int (F_m_compare c x y))) (mw_W G (S_m_compare c x y) Z)) args s rm_m_compare.cells rm_m_compare.slots (kp_A sz)) (F0 m 106 ls []) := by
              intro ls hl
              refine lv_lload hx hb dX3_compare_106 (lv_at hl 4 rfl) ?_
              refine lv_lload hx hb dX3_compare_108 (lv_at hl 5 rfl) ?_
              have hJ117 : ∀ ls : Array Slot, lv_has ls 12 [(0, .ref (bM G)), (1, .int x), (2, .int y), (3, .long (A_m_compare_1 c x y)), (5, .long (A_m_compare_2 c x y)), (7, .long (A_m_compare_3 c x y)), (9, .long (A_m_compare_4 c x y)), (11, .int (I_m_compare_6 c x y))] → W p l e rm_m_compare s m args below meth cd H locs 0 0 (MQ below (kp_Q D sz (some (.int (F_m_compare c x y))) (mw_W G (S_m_compare c x y) Z)) args s rm_m_compare.cells rm_m_compare.slots (kp_A sz)) (F0 m 117 ls []) := by
                intro ls hl
                refine lv_lload_n hx hb dX3_compare_117 rfl (lv_at hl 3 rfl) ?_
                refine lv_lload hx hb dX3_compare_118 (lv_at hl 5 rfl) ?_
                have hJ135 : ∀ ls : Array Slot, lv_has ls 12 [(0, .ref (bM G)), (1, .int x), (2, .int y), (3, .long (A_m_compare_1 c x y)), (5, .long (A_m_compare_2 c x y)), (7, .long (A_m_compare_3 c x y)), (9, .long (A_m_compare_4 c x y)), (11, .int (I_m_compare_7 c x y))] → W p l e rm_m_compare s m args below meth cd H locs 0 0 (MQ below (kp_Q D sz (some (.int (F_m_compare c x y))) (mw_W G (S_m_compare c x y) Z)) args s rm_m_compare.cells rm_m_compare.slots (kp_A sz)) (F0 m 135 ls []) := by
                  intro ls hl
                  refine lv_lload hx hb dX3_compare_135 (lv_at hl 5 rfl) ?_
                  refine lv_lload_n hx hb dX3_compare_137 rfl (lv_at hl 3 rfl) ?_
                  have hJ153 : ∀ ls : Array Slot, lv_has ls 12 [(0, .ref (bM G)), (1, .int x), (2, .int y), (3, .long (A_m_compare_1 c x y)), (5, .long (A_m_compare_2 c x y)), (7, .long (A_m_compare_3 c x y)), (9, .long (A_m_compare_4 c x y)), (11, .int (I_m_compare_8 c x y))] → W p l e rm_m_compare s m args below meth cd H locs 0 0 (MQ below (kp_Q D sz (some (.int (F_m_compare c x y))) (mw_W G (S_m_compare c x y) Z)) args s rm_m_compare.cells rm_m_compare.slots (kp_A sz)) (F0 m 153 ls []) := by
                    intro ls hl
                    refine lv_lload_n hx hb dX3_compare_153 rfl (lv_at hl 3 rfl) ?_
                    refine lv_lload hx hb dX3_compare_154 (lv_at hl 5 rfl) ?_
                    have hJ171 : ∀ ls : Array Slot, lv_has ls 12 [(0, .ref (bM G)), (1, .int x), (2, .int y), (3, .long (A_m_compare_1 c x y)), (5, .long (A_m_compare_2 c x y)), (7, .long (A_m_compare_3 c x y)), (9, .long (A_m_compare_4 c x y)), (11, .int (I_m_compare_9 c x y))] → W p l e rm_m_compare s m args below meth cd H locs 0 0 (MQ below (kp_Q D sz (some (.int (F_m_compare c x y))) (mw_W G (S_m_compare c x y) Z)) args s rm_m_compare.cells rm_m_compare.slots (kp_A sz)) (F0 m 171 ls []) := by
                      intro ls hl
                      refine lv_iload hx hb dX3_compare_171 (lv_at hl 7 rfl) ?_
                      exact kp_reti B (by simp only [S_m_compare, if_neg q_1, if_neg q_2, if_neg q_3, if_neg q_4]; exact hP) hS (by simp only [F_m_compare, if_neg q_1, if_neg q_2, if_neg q_3, if_neg q_4]) dX3_compare_173
                    refine kp_lne (tgt := 171) hx hb dX3_compare_156 dX3_compare_157 (by decide) (fun q_5 => ?_) (fun q_5 => ?_)
                    · exact hJ171 ls (kp_jl (lv_sub (l' := [(0, .ref (bM G)), (1, .int x), (2, .int y), (3, .long (A_m_compare_1 c x y)), (5, .long (A_m_compare_2 c x y)), (7, .long (A_m_compare_3 c x y)), (9, .long (A_m_compare_4 c x y)), (11, .int (I_m_compare_8 c x y))]) hl [0, 1, 2, 3, 4, 5, 6, 7] rfl) (by simp only [I_m_compare_9, I_m_compare_7, I_m_compare_6, I_m_compare_5, if_neg q_5]))
                    · refine lv_lload hx hb dX3_compare_160 (lv_at hl 4 rfl) ?_
                      refine lv_lload hx hb dX3_compare_162 (lv_at hl 6 rfl) ?_
                      refine kp_lne (tgt := 171) hx hb dX3_compare_164 dX3_compare_165 (by decide) (fun q_6 => ?_) (fun q_6 => ?_)
                      · exact hJ171 ls (kp_jl (lv_sub (l' := [(0, .ref (bM G)), (1, .int x), (2, .int y), (3, .long (A_m_compare_1 c x y)), (5, .long (A_m_compare_2 c x y)), (7, .long (A_m_compare_3 c x y)), (9, .long (A_m_compare_4 c x y)), (11, .int (I_m_compare_8 c x y))]) hl [0, 1, 2, 3, 4, 5, 6, 7] rfl) (by simp only [I_m_compare_9, I_m_compare_7, I_m_compare_6, I_m_compare_5, if_pos q_5, if_neg q_6]))
                      · refine lv_iinc (v := (I_m_compare_8 c x y) + (32 : Int32)) (lv' := [(11, .int ((I_m_compare_8 c x y) + (32 : Int32))), (0, .ref (bM G)), (1, .int x), (2, .int y), (3, .long (A_m_compare_1 c x y)), (5, .long (A_m_compare_2 c x y)), (7, .long (A_m_compare_3 c x y)), (9, .long (A_m_compare_4 c x y))]) hx hb dX3_compare_168 hl (k := 7) rfl rfl (by decide) rfl (fun ls hl => ?_)
                        exact hJ171 ls (kp_jl (lv_sub (l' := [(0, .ref (bM G)), (1, .int x), (2, .int y), (3, .long (A_m_compare_1 c x y)), (5, .long (A_m_compare_2 c x y)), (7, .long (A_m_compare_3 c x y)), (9, .long (A_m_compare_4 c x y)), (11, .int ((I_m_compare_8 c x y) + (32 : Int32)))]) hl [1, 2, 3, 4, 5, 6, 7, 0] rfl) (by simp only [I_m_compare_9, I_m_compare_8, I_m_compare_7, I_m_compare_6, I_m_compare_5, if_pos q_5, if_pos q_6]))
                  refine kp_llt (tgt := 153) hx hb dX3_compare_138 dX3_compare_139 (by decide) (fun q_7 => ?_) (fun q_7 => ?_)
                  · exact hJ153 ls (kp_jl (lv_sub (l' := [(0, .ref (bM G)), (1, .int x), (2, .int y), (3, .long (A_m_compare_1 c x y)), (5, .long (A_m_compare_2 c x y)), (7, .long (A_m_compare_3 c x y)), (9, .long (A_m_compare_4 c x y)), (11, .int (I_m_compare_7 c x y))]) hl [0, 1, 2, 3, 4, 5, 6, 7] rfl) (by simp only [I_m_compare_8, I_m_compare_6, I_m_compare_5, if_pos q_7]))
                  · refine lv_lload hx hb dX3_compare_142 (lv_at hl 6 rfl) ?_
                    refine lv_lload hx hb dX3_compare_144 (lv_at hl 4 rfl) ?_
                    refine kp_lgt (tgt := 153) hx hb dX3_compare_146 dX3_compare_147 (by decide) (fun q_8 => ?_) (fun q_8 => ?_)
                    · exact hJ153 ls (kp_jl (lv_sub (l' := [(0, .ref (bM G)), (1, .int x), (2, .int y), (3, .long (A_m_compare_1 c x y)), (5, .long (A_m_compare_2 c x y)), (7, .long (A_m_compare_3 c x y)), (9, .long (A_m_compare_4 c x y)), (11, .int (I_m_compare_7 c x y))]) hl [0, 1, 2, 3, 4, 5, 6, 7] rfl) (by simp only [I_m_compare_8, I_m_compare_6, I_m_compare_5, if_neg q_7, if_pos q_8]))
                    · refine lv_iinc (v := (I_m_compare_7 c x y) + (16 : Int32)) (lv' := [(11, .int ((I_m_compare_7 c x y) + (16 : Int32))), (0, .ref (bM G)), (1, .int x), (2, .int y), (3, .long (A_m_compare_1 c x y)), (5, .long (A_m_compare_2 c x y)), (7, .long (A_m_compare_3 c x y)), (9, .long (A_m_compare_4 c x y))]) hx hb dX3_compare_150 hl (k := 7) rfl rfl (by decide) rfl (fun ls hl => ?_)
                      exact hJ153 ls (kp_jl (lv_sub (l' := [(0, .ref (bM G)), (1, .int x), (2, .int y), (3, .long (A_m_compare_1 c x y)), (5, .long (A_m_compare_2 c x y)), (7, .long (A_m_compare_3 c x y)), (9, .long (A_m_compare_4 c x y)), (11, .int ((I_m_compare_7 c x y) + (16 : Int32)))]) hl [1, 2, 3, 4, 5, 6, 7, 0] rfl) (by simp only [I_m_compare_8, I_m_compare_7, I_m_compare_6, I_m_compare_5, if_neg q_7, if_neg q_8]))
                refine kp_llt (tgt := 135) hx hb dX3_compare_120 dX3_compare_121 (by decide) (fun q_9 => ?_) (fun q_9 => ?_)
                · exact hJ135 ls (kp_jl (lv_sub (l' := [(0, .ref (bM G)), (1, .int x), (2, .int y), (3, .long (A_m_compare_1 c x y)), (5, .long (A_m_compare_2 c x y)), (7, .long (A_m_compare_3 c x y)), (9, .long (A_m_compare_4 c x y)), (11, .int (I_m_compare_6 c x y))]) hl [0, 1, 2, 3, 4, 5, 6, 7] rfl) (by simp only [I_m_compare_7, I_m_compare_5, if_pos q_9]))
                · refine lv_lload hx hb dX3_compare_124 (lv_at hl 4 rfl) ?_
                  refine lv_lload hx hb dX3_compare_126 (lv_at hl 6 rfl) ?_
                  refine kp_lgt (tgt := 135) hx hb dX3_compare_128 dX3_compare_129 (by decide) (fun q_10 => ?_) (fun q_10 => ?_)
                  · exact hJ135 ls (kp_jl (lv_sub (l' := [(0, .ref (bM G)), (1, .int x), (2, .int y), (3, .long (A_m_compare_1 c x y)), (5, .long (A_m_compare_2 c x y)), (7, .long (A_m_compare_3 c x y)), (9, .long (A_m_compare_4 c x y)), (11, .int (I_m_compare_6 c x y))]) hl [0, 1, 2, 3, 4, 5, 6, 7] rfl) (by simp only [I_m_compare_7, I_m_compare_5, if_neg q_9, if_pos q_10]))
                  · refine lv_iinc (v := (I_m_compare_6 c x y) + (8 : Int32)) (lv' := [(11, .int ((I_m_compare_6 c x y) + (8 : Int32))), (0, .ref (bM G)), (1, .int x), (2, .int y), (3, .long (A_m_compare_1 c x y)), (5, .long (A_m_compare_2 c x y)), (7, .long (A_m_compare_3 c x y)), (9, .long (A_m_compare_4 c x y))]) hx hb dX3_compare_132 hl (k := 7) rfl rfl (by decide) rfl (fun ls hl => ?_)
                    exact hJ135 ls (kp_jl (lv_sub (l' := [(0, .ref (bM G)), (1, .int x), (2, .int y), (3, .long (A_m_compare_1 c x y)), (5, .long (A_m_compare_2 c x y)), (7, .long (A_m_compare_3 c x y)), (9, .long (A_m_compare_4 c x y)), (11, .int ((I_m_compare_6 c x y) + (8 : Int32)))]) hl [1, 2, 3, 4, 5, 6, 7, 0] rfl) (by simp only [I_m_compare_7, I_m_compare_6, I_m_compare_5, if_neg q_9, if_neg q_10]))
              refine kp_lle (tgt := 117) hx hb dX3_compare_110 dX3_compare_111 (by decide) (fun q_11 => ?_) (fun q_11 => ?_)
              · exact hJ117 ls (kp_jl (lv_sub (l' := [(0, .ref (bM G)), (1, .int x), (2, .int y), (3, .long (A_m_compare_1 c x y)), (5, .long (A_m_compare_2 c x y)), (7, .long (A_m_compare_3 c x y)), (9, .long (A_m_compare_4 c x y)), (11, .int (I_m_compare_5 c x y))]) hl [0, 1, 2, 3, 4, 5, 6, 7] rfl) (by simp only [I_m_compare_6, if_pos q_11]))
              · refine lv_iinc (v := (I_m_compare_5 c x y) + (4 : Int32)) (lv' := [(11, .int ((I_m_compare_5 c x y) + (4 : Int32))), (0, .ref (bM G)), (1, .int x), (2, .int y), (3, .long (A_m_compare_1 c x y)), (5, .long (A_m_compare_2 c x y)), (7, .long (A_m_compare_3 c x y)), (9, .long (A_m_compare_4 c x y))]) hx hb dX3_compare_114 hl (k := 7) rfl rfl (by decide) rfl (fun ls hl => ?_)
                exact hJ117 ls (kp_jl (lv_sub (l' := [(0, .ref (bM G)), (1, .int x), (2, .int y), (3, .long (A_m_compare_1 c x y)), (5, .long (A_m_compare_2 c x y)), (7, .long (A_m_compare_3 c x y)), (9, .long (A_m_compare_4 c x y)), (11, .int ((I_m_compare_5 c x y) + (4 : Int32)))]) hl [1, 2, 3, 4, 5, 6, 7, 0] rfl) (by simp only [I_m_compare_6, I_m_compare_5, if_neg q_11]))
            refine kp_lgt (tgt := 106) hx hb dX3_compare_99 dX3_compare_100 (by decide) (fun q_12 => ?_) (fun q_12 => ?_)
            · exact hJ106 ls (kp_jl (lv_sub (l' := [(0, .ref (bM G)), (1, .int x), (2, .int y), (3, .long (A_m_compare_1 c x y)), (5, .long (A_m_compare_2 c x y)), (7, .long (A_m_compare_3 c x y)), (9, .long (A_m_compare_4 c x y)), (11, .int (if (A_m_compare_4 c x y) ≤ (A_m_compare_1 c x y) then (0 : Int32) else (1 : Int32)))]) hl [5, 6, 7, 4, 3, 2, 1, 0] rfl) (by simp only [I_m_compare_5, if_pos q_12]))
            · refine lv_iinc (v := (if (A_m_compare_4 c x y) ≤ (A_m_compare_1 c x y) then (0 : Int32) else (1 : Int32)) + (2 : Int32)) (lv' := [(11, .int ((if (A_m_compare_4 c x y) ≤ (A_m_compare_1 c x y) then (0 : Int32) else (1 : Int32)) + (2 : Int32))), (9, .long (A_m_compare_4 c x y)), (7, .long (A_m_compare_3 c x y)), (5, .long (A_m_compare_2 c x y)), (3, .long (A_m_compare_1 c x y)), (0, .ref (bM G)), (1, .int x), (2, .int y)]) hx hb dX3_compare_103 hl (k := 0) rfl rfl (by decide) rfl (fun ls hl => ?_)
              exact hJ106 ls (kp_jl (lv_sub (l' := [(0, .ref (bM G)), (1, .int x), (2, .int y), (3, .long (A_m_compare_1 c x y)), (5, .long (A_m_compare_2 c x y)), (7, .long (A_m_compare_3 c x y)), (9, .long (A_m_compare_4 c x y)), (11, .int ((if (A_m_compare_4 c x y) ≤ (A_m_compare_1 c x y) then (0 : Int32) else (1 : Int32)) + (2 : Int32)))]) hl [5, 6, 7, 4, 3, 2, 1, 0] rfl) (by simp only [I_m_compare_5, if_neg q_12]))
          refine kp_lge (tgt := 83) hx hb dX3_compare_75 dX3_compare_76 (by decide) (fun q_13 => ?_) (fun q_13 => ?_)
          · refine lv_iconst (v := (0 : Int32)) hx hb dX3_compare_83 (by decide) ?_
            exact kp_jI (by simp only [if_pos q_13]) hJ84
          · refine lv_iconst (v := (1 : Int32)) hx hb dX3_compare_79 (by decide) ?_
            refine lv_goto (tgt := 84) hx hb dX3_compare_80 (by decide) ?_
            exact kp_jI (by simp only [if_neg q_13]) hJ84
        · refine lv_iconst (v := (0 : Int32)) hx hb dX3_compare_39 (by decide) ?_
          exact kp_reti B (by simp only [S_m_compare, if_neg q_1, if_neg q_2, if_neg q_3, if_pos q_4]; exact hP) hS (by simp only [F_m_compare, if_neg q_1, if_neg q_2, if_neg q_3, if_pos q_4]) dX3_compare_40
    · refine lv_iconst (v := (-1 : Int32)) hx hb dX3_compare_19 (by decide) ?_
      exact kp_reti B (by simp only [S_m_compare, if_neg q_1, if_pos q_2]; exact hP) hS (by simp only [F_m_compare, if_neg q_1, if_pos q_2]) dX3_compare_20
def F_m_has (c : mw_C) (x : Int32) (y : Int32) : Int32 :=
  if (F_m_isPlace x) = (0 : Int32) then (0 : Int32) else (if (z_i (((mp_thrown c (0 : Int32)).2.1.1) x.toNatClampNeg)) = (0 : Int32) then (0 : Int32) else (if (F_m_isPattern (mp_thrown c (0 : Int32)) y) = (0 : Int32) then (0 : Int32) else (if (F_m_isEnd (F_m_number (mp_thrown c (0 : Int32)) y)) = (0 : Int32) then (0 : Int32) else (if (F_m_number (mp_thrown c (0 : Int32)) y) < (((mp_thrown c (0 : Int32)).2.1.2.1) x.toNatClampNeg) then (0 : Int32) else (if (((mp_thrown c (0 : Int32)).2.1.2.2) x.toNatClampNeg) < (F_m_number (mp_thrown c (0 : Int32)) y) then (0 : Int32) else (1 : Int32))))))
def S_m_has (c : mw_C) (x : Int32) (y : Int32) : mw_C :=
  if (F_m_isPlace x) = (0 : Int32) then mp_thrown c (0 : Int32) else (if (z_i (((mp_thrown c (0 : Int32)).2.1.1) x.toNatClampNeg)) = (0 : Int32) then mp_thrown c (0 : Int32) else (if (F_m_isPattern (mp_thrown c (0 : Int32)) y) = (0 : Int32) then mp_thrown c (0 : Int32) else (if (F_m_isEnd (F_m_number (mp_thrown c (0 : Int32)) y)) = (0 : Int32) then mp_thrown c (0 : Int32) else (if (F_m_number (mp_thrown c (0 : Int32)) y) < (((mp_thrown c (0 : Int32)).2.1.2.1) x.toNatClampNeg) then mp_thrown c (0 : Int32) else (if (((mp_thrown c (0 : Int32)).2.1.2.2) x.toNatClampNeg) < (F_m_number (mp_thrown c (0 : Int32)) y) then mp_thrown c (0 : Int32) else mp_thrown c (0 : Int32))))))
def rm_m_has : Room := { frames := 2, cells := 0, slots := 0, locals := 47 }
set_option maxHeartbeats 4000000 in
set_option maxRecDepth 100000 in
theorem C_m_has (l : Launch) (D : va_G) (ty : List (ClassId × FieldType)) (sz : Nat) (G : mw_G) (Z : va_W) (hG : mw_ok ty sz G Z) (c : mw_C) (x : Int32) (y : Int32) : kp_M l yX3_has cX3_has 5 (some .boolean) rm_m_has D ty sz [.ref (bM G), .int x, .int y] (mw_W G c Z) (some (.int (F_m_has c x y))) (mw_W G (S_m_has c x y) Z) := by
  refine kp_body (by decide) (Nat.le_of_ble_eq_true rfl) rfl ?_
  intro p e s m args below meth cd ls B hin hl hP hS
  obtain ⟨hx, hb, hml, hown, hlk, hr, hw, hE, hK, hsz⟩ := id B
  have hl : lv_has ls 5 [(0, .ref (bM G)), (1, .int x), (2, .int y)] := hl
  refine lv_aload_n hx hb dX3_has_0 rfl (lv_at hl 0 rfl) ?_
  refine lv_iconst (v := (0 : Int32)) hx hb dX3_has_1 (by decide) ?_
  refine km_put0 (v := (0 : Int32)) (M' := mp_thrown c (0 : Int32)) B hG hP hS rfl kw_244 dX3_has_2 (fun H locs hP hS => ?_)
  refine lv_iload_n hx hb dX3_has_5 rfl (lv_at hl 1 rfl) ?_
  refine kp_callSR (rm := rm_m_isPlace) (As := [.int x]) (rest := []) (r := some (.int (F_m_isPlace x))) (st1 := [.int (F_m_isPlace x)]) B (C_m_isPlace l D ty sz G Z hG (mp_thrown c (0 : Int32)) x) kt_m_isPlace kw_316 kw_317 (by decide) ⟨rfl, rfl⟩ (by decide) rfl (Nat.le_of_ble_eq_true rfl) hl.1 hP hS dX3_has_6 rfl ?_
  refine lv_if_eq (tgt := 29) hx hb dX3_has_9 (by decide) (fun q_1 => ?_) (fun q_1 => ?_)
  · refine lv_iconst (v := (0 : Int32)) hx hb dX3_has_29 (by decide) ?_
    exact kp_retz B (by simp only [S_m_has, if_pos q_1]; exact hP) hS (by simp only [F_m_has, if_pos q_1]) (Or.inl rfl) dX3_has_30
  · refine lv_aload_n hx hb dX3_has_12 rfl (lv_at hl 0 rfl) ?_
    refine km_get (j := 3) (v := .ref (bB G)) B hP rfl (by decide) kw_298 dX3_has_13 ?_
    refine lv_iload_n hx hb dX3_has_16 rfl (lv_at hl 1 rfl) ?_
    refine km_zald (i := x) (v := z_i (((mp_thrown c (0 : Int32)).2.1.1) x.toNatClampNeg)) B hG hP (km_inP q_1) rfl dX3_has_17 ?_
    refine lv_if_eq (tgt := 29) hx hb dX3_has_18 (by decide) (fun q_2 => ?_) (fun q_2 => ?_)
    · refine lv_iconst (v := (0 : Int32)) hx hb dX3_has_29 (by decide) ?_
      exact kp_retz B (by simp only [S_m_has, if_neg q_1, if_pos q_2]; exact hP) hS (by simp only [F_m_has, if_neg q_1, if_pos q_2]) (Or.inl rfl) dX3_has_30
    · refine lv_aload_n hx hb dX3_has_21 rfl (lv_at hl 0 rfl) ?_
      refine lv_iload_n hx hb dX3_has_22 rfl (lv_at hl 2 rfl) ?_
      refine kp_callVR (rm := rm_m_isPattern) (As := [.int y]) (rest := []) (r := some (.int (F_m_isPattern (mp_thrown c (0 : Int32)) y))) (st1 := [.int (F_m_isPattern (mp_thrown c (0 : Int32)) y)]) B (C_m_isPattern l D ty sz G Z hG (mp_thrown c (0 : Int32)) y) kt_m_isPattern kw_348 kw_349 kw_350 (km_rc B hP) (by decide) ⟨rfl, rfl⟩ (by decide) rfl (Nat.le_of_ble_eq_true rfl) hl.1 hP hS dX3_has_23 rfl ?_
      refine lv_if_ne (tgt := 31) hx hb dX3_has_26 (by decide) (fun q_3 => ?_) (fun q_3 => ?_)
      · refine lv_aload_n hx hb dX3_has_31 rfl (lv_at hl 0 rfl) ?_
        refine lv_iload_n hx hb dX3_has_32 rfl (lv_at hl 2 rfl) ?_
        refine kp_callVR (rm := rm_m_number) (As := [.int y]) (rest := []) (r := some (.long (F_m_number (mp_thrown c (0 : Int32)) y))) (st1 := [.long (F_m_number (mp_thrown c (0 : Int32)) y)]) B (C_m_number l D ty sz G Z hG (mp_thrown c (0 : Int32)) y) kt_m_number kw_353 kw_354 kw_355 (km_rc B hP) (by decide) ⟨rfl, rfl⟩ (by decide) rfl (Nat.le_of_ble_eq_true rfl) hl.1 hP hS dX3_has_33 rfl ?_
        refine lv_lstore_n (lv' := [(3, .long (F_m_number (mp_thrown c (0 : Int32)) y)), (0, .ref (bM G)), (1, .int x), (2, .int y)]) hx hb dX3_has_36 rfl hl (by decide) rfl (fun ls hl => ?_)
        refine lv_lload_n hx hb dX3_has_37 rfl (lv_at hl 0 rfl) ?_
        refine kp_callSR (rm := rm_m_isEnd) (As := [.long (F_m_number (mp_thrown c (0 : Int32)) y)]) (rest := []) (r := some (.int (F_m_isEnd (F_m_number (mp_thrown c (0 : Int32)) y)))) (st1 := [.int (F_m_isEnd (F_m_number (mp_thrown c (0 : Int32)) y))]) B (C_m_isEnd l D ty sz G Z hG (mp_thrown c (0 : Int32)) (F_m_number (mp_thrown c (0 : Int32)) y)) kt_m_isEnd kw_266 kw_267 (by decide) ⟨rfl, rfl⟩ (by decide) rfl (Nat.le_of_ble_eq_true rfl) hl.1 hP hS dX3_has_38 rfl ?_
        refine lv_if_eq (tgt := 70) hx hb dX3_has_41 (by decide) (fun q_4 => ?_) (fun q_4 => ?_)
        · refine lv_iconst (v := (0 : Int32)) hx hb dX3_has_70 (by decide) ?_
          exact kp_retz B (by simp only [S_m_has, if_neg q_1, if_neg q_2, if_neg q_3, if_pos q_4]; exact hP) hS (by simp only [F_m_has, if_neg q_1, if_neg q_2, if_neg q_3, if_pos q_4]) (Or.inl rfl) dX3_has_71
        · refine lv_lload_n hx hb dX3_has_44 rfl (lv_at hl 0 rfl) ?_
          refine lv_aload_n hx hb dX3_has_45 rfl (lv_at hl 1 rfl) ?_
          refine km_get (j := 4) (v := .ref (bL G)) B hP rfl (by decide) kw_299 dX3_has_46 ?_
          refine lv_iload_n hx hb dX3_has_49 rfl (lv_at hl 2 rfl) ?_
          refine km_lald (i := x) (v := ((mp_thrown c (0 : Int32)).2.1.2.1) x.toNatClampNeg) B hG hP (km_inP q_1) rfl dX3_has_50 ?_
          refine kp_llt (tgt := 70) hx hb dX3_has_51 dX3_has_52 (by decide) (fun q_5 => ?_) (fun q_5 => ?_)
          · refine lv_iconst (v := (0 : Int32)) hx hb dX3_has_70 (by decide) ?_
            exact kp_retz B (by simp only [S_m_has, if_neg q_1, if_neg q_2, if_neg q_3, if_neg q_4, if_pos q_5]; exact hP) hS (by simp only [F_m_has, if_neg q_1, if_neg q_2, if_neg q_3, if_neg q_4, if_pos q_5]) (Or.inl rfl) dX3_has_71
          · refine lv_lload_n hx hb dX3_has_55 rfl (lv_at hl 0 rfl) ?_
            refine lv_aload_n hx hb dX3_has_56 rfl (lv_at hl 1 rfl) ?_
            refine km_get (j := 5) (v := .ref (bH G)) B hP rfl (by decide) kw_300 dX3_has_57 ?_
            refine lv_iload_n hx hb dX3_has_60 rfl (lv_at hl 2 rfl) ?_
            refine km_hald (i := x) (v := ((mp_thrown c (0 : Int32)).2.1.2.2) x.toNatClampNeg) B hG hP (km_inP q_1) rfl dX3_has_61 ?_
            refine kp_lgt (tgt := 70) hx hb dX3_has_62 dX3_has_63 (by decide) (fun q_6 => ?_) (fun q_6 => ?_)
            · refine lv_iconst (v := (0 : Int32)) hx hb dX3_has_70 (by decide) ?_
              exact kp_retz B (by simp only [S_m_has, if_neg q_1, if_neg q_2, if_neg q_3, if_neg q_4, if_neg q_5, if_pos q_6]; exact hP) hS (by simp only [F_m_has, if_neg q_1, if_neg q_2, if_neg q_3, if_neg q_4, if_neg q_5, if_pos q_6]) (Or.inl rfl) dX3_has_71
            · refine lv_iconst (v := (1 : Int32)) hx hb dX3_has_66 (by decide) ?_
              refine lv_goto (tgt := 71) hx hb dX3_has_67 (by decide) ?_
              exact kp_retz B (by simp only [S_m_has, if_neg q_1, if_neg q_2, if_neg q_3, if_neg q_4, if_neg q_5, if_neg q_6]; exact hP) hS (by simp only [F_m_has, if_neg q_1, if_neg q_2, if_neg q_3, if_neg q_4, if_neg q_5, if_neg q_6]) (Or.inr rfl) dX3_has_71
      · refine lv_iconst (v := (0 : Int32)) hx hb dX3_has_29 (by decide) ?_
        exact kp_retz B (by simp only [S_m_has, if_neg q_1, if_neg q_2, if_pos q_3]; exact hP) hS (by simp only [F_m_has, if_neg q_1, if_neg q_2, if_pos q_3]) (Or.inl rfl) dX3_has_30
