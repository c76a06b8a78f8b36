def rmW_does : Room := { frames := 7, cells := 1, slots := 6, locals := 164 }
set_option maxHeartbeats 4000000 in
set_option maxRecDepth 100000 in
theorem CW_does (l : Launch) (D : va_G) (ty : List (ClassId × FieldType)) (sz : Nat) (G : cw_G) (Gm : mw_G) (M : mw_C) (aO : Nat) (f : Nat → Int64) (hG : lw_ok ty sz G Gm aO) (c : cw_C) (x : Int32) (y : Int32) (z : Int32) (v : Int32) (htr : l.stackTraces = false) : kw_M l yL_does cL_does 7 (some .int) [(0, 14, 17, 13)] rmW_does D ty sz [.ref (aD G), .int x, .int y, .int z, .int v, .ref aO] (lw_W G c Gm M aO f) (some (.int (lw_k (F_does c x y z v)))) (lw_W G (lw_c (F_does c x y z v) c (S_does c x y z v)) Gm M aO (lw_f (F_does c x y z v) f)) := by
  refine kw_body (by decide) (Nat.le_of_ble_eq_true rfl) rfl ?_
  intro p e s m args below meth cd ls B htab hH hl hP hS
  obtain ⟨hx, hb, hml, hown, hlk, hr, hw, hE, hK, hsz⟩ := id B
  have hl : lv_has ls 7 [(0, .ref (aD G)), (1, .int x), (2, .int y), (3, .int z), (4, .int v), (5, .ref aO)] := hl
  refine lv_aload hx hb dL_does_0 (lv_at hl 5 rfl) ?_
  refine lv_iconst (v := 0) hx hb dL_does_2 (by decide) ?_
  refine lv_aload_n hx hb dL_does_3 rfl (lv_at hl 0 rfl) ?_
  refine lv_iload_n hx hb dL_does_4 rfl (lv_at hl 1 rfl) ?_
  refine lv_iload_n hx hb dL_does_5 rfl (lv_at hl 2 rfl) ?_
  refine lv_iload_n hx hb dL_does_6 rfl (lv_at hl 3 rfl) ?_
  refine lv_iload hx hb dL_does_7 (lv_at hl 4 rfl) ?_
  refine kx_callV (rm := rm_does) (As := [.int x, .int y, .int z, .int v]) (rest := [.int 0, .ref aO]) B (C_does l D ty sz G (mw_W Gm M [lw_o1 Gm aO f]) (hG.c M f) c x y z v htr) kt_does kw_388 kw_389 kw_390 (kc_rcD B hP) (by decide) ⟨rfl, rfl⟩ (by decide) rfl (Nat.le_of_ble_eq_true rfl) hl.1 hP hS (fun U hU hA => hH.at hA hU) dL_does_9 (fun v9 H locs hv hP hS => ?_) (fun q ce H hv hce hcv hcl hP hS => ?_)
  · obtain ⟨v8, ev8, rfl⟩ : ∃ v8, F_does c x y z v = some v8 ∧ v9 = .int v8 := by
      cases hF : F_does c x y z v with
      | none => rw [hF] at hv; cases hv
      | some v8 => rw [hF] at hv; exact ⟨v8, rfl, (Option.some.inj hv).symm⟩
    refine lv_i2l (v := v8.toInt64) hx hb dL_does_12 rfl ?_
    refine kw_out (c := (S_does c x y z v)) B hG hP hS dL_does_13 (fun H locs hP hS => ?_)
    refine lv_goto (tgt := 21) hx hb dL_does_14 (by decide) ?_
    refine lv_iconst (v := 0) hx hb dL_does_21 (by decide) ?_
    exact kp_reti B (by rw [ev8]; exact hP) hS (by rw [ev8]; rfl) dL_does_22
  · have ev8 : F_does c x y z v = none := by
      cases hF : F_does c x y z v with
      | none => rfl
      | some v8 => rw [hF] at hv; cases hv
    refine kx_catch (x := ⟨0, 14, 17, 13⟩) B htab (by decide) (by decide) kw_391 kw_392 hce hcv hcl ?_
    refine lv_astore (lv' := [(6, .ref q), (0, .ref (aD G)), (1, .int x), (2, .int y), (3, .int z), (4, .int v), (5, .ref aO)]) hx hb dL_does_17 hl (by decide) rfl (fun ls hl => ?_)
    refine lv_iconst (v := 1) hx hb dL_does_19 (by decide) ?_
    exact kp_reti B (by rw [ev8]; exact hP) hS (by rw [ev8]; rfl) dL_does_20
def rmW_part : Room := { frames := 7, cells := 1, slots := 6, locals := 160 }
set_option maxHeartbeats 4000000 in
set_option maxRecDepth 100000 in
theorem CW_part (l : Launch) (D : va_G) (ty : List (ClassId × FieldType)) (sz : Nat) (G : cw_G) (Gm : mw_G) (M : mw_C) (aO : Nat) (f : Nat → Int64) (hG : lw_ok ty sz G Gm aO) (c : cw_C) (x : Int32) (y : Int32) (z : Int32) (htr : l.stackTraces = false) : kw_M l yL_part cL_part 6 (some .int) [(0, 12, 15, 13)] rmW_part D ty sz [.ref (aD G), .int x, .int y, .int z, .ref aO] (lw_W G c Gm M aO f) (some (.int (lw_k (F_part c x y z)))) (lw_W G (lw_c (F_part c x y z) c (S_part c x y z)) Gm M aO (lw_f (F_part c x y z) f)) := by
  refine kw_body (by decide) (Nat.le_of_ble_eq_true rfl) rfl ?_
  intro p e s m args below meth cd ls B htab hH hl hP hS
  obtain ⟨hx, hb, hml, hown, hlk, hr, hw, hE, hK, hsz⟩ := id B
  have hl : lv_has ls 6 [(0, .ref (aD G)), (1, .int x), (2, .int y), (3, .int z), (4, .ref aO)] := hl
  refine lv_aload hx hb dL_part_0 (lv_at hl 4 rfl) ?_
  refine lv_iconst (v := 0) hx hb dL_part_2 (by decide) ?_
  refine lv_aload_n hx hb dL_part_3 rfl (lv_at hl 0 rfl) ?_
  refine lv_iload_n hx hb dL_part_4 rfl (lv_at hl 1 rfl) ?_
  refine lv_iload_n hx hb dL_part_5 rfl (lv_at hl 2 rfl) ?_
  refine lv_iload_n hx hb dL_part_6 rfl (lv_at hl 3 rfl) ?_
  refine kx_callV (rm := rm_part) (As := [.int x, .int y, .int z]) (rest := [.int 0, .ref aO]) B (C_part l D ty sz G (mw_W Gm M [lw_o1 Gm aO f]) (hG.c M f) c x y z htr) kt_part kw_395 kw_396 kw_397 (kc_rcD B hP) (by decide) ⟨rfl, rfl⟩ (by decide) rfl (Nat.le_of_ble_eq_true rfl) hl.1 hP hS (fun U hU hA => hH.at hA hU) dL_part_7 (fun v9 H locs hv hP hS => ?_) (fun q ce H hv hce hcv hcl hP hS => ?_)
  · obtain ⟨v8, ev8, rfl⟩ : ∃ v8, F_part c x y z = some v8 ∧ v9 = .int v8 := by
      cases hF : F_part c x y z with
      | none => rw [hF] at hv; cases hv
      | some v8 => rw [hF] at hv; exact ⟨v8, rfl, (Option.some.inj hv).symm⟩
    refine lv_i2l (v := v8.toInt64) hx hb dL_part_10 rfl ?_
    refine kw_out (c := (S_part c x y z)) B hG hP hS dL_part_11 (fun H locs hP hS => ?_)
    refine lv_goto (tgt := 19) hx hb dL_part_12 (by decide) ?_
    refine lv_iconst (v := 0) hx hb dL_part_19 (by decide) ?_
    exact kp_reti B (by rw [ev8]; exact hP) hS (by rw [ev8]; rfl) dL_part_20
  · have ev8 : F_part c x y z = none := by
      cases hF : F_part c x y z with
      | none => rfl
      | some v8 => rw [hF] at hv; cases hv
    refine kx_catch (x := ⟨0, 12, 15, 13⟩) B htab (by decide) (by decide) kw_391 kw_392 hce hcv hcl ?_
    refine lv_astore (lv' := [(5, .ref q), (0, .ref (aD G)), (1, .int x), (2, .int y), (3, .int z), (4, .ref aO)]) hx hb dL_part_15 hl (by decide) rfl (fun ls hl => ?_)
    refine lv_iconst (v := 1) hx hb dL_part_17 (by decide) ?_
    exact kp_reti B (by rw [ev8]; exact hP) hS (by rw [ev8]; rfl) dL_part_18
def rmW_sum : Room := { frames := 7, cells := 1, slots := 6, locals := 159 }
set_option maxHeartbeats 4000000 in
set_option maxRecDepth 100000 in
theorem CW_sum (l : Launch) (D : va_G) (ty : List (ClassId × FieldType)) (sz : Nat) (G : cw_G) (Gm : mw_G) (M : mw_C) (aO : Nat) (f : Nat → Int64) (hG : lw_ok ty sz G Gm aO) (c : cw_C) (x : Int32) (y : Int32) (z : Int32) (htr : l.stackTraces = false) : kw_M l yL_sum cL_sum 6 (some .int) [(0, 12, 15, 13)] rmW_sum D ty sz [.ref (aD G), .int x, .int y, .int z, .ref aO] (lw_W G c Gm M aO f) (some (.int (lw_k (F_sum c x y z)))) (lw_W G (lw_c (F_sum c x y z) c (S_sum c x y z)) Gm M aO (lw_f (F_sum c x y z) f)) := by
  refine kw_body (by decide) (Nat.le_of_ble_eq_true rfl) rfl ?_
  intro p e s m args below meth cd ls B htab hH hl hP hS
  obtain ⟨hx, hb, hml, hown, hlk, hr, hw, hE, hK, hsz⟩ := id B
  have hl : lv_has ls 6 [(0, .ref (aD G)), (1, .int x), (2, .int y), (3, .int z), (4, .ref aO)] := hl
  refine lv_aload hx hb dL_sum_0 (lv_at hl 4 rfl) ?_
  refine lv_iconst (v := 0) hx hb dL_sum_2 (by decide) ?_
  refine lv_aload_n hx hb dL_sum_3 rfl (lv_at hl 0 rfl) ?_
  refine lv_iload_n hx hb dL_sum_4 rfl (lv_at hl 1 rfl) ?_
  refine lv_iload_n hx hb dL_sum_5 rfl (lv_at hl 2 rfl) ?_
  refine lv_iload_n hx hb dL_sum_6 rfl (lv_at hl 3 rfl) ?_
  refine kx_callV (rm := rm_sum) (As := [.int x, .int y, .int z]) (rest := [.int 0, .ref aO]) B (C_sum l D ty sz G (mw_W Gm M [lw_o1 Gm aO f]) (hG.c M f) c x y z htr) kt_sum kw_400 kw_401 kw_402 (kc_rcD B hP) (by decide) ⟨rfl, rfl⟩ (by decide) rfl (Nat.le_of_ble_eq_true rfl) hl.1 hP hS (fun U hU hA => hH.at hA hU) dL_sum_7 (fun v9 H locs hv hP hS => ?_) (fun q ce H hv hce hcv hcl hP hS => ?_)
  · obtain ⟨v8, ev8, rfl⟩ : ∃ v8, F_sum c x y z = some v8 ∧ v9 = .int v8 := by
      cases hF : F_sum c x y z with
      | none => rw [hF] at hv; cases hv
      | some v8 => rw [hF] at hv; exact ⟨v8, rfl, (Option.some.inj hv).symm⟩
    refine lv_i2l (v := v8.toInt64) hx hb dL_sum_10 rfl ?_
    refine kw_out (c := (S_sum c x y z)) B hG hP hS dL_sum_11 (fun H locs hP hS => ?_)
    refine lv_goto (tgt := 19) hx hb dL_sum_12 (by decide) ?_
    refine lv_iconst (v := 0) hx hb dL_sum_19 (by decide) ?_
    exact kp_reti B (by rw [ev8]; exact hP) hS (by rw [ev8]; rfl) dL_sum_20
  · have ev8 : F_sum c x y z = none := by
      cases hF : F_sum c x y z with
      | none => rfl
      | some v8 => rw [hF] at hv; cases hv
    refine kx_catch (x := ⟨0, 12, 15, 13⟩) B htab (by decide) (by decide) kw_391 kw_392 hce hcv hcl ?_
    refine lv_astore (lv' := [(5, .ref q), (0, .ref (aD G)), (1, .int x), (2, .int y), (3, .int z), (4, .ref aO)]) hx hb dL_sum_15 hl (by decide) rfl (fun ls hl => ?_)
    refine lv_iconst (v := 1) hx hb dL_sum_17 (by decide) ?_
    exact kp_reti B (by rw [ev8]; exact hP) hS (by rw [ev8]; rfl) dL_sum_18
def rmW_low : Room := { frames := 7, cells := 1, slots := 6, locals := 103 }
set_option maxHeartbeats 4000000 in
set_option maxRecDepth 100000 in
theorem CW_low (l : Launch) (D : va_G) (ty : List (ClassId × FieldType)) (sz : Nat) (G : cw_G) (Gm : mw_G) (M : mw_C) (aO : Nat) (f : Nat → Int64) (hG : lw_ok ty sz G Gm aO) (c : cw_C) (x : Int32) (htr : l.stackTraces = false) : kw_M l yL_low cL_low 4 (some .int) [(0, 9, 12, 26)] rmW_low D ty sz [.ref (aD G), .int x, .ref aO] (lw_W G c Gm M aO f) (some (.int (lw_k (F_low c x)))) (lw_W G (lw_c (F_low c x) c c) Gm M aO (lw_f (F_low c x) f)) := by
  refine kw_body (by decide) (Nat.le_of_ble_eq_true rfl) rfl ?_
  intro p e s m args below meth cd ls B htab hH hl hP hS
  obtain ⟨hx, hb, hml, hown, hlk, hr, hw, hE, hK, hsz⟩ := id B
  have hl : lv_has ls 4 [(0, .ref (aD G)), (1, .int x), (2, .ref aO)] := hl
  refine lv_aload_n hx hb dL_low_0 rfl (lv_at hl 2 rfl) ?_
  refine lv_iconst (v := 0) hx hb dL_low_1 (by decide) ?_
  refine lv_aload_n hx hb dL_low_2 rfl (lv_at hl 0 rfl) ?_
  refine lv_iload_n hx hb dL_low_3 rfl (lv_at hl 1 rfl) ?_
  refine kx_callV (rm := rm_low) (As := [.int x]) (rest := [.int 0, .ref aO]) B (C_low l D ty sz G (mw_W Gm M [lw_o1 Gm aO f]) (hG.c M f) c x htr) kt_low kw_405 kw_406 kw_407 (kc_rcD B hP) (by decide) ⟨rfl, rfl⟩ (by decide) rfl (Nat.le_of_ble_eq_true rfl) hl.1 hP hS (fun U hU hA => hH.at hA hU) dL_low_4 (fun v9 H locs hv hP hS => ?_) (fun q ce H hv hce hcv hcl hP hS => ?_)
  · obtain ⟨v8, ev8, rfl⟩ : ∃ v8, F_low c x = some v8 ∧ v9 = .int v8 := by
      cases hF : F_low c x with
      | none => rw [hF] at hv; cases hv
      | some v8 => rw [hF] at hv; exact ⟨v8, rfl, (Option.some.inj hv).symm⟩
    refine lv_i2l (v := v8.toInt64) hx hb dL_low_7 rfl ?_
    refine kw_out (c := c) B hG hP hS dL_low_8 (fun H locs hP hS => ?_)
    refine lv_goto (tgt := 15) hx hb dL_low_9 (by decide) ?_
    refine lv_iconst (v := 0) hx hb dL_low_15 (by decide) ?_
    exact kp_reti B (by rw [ev8]; exact hP) hS (by rw [ev8]; rfl) dL_low_16
  · have ev8 : F_low c x = none := by
      cases hF : F_low c x with
      | none => rfl
      | some v8 => rw [hF] at hv; cases hv
    refine kx_catch (x := ⟨0, 9, 12, 26⟩) B htab (by decide) (by decide) kw_408 kw_409 hce hcv hcl ?_
    refine lv_astore_n (lv' := [(3, .ref q), (0, .ref (aD G)), (1, .int x), (2, .ref aO)]) hx hb dL_low_12 rfl hl (by decide) rfl (fun ls hl => ?_)
    refine lv_iconst (v := 1) hx hb dL_low_13 (by decide) ?_
    exact kp_reti B (by rw [ev8]; exact hP) hS (by rw [ev8]; rfl) dL_low_14
def rmW_high : Room := { frames := 7, cells := 1, slots := 6, locals := 103 }
set_option maxHeartbeats 4000000 in
set_option maxRecDepth 100000 in
theorem CW_high (l : Launch) (D : va_G) (ty : List (ClassId × FieldType)) (sz : Nat) (G : cw_G) (Gm : mw_G) (M : mw_C) (aO : Nat) (f : Nat → Int64) (hG : lw_ok ty sz G Gm aO) (c : cw_C) (x : Int32) (htr : l.stackTraces = false) : kw_M l yL_high cL_high 4 (some .int) [(0, 9, 12, 26)] rmW_high D ty sz [.ref (aD G), .int x, .ref aO] (lw_W G c Gm M aO f) (some (.int (lw_k (F_high c x)))) (lw_W G (lw_c (F_high c x) c c) Gm M aO (lw_f (F_high c x) f)) := by
  refine kw_body (by decide) (Nat.le_of_ble_eq_true rfl) rfl ?_
  intro p e s m args below meth cd ls B htab hH hl hP hS
  obtain ⟨hx, hb, hml, hown, hlk, hr, hw, hE, hK, hsz⟩ := id B
  have hl : lv_has ls 4 [(0, .ref (aD G)), (1, .int x), (2, .ref aO)] := hl
  refine lv_aload_n hx hb dL_high_0 rfl (lv_at hl 2 rfl) ?_
  refine lv_iconst (v := 0) hx hb dL_high_1 (by decide) ?_
  refine lv_aload_n hx hb dL_high_2 rfl (lv_at hl 0 rfl) ?_
  refine lv_iload_n hx hb dL_high_3 rfl (lv_at hl 1 rfl) ?_
  refine kx_callV (rm := rm_high) (As := [.int x]) (rest := [.int 0, .ref aO]) B (C_high l D ty sz G (mw_W Gm M [lw_o1 Gm aO f]) (hG.c M f) c x htr) kt_high kw_412 kw_413 kw_414 (kc_rcD B hP) (by decide) ⟨rfl, rfl⟩ (by decide) rfl (Nat.le_of_ble_eq_true rfl) hl.1 hP hS (fun U hU hA => hH.at hA hU) dL_high_4 (fun v9 H locs hv hP hS => ?_) (fun q ce H hv hce hcv hcl hP hS => ?_)
  · obtain ⟨v8, ev8, rfl⟩ : ∃ v8, F_high c x = some v8 ∧ v9 = .int v8 := by
      cases hF : F_high c x with
      | none => rw [hF] at hv; cases hv
      | some v8 => rw [hF] at hv; exact ⟨v8, rfl, (Option.some.inj hv).symm⟩
    refine lv_i2l (v := v8.toInt64) hx hb dL_high_7 rfl ?_
    refine kw_out (c := c) B hG hP hS dL_high_8 (fun H locs hP hS => ?_)
    refine lv_goto (tgt := 15) hx hb dL_high_9 (by decide) ?_
    refine lv_iconst (v := 0) hx hb dL_high_15 (by decide) ?_
    exact kp_reti B (by rw [ev8]; exact hP) hS (by rw [ev8]; rfl) dL_high_16
  · have ev8 : F_high c x = none := by
      cases hF : F_high c x with
      | none => rfl
      | some v8 => rw [hF] at hv; cases hv
    refine kx_catch (x := ⟨0, 9, 12, 26⟩) B htab (by decide) (by decide) kw_408 kw_409 hce hcv hcl ?_
    refine lv_astore_n (lv' := [(3, .ref q), (0, .ref (aD G)), (1, .int x), (2, .ref aO)]) hx hb dL_high_12 rfl hl (by decide) rfl (fun ls hl => ?_)
    refine lv_iconst (v := 1) hx hb dL_high_13 (by decide) ?_
    exact kp_reti B (by rw [ev8]; exact hP) hS (by rw [ev8]; rfl) dL_high_14
def rmW_middle : Room := { frames := 7, cells := 1, slots := 6, locals := 166 }
set_option maxHeartbeats 4000000 in
set_option maxRecDepth 100000 in
theorem CW_middle (l : Launch) (D : va_G) (ty : List (ClassId × FieldType)) (sz : Nat) (G : cw_G) (Gm : mw_G) (M : mw_C) (aO : Nat) (f : Nat → Int64) (hG : lw_ok ty sz G Gm aO) (c : cw_C) (x : Int32) (htr : l.stackTraces = false) : kw_M l yL_middle cL_middle 4 (some .int) [(0, 9, 12, 26)] rmW_middle D ty sz [.ref (aD G), .int x, .ref aO] (lw_W G c Gm M aO f) (some (.int (lw_k (F_middle c x)))) (lw_W G (lw_c (F_middle c x) c c) Gm M aO (lw_f (F_middle c x) f)) := by
  refine kw_body (by decide) (Nat.le_of_ble_eq_true rfl) rfl ?_
  intro p e s m args below meth cd ls B htab hH hl hP hS
  obtain ⟨hx, hb, hml, hown, hlk, hr, hw, hE, hK, hsz⟩ := id B
  have hl : lv_has ls 4 [(0, .ref (aD G)), (1, .int x), (2, .ref aO)] := hl
  refine lv_aload_n hx hb dL_middle_0 rfl (lv_at hl 2 rfl) ?_
  refine lv_iconst (v := 0) hx hb dL_middle_1 (by decide) ?_
  refine lv_aload_n hx hb dL_middle_2 rfl (lv_at hl 0 rfl) ?_
  refine lv_iload_n hx hb dL_middle_3 rfl (lv_at hl 1 rfl) ?_
  refine kx_callV (rm := rm_middle) (As := [.int x]) (rest := [.int 0, .ref aO]) B (C_middle l D ty sz G (mw_W Gm M [lw_o1 Gm aO f]) (hG.c M f) c x htr) kt_middle kw_417 kw_418 kw_419 (kc_rcD B hP) (by decide) ⟨rfl, rfl⟩ (by decide) rfl (Nat.le_of_ble_eq_true rfl) hl.1 hP hS (fun U hU hA => hH.at hA hU) dL_middle_4 (fun v9 H locs hv hP hS => ?_) (fun q ce H hv hce hcv hcl hP hS => ?_)
  · obtain ⟨v8, ev8, rfl⟩ : ∃ v8, F_middle c x = some v8 ∧ v9 = .int v8 := by
      cases hF : F_middle c x with
      | none => rw [hF] at hv; cases hv
      | some v8 => rw [hF] at hv; exact ⟨v8, rfl, (Option.some.inj hv).symm⟩
    refine lv_i2l (v := v8.toInt64) hx hb dL_middle_7 rfl ?_
    refine kw_out (c := c) B hG hP hS dL_middle_8 (fun H locs hP hS => ?_)
    refine lv_goto (tgt := 15) hx hb dL_middle_9 (by decide) ?_
    refine lv_iconst (v := 0) hx hb dL_middle_15 (by decide) ?_
    exact kp_reti B (by rw [ev8]; exact hP) hS (by rw [ev8]; rfl) dL_middle_16
  · have ev8 : F_middle c x = none := by
      cases hF : F_middle c x with
      | none => rfl
      | some v8 => rw [hF] at hv; cases hv
    refine kx_catch (x := ⟨0, 9, 12, 26⟩) B htab (by decide) (by decide) kw_408 kw_409 hce hcv hcl ?_
    refine lv_astore_n (lv' := [(3, .ref q), (0, .ref (aD G)), (1, .int x), (2, .ref aO)]) hx hb dL_middle_12 rfl hl (by decide) rfl (fun ls hl => ?_)
    refine lv_iconst (v := 1) hx hb dL_middle_13 (by decide) ?_
    exact kp_reti B (by rw [ev8]; exact hP) hS (by rw [ev8]; rfl) dL_middle_14
def rmW_width : Room := { frames := 7, cells := 1, slots := 6, locals := 136 }
set_option maxHeartbeats 4000000 in
set_option maxRecDepth 100000 in
theorem CW_width (l : Launch) (D : va_G) (ty : List (ClassId × FieldType)) (sz : Nat) (G : cw_G) (Gm : mw_G) (M : mw_C) (aO : Nat) (f : Nat → Int64) (hG : lw_ok ty sz G Gm aO) (c : cw_C) (x : Int32) (htr : l.stackTraces = false) : kw_M l yL_width cL_width 4 (some .int) [(0, 9, 12, 26)] rmW_width D ty sz [.ref (aD G), .int x, .ref aO] (lw_W G c Gm M aO f) (some (.int (lw_k (F_width c x)))) (lw_W G (lw_c (F_width c x) c c) Gm M aO (lw_f (F_width c x) f)) := by
  refine kw_body (by decide) (Nat.le_of_ble_eq_true rfl) rfl ?_
  intro p e s m args below meth cd ls B htab hH hl hP hS
  obtain ⟨hx, hb, hml, hown, hlk, hr, hw, hE, hK, hsz⟩ := id B
  have hl : lv_has ls 4 [(0, .ref (aD G)), (1, .int x), (2, .ref aO)] := hl
  refine lv_aload_n hx hb dL_width_0 rfl (lv_at hl 2 rfl) ?_
  refine lv_iconst (v := 0) hx hb dL_width_1 (by decide) ?_
  refine lv_aload_n hx hb dL_width_2 rfl (lv_at hl 0 rfl) ?_
  refine lv_iload_n hx hb dL_width_3 rfl (lv_at hl 1 rfl) ?_
  refine kx_callV (rm := rm_width) (As := [.int x]) (rest := [.int 0, .ref aO]) B (C_width l D ty sz G (mw_W Gm M [lw_o1 Gm aO f]) (hG.c M f) c x htr) kt_width kw_422 kw_423 kw_424 (kc_rcD B hP) (by decide) ⟨rfl, rfl⟩ (by decide) rfl (Nat.le_of_ble_eq_true rfl) hl.1 hP hS (fun U hU hA => hH.at hA hU) dL_width_4 (fun v9 H locs hv hP hS => ?_) (fun q ce H hv hce hcv hcl hP hS => ?_)
  · obtain ⟨v8, ev8, rfl⟩ : ∃ v8, F_width c x = some v8 ∧ v9 = .int v8 := by
      cases hF : F_width c x with
      | none => rw [hF] at hv; cases hv
      | some v8 => rw [hF] at hv; exact ⟨v8, rfl, (Option.some.inj hv).symm⟩
    refine lv_i2l (v := v8.toInt64) hx hb dL_width_7 rfl ?_
    refine kw_out (c := c) B hG hP hS dL_width_8 (fun H locs hP hS => ?_)
    refine lv_goto (tgt := 15) hx hb dL_width_9 (by decide) ?_
    refine lv_iconst (v := 0) hx hb dL_width_15 (by decide) ?_
    exact kp_reti B (by rw [ev8]; exact hP) hS (by rw [ev8]; rfl) dL_width_16
  · have ev8 : F_width c x = none := by
      cases hF : F_width c x with
      | none => rfl
      | some v8 => rw [hF] at hv; cases hv
    refine kx_catch (x := ⟨0, 9, 12, 26⟩) B htab (by decide) (by decide) kw_408 kw_409 hce hcv hcl ?_
    refine lv_astore_n (lv' := [(3, .ref q), (0, .ref (aD G)), (1, .int x), (2, .ref aO)]) hx hb dL_width_12 rfl hl (by decide) rfl (fun ls hl => ?_)
    refine lv_iconst (v := 1) hx hb dL_width_13 (by decide) ?_
    exact kp_reti B (by rw [ev8]; exact hP) hS (by rw [ev8]; rfl) dL_width_14
