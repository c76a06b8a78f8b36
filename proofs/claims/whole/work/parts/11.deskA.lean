def F_isPlace (x : Int32) : Int32 :=
  if x < (0 : Int32) then (0 : Int32) else (if (8 : Int32) ≤ x then (0 : Int32) else (1 : Int32))
def rm_isPlace : Room := { frames := 0, cells := 0, slots := 0, locals := 0 }
set_option maxHeartbeats 4000000 in
set_option maxRecDepth 100000 in
theorem C_isPlace (l : Launch) (D : va_G) (ty : List (ClassId × FieldType)) (sz : Nat) (G : cw_G) (Z : va_W) (hG : cw_ok ty sz G Z) (c : cw_C) (x : Int32) : kp_R l yX2_isPlace cX2_isPlace 1 (some .boolean) rm_isPlace D ty sz [.int x] (cw_W G c Z) (some (.int (F_isPlace x))) := by
  refine kp_bodyR (by decide) (Nat.le_of_ble_eq_true rfl) rfl ?_
  intro p e s m args below meth cd ls B hl hP hS
  obtain ⟨hx, hb, hml, hown, hlk, hr, hw, hE, hK, hsz⟩ := id B
  have hl : lv_has ls 1 [(0, .int x)] := hl
  refine lv_iload_n hx hb dX2_isPlace_0 rfl (lv_at hl 0 rfl) ?_
  refine lv_if_lt (tgt := 14) hx hb dX2_isPlace_1 (by decide) (fun q_1 => ?_) (fun q_1 => ?_)
  · refine lv_iconst (v := (0 : Int32)) hx hb dX2_isPlace_14 (by decide) ?_
    exact kp_retzR B (by simp only [F_isPlace, if_pos q_1]) (Or.inl rfl) dX2_isPlace_15
  · refine lv_iload_n hx hb dX2_isPlace_4 rfl (lv_at hl 0 rfl) ?_
    refine lv_bipush (v := (8 : Int32)) hx hb dX2_isPlace_5 (by decide) ?_
    refine lv_icmp_ge (tgt := 14) hx hb dX2_isPlace_7 (by decide) (fun q_2 => ?_) (fun q_2 => ?_)
    · refine lv_iconst (v := (0 : Int32)) hx hb dX2_isPlace_14 (by decide) ?_
      exact kp_retzR B (by simp only [F_isPlace, if_neg q_1, if_pos q_2]) (Or.inl rfl) dX2_isPlace_15
    · refine lv_iconst (v := (1 : Int32)) hx hb dX2_isPlace_10 (by decide) ?_
      refine lv_goto (tgt := 15) hx hb dX2_isPlace_11 (by decide) ?_
      exact kp_retzR B (by simp only [F_isPlace, if_neg q_1, if_neg q_2]) (Or.inr rfl) dX2_isPlace_15
theorem ki_pos {x : Int64} (q : ¬ x ≤ (0 : Int64)) : ¬ x = 0 := fun h => q (by rw [h]; decide)
theorem kc_inP {x : Int32} (q : ¬ (F_isPlace x) = (0 : Int32)) : vp_in x 8 := by
  unfold F_isPlace at q
  by_cases h1 : x < 0
  · exact absurd (if_pos h1) q
  · rw [if_neg h1] at q
    by_cases h2 : (8 : Int32) ≤ x
    · exact absurd (if_pos h2) q
    · have a1 := Int32.not_lt.mp h1
      have a2 := Int32.not_le.mp h2
      rw [Int32.le_iff_toInt_le] at a1
      rw [Int32.lt_iff_toInt_lt] at a2
      exact vp_in_iff.mpr ⟨a1, a2⟩
def F_isEndless (x : Int64) : Int32 :=
  if x = cw_inf then (1 : Int32) else (if x = (-cw_inf) then (1 : Int32) else (0 : Int32))
def rm_isEndless : Room := { frames := 0, cells := 0, slots := 0, locals := 0 }
set_option maxHeartbeats 4000000 in
set_option maxRecDepth 100000 in
theorem C_isEndless (l : Launch) (D : va_G) (ty : List (ClassId × FieldType)) (sz : Nat) (G : cw_G) (Z : va_W) (hG : cw_ok ty sz G Z) (c : cw_C) (x : Int64) : kp_R l yX2_isEndless cX2_isEndless 2 (some .boolean) rm_isEndless D ty sz [.long x] (cw_W G c Z) (some (.int (F_isEndless x))) := by
  refine kp_bodyR (by decide) (Nat.le_of_ble_eq_true rfl) rfl ?_
  intro p e s m args below meth cd ls B hl hP hS
  obtain ⟨hx, hb, hml, hown, hlk, hr, hw, hE, hK, hsz⟩ := id B
  have hl : lv_has ls 2 [(0, .long x)] := hl
  refine lv_lload_n hx hb dX2_isEndless_0 rfl (lv_at hl 0 rfl) ?_
  refine lv_ldc2 (v := cw_inf) hx hb hown (hw _ kw_64 rfl) dX2_isEndless_1 ?_
  refine kp_leq (tgt := 16) hx hb dX2_isEndless_4 dX2_isEndless_5 (by decide) (fun q_1 => ?_) (fun q_1 => ?_)
  · refine lv_iconst (v := (1 : Int32)) hx hb dX2_isEndless_16 (by decide) ?_
    refine lv_goto (tgt := 21) hx hb dX2_isEndless_17 (by decide) ?_
    exact kp_retzR B (by simp only [F_isEndless, if_pos q_1]) (Or.inr rfl) dX2_isEndless_21
  · refine lv_lload_n hx hb dX2_isEndless_8 rfl (lv_at hl 0 rfl) ?_
    refine lv_ldc2 (v := (-cw_inf)) hx hb hown (hw _ kw_65 rfl) dX2_isEndless_9 ?_
    refine kp_lne (tgt := 20) hx hb dX2_isEndless_12 dX2_isEndless_13 (by decide) (fun q_2 => ?_) (fun q_2 => ?_)
    · refine lv_iconst (v := (0 : Int32)) hx hb dX2_isEndless_20 (by decide) ?_
      exact kp_retzR B (by simp only [F_isEndless, if_neg q_1, if_neg q_2]) (Or.inl rfl) dX2_isEndless_21
    · refine lv_iconst (v := (1 : Int32)) hx hb dX2_isEndless_16 (by decide) ?_
      refine lv_goto (tgt := 21) hx hb dX2_isEndless_17 (by decide) ?_
      exact kp_retzR B (by simp only [F_isEndless, if_neg q_1, if_pos q_2]) (Or.inr rfl) dX2_isEndless_21
def F_plus (x : Int64) (y : Int64) : Int64 :=
  if (F_isEndless x) = (0 : Int32) then (if (F_isEndless y) = (0 : Int32) then x + y else y) else x
def rm_plus : Room := { frames := 1, cells := 0, slots := 0, locals := 21 }
set_option maxHeartbeats 4000000 in
set_option maxRecDepth 100000 in
theorem C_plus (l : Launch) (D : va_G) (ty : List (ClassId × FieldType)) (sz : Nat) (G : cw_G) (Z : va_W) (hG : cw_ok ty sz G Z) (c : cw_C) (x : Int64) (y : Int64) : kp_R l yX2_plus cX2_plus 4 (some .long) rm_plus D ty sz [.long x, .long y] (cw_W G c Z) (some (.long (F_plus x y))) := by
  refine kp_bodyR (by decide) (Nat.le_of_ble_eq_true rfl) rfl ?_
  intro p e s m args below meth cd ls B hl hP hS
  obtain ⟨hx, hb, hml, hown, hlk, hr, hw, hE, hK, hsz⟩ := id B
  have hl : lv_has ls 4 [(0, .long x), (2, .long y)] := hl
  refine lv_lload_n hx hb dX2_plus_0 rfl (lv_at hl 0 rfl) ?_
  refine kp_callSR (rm := rm_isEndless) (As := [.long x]) (rest := []) (r := some (.int (F_isEndless x))) (st1 := [.int (F_isEndless x)]) B (C_isEndless l D ty sz G Z hG c x) kt_isEndless kw_68 kw_69 (by decide) ⟨rfl, rfl⟩ (by decide) rfl (Nat.le_of_ble_eq_true rfl) hl.1 hP hS dX2_plus_1 rfl ?_
  refine lv_if_eq (tgt := 9) hx hb dX2_plus_4 (by decide) (fun q_1 => ?_) (fun q_1 => ?_)
  · refine lv_lload_n hx hb dX2_plus_9 rfl (lv_at hl 1 rfl) ?_
    refine kp_callSR (rm := rm_isEndless) (As := [.long y]) (rest := []) (r := some (.int (F_isEndless y))) (st1 := [.int (F_isEndless y)]) B (C_isEndless l D ty sz G Z hG c y) kt_isEndless kw_68 kw_69 (by decide) ⟨rfl, rfl⟩ (by decide) rfl (Nat.le_of_ble_eq_true rfl) hl.1 hP hS dX2_plus_10 rfl ?_
    refine lv_if_eq (tgt := 20) hx hb dX2_plus_13 (by decide) (fun q_2 => ?_) (fun q_2 => ?_)
    · refine lv_lload_n hx hb dX2_plus_20 rfl (lv_at hl 0 rfl) ?_
      refine lv_lload_n hx hb dX2_plus_21 rfl (lv_at hl 1 rfl) ?_
      refine lv_ladd hx hb dX2_plus_22 ?_
      exact kp_retlR B (by simp only [F_plus, if_pos q_1, if_pos q_2]) dX2_plus_23
    · refine lv_lload_n hx hb dX2_plus_16 rfl (lv_at hl 1 rfl) ?_
      refine lv_goto (tgt := 23) hx hb dX2_plus_17 (by decide) ?_
      exact kp_retlR B (by simp only [F_plus, if_pos q_1, if_neg q_2]) dX2_plus_23
  · refine lv_lload_n hx hb dX2_plus_7 rfl (lv_at hl 0 rfl) ?_
    exact kp_retlR B (by simp only [F_plus, if_neg q_1]) dX2_plus_8
def F_isFilled (c : cw_C) (x : Int32) : Int32 :=
  if (F_isPlace x) = (0 : Int32) then (0 : Int32) else (if (F_isEmpty c x.toNatClampNeg) = (0 : Int32) then (1 : Int32) else (0 : Int32))
def rm_isFilled : Room := { frames := 1, cells := 0, slots := 0, locals := 20 }
set_option maxHeartbeats 4000000 in
set_option maxRecDepth 100000 in
theorem C_isFilled (l : Launch) (D : va_G) (ty : List (ClassId × FieldType)) (sz : Nat) (G : cw_G) (Z : va_W) (hG : cw_ok ty sz G Z) (c : cw_C) (x : Int32) : kp_R l yX2_isFilled cX2_isFilled 2 (some .boolean) rm_isFilled D ty sz [.ref (aD G), .int x] (cw_W G c Z) (some (.int (F_isFilled c x))) := by
  refine kp_bodyR (by decide) (Nat.le_of_ble_eq_true rfl) rfl ?_
  intro p e s m args below meth cd ls B hl hP hS
  obtain ⟨hx, hb, hml, hown, hlk, hr, hw, hE, hK, hsz⟩ := id B
  have hl : lv_has ls 2 [(0, .ref (aD G)), (1, .int x)] := hl
  refine lv_iload_n hx hb dX2_isFilled_0 rfl (lv_at hl 1 rfl) ?_
  refine kp_callSR (rm := rm_isPlace) (As := [.int x]) (rest := []) (r := some (.int (F_isPlace x))) (st1 := [.int (F_isPlace x)]) B (C_isPlace l D ty sz G Z hG c x) kt_isPlace kw_72 kw_73 (by decide) ⟨rfl, rfl⟩ (by decide) rfl (Nat.le_of_ble_eq_true rfl) hl.1 hP hS dX2_isFilled_1 rfl ?_
  refine lv_if_eq (tgt := 23) hx hb dX2_isFilled_4 (by decide) (fun q_1 => ?_) (fun q_1 => ?_)
  · refine lv_iconst (v := (0 : Int32)) hx hb dX2_isFilled_23 (by decide) ?_
    exact kp_retzR B (by simp only [F_isFilled, if_pos q_1]) (Or.inl rfl) dX2_isFilled_24
  · refine lv_aload_n hx hb dX2_isFilled_7 rfl (lv_at hl 0 rfl) ?_
    refine kc_getD (j := 1) (v := .ref (aP G)) B hP rfl (by decide) kw_74 dX2_isFilled_8 ?_
    refine lv_iload_n hx hb dX2_isFilled_11 rfl (lv_at hl 1 rfl) ?_
    refine kc_aald (i := x) B hG hP (kc_inP q_1) dX2_isFilled_12 ?_
    refine kp_callNR (rm := rm_isEmpty) (As := []) (rest := []) (r := some (.int (F_isEmpty c x.toNatClampNeg))) (st1 := [.int (F_isEmpty c x.toNatClampNeg)]) B (C_isEmpty l D ty sz G Z hG c x.toNatClampNeg (kc_in10 (kc_inP q_1))) kt_isEmpty kw_75 kw_8 kw_9 (kc_rcN B hP (kc_in10 (kc_inP q_1))) (by decide) ⟨rfl, rfl⟩ (by decide) rfl (Nat.le_of_ble_eq_true rfl) hl.1 hP hS dX2_isFilled_13 rfl ?_
    refine lv_if_ne (tgt := 23) hx hb dX2_isFilled_16 (by decide) (fun q_2 => ?_) (fun q_2 => ?_)
    · refine lv_iconst (v := (0 : Int32)) hx hb dX2_isFilled_23 (by decide) ?_
      exact kp_retzR B (by simp only [F_isFilled, if_neg q_1, if_neg q_2]) (Or.inl rfl) dX2_isFilled_24
    · refine lv_iconst (v := (1 : Int32)) hx hb dX2_isFilled_19 (by decide) ?_
      refine lv_goto (tgt := 24) hx hb dX2_isFilled_20 (by decide) ?_
      exact kp_retzR B (by simp only [F_isFilled, if_neg q_1, if_pos q_2]) (Or.inr rfl) dX2_isFilled_24
theorem kc_inF {c : cw_C} {x : Int32} (q : ¬ (F_isFilled c x) = (0 : Int32)) : vp_in x 8 := by
  unfold F_isFilled at q
  by_cases h1 : (F_isPlace x) = (0 : Int32)
  · exact absurd (if_pos h1) q
  · exact kc_inP h1
theorem ki_up8 {i : Int32} {n : Nat} (h1 : 0 ≤ i.toInt) (h3 : i.toInt ≤ 8) (q : ¬ (8 : Int32) ≤ i) (h2 : 9 ≤ i.toInt + ((n + 1 : Nat) : Int)) : 0 ≤ (i + 1).toInt ∧ 9 ≤ (i + 1).toInt + (n : Int) ∧ (i + 1).toInt ≤ 8 := by
  have hq : i.toInt < 8 := by
    have h := Int32.not_le.mp q
    rw [Int32.lt_iff_toInt_lt] at h
    exact h
  have e : (i + 1).toInt = i.toInt + 1 := by
    rw [Int32.toInt_add, show (1 : Int32).toInt = 1 from rfl, Int.bmod_eq_of_le (by omega) (by omega)]
  rw [e]
  omega
theorem ki_in8 {i : Int32} (h1 : 0 ≤ i.toInt) (q : ¬ (8 : Int32) ≤ i) : vp_in i 8 := by
  have h := Int32.not_le.mp q
  rw [Int32.lt_iff_toInt_lt] at h
  exact vp_in_iff.mpr ⟨h1, h⟩
theorem ki_sum0 {y z : Int32} (q1 : ¬ (F_isPlace y) = (0 : Int32)) (q2 : ¬ z < (1 : Int32)) (q3 : z ≤ ((8 : Int32) - y)) : (0 ≤ y.toInt ∧ 1 ≤ z.toInt ∧ y.toInt + z.toInt ≤ 8 ∧ y.toInt ≤ y.toInt ∧ y.toInt ≤ y.toInt + z.toInt) ∧ y.toInt + z.toInt + 1 ≤ y.toInt + ((9 : Nat) : Int) := by
  have h1 := vp_in_iff.mp (kc_inP q1)
  have h2 := Int32.not_lt.mp q2
  rw [Int32.le_iff_toInt_le] at h2 q3
  have e : ((8 : Int32) - y).toInt = 8 - y.toInt := by
    rw [Int32.toInt_sub, show (8 : Int32).toInt = 8 from rfl, Int.bmod_eq_of_le (by omega) (by omega)]
  rw [e] at q3
  have h3 : (1 : Int) ≤ z.toInt := h2
  omega
theorem ki_sumT {y z : Int32} (h : 0 ≤ y.toInt ∧ 1 ≤ z.toInt ∧ y.toInt + z.toInt ≤ 8) : (y + z).toInt = y.toInt + z.toInt := by
  rw [Int32.toInt_add, Int.bmod_eq_of_le (by omega) (by omega)]
theorem ki_sum1 {y z i : Int32} {n : Nat} (hv : 0 ≤ y.toInt ∧ 1 ≤ z.toInt ∧ y.toInt + z.toInt ≤ 8 ∧ y.toInt ≤ i.toInt ∧ i.toInt ≤ y.toInt + z.toInt) (q : ¬ (y + z) ≤ i) (h2 : y.toInt + z.toInt + 1 ≤ i.toInt + ((n + 1 : Nat) : Int)) :
    (0 ≤ y.toInt ∧ 1 ≤ z.toInt ∧ y.toInt + z.toInt ≤ 8 ∧ y.toInt ≤ (i + 1).toInt ∧ (i + 1).toInt ≤ y.toInt + z.toInt) ∧ y.toInt + z.toInt + 1 ≤ (i + 1).toInt + (n : Int) := by
  have h := Int32.not_le.mp q
  rw [Int32.lt_iff_toInt_lt, ki_sumT ⟨hv.1, hv.2.1, hv.2.2.1⟩] at h
  have e : (i + 1).toInt = i.toInt + 1 := by
    rw [Int32.toInt_add, show (1 : Int32).toInt = 1 from rfl, Int.bmod_eq_of_le (by omega) (by omega)]
  rw [e]
  omega
theorem ki_insum {y z i : Int32} (hv : 0 ≤ y.toInt ∧ 1 ≤ z.toInt ∧ y.toInt + z.toInt ≤ 8 ∧ y.toInt ≤ i.toInt ∧ i.toInt ≤ y.toInt + z.toInt) (q : ¬ (y + z) ≤ i) : vp_in i 8 := by
  have h := Int32.not_le.mp q
  rw [Int32.lt_iff_toInt_lt, ki_sumT ⟨hv.1, hv.2.1, hv.2.2.1⟩] at h
  exact vp_in_iff.mpr ⟨by omega, by omega⟩
theorem kc_out8 {x : Int32} (h0 : ¬ x = 0) (h1 : ¬ x = 1) (h2 : ¬ x = 2) (h3 : ¬ x = 3) (h4 : ¬ x = 4) (h5 : ¬ x = 5) (h6 : ¬ x = 6) (h7 : ¬ x = 7) : x.toInt < 0 ∨ 7 < x.toInt := by
  have a0 : x.toInt ≠ 0 := fun h => h0 (Int32.toInt_inj.mp h)
  have a1 : x.toInt ≠ 1 := fun h => h1 (Int32.toInt_inj.mp h)
  have a2 : x.toInt ≠ 2 := fun h => h2 (Int32.toInt_inj.mp h)
  have a3 : x.toInt ≠ 3 := fun h => h3 (Int32.toInt_inj.mp h)
  have a4 : x.toInt ≠ 4 := fun h => h4 (Int32.toInt_inj.mp h)
  have a5 : x.toInt ≠ 5 := fun h => h5 (Int32.toInt_inj.mp h)
  have a6 : x.toInt ≠ 6 := fun h => h6 (Int32.toInt_inj.mp h)
  have a7 : x.toInt ≠ 7 := fun h => h7 (Int32.toInt_inj.mp h)
  omega
theorem kc_out4 {x : Int32} (h0 : ¬ x = 8) (h1 : ¬ x = 9) (h2 : ¬ x = 10) (h3 : ¬ x = 11) : x.toInt < 8 ∨ 11 < x.toInt := by
  have a0 : x.toInt ≠ 8 := fun h => h0 (Int32.toInt_inj.mp h)
  have a1 : x.toInt ≠ 9 := fun h => h1 (Int32.toInt_inj.mp h)
  have a2 : x.toInt ≠ 10 := fun h => h2 (Int32.toInt_inj.mp h)
  have a3 : x.toInt ≠ 11 := fun h => h3 (Int32.toInt_inj.mp h)
  omega
def F_productNotAbove (c : cw_C) (x : Int64) (y : Int64) : Int64 :=
  if x = (0 : Int64) then (0 : Int64) else (if y = (0 : Int64) then (0 : Int64) else (if (F_isEndless x) = (0 : Int32) then (if (F_isEndless y) = (0 : Int32) then (x * y) >>> ((F_unitBits c).toInt64 &&& 63) else (if (if (0 : Int64) ≤ x then (0 : Int32) else (1 : Int32)) = (if (0 : Int64) ≤ y then (0 : Int32) else (1 : Int32)) then cw_inf else (-cw_inf))) else (if (if (0 : Int64) ≤ x then (0 : Int32) else (1 : Int32)) = (if (0 : Int64) ≤ y then (0 : Int32) else (1 : Int32)) then cw_inf else (-cw_inf))))
def rm_productNotAbove : Room := { frames := 1, cells := 0, slots := 0, locals := 21 }
set_option maxHeartbeats 4000000 in
set_option maxRecDepth 100000 in
theorem C_productNotAbove (l : Launch) (D : va_G) (ty : List (ClassId × FieldType)) (sz : Nat) (G : cw_G) (Z : va_W) (hG : cw_ok ty sz G Z) (c : cw_C) (x : Int64) (y : Int64) : kp_R l yX2_productNotAbove cX2_productNotAbove 5 (some .long) rm_productNotAbove D ty sz [.ref (aD G), .long x, .long y] (cw_W G c Z) (some (.long (F_productNotAbove c x y))) := by
  refine kp_bodyR (by decide) (Nat.le_of_ble_eq_true rfl) rfl ?_
  intro p e s m args below meth cd ls B hl hP hS
  obtain ⟨hx, hb, hml, hown, hlk, hr, hw, hE, hK, hsz⟩ := id B
  have hl : lv_has ls 5 [(0, .ref (aD G)), (1, .long x), (3, .long y)] := hl
  refine lv_lload_n hx hb dX2_productNotAbove_0 rfl (lv_at hl 1 rfl) ?_
  refine lv_lconst (v := (0 : Int64)) hx hb dX2_productNotAbove_1 (by decide) ?_
  refine kp_leq (tgt := 12) hx hb dX2_productNotAbove_2 dX2_productNotAbove_3 (by decide) (fun q_1 => ?_) (fun q_1 => ?_)
  · refine lv_lconst (v := (0 : Int64)) hx hb dX2_productNotAbove_12 (by decide) ?_
    exact kp_retlR B (by simp only [F_productNotAbove, if_pos q_1]) dX2_productNotAbove_13
  · refine lv_lload_n hx hb dX2_productNotAbove_6 rfl (lv_at hl 2 rfl) ?_
    refine lv_lconst (v := (0 : Int64)) hx hb dX2_productNotAbove_7 (by decide) ?_
    refine kp_lne (tgt := 14) hx hb dX2_productNotAbove_8 dX2_productNotAbove_9 (by decide) (fun q_2 => ?_) (fun q_2 => ?_)
    · refine lv_lload_n hx hb dX2_productNotAbove_14 rfl (lv_at hl 1 rfl) ?_
      refine kp_callSR (rm := rm_isEndless) (As := [.long x]) (rest := []) (r := some (.int (F_isEndless x))) (st1 := [.int (F_isEndless x)]) B (C_isEndless l D ty sz G Z hG c x) kt_isEndless kw_68 kw_69 (by decide) ⟨rfl, rfl⟩ (by decide) rfl (Nat.le_of_ble_eq_true rfl) hl.1 hP hS dX2_productNotAbove_15 rfl ?_
      refine lv_if_ne (tgt := 28) hx hb dX2_productNotAbove_18 (by decide) (fun q_3 => ?_) (fun q_3 => ?_)
      · refine lv_lload_n hx hb dX2_productNotAbove_28 rfl (lv_at hl 1 rfl) ?_
        refine lv_lconst (v := (0 : Int64)) hx hb dX2_productNotAbove_29 (by decide) ?_
        have hJ39 : W p l e rm_productNotAbove s m args below meth cd s.heap [] 0 0 (MQ below (kp_QR (some (.long (F_productNotAbove c x y)))) args s 0 0 (fun _ => False)) (F0 m 39 ls [.int (if (0 : Int64) ≤ x then (0 : Int32) else (1 : Int32))]) := by
          refine lv_lload_n hx hb dX2_productNotAbove_39 rfl (lv_at hl 2 rfl) ?_
          refine lv_lconst (v := (0 : Int64)) hx hb dX2_productNotAbove_40 (by decide) ?_
          have hJ50 : W p l e rm_productNotAbove s m args below meth cd s.heap [] 0 0 (MQ below (kp_QR (some (.long (F_productNotAbove c x y)))) args s 0 0 (fun _ => False)) (F0 m 50 ls [.int (if (0 : Int64) ≤ y then (0 : Int32) else (1 : Int32)), .int (if (0 : Int64) ≤ x then (0 : Int32) else (1 : Int32))]) := by
            refine lv_icmp_ne (tgt := 59) hx hb dX2_productNotAbove_50 (by decide) (fun q_4 => ?_) (fun q_4 => ?_)
            · refine lv_ldc2 (v := (-cw_inf)) hx hb hown (hw _ kw_65 rfl) dX2_productNotAbove_59 ?_
              exact kp_retlR B (by simp only [F_productNotAbove, if_neg q_1, if_neg q_2, if_neg q_3, if_neg q_4]) dX2_productNotAbove_62
            · refine lv_ldc2 (v := cw_inf) hx hb hown (hw _ kw_64 rfl) dX2_productNotAbove_53 ?_
              refine lv_goto (tgt := 62) hx hb dX2_productNotAbove_56 (by decide) ?_
              exact kp_retlR B (by simp only [F_productNotAbove, if_neg q_1, if_neg q_2, if_neg q_3, if_pos q_4]) dX2_productNotAbove_62
          refine kp_lge (tgt := 49) hx hb dX2_productNotAbove_41 dX2_productNotAbove_42 (by decide) (fun q_5 => ?_) (fun q_5 => ?_)
          · refine lv_iconst (v := (0 : Int32)) hx hb dX2_productNotAbove_49 (by decide) ?_
            exact kp_jI (by simp only [if_pos q_5]) hJ50
          · refine lv_iconst (v := (1 : Int32)) hx hb dX2_productNotAbove_45 (by decide) ?_
            refine lv_goto (tgt := 50) hx hb dX2_productNotAbove_46 (by decide) ?_
            exact kp_jI (by simp only [if_neg q_5]) hJ50
        refine kp_lge (tgt := 38) hx hb dX2_productNotAbove_30 dX2_productNotAbove_31 (by decide) (fun q_6 => ?_) (fun q_6 => ?_)
        · refine lv_iconst (v := (0 : Int32)) hx hb dX2_productNotAbove_38 (by decide) ?_
          exact kp_jI (by simp only [if_pos q_6]) hJ39
        · refine lv_iconst (v := (1 : Int32)) hx hb dX2_productNotAbove_34 (by decide) ?_
          refine lv_goto (tgt := 39) hx hb dX2_productNotAbove_35 (by decide) ?_
          exact kp_jI (by simp only [if_neg q_6]) hJ39
      · refine lv_lload_n hx hb dX2_productNotAbove_21 rfl (lv_at hl 2 rfl) ?_
        refine kp_callSR (rm := rm_isEndless) (As := [.long y]) (rest := []) (r := some (.int (F_isEndless y))) (st1 := [.int (F_isEndless y)]) B (C_isEndless l D ty sz G Z hG c y) kt_isEndless kw_68 kw_69 (by decide) ⟨rfl, rfl⟩ (by decide) rfl (Nat.le_of_ble_eq_true rfl) hl.1 hP hS dX2_productNotAbove_22 rfl ?_
        refine lv_if_eq (tgt := 63) hx hb dX2_productNotAbove_25 (by decide) (fun q_7 => ?_) (fun q_7 => ?_)
        · refine lv_lload_n hx hb dX2_productNotAbove_63 rfl (lv_at hl 1 rfl) ?_
          refine lv_lload_n hx hb dX2_productNotAbove_64 rfl (lv_at hl 2 rfl) ?_
          refine lv_lmul hx hb dX2_productNotAbove_65 ?_
          refine lv_aload_n hx hb dX2_productNotAbove_66 rfl (lv_at hl 0 rfl) ?_
          refine kc_getD (j := 0) (v := .ref (aS G)) B hP rfl (by decide) kw_76 dX2_productNotAbove_67 ?_
          refine kp_callNR (rm := rm_unitBits) (As := []) (rest := [.long (x * y)]) (r := some (.int (F_unitBits c))) (st1 := [.int (F_unitBits c), .long (x * y)]) B (C_unitBits l D ty sz G Z hG c) kt_unitBits kw_79 kw_80 kw_81 (kc_rcS B hP) (by decide) ⟨rfl, rfl⟩ (by decide) rfl (Nat.le_of_ble_eq_true rfl) hl.1 hP hS dX2_productNotAbove_70 rfl ?_
          refine lv_lshr (v := (x * y) >>> ((F_unitBits c).toInt64 &&& 63)) hx hb dX2_productNotAbove_73 rfl ?_
          exact kp_retlR B (by simp only [F_productNotAbove, if_neg q_1, if_neg q_2, if_pos q_3, if_pos q_7]) dX2_productNotAbove_74
        · refine lv_lload_n hx hb dX2_productNotAbove_28 rfl (lv_at hl 1 rfl) ?_
          refine lv_lconst (v := (0 : Int64)) hx hb dX2_productNotAbove_29 (by decide) ?_
          have hJ39 : W p l e rm_productNotAbove s m args below meth cd s.heap [] 0 0 (MQ below (kp_QR (some (.long (F_productNotAbove c x y)))) args s 0 0 (fun _ => False)) (F0 m 39 ls [.int (if (0 : Int64) ≤ x then (0 : Int32) else (1 : Int32))]) := by
            refine lv_lload_n hx hb dX2_productNotAbove_39 rfl (lv_at hl 2 rfl) ?_
            refine lv_lconst (v := (0 : Int64)) hx hb dX2_productNotAbove_40 (by decide) ?_
            have hJ50 : W p l e rm_productNotAbove s m args below meth cd s.heap [] 0 0 (MQ below (kp_QR (some (.long (F_productNotAbove c x y)))) args s 0 0 (fun _ => False)) (F0 m 50 ls [.int (if (0 : Int64) ≤ y then (0 : Int32) else (1 : Int32)), .int (if (0 : Int64) ≤ x then (0 : Int32) else (1 : Int32))]) := by
              refine lv_icmp_ne (tgt := 59) hx hb dX2_productNotAbove_50 (by decide) (fun q_8 => ?_) (fun q_8 => ?_)
              · refine lv_ldc2 (v := (-cw_inf)) hx hb hown (hw _ kw_65 rfl) dX2_productNotAbove_59 ?_
                exact kp_retlR B (by simp only [F_productNotAbove, if_neg q_1, if_neg q_2, if_pos q_3, if_neg q_7, if_neg q_8]) dX2_productNotAbove_62
              · refine lv_ldc2 (v := cw_inf) hx hb hown (hw _ kw_64 rfl) dX2_productNotAbove_53 ?_
                refine lv_goto (tgt := 62) hx hb dX2_productNotAbove_56 (by decide) ?_
                exact kp_retlR B (by simp only [F_productNotAbove, if_neg q_1, if_neg q_2, if_pos q_3, if_neg q_7, if_pos q_8]) dX2_productNotAbove_62
            refine kp_lge (tgt := 49) hx hb dX2_productNotAbove_41 dX2_productNotAbove_42 (by decide) (fun q_9 => ?_) (fun q_9 => ?_)
            · refine lv_iconst (v := (0 : Int32)) hx hb dX2_productNotAbove_49 (by decide) ?_
              exact kp_jI (by simp only [if_pos q_9]) hJ50
            · refine lv_iconst (v := (1 : Int32)) hx hb dX2_productNotAbove_45 (by decide) ?_
              refine lv_goto (tgt := 50) hx hb dX2_productNotAbove_46 (by decide) ?_
              exact kp_jI (by simp only [if_neg q_9]) hJ50
          refine kp_lge (tgt := 38) hx hb dX2_productNotAbove_30 dX2_productNotAbove_31 (by decide) (fun q_10 => ?_) (fun q_10 => ?_)
          · refine lv_iconst (v := (0 : Int32)) hx hb dX2_productNotAbove_38 (by decide) ?_
            exact kp_jI (by simp only [if_pos q_10]) hJ39
          · refine lv_iconst (v := (1 : Int32)) hx hb dX2_productNotAbove_34 (by decide) ?_
            refine lv_goto (tgt := 39) hx hb dX2_productNotAbove_35 (by decide) ?_
            exact kp_jI (by simp only [if_neg q_10]) hJ39
    · refine lv_lconst (v := (0 : Int64)) hx hb dX2_productNotAbove_12 (by decide) ?_
      exact kp_retlR B (by simp only [F_productNotAbove, if_neg q_1, if_pos q_2]) dX2_productNotAbove_13
def F_productNotBelow (c : cw_C) (x : Int64) (y : Int64) : Int64 :=
  -(F_productNotAbove c (-x) y)
def rm_productNotBelow : Room := { frames := 2, cells := 0, slots := 0, locals := 45 }
set_option maxHeartbeats 4000000 in
set_option maxRecDepth 100000 in
theorem C_productNotBelow (l : Launch) (D : va_G) (ty : List (ClassId × FieldType)) (sz : Nat) (G : cw_G) (Z : va_W) (hG : cw_ok ty sz G Z) (c : cw_C) (x : Int64) (y : Int64) : kp_R l yX2_productNotBelow cX2_productNotBelow 5 (some .long) rm_productNotBelow D ty sz [.ref (aD G), .long x, .long y] (cw_W G c Z) (some (.long (F_productNotBelow c x y))) := by
  refine kp_bodyR (by decide) (Nat.le_of_ble_eq_true rfl) rfl ?_
  intro p e s m args below meth cd ls B hl hP hS
  obtain ⟨hx, hb, hml, hown, hlk, hr, hw, hE, hK, hsz⟩ := id B
  have hl : lv_has ls 5 [(0, .ref (aD G)), (1, .long x), (3, .long y)] := hl
  refine lv_aload_n hx hb dX2_productNotBelow_0 rfl (lv_at hl 0 rfl) ?_
  refine lv_lload_n hx hb dX2_productNotBelow_1 rfl (lv_at hl 1 rfl) ?_
  refine lv_lneg hx hb dX2_productNotBelow_2 ?_
  refine lv_lload_n hx hb dX2_productNotBelow_3 rfl (lv_at hl 2 rfl) ?_
  refine kp_callVR (rm := rm_productNotAbove) (As := [.long (-x), .long y]) (rest := []) (r := some (.long (F_productNotAbove c (-x) y))) (st1 := [.long (F_productNotAbove c (-x) y)]) B (C_productNotAbove l D ty sz G Z hG c (-x) y) kt_productNotAbove kw_84 kw_85 kw_86 (kc_rcD B hP) (by decide) ⟨rfl, rfl⟩ (by decide) rfl (Nat.le_of_ble_eq_true rfl) hl.1 hP hS dX2_productNotBelow_4 rfl ?_
  refine lv_lneg hx hb dX2_productNotBelow_7 ?_
  exact kp_retlR B rfl dX2_productNotBelow_8
def S_multiply (c : cw_C) (u : Nat) (t : Nat) : cw_C :=
  S_become c 8 (z_min (z_min (F_productNotAbove c ((c.2.2 u).1) ((c.2.2 t).1)) (F_productNotAbove c ((c.2.2 u).1) ((c.2.2 t).2))) (z_min (F_productNotAbove c ((c.2.2 u).2) ((c.2.2 t).1)) (F_productNotAbove c ((c.2.2 u).2) ((c.2.2 t).2)))) (z_max (z_max (F_productNotBelow c ((c.2.2 u).1) ((c.2.2 t).1)) (F_productNotBelow c ((c.2.2 u).1) ((c.2.2 t).2))) (z_max (F_productNotBelow c ((c.2.2 u).2) ((c.2.2 t).1)) (F_productNotBelow c ((c.2.2 u).2) ((c.2.2 t).2))))
def rm_multiply : Room := { frames := 3, cells := 0, slots := 0, locals := 69 }
set_option maxHeartbeats 4000000 in
set_option maxRecDepth 100000 in
theorem C_multiply (l : Launch) (D : va_G) (ty : List (ClassId × FieldType)) (sz : Nat) (G : cw_G) (Z : va_W) (hG : cw_ok ty sz G Z) (c : cw_C) (u : Nat) (hu : u < 10) (t : Nat) (ht : t < 10) : kp_M l yX2_multiply cX2_multiply 7 none rm_multiply D ty sz [.ref (aD G), .ref (aN G u), .ref (aN G t)] (cw_W G c Z) (none) (cw_W G (S_multiply c u t) Z) := by
  refine kp_body (by decide) (Nat.le_of_ble_eq_true rfl) rfl ?_
  intro p e s m args below meth cd ls B hin hl hP hS
  obtain ⟨hx, hb, hml, hown, hlk, hr, hw, hE, hK, hsz⟩ := id B
  have hl : lv_has ls 7 [(0, .ref (aD G)), (1, .ref (aN G u)), (2, .ref (aN G t))] := hl
  refine lv_aload_n hx hb dX2_multiply_0 rfl (lv_at hl 0 rfl) ?_
  refine lv_aload_n hx hb dX2_multiply_1 rfl (lv_at hl 1 rfl) ?_
  refine kc_getNX (j := 0) (k := u) (v := .long ((c.2.2 u).1)) B hP hu rfl (by decide) kw_87 dX2_multiply_2 ?_
  refine lv_aload_n hx hb dX2_multiply_5 rfl (lv_at hl 2 rfl) ?_
  refine kc_getNX (j := 0) (k := t) (v := .long ((c.2.2 t).1)) B hP ht rfl (by decide) kw_87 dX2_multiply_6 ?_
  refine kp_callVR (rm := rm_productNotAbove) (As := [.long ((c.2.2 u).1), .long ((c.2.2 t).1)]) (rest := []) (r := some (.long (F_productNotAbove c ((c.2.2 u).1) ((c.2.2 t).1)))) (st1 := [.long (F_productNotAbove c ((c.2.2 u).1) ((c.2.2 t).1))]) B (C_productNotAbove l D ty sz G Z hG c ((c.2.2 u).1) ((c.2.2 t).1)) kt_productNotAbove kw_84 kw_85 kw_86 (kc_rcD B hP) (by decide) ⟨rfl, rfl⟩ (by decide) rfl (Nat.le_of_ble_eq_true rfl) hl.1 hP hS dX2_multiply_9 rfl ?_
  refine lv_aload_n hx hb dX2_multiply_12 rfl (lv_at hl 0 rfl) ?_
  refine lv_aload_n hx hb dX2_multiply_13 rfl (lv_at hl 1 rfl) ?_
  refine kc_getNX (j := 0) (k := u) (v := .long ((c.2.2 u).1)) B hP hu rfl (by decide) kw_87 dX2_multiply_14 ?_
  refine lv_aload_n hx hb dX2_multiply_17 rfl (lv_at hl 2 rfl) ?_
  refine kc_getNX (j := 1) (k := t) (v := .long ((c.2.2 t).2)) B hP ht rfl (by decide) kw_88 dX2_multiply_18 ?_
  refine kp_callVR (rm := rm_productNotAbove) (As := [.long ((c.2.2 u).1), .long ((c.2.2 t).2)]) (rest := [.long (F_productNotAbove c ((c.2.2 u).1) ((c.2.2 t).1))]) (r := some (.long (F_productNotAbove c ((c.2.2 u).1) ((c.2.2 t).2)))) (st1 := [.long (F_productNotAbove c ((c.2.2 u).1) ((c.2.2 t).2)), .long (F_productNotAbove c ((c.2.2 u).1) ((c.2.2 t).1))]) B (C_productNotAbove l D ty sz G Z hG c ((c.2.2 u).1) ((c.2.2 t).2)) kt_productNotAbove kw_84 kw_85 kw_86 (kc_rcD B hP) (by decide) ⟨rfl, rfl⟩ (by decide) rfl (Nat.le_of_ble_eq_true rfl) hl.1 hP hS dX2_multiply_21 rfl ?_
  refine kp_min (x := F_productNotAbove c ((c.2.2 u).1) ((c.2.2 t).1)) (y := F_productNotAbove c ((c.2.2 u).1) ((c.2.2 t).2)) B hl.1 kw_89 kw_90 kw_91 kw_92 (by decide) (Nat.le_of_ble_eq_true rfl) (Nat.zero_le _) (Nat.zero_le _) dX2_multiply_24 ?_
  refine lv_aload_n hx hb dX2_multiply_27 rfl (lv_at hl 0 rfl) ?_
  refine lv_aload_n hx hb dX2_multiply_28 rfl (lv_at hl 1 rfl) ?_
  refine kc_getNX (j := 1) (k := u) (v := .long ((c.2.2 u).2)) B hP hu rfl (by decide) kw_88 dX2_multiply_29 ?_
  refine lv_aload_n hx hb dX2_multiply_32 rfl (lv_at hl 2 rfl) ?_
  refine kc_getNX (j := 0) (k := t) (v := .long ((c.2.2 t).1)) B hP ht rfl (by decide) kw_87 dX2_multiply_33 ?_
  refine kp_callVR (rm := rm_productNotAbove) (As := [.long ((c.2.2 u).2), .long ((c.2.2 t).1)]) (rest := [.long (z_min (F_productNotAbove c ((c.2.2 u).1) ((c.2.2 t).1)) (F_productNotAbove c ((c.2.2 u).1) ((c.2.2 t).2)))]) (r := some (.long (F_productNotAbove c ((c.2.2 u).2) ((c.2.2 t).1)))) (st1 := [.long (F_productNotAbove c ((c.2.2 u).2) ((c.2.2 t).1)), .long (z_min (F_productNotAbove c ((c.2.2 u).1) ((c.2.2 t).1)) (F_productNotAbove c ((c.2.2 u).1) ((c.2.2 t).2)))]) B (C_productNotAbove l D ty sz G Z hG c ((c.2.2 u).2) ((c.2.2 t).1)) kt_productNotAbove kw_84 kw_85 kw_86 (kc_rcD B hP) (by decide) ⟨rfl, rfl⟩ (by decide) rfl (Nat.le_of_ble_eq_true rfl) hl.1 hP hS dX2_multiply_36 rfl ?_
  refine lv_aload_n hx hb dX2_multiply_39 rfl (lv_at hl 0 rfl) ?_
  refine lv_aload_n hx hb dX2_multiply_40 rfl (lv_at hl 1 rfl) ?_
  refine kc_getNX (j := 1) (k := u) (v := .long ((c.2.2 u).2)) B hP hu rfl (by decide) kw_88 dX2_multiply_41 ?_
  refine lv_aload_n hx hb dX2_multiply_44 rfl (lv_at hl 2 rfl) ?_
  refine kc_getNX (j := 1) (k := t) (v := .long ((c.2.2 t).2)) B hP ht rfl (by decide) kw_88 dX2_multiply_45 ?_
  refine kp_callVR (rm := rm_productNotAbove) (As := [.long ((c.2.2 u).2), .long ((c.2.2 t).2)]) (rest := [.long (F_productNotAbove c ((c.2.2 u).2) ((c.2.2 t).1)), .long (z_min (F_productNotAbove c ((c.2.2 u).1) ((c.2.2 t).1)) (F_productNotAbove c ((c.2.2 u).1) ((c.2.2 t).2)))]) (r := some (.long (F_productNotAbove c ((c.2.2 u).2) ((c.2.2 t).2)))) (st1 := [.long (F_productNotAbove c ((c.2.2 u).2) ((c.2.2 t).2)), .long (F_productNotAbove c ((c.2.2 u).2) ((c.2.2 t).1)), .long (z_min (F_productNotAbove c ((c.2.2 u).1) ((c.2.2 t).1)) (F_productNotAbove c ((c.2.2 u).1) ((c.2.2 t).2)))]) B (C_productNotAbove l D ty sz G Z hG c ((c.2.2 u).2) ((c.2.2 t).2)) kt_productNotAbove kw_84 kw_85 kw_86 (kc_rcD B hP) (by decide) ⟨rfl, rfl⟩ (by decide) rfl (Nat.le_of_ble_eq_true rfl) hl.1 hP hS dX2_multiply_48 rfl ?_
  refine kp_min (x := F_productNotAbove c ((c.2.2 u).2) ((c.2.2 t).1)) (y := F_productNotAbove c ((c.2.2 u).2) ((c.2.2 t).2)) B hl.1 kw_89 kw_90 kw_91 kw_92 (by decide) (Nat.le_of_ble_eq_true rfl) (Nat.zero_le _) (Nat.zero_le _) dX2_multiply_51 ?_
  refine kp_min (x := z_min (F_productNotAbove c ((c.2.2 u).1) ((c.2.2 t).1)) (F_productNotAbove c ((c.2.2 u).1) ((c.2.2 t).2))) (y := z_min (F_productNotAbove c ((c.2.2 u).2) ((c.2.2 t).1)) (F_productNotAbove c ((c.2.2 u).2) ((c.2.2 t).2))) B hl.1 kw_89 kw_90 kw_91 kw_92 (by decide) (Nat.le_of_ble_eq_true rfl) (Nat.zero_le _) (Nat.zero_le _) dX2_multiply_54 ?_
  refine lv_lstore_n (lv' := [(3, .long (z_min (z_min (F_productNotAbove c ((c.2.2 u).1) ((c.2.2 t).1)) (F_productNotAbove c ((c.2.2 u).1) ((c.2.2 t).2))) (z_min (F_productNotAbove c ((c.2.2 u).2) ((c.2.2 t).1)) (F_productNotAbove c ((c.2.2 u).2) ((c.2.2 t).2))))), (0, .ref (aD G)), (1, .ref (aN G u)), (2, .ref (aN G t))]) hx hb dX2_multiply_57 rfl hl (by decide) rfl (fun ls hl => ?_)
  refine lv_aload_n hx hb dX2_multiply_58 rfl (lv_at hl 1 rfl) ?_
  refine lv_aload_n hx hb dX2_multiply_59 rfl (lv_at hl 2 rfl) ?_
  refine kc_getNX (j := 0) (k := u) (v := .long ((c.2.2 u).1)) B hP hu rfl (by decide) kw_87 dX2_multiply_60 ?_
  refine lv_aload_n hx hb dX2_multiply_63 rfl (lv_at hl 3 rfl) ?_
  refine kc_getNX (j := 0) (k := t) (v := .long ((c.2.2 t).1)) B hP ht rfl (by decide) kw_87 dX2_multiply_64 ?_
  refine kp_callVR (rm := rm_productNotBelow) (As := [.long ((c.2.2 u).1), .long ((c.2.2 t).1)]) (rest := []) (r := some (.long (F_productNotBelow c ((c.2.2 u).1) ((c.2.2 t).1)))) (st1 := [.long (F_productNotBelow c ((c.2.2 u).1) ((c.2.2 t).1))]) B (C_productNotBelow l D ty sz G Z hG c ((c.2.2 u).1) ((c.2.2 t).1)) kt_productNotBelow kw_95 kw_96 kw_97 (kc_rcD B hP) (by decide) ⟨rfl, rfl⟩ (by decide) rfl (Nat.le_of_ble_eq_true rfl) hl.1 hP hS dX2_multiply_67 rfl ?_
  refine lv_aload_n hx hb dX2_multiply_70 rfl (lv_at hl 1 rfl) ?_
  refine lv_aload_n hx hb dX2_multiply_71 rfl (lv_at hl 2 rfl) ?_
  refine kc_getNX (j := 0) (k := u) (v := .long ((c.2.2 u).1)) B hP hu rfl (by decide) kw_87 dX2_multiply_72 ?_
  refine lv_aload_n hx hb dX2_multiply_75 rfl (lv_at hl 3 rfl) ?_
  refine kc_getNX (j := 1) (k := t) (v := .long ((c.2.2 t).2)) B hP ht rfl (by decide) kw_88 dX2_multiply_76 ?_
  refine kp_callVR (rm := rm_productNotBelow) (As := [.long ((c.2.2 u).1), .long ((c.2.2 t).2)]) (rest := [.long (F_productNotBelow c ((c.2.2 u).1) ((c.2.2 t).1))]) (r := some (.long (F_productNotBelow c ((c.2.2 u).1) ((c.2.2 t).2)))) (st1 := [.long (F_productNotBelow c ((c.2.2 u).1) ((c.2.2 t).2)), .long (F_productNotBelow c ((c.2.2 u).1) ((c.2.2 t).1))]) B (C_productNotBelow l D ty sz G Z hG c ((c.2.2 u).1) ((c.2.2 t).2)) kt_productNotBelow kw_95 kw_96 kw_97 (kc_rcD B hP) (by decide) ⟨rfl, rfl⟩ (by decide) rfl (Nat.le_of_ble_eq_true rfl) hl.1 hP hS dX2_multiply_79 rfl ?_
  refine kp_max (x := F_productNotBelow c ((c.2.2 u).1) ((c.2.2 t).1)) (y := F_productNotBelow c ((c.2.2 u).1) ((c.2.2 t).2)) B hl.1 kw_98 kw_99 kw_91 kw_100 (by decide) (Nat.le_of_ble_eq_true rfl) (Nat.zero_le _) (Nat.zero_le _) dX2_multiply_82 ?_
  refine lv_aload_n hx hb dX2_multiply_85 rfl (lv_at hl 1 rfl) ?_
  refine lv_aload_n hx hb dX2_multiply_86 rfl (lv_at hl 2 rfl) ?_
  refine kc_getNX (j := 1) (k := u) (v := .long ((c.2.2 u).2)) B hP hu rfl (by decide) kw_88 dX2_multiply_87 ?_
  refine lv_aload_n hx hb dX2_multiply_90 rfl (lv_at hl 3 rfl) ?_
  refine kc_getNX (j := 0) (k := t) (v := .long ((c.2.2 t).1)) B hP ht rfl (by decide) kw_87 dX2_multiply_91 ?_
  refine kp_callVR (rm := rm_productNotBelow) (As := [.long ((c.2.2 u).2), .long ((c.2.2 t).1)]) (rest := [.long (z_max (F_productNotBelow c ((c.2.2 u).1) ((c.2.2 t).1)) (F_productNotBelow c ((c.2.2 u).1) ((c.2.2 t).2)))]) (r := some (.long (F_productNotBelow c ((c.2.2 u).2) ((c.2.2 t).1)))) (st1 := [.long (F_productNotBelow c ((c.2.2 u).2) ((c.2.2 t).1)), .long (z_max (F_productNotBelow c ((c.2.2 u).1) ((c.2.2 t).1)) (F_productNotBelow c ((c.2.2 u).1) ((c.2.2 t).2)))]) B (C_productNotBelow l D ty sz G Z hG c ((c.2.2 u).2) ((c.2.2 t).1)) kt_productNotBelow kw_95 kw_96 kw_97 (kc_rcD B hP) (by decide) ⟨rfl, rfl⟩ (by decide) rfl (Nat.le_of_ble_eq_true rfl) hl.1 hP hS dX2_multiply_94 rfl ?_
  refine lv_aload_n hx hb dX2_multiply_97 rfl (lv_at hl 1 rfl) ?_
  refine lv_aload_n hx hb dX2_multiply_98 rfl (lv_at hl 2 rfl) ?_
  refine kc_getNX (j := 1) (k := u) (v := .long ((c.2.2 u).2)) B hP hu rfl (by decide) kw_88 dX2_multiply_99 ?_
  refine lv_aload_n hx hb dX2_multiply_102 rfl (lv_at hl 3 rfl) ?_
  refine kc_getNX (j := 1) (k := t) (v := .long ((c.2.2 t).2)) B hP ht rfl (by decide) kw_88 dX2_multiply_103 ?_
  refine kp_callVR (rm := rm_productNotBelow) (As := [.long ((c.2.2 u).2), .long ((c.2.2 t).2)]) (rest := [.long (F_productNotBelow c ((c.2.2 u).2) ((c.2.2 t).1)), .long (z_max (F_productNotBelow c ((c.2.2 u).1) ((c.2.2 t).1)) (F_productNotBelow c ((c.2.2 u).1) ((c.2.2 t).2)))]) (r := some (.long (F_productNotBelow c ((c.2.2 u).2) ((c.2.2 t).2)))) (st1 := [.long (F_productNotBelow c ((c.2.2 u).2) ((c.2.2 t).2)), .long (F_productNotBelow c ((c.2.2 u).2) ((c.2.2 t).1)), .long (z_max (F_productNotBelow c ((c.2.2 u).1) ((c.2.2 t).1)) (F_productNotBelow c ((c.2.2 u).1) ((c.2.2 t).2)))]) B (C_productNotBelow l D ty sz G Z hG c ((c.2.2 u).2) ((c.2.2 t).2)) kt_productNotBelow kw_95 kw_96 kw_97 (kc_rcD B hP) (by decide) ⟨rfl, rfl⟩ (by decide) rfl (Nat.le_of_ble_eq_true rfl) hl.1 hP hS dX2_multiply_106 rfl ?_
  refine kp_max (x := F_productNotBelow c ((c.2.2 u).2) ((c.2.2 t).1)) (y := F_productNotBelow c ((c.2.2 u).2) ((c.2.2 t).2)) B hl.1 kw_98 kw_99 kw_91 kw_100 (by decide) (Nat.le_of_ble_eq_true rfl) (Nat.zero_le _) (Nat.zero_le _) dX2_multiply_109 ?_
  refine kp_max (x := z_max (F_productNotBelow c ((c.2.2 u).1) ((c.2.2 t).1)) (F_productNotBelow c ((c.2.2 u).1) ((c.2.2 t).2))) (y := z_max (F_productNotBelow c ((c.2.2 u).2) ((c.2.2 t).1)) (F_productNotBelow c ((c.2.2 u).2) ((c.2.2 t).2))) B hl.1 kw_98 kw_99 kw_91 kw_100 (by decide) (Nat.le_of_ble_eq_true rfl) (Nat.zero_le _) (Nat.zero_le _) dX2_multiply_112 ?_
  refine lv_lstore (lv' := [(5, .long (z_max (z_max (F_productNotBelow c ((c.2.2 u).1) ((c.2.2 t).1)) (F_productNotBelow c ((c.2.2 u).1) ((c.2.2 t).2))) (z_max (F_productNotBelow c ((c.2.2 u).2) ((c.2.2 t).1)) (F_productNotBelow c ((c.2.2 u).2) ((c.2.2 t).2))))), (3, .long (z_min (z_min (F_productNotAbove c ((c.2.2 u).1) ((c.2.2 t).1)) (F_productNotAbove c ((c.2.2 u).1) ((c.2.2 t).2))) (z_min (F_productNotAbove c ((c.2.2 u).2) ((c.2.2 t).1)) (F_productNotAbove c ((c.2.2 u).2) ((c.2.2 t).2))))), (0, .ref (aD G)), (1, .ref (aN G u)), (2, .ref (aN G t))]) hx hb dX2_multiply_115 hl (by decide) rfl (fun ls hl => ?_)
  refine lv_aload_n hx hb dX2_multiply_117 rfl (lv_at hl 2 rfl) ?_
  refine kc_getD (j := 2) (v := .ref (aN G 8)) B hP rfl (by decide) kw_101 dX2_multiply_118 ?_
  refine lv_lload_n hx hb dX2_multiply_121 rfl (lv_at hl 1 rfl) ?_
  refine lv_lload hx hb dX2_multiply_122 (lv_at hl 0 rfl) ?_
  refine kp_callN (rm := rm_become) (As := [.long (z_min (z_min (F_productNotAbove c ((c.2.2 u).1) ((c.2.2 t).1)) (F_productNotAbove c ((c.2.2 u).1) ((c.2.2 t).2))) (z_min (F_productNotAbove c ((c.2.2 u).2) ((c.2.2 t).1)) (F_productNotAbove c ((c.2.2 u).2) ((c.2.2 t).2)))), .long (z_max (z_max (F_productNotBelow c ((c.2.2 u).1) ((c.2.2 t).1)) (F_productNotBelow c ((c.2.2 u).1) ((c.2.2 t).2))) (z_max (F_productNotBelow c ((c.2.2 u).2) ((c.2.2 t).1)) (F_productNotBelow c ((c.2.2 u).2) ((c.2.2 t).2))))]) (rest := []) (r := none) (st1 := []) (ws' := cw_W G (S_become c 8 (z_min (z_min (F_productNotAbove c ((c.2.2 u).1) ((c.2.2 t).1)) (F_productNotAbove c ((c.2.2 u).1) ((c.2.2 t).2))) (z_min (F_productNotAbove c ((c.2.2 u).2) ((c.2.2 t).1)) (F_productNotAbove c ((c.2.2 u).2) ((c.2.2 t).2)))) (z_max (z_max (F_productNotBelow c ((c.2.2 u).1) ((c.2.2 t).1)) (F_productNotBelow c ((c.2.2 u).1) ((c.2.2 t).2))) (z_max (F_productNotBelow c ((c.2.2 u).2) ((c.2.2 t).1)) (F_productNotBelow c ((c.2.2 u).2) ((c.2.2 t).2))))) Z) B (C_become l D ty sz G Z hG c 8 (by decide) (z_min (z_min (F_productNotAbove c ((c.2.2 u).1) ((c.2.2 t).1)) (F_productNotAbove c ((c.2.2 u).1) ((c.2.2 t).2))) (z_min (F_productNotAbove c ((c.2.2 u).2) ((c.2.2 t).1)) (F_productNotAbove c ((c.2.2 u).2) ((c.2.2 t).2)))) (z_max (z_max (F_productNotBelow c ((c.2.2 u).1) ((c.2.2 t).1)) (F_productNotBelow c ((c.2.2 u).1) ((c.2.2 t).2))) (z_max (F_productNotBelow c ((c.2.2 u).2) ((c.2.2 t).1)) (F_productNotBelow c ((c.2.2 u).2) ((c.2.2 t).2))))) kt_become kw_104 kw_105 kw_106 (kc_rcN B hP (by decide)) (by decide) rfl rfl (by decide) rfl (Nat.le_of_ble_eq_true rfl) hl.1 hP hS dX2_multiply_124 rfl (fun H locs hP hS => ?_)
  exact kp_retv B hP hS rfl dX2_multiply_127
def S_meet (c : cw_C) (u : Nat) (t : Nat) : cw_C :=
  if (z_max ((c.2.2 u).1) ((c.2.2 t).1)) ≤ (z_min ((c.2.2 u).2) ((c.2.2 t).2)) then S_become c 8 (z_max ((c.2.2 u).1) ((c.2.2 t).1)) (z_min ((c.2.2 u).2) ((c.2.2 t).2)) else S_becomeEmpty c 8
def rm_meet : Room := { frames := 1, cells := 0, slots := 0, locals := 40 }
set_option maxHeartbeats 4000000 in
set_option maxRecDepth 100000 in
theorem C_meet (l : Launch) (D : va_G) (ty : List (ClassId × FieldType)) (sz : Nat) (G : cw_G) (Z : va_W) (hG : cw_ok ty sz G Z) (c : cw_C) (u : Nat) (hu : u < 10) (t : Nat) (ht : t < 10) : kp_M l yX2_meet cX2_meet 7 none rm_meet D ty sz [.ref (aD G), .ref (aN G u), .ref (aN G t)] (cw_W G c Z) (none) (cw_W G (S_meet c u t) Z) := by
  refine kp_body (by decide) (Nat.le_of_ble_eq_true rfl) rfl ?_
  intro p e s m args below meth cd ls B hin hl hP hS
  obtain ⟨hx, hb, hml, hown, hlk, hr, hw, hE, hK, hsz⟩ := id B
  have hl : lv_has ls 7 [(0, .ref (aD G)), (1, .ref (aN G u)), (2, .ref (aN G t))] := hl
  refine lv_aload_n hx hb dX2_meet_0 rfl (lv_at hl 1 rfl) ?_
  refine kc_getNX (j := 0) (k := u) (v := .long ((c.2.2 u).1)) B hP hu rfl (by decide) kw_87 dX2_meet_1 ?_
  refine lv_aload_n hx hb dX2_meet_4 rfl (lv_at hl 2 rfl) ?_
  refine kc_getNX (j := 0) (k := t) (v := .long ((c.2.2 t).1)) B hP ht rfl (by decide) kw_87 dX2_meet_5 ?_
  refine kp_max (x := (c.2.2 u).1) (y := (c.2.2 t).1) B hl.1 kw_98 kw_99 kw_91 kw_100 (by decide) (Nat.le_of_ble_eq_true rfl) (Nat.zero_le _) (Nat.zero_le _) dX2_meet_8 ?_
  refine lv_lstore_n (lv' := [(3, .long (z_max ((c.2.2 u).1) ((c.2.2 t).1))), (0, .ref (aD G)), (1, .ref (aN G u)), (2, .ref (aN G t))]) hx hb dX2_meet_11 rfl hl (by decide) rfl (fun ls hl => ?_)
  refine lv_aload_n hx hb dX2_meet_12 rfl (lv_at hl 2 rfl) ?_
  refine kc_getNX (j := 1) (k := u) (v := .long ((c.2.2 u).2)) B hP hu rfl (by decide) kw_88 dX2_meet_13 ?_
  refine lv_aload_n hx hb dX2_meet_16 rfl (lv_at hl 3 rfl) ?_
  refine kc_getNX (j := 1) (k := t) (v := .long ((c.2.2 t).2)) B hP ht rfl (by decide) kw_88 dX2_meet_17 ?_
  refine kp_min (x := (c.2.2 u).2) (y := (c.2.2 t).2) B hl.1 kw_89 kw_90 kw_91 kw_92 (by decide) (Nat.le_of_ble_eq_true rfl) (Nat.zero_le _) (Nat.zero_le _) dX2_meet_20 ?_
  refine lv_lstore (lv' := [(5, .long (z_min ((c.2.2 u).2) ((c.2.2 t).2))), (3, .long (z_max ((c.2.2 u).1) ((c.2.2 t).1))), (0, .ref (aD G)), (1, .ref (aN G u)), (2, .ref (aN G t))]) hx hb dX2_meet_23 hl (by decide) rfl (fun ls hl => ?_)
  refine lv_lload_n hx hb dX2_meet_25 rfl (lv_at hl 1 rfl) ?_
  refine lv_lload hx hb dX2_meet_26 (lv_at hl 0 rfl) ?_
  refine kp_lle (tgt := 42) hx hb dX2_meet_28 dX2_meet_29 (by decide) (fun q_1 => ?_) (fun q_1 => ?_)
  · refine lv_aload_n hx hb dX2_meet_42 rfl (lv_at hl 2 rfl) ?_
    refine kc_getD (j := 2) (v := .ref (aN G 8)) B hP rfl (by decide) kw_101 dX2_meet_43 ?_
    refine lv_lload_n hx hb dX2_meet_46 rfl (lv_at hl 1 rfl) ?_
    refine lv_lload hx hb dX2_meet_47 (lv_at hl 0 rfl) ?_
    refine kp_callN (rm := rm_become) (As := [.long (z_max ((c.2.2 u).1) ((c.2.2 t).1)), .long (z_min ((c.2.2 u).2) ((c.2.2 t).2))]) (rest := []) (r := none) (st1 := []) (ws' := cw_W G (S_become c 8 (z_max ((c.2.2 u).1) ((c.2.2 t).1)) (z_min ((c.2.2 u).2) ((c.2.2 t).2))) Z) B (C_become l D ty sz G Z hG c 8 (by decide) (z_max ((c.2.2 u).1) ((c.2.2 t).1)) (z_min ((c.2.2 u).2) ((c.2.2 t).2))) kt_become kw_104 kw_105 kw_106 (kc_rcN B hP (by decide)) (by decide) rfl rfl (by decide) rfl (Nat.le_of_ble_eq_true rfl) hl.1 hP hS dX2_meet_49 rfl (fun H locs hP hS => ?_)
    exact kp_retv B (by simp only [S_meet, if_pos q_1]; exact hP) hS rfl dX2_meet_52
  · refine lv_aload_n hx hb dX2_meet_32 rfl (lv_at hl 2 rfl) ?_
    refine kc_getD (j := 2) (v := .ref (aN G 8)) B hP rfl (by decide) kw_101 dX2_meet_33 ?_
    refine kp_callN (rm := rm_becomeEmpty) (As := []) (rest := []) (r := none) (st1 := []) (ws' := cw_W G (S_becomeEmpty c 8) Z) B (C_becomeEmpty l D ty sz G Z hG c 8 (by decide)) kt_becomeEmpty kw_109 kw_110 kw_111 (kc_rcN B hP (by decide)) (by decide) rfl rfl (by decide) rfl (Nat.le_of_ble_eq_true rfl) hl.1 hP hS dX2_meet_36 rfl (fun H locs hP hS => ?_)
    refine lv_goto (tgt := 52) hx hb dX2_meet_39 (by decide) ?_
    exact kp_retv B (by simp only [S_meet, if_neg q_1]; exact hP) hS rfl dX2_meet_52
def S_join (c : cw_C) (u : Nat) (t : Nat) : cw_C :=
  if (F_isEmpty c u) = (0 : Int32) then (if (F_isEmpty c t) = (0 : Int32) then S_become c 8 (z_min ((c.2.2 u).1) ((c.2.2 t).1)) (z_max ((c.2.2 u).2) ((c.2.2 t).2)) else S_become c 8 ((c.2.2 u).1) ((c.2.2 u).2)) else S_become c 8 ((c.2.2 t).1) ((c.2.2 t).2)
def rm_join : Room := { frames := 1, cells := 0, slots := 0, locals := 40 }
set_option maxHeartbeats 4000000 in
set_option maxRecDepth 100000 in
theorem C_join (l : Launch) (D : va_G) (ty : List (ClassId × FieldType)) (sz : Nat) (G : cw_G) (Z : va_W) (hG : cw_ok ty sz G Z) (c : cw_C) (u : Nat) (hu : u < 10) (t : Nat) (ht : t < 10) : kp_M l yX2_join cX2_join 3 none rm_join D ty sz [.ref (aD G), .ref (aN G u), .ref (aN G t)] (cw_W G c Z) (none) (cw_W G (S_join c u t) Z) := by
  refine kp_body (by decide) (Nat.le_of_ble_eq_true rfl) rfl ?_
  intro p e s m args below meth cd ls B hin hl hP hS
  obtain ⟨hx, hb, hml, hown, hlk, hr, hw, hE, hK, hsz⟩ := id B
  have hl : lv_has ls 3 [(0, .ref (aD G)), (1, .ref (aN G u)), (2, .ref (aN G t))] := hl
  refine lv_aload_n hx hb dX2_join_0 rfl (lv_at hl 1 rfl) ?_
  refine kp_callNR (rm := rm_isEmpty) (As := []) (rest := []) (r := some (.int (F_isEmpty c u))) (st1 := [.int (F_isEmpty c u)]) B (C_isEmpty l D ty sz G Z hG c u hu) kt_isEmpty kw_75 kw_8 kw_9 (kc_rcN B hP hu) (by decide) ⟨rfl, rfl⟩ (by decide) rfl (Nat.le_of_ble_eq_true rfl) hl.1 hP hS dX2_join_1 rfl ?_
  refine lv_if_eq (tgt := 25) hx hb dX2_join_4 (by decide) (fun q_1 => ?_) (fun q_1 => ?_)
  · refine lv_aload_n hx hb dX2_join_25 rfl (lv_at hl 2 rfl) ?_
    refine kp_callNR (rm := rm_isEmpty) (As := []) (rest := []) (r := some (.int (F_isEmpty c t))) (st1 := [.int (F_isEmpty c t)]) B (C_isEmpty l D ty sz G Z hG c t ht) kt_isEmpty kw_75 kw_8 kw_9 (kc_rcN B hP ht) (by decide) ⟨rfl, rfl⟩ (by decide) rfl (Nat.le_of_ble_eq_true rfl) hl.1 hP hS dX2_join_26 rfl ?_
    refine lv_if_eq (tgt := 50) hx hb dX2_join_29 (by decide) (fun q_2 => ?_) (fun q_2 => ?_)
    · refine lv_aload_n hx hb dX2_join_50 rfl (lv_at hl 0 rfl) ?_
      refine kc_getD (j := 2) (v := .ref (aN G 8)) B hP rfl (by decide) kw_101 dX2_join_51 ?_
      refine lv_aload_n hx hb dX2_join_54 rfl (lv_at hl 1 rfl) ?_
      refine kc_getNX (j := 0) (k := u) (v := .long ((c.2.2 u).1)) B hP hu rfl (by decide) kw_87 dX2_join_55 ?_
      refine lv_aload_n hx hb dX2_join_58 rfl (lv_at hl 2 rfl) ?_
      refine kc_getNX (j := 0) (k := t) (v := .long ((c.2.2 t).1)) B hP ht rfl (by decide) kw_87 dX2_join_59 ?_
      refine kp_min (x := (c.2.2 u).1) (y := (c.2.2 t).1) B hl.1 kw_89 kw_90 kw_91 kw_92 (by decide) (Nat.le_of_ble_eq_true rfl) (Nat.zero_le _) (Nat.zero_le _) dX2_join_62 ?_
      refine lv_aload_n hx hb dX2_join_65 rfl (lv_at hl 1 rfl) ?_
      refine kc_getNX (j := 1) (k := u) (v := .long ((c.2.2 u).2)) B hP hu rfl (by decide) kw_88 dX2_join_66 ?_
      refine lv_aload_n hx hb dX2_join_69 rfl (lv_at hl 2 rfl) ?_
      refine kc_getNX (j := 1) (k := t) (v := .long ((c.2.2 t).2)) B hP ht rfl (by decide) kw_88 dX2_join_70 ?_
      refine kp_max (x := (c.2.2 u).2) (y := (c.2.2 t).2) B hl.1 kw_98 kw_99 kw_91 kw_100 (by decide) (Nat.le_of_ble_eq_true rfl) (Nat.zero_le _) (Nat.zero_le _) dX2_join_73 ?_
      refine kp_callN (rm := rm_become) (As := [.long (z_min ((c.2.2 u).1) ((c.2.2 t).1)), .long (z_max ((c.2.2 u).2) ((c.2.2 t).2))]) (rest := []) (r := none) (st1 := []) (ws' := cw_W G (S_become c 8 (z_min ((c.2.2 u).1) ((c.2.2 t).1)) (z_max ((c.2.2 u).2) ((c.2.2 t).2))) Z) B (C_become l D ty sz G Z hG c 8 (by decide) (z_min ((c.2.2 u).1) ((c.2.2 t).1)) (z_max ((c.2.2 u).2) ((c.2.2 t).2))) kt_become kw_104 kw_105 kw_106 (kc_rcN B hP (by decide)) (by decide) rfl rfl (by decide) rfl (Nat.le_of_ble_eq_true rfl) hl.1 hP hS dX2_join_76 rfl (fun H locs hP hS => ?_)
      exact kp_retv B (by simp only [S_join, if_pos q_1, if_pos q_2]; exact hP) hS rfl dX2_join_79
    · refine lv_aload_n hx hb dX2_join_32 rfl (lv_at hl 0 rfl) ?_
      refine kc_getD (j := 2) (v := .ref (aN G 8)) B hP rfl (by decide) kw_101 dX2_join_33 ?_
      refine lv_aload_n hx hb dX2_join_36 rfl (lv_at hl 1 rfl) ?_
      refine kc_getNX (j := 0) (k := u) (v := .long ((c.2.2 u).1)) B hP hu rfl (by decide) kw_87 dX2_join_37 ?_
      refine lv_aload_n hx hb dX2_join_40 rfl (lv_at hl 1 rfl) ?_
      refine kc_getNX (j := 1) (k := u) (v := .long ((c.2.2 u).2)) B hP hu rfl (by decide) kw_88 dX2_join_41 ?_
      refine kp_callN (rm := rm_become) (As := [.long ((c.2.2 u).1), .long ((c.2.2 u).2)]) (rest := []) (r := none) (st1 := []) (ws' := cw_W G (S_become c 8 ((c.2.2 u).1) ((c.2.2 u).2)) Z) B (C_become l D ty sz G Z hG c 8 (by decide) ((c.2.2 u).1) ((c.2.2 u).2)) kt_become kw_104 kw_105 kw_106 (kc_rcN B hP (by decide)) (by decide) rfl rfl (by decide) rfl (Nat.le_of_ble_eq_true rfl) hl.1 hP hS dX2_join_44 rfl (fun H locs hP hS => ?_)
      refine lv_goto (tgt := 79) hx hb dX2_join_47 (by decide) ?_
      exact kp_retv B (by simp only [S_join, if_pos q_1, if_neg q_2]; exact hP) hS rfl dX2_join_79
  · refine lv_aload_n hx hb dX2_join_7 rfl (lv_at hl 0 rfl) ?_
    refine kc_getD (j := 2) (v := .ref (aN G 8)) B hP rfl (by decide) kw_101 dX2_join_8 ?_
    refine lv_aload_n hx hb dX2_join_11 rfl (lv_at hl 2 rfl) ?_
    refine kc_getNX (j := 0) (k := t) (v := .long ((c.2.2 t).1)) B hP ht rfl (by decide) kw_87 dX2_join_12 ?_
    refine lv_aload_n hx hb dX2_join_15 rfl (lv_at hl 2 rfl) ?_
    refine kc_getNX (j := 1) (k := t) (v := .long ((c.2.2 t).2)) B hP ht rfl (by decide) kw_88 dX2_join_16 ?_
    refine kp_callN (rm := rm_become) (As := [.long ((c.2.2 t).1), .long ((c.2.2 t).2)]) (rest := []) (r := none) (st1 := []) (ws' := cw_W G (S_become c 8 ((c.2.2 t).1) ((c.2.2 t).2)) Z) B (C_become l D ty sz G Z hG c 8 (by decide) ((c.2.2 t).1) ((c.2.2 t).2)) kt_become kw_104 kw_105 kw_106 (kc_rcN B hP (by decide)) (by decide) rfl rfl (by decide) rfl (Nat.le_of_ble_eq_true rfl) hl.1 hP hS dX2_join_19 rfl (fun H locs hP hS => ?_)
    refine lv_goto (tgt := 79) hx hb dX2_join_22 (by decide) ?_
    exact kp_retv B (by simp only [S_join, if_neg q_1]; exact hP) hS rfl dX2_join_79
def S_takeSize (c : cw_C) (u : Nat) : cw_C :=
  if ((c.2.2 u).1) < (0 : Int64) then (if (0 : Int64) < ((c.2.2 u).2) then S_become c 8 (0 : Int64) (z_max (-((c.2.2 u).1)) ((c.2.2 u).2)) else S_become c 8 (-((c.2.2 u).2)) (-((c.2.2 u).1))) else S_become c 8 ((c.2.2 u).1) ((c.2.2 u).2)
def rm_takeSize : Room := { frames := 1, cells := 0, slots := 0, locals := 40 }
set_option maxHeartbeats 4000000 in
set_option maxRecDepth 100000 in
theorem C_takeSize (l : Launch) (D : va_G) (ty : List (ClassId × FieldType)) (sz : Nat) (G : cw_G) (Z : va_W) (hG : cw_ok ty sz G Z) (c : cw_C) (u : Nat) (hu : u < 10) : kp_M l yX2_takeSize cX2_takeSize 2 none rm_takeSize D ty sz [.ref (aD G), .ref (aN G u)] (cw_W G c Z) (none) (cw_W G (S_takeSize c u) Z) := by
  refine kp_body (by decide) (Nat.le_of_ble_eq_true rfl) rfl ?_
  intro p e s m args below meth cd ls B hin hl hP hS
  obtain ⟨hx, hb, hml, hown, hlk, hr, hw, hE, hK, hsz⟩ := id B
  have hl : lv_has ls 2 [(0, .ref (aD G)), (1, .ref (aN G u))] := hl
  refine lv_aload_n hx hb dX2_takeSize_0 rfl (lv_at hl 1 rfl) ?_
  refine kc_getNX (j := 0) (k := u) (v := .long ((c.2.2 u).1)) B hP hu rfl (by decide) kw_87 dX2_takeSize_1 ?_
  refine lv_lconst (v := (0 : Int64)) hx hb dX2_takeSize_4 (by decide) ?_
  refine kp_llt (tgt := 27) hx hb dX2_takeSize_5 dX2_takeSize_6 (by decide) (fun q_1 => ?_) (fun q_1 => ?_)
  · refine lv_aload_n hx hb dX2_takeSize_27 rfl (lv_at hl 1 rfl) ?_
    refine kc_getNX (j := 1) (k := u) (v := .long ((c.2.2 u).2)) B hP hu rfl (by decide) kw_88 dX2_takeSize_28 ?_
    refine lv_lconst (v := (0 : Int64)) hx hb dX2_takeSize_31 (by decide) ?_
    refine kp_lgt (tgt := 56) hx hb dX2_takeSize_32 dX2_takeSize_33 (by decide) (fun q_2 => ?_) (fun q_2 => ?_)
    · refine lv_aload_n hx hb dX2_takeSize_56 rfl (lv_at hl 0 rfl) ?_
      refine kc_getD (j := 2) (v := .ref (aN G 8)) B hP rfl (by decide) kw_101 dX2_takeSize_57 ?_
      refine lv_lconst (v := (0 : Int64)) hx hb dX2_takeSize_60 (by decide) ?_
      refine lv_aload_n hx hb dX2_takeSize_61 rfl (lv_at hl 1 rfl) ?_
      refine kc_getNX (j := 0) (k := u) (v := .long ((c.2.2 u).1)) B hP hu rfl (by decide) kw_87 dX2_takeSize_62 ?_
      refine lv_lneg hx hb dX2_takeSize_65 ?_
      refine lv_aload_n hx hb dX2_takeSize_66 rfl (lv_at hl 1 rfl) ?_
      refine kc_getNX (j := 1) (k := u) (v := .long ((c.2.2 u).2)) B hP hu rfl (by decide) kw_88 dX2_takeSize_67 ?_
      refine kp_max (x := -((c.2.2 u).1)) (y := (c.2.2 u).2) B hl.1 kw_98 kw_99 kw_91 kw_100 (by decide) (Nat.le_of_ble_eq_true rfl) (Nat.zero_le _) (Nat.zero_le _) dX2_takeSize_70 ?_
      refine kp_callN (rm := rm_become) (As := [.long (0 : Int64), .long (z_max (-((c.2.2 u).1)) ((c.2.2 u).2))]) (rest := []) (r := none) (st1 := []) (ws' := cw_W G (S_become c 8 (0 : Int64) (z_max (-((c.2.2 u).1)) ((c.2.2 u).2))) Z) B (C_become l D ty sz G Z hG c 8 (by decide) (0 : Int64) (z_max (-((c.2.2 u).1)) ((c.2.2 u).2))) kt_become kw_104 kw_105 kw_106 (kc_rcN B hP (by decide)) (by decide) rfl rfl (by decide) rfl (Nat.le_of_ble_eq_true rfl) hl.1 hP hS dX2_takeSize_73 rfl (fun H locs hP hS => ?_)
      exact kp_retv B (by simp only [S_takeSize, if_pos q_1, if_pos q_2]; exact hP) hS rfl dX2_takeSize_76
    · refine lv_aload_n hx hb dX2_takeSize_36 rfl (lv_at hl 0 rfl) ?_
      refine kc_getD (j := 2) (v := .ref (aN G 8)) B hP rfl (by decide) kw_101 dX2_takeSize_37 ?_
      refine lv_aload_n hx hb dX2_takeSize_40 rfl (lv_at hl 1 rfl) ?_
      refine kc_getNX (j := 1) (k := u) (v := .long ((c.2.2 u).2)) B hP hu rfl (by decide) kw_88 dX2_takeSize_41 ?_
      refine lv_lneg hx hb dX2_takeSize_44 ?_
      refine lv_aload_n hx hb dX2_takeSize_45 rfl (lv_at hl 1 rfl) ?_
      refine kc_getNX (j := 0) (k := u) (v := .long ((c.2.2 u).1)) B hP hu rfl (by decide) kw_87 dX2_takeSize_46 ?_
      refine lv_lneg hx hb dX2_takeSize_49 ?_
      refine kp_callN (rm := rm_become) (As := [.long (-((c.2.2 u).2)), .long (-((c.2.2 u).1))]) (rest := []) (r := none) (st1 := []) (ws' := cw_W G (S_become c 8 (-((c.2.2 u).2)) (-((c.2.2 u).1))) Z) B (C_become l D ty sz G Z hG c 8 (by decide) (-((c.2.2 u).2)) (-((c.2.2 u).1))) kt_become kw_104 kw_105 kw_106 (kc_rcN B hP (by decide)) (by decide) rfl rfl (by decide) rfl (Nat.le_of_ble_eq_true rfl) hl.1 hP hS dX2_takeSize_50 rfl (fun H locs hP hS => ?_)
      refine lv_goto (tgt := 76) hx hb dX2_takeSize_53 (by decide) ?_
      exact kp_retv B (by simp only [S_takeSize, if_pos q_1, if_neg q_2]; exact hP) hS rfl dX2_takeSize_76
  · refine lv_aload_n hx hb dX2_takeSize_9 rfl (lv_at hl 0 rfl) ?_
    refine kc_getD (j := 2) (v := .ref (aN G 8)) B hP rfl (by decide) kw_101 dX2_takeSize_10 ?_
    refine lv_aload_n hx hb dX2_takeSize_13 rfl (lv_at hl 1 rfl) ?_
    refine kc_getNX (j := 0) (k := u) (v := .long ((c.2.2 u).1)) B hP hu rfl (by decide) kw_87 dX2_takeSize_14 ?_
    refine lv_aload_n hx hb dX2_takeSize_17 rfl (lv_at hl 1 rfl) ?_
    refine kc_getNX (j := 1) (k := u) (v := .long ((c.2.2 u).2)) B hP hu rfl (by decide) kw_88 dX2_takeSize_18 ?_
    refine kp_callN (rm := rm_become) (As := [.long ((c.2.2 u).1), .long ((c.2.2 u).2)]) (rest := []) (r := none) (st1 := []) (ws' := cw_W G (S_become c 8 ((c.2.2 u).1) ((c.2.2 u).2)) Z) B (C_become l D ty sz G Z hG c 8 (by decide) ((c.2.2 u).1) ((c.2.2 u).2)) kt_become kw_104 kw_105 kw_106 (kc_rcN B hP (by decide)) (by decide) rfl rfl (by decide) rfl (Nat.le_of_ble_eq_true rfl) hl.1 hP hS dX2_takeSize_21 rfl (fun H locs hP hS => ?_)
    refine lv_goto (tgt := 76) hx hb dX2_takeSize_24 (by decide) ?_
    exact kp_retv B (by simp only [S_takeSize, if_neg q_1]; exact hP) hS rfl dX2_takeSize_76
def S_add (c : cw_C) (u : Nat) (t : Nat) : cw_C :=
  if (F_isEmpty c u) = (0 : Int32) then (if (F_isEmpty c t) = (0 : Int32) then S_become c u (F_plus ((c.2.2 u).1) ((c.2.2 t).1)) (F_plus ((c.2.2 u).2) ((c.2.2 t).2)) else S_becomeEmpty c u) else S_becomeEmpty c u
def rm_add : Room := { frames := 2, cells := 0, slots := 0, locals := 44 }
set_option maxHeartbeats 4000000 in
set_option maxRecDepth 100000 in
theorem C_add (l : Launch) (D : va_G) (ty : List (ClassId × FieldType)) (sz : Nat) (G : cw_G) (Z : va_W) (hG : cw_ok ty sz G Z) (c : cw_C) (u : Nat) (hu : u < 10) (t : Nat) (ht : t < 10) : kp_M l yX2_add cX2_add 2 none rm_add D ty sz [.ref (aN G u), .ref (aN G t)] (cw_W G c Z) (none) (cw_W G (S_add c u t) Z) := by
  refine kp_body (by decide) (Nat.le_of_ble_eq_true rfl) rfl ?_
  intro p e s m args below meth cd ls B hin hl hP hS
  obtain ⟨hx, hb, hml, hown, hlk, hr, hw, hE, hK, hsz⟩ := id B
  have hl : lv_has ls 2 [(0, .ref (aN G u)), (1, .ref (aN G t))] := hl
  refine lv_aload_n hx hb dX2_add_0 rfl (lv_at hl 0 rfl) ?_
  refine kp_callNR (rm := rm_isEmpty) (As := []) (rest := []) (r := some (.int (F_isEmpty c u))) (st1 := [.int (F_isEmpty c u)]) B (C_isEmpty l D ty sz G Z hG c u hu) kt_isEmpty kw_75 kw_8 kw_9 (kc_rcN B hP hu) (by decide) ⟨rfl, rfl⟩ (by decide) rfl (Nat.le_of_ble_eq_true rfl) hl.1 hP hS dX2_add_1 rfl ?_
  refine lv_if_ne (tgt := 14) hx hb dX2_add_4 (by decide) (fun q_1 => ?_) (fun q_1 => ?_)
  · refine lv_aload_n hx hb dX2_add_14 rfl (lv_at hl 0 rfl) ?_
    refine kp_callN (rm := rm_becomeEmpty) (As := []) (rest := []) (r := none) (st1 := []) (ws' := cw_W G (S_becomeEmpty c u) Z) B (C_becomeEmpty l D ty sz G Z hG c u hu) kt_becomeEmpty kw_109 kw_110 kw_111 (kc_rcN B hP hu) (by decide) rfl rfl (by decide) rfl (Nat.le_of_ble_eq_true rfl) hl.1 hP hS dX2_add_15 rfl (fun H locs hP hS => ?_)
    refine lv_goto (tgt := 47) hx hb dX2_add_18 (by decide) ?_
    exact kp_retv B (by simp only [S_add, if_neg q_1]; exact hP) hS rfl dX2_add_47
  · refine lv_aload_n hx hb dX2_add_7 rfl (lv_at hl 1 rfl) ?_
    refine kp_callNR (rm := rm_isEmpty) (As := []) (rest := []) (r := some (.int (F_isEmpty c t))) (st1 := [.int (F_isEmpty c t)]) B (C_isEmpty l D ty sz G Z hG c t ht) kt_isEmpty kw_75 kw_8 kw_9 (kc_rcN B hP ht) (by decide) ⟨rfl, rfl⟩ (by decide) rfl (Nat.le_of_ble_eq_true rfl) hl.1 hP hS dX2_add_8 rfl ?_
    refine lv_if_eq (tgt := 21) hx hb dX2_add_11 (by decide) (fun q_2 => ?_) (fun q_2 => ?_)
    · refine lv_aload_n hx hb dX2_add_21 rfl (lv_at hl 0 rfl) ?_
      refine lv_aload_n hx hb dX2_add_22 rfl (lv_at hl 0 rfl) ?_
      refine kc_getNX (j := 0) (k := u) (v := .long ((c.2.2 u).1)) B hP hu rfl (by decide) kw_87 dX2_add_23 ?_
      refine lv_aload_n hx hb dX2_add_26 rfl (lv_at hl 1 rfl) ?_
      refine kc_getNX (j := 0) (k := t) (v := .long ((c.2.2 t).1)) B hP ht rfl (by decide) kw_87 dX2_add_27 ?_
      refine kp_callSR (rm := rm_plus) (As := [.long ((c.2.2 u).1), .long ((c.2.2 t).1)]) (rest := [.ref (aN G u)]) (r := some (.long (F_plus ((c.2.2 u).1) ((c.2.2 t).1)))) (st1 := [.long (F_plus ((c.2.2 u).1) ((c.2.2 t).1)), .ref (aN G u)]) B (C_plus l D ty sz G Z hG c ((c.2.2 u).1) ((c.2.2 t).1)) kt_plus kw_114 kw_115 (by decide) ⟨rfl, rfl⟩ (by decide) rfl (Nat.le_of_ble_eq_true rfl) hl.1 hP hS dX2_add_30 rfl ?_
      refine lv_aload_n hx hb dX2_add_33 rfl (lv_at hl 0 rfl) ?_
      refine kc_getNX (j := 1) (k := u) (v := .long ((c.2.2 u).2)) B hP hu rfl (by decide) kw_88 dX2_add_34 ?_
      refine lv_aload_n hx hb dX2_add_37 rfl (lv_at hl 1 rfl) ?_
      refine kc_getNX (j := 1) (k := t) (v := .long ((c.2.2 t).2)) B hP ht rfl (by decide) kw_88 dX2_add_38 ?_
      refine kp_callSR (rm := rm_plus) (As := [.long ((c.2.2 u).2), .long ((c.2.2 t).2)]) (rest := [.long (F_plus ((c.2.2 u).1) ((c.2.2 t).1)), .ref (aN G u)]) (r := some (.long (F_plus ((c.2.2 u).2) ((c.2.2 t).2)))) (st1 := [.long (F_plus ((c.2.2 u).2) ((c.2.2 t).2)), .long (F_plus ((c.2.2 u).1) ((c.2.2 t).1)), .ref (aN G u)]) B (C_plus l D ty sz G Z hG c ((c.2.2 u).2) ((c.2.2 t).2)) kt_plus kw_114 kw_115 (by decide) ⟨rfl, rfl⟩ (by decide) rfl (Nat.le_of_ble_eq_true rfl) hl.1 hP hS dX2_add_41 rfl ?_
      refine kp_callN (rm := rm_become) (As := [.long (F_plus ((c.2.2 u).1) ((c.2.2 t).1)), .long (F_plus ((c.2.2 u).2) ((c.2.2 t).2))]) (rest := []) (r := none) (st1 := []) (ws' := cw_W G (S_become c u (F_plus ((c.2.2 u).1) ((c.2.2 t).1)) (F_plus ((c.2.2 u).2) ((c.2.2 t).2))) Z) B (C_become l D ty sz G Z hG c u hu (F_plus ((c.2.2 u).1) ((c.2.2 t).1)) (F_plus ((c.2.2 u).2) ((c.2.2 t).2))) kt_become kw_104 kw_105 kw_106 (kc_rcN B hP hu) (by decide) rfl rfl (by decide) rfl (Nat.le_of_ble_eq_true rfl) hl.1 hP hS dX2_add_44 rfl (fun H locs hP hS => ?_)
      exact kp_retv B (by simp only [S_add, if_pos q_1, if_pos q_2]; exact hP) hS rfl dX2_add_47
    · refine lv_aload_n hx hb dX2_add_14 rfl (lv_at hl 0 rfl) ?_
      refine kp_callN (rm := rm_becomeEmpty) (As := []) (rest := []) (r := none) (st1 := []) (ws' := cw_W G (S_becomeEmpty c u) Z) B (C_becomeEmpty l D ty sz G Z hG c u hu) kt_becomeEmpty kw_109 kw_110 kw_111 (kc_rcN B hP hu) (by decide) rfl rfl (by decide) rfl (Nat.le_of_ble_eq_true rfl) hl.1 hP hS dX2_add_15 rfl (fun H locs hP hS => ?_)
      refine lv_goto (tgt := 47) hx hb dX2_add_18 (by decide) ?_
      exact kp_retv B (by simp only [S_add, if_pos q_1, if_neg q_2]; exact hP) hS rfl dX2_add_47
